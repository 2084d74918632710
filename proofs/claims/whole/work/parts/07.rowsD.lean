theorem dX8_play_30 : decode cX8_play 30 = .ok (.invokevirtual 198, 3) := by decide +kernel
theorem dX8_play_33 : decode cX8_play 33 = .ok (.ifCond .ne 25, 3) := by decide +kernel
theorem dX8_play_36 : decode cX8_play 36 = .ok (.aload_n 0, 1) := by decide +kernel
theorem dX8_play_37 : decode cX8_play 37 = .ok (.aload_n 0, 1) := by decide +kernel
theorem dX8_play_38 : decode cX8_play 38 = .ok (.iload_n 1, 1) := by decide +kernel
theorem dX8_play_39 : decode cX8_play 39 = .ok (.iload_n 2, 1) := by decide +kernel
theorem dX8_play_40 : decode cX8_play 40 = .ok (.invokevirtual 279, 3) := by decide +kernel
theorem dX8_play_43 : decode cX8_play 43 = .ok (.ifCond .eq 7, 3) := by decide +kernel
theorem dX8_play_46 : decode cX8_play 46 = .ok (.iconst 1, 1) := by decide +kernel
theorem dX8_play_47 : decode cX8_play 47 = .ok (.goto 4, 3) := by decide +kernel
theorem dX8_play_50 : decode cX8_play 50 = .ok (.iconst 0, 1) := by decide +kernel
theorem dX8_play_51 : decode cX8_play 51 = .ok (.iconst 3, 1) := by decide +kernel
theorem dX8_play_52 : decode cX8_play 52 = .ok (.invokevirtual 198, 3) := by decide +kernel
theorem dX8_play_55 : decode cX8_play 55 = .ok (.ifCond .eq 5, 3) := by decide +kernel
theorem dX8_play_58 : decode cX8_play 58 = .ok (.iconst 0, 1) := by decide +kernel
theorem dX8_play_59 : decode cX8_play 59 = .ok (.ireturn, 1) := by decide +kernel
theorem dX8_play_60 : decode cX8_play 60 = .ok (.iload_n 3, 1) := by decide +kernel
theorem dX8_play_61 : decode cX8_play 61 = .ok (.ifCond .ne 18, 3) := by decide +kernel
theorem dX8_play_64 : decode cX8_play 64 = .ok (.aload_n 0, 1) := by decide +kernel
theorem dX8_play_65 : decode cX8_play 65 = .ok (.aload_n 0, 1) := by decide +kernel
theorem dX8_play_66 : decode cX8_play 66 = .ok (.getfield 17, 3) := by decide +kernel
theorem dX8_play_69 : decode cX8_play 69 = .ok (.iconst 5, 1) := by decide +kernel
theorem dX8_play_70 : decode cX8_play 70 = .ok (.iaload, 1) := by decide +kernel
theorem dX8_play_71 : decode cX8_play 71 = .ok (.iload_n 1, 1) := by decide +kernel
theorem dX8_play_72 : decode cX8_play 72 = .ok (.iload_n 2, 1) := by decide +kernel
theorem dX8_play_73 : decode cX8_play 73 = .ok (.invokevirtual 263, 3) := by decide +kernel
theorem dX8_play_76 : decode cX8_play 76 = .ok (.goto 9, 3) := by decide +kernel
theorem dX8_play_79 : decode cX8_play 79 = .ok (.aload_n 0, 1) := by decide +kernel
theorem dX8_play_80 : decode cX8_play 80 = .ok (.iload_n 1, 1) := by decide +kernel
theorem dX8_play_81 : decode cX8_play 81 = .ok (.iload_n 2, 1) := by decide +kernel
theorem dX8_play_82 : decode cX8_play 82 = .ok (.invokevirtual 282, 3) := by decide +kernel
theorem dX8_play_85 : decode cX8_play 85 = .ok (.ireturn, 1) := by decide +kernel
set_option maxRecDepth 20000 in
theorem ggX8_best_X8_bestPlay : GoodIn wsX8_best wsX8_bestPlay := goodIn_r _ [6, 7, 8, 9, 10, 5, 11, 12, 13, 14, 15, 16, 17, 18, 19, 20, 21, 22, 23, 24, 25, 26, 27, 28, 29, 30, 31, 32, 33, 34, 35, 36, 37, 38, 39, 40, 41, 42, 43, 44, 45, 46, 47, 48, 49, 50, 51, 52, 53, 54, 55, 56, 57, 58, 59, 60, 61, 62, 63, 64, 65, 66, 67, 68, 69, 70, 71, 72, 73, 74, 75, 76, 77, 78, 79, 80, 81, 82, 83, 84, 85, 86, 87, 88, 89, 90, 91, 92, 93, 94, 95, 96, 97, 98, 99, 100, 101, 102, 103, 104, 105, 106, 107, 108, 109, 110, 111, 112, 113, 114, 115, 116, 117] (by decide +kernel) (by decide +kernel)
set_option maxRecDepth 20000 in
theorem gX8_best_X8_bestPlay : GoodIn wsX8_best (wsV RX8 291 RX8 yX8_bestPlay wsX8_bestPlay) := goodIn_app (goodIn_of _ (by decide +kernel)) ggX8_best_X8_bestPlay
theorem dX8_best_0 : decode cX8_best 0 = .ok (.aload_n 0, 1) := by decide +kernel
theorem dX8_best_1 : decode cX8_best 1 = .ok (.iconst 0, 1) := by decide +kernel
theorem dX8_best_2 : decode cX8_best 2 = .ok (.putfield 49, 3) := by decide +kernel
theorem dX8_best_5 : decode cX8_best 5 = .ok (.aload_n 0, 1) := by decide +kernel
theorem dX8_best_6 : decode cX8_best 6 = .ok (.invokevirtual 291, 3) := by decide +kernel
theorem dX8_best_9 : decode cX8_best 9 = .ok (.ireturn, 1) := by decide +kernel
set_option maxRecDepth 20000 in
theorem ggX8_chains_X8_noPlayer : GoodIn wsX8_chains wsX8_noPlayer := goodIn_r _ [6, 7, 8, 9, 5, 10, 11, 12, 13, 14, 1, 103, 104, 105, 106, 107, 108, 109, 110, 111, 112, 113, 114, 115, 116, 117, 118, 119, 120, 121, 122, 123] (by decide +kernel) (by decide +kernel)
set_option maxRecDepth 20000 in
theorem gX8_chains_X8_noPlayer : GoodIn wsX8_chains (wsV RX8 315 RX8 yX8_noPlayer wsX8_noPlayer) := goodIn_app (goodIn_of _ (by decide +kernel)) ggX8_chains_X8_noPlayer
set_option maxRecDepth 20000 in
theorem ggX8_chains_X8_noRow : GoodIn wsX8_chains wsX8_noRow := goodIn_r _ [18, 7, 8, 9, 5, 10, 11, 12, 13, 14, 1, 103, 104, 105, 106, 107, 108, 109, 110, 111, 112, 113, 114, 115, 116, 117, 118, 119, 120, 121, 122, 123] (by decide +kernel) (by decide +kernel)
set_option maxRecDepth 20000 in
theorem gX8_chains_X8_noRow : GoodIn wsX8_chains (wsV RX8 330 RX8 yX8_noRow wsX8_noRow) := goodIn_app (goodIn_of _ (by decide +kernel)) ggX8_chains_X8_noRow
set_option maxRecDepth 20000 in
theorem ggX8_chains_X8_free : GoodIn wsX8_chains wsX8_free := goodIn_r _ [22, 23, 24, 25, 5, 26, 7, 27, 28, 29, 103, 104, 105, 106, 107, 108, 109, 110, 111, 112, 113, 114, 115, 116, 117, 118, 119, 120, 121, 122, 123] (by decide +kernel) (by decide +kernel)
set_option maxRecDepth 20000 in
theorem gX8_chains_X8_free : GoodIn wsX8_chains (wsV RX8 239 RX8 yX8_free wsX8_free) := goodIn_app (goodIn_of _ (by decide +kernel)) ggX8_chains_X8_free
set_option maxRecDepth 20000 in
theorem ggX8_chains_X8_ofChains : GoodIn wsX8_chains wsX8_ofChains := goodIn_r _ [33, 34, 35, 36, 37, 38, 5, 39, 7, 40, 41, 42, 43, 44, 45, 46, 47, 48, 49, 50, 51, 52, 53, 54, 55, 56, 57, 19, 20, 21, 22, 23, 24, 25, 26, 27, 28, 29, 58, 59, 60, 61, 62, 63, 64, 65, 66, 67, 68, 69, 70, 71, 72, 73, 74, 75, 76, 77, 78, 79, 80, 81, 82, 83, 84, 85, 86, 87, 88, 89, 90, 91, 92, 93, 94, 95, 96, 97, 98, 99, 100, 101, 102, 103, 104, 105, 106, 107, 108, 109, 110, 111, 112, 113, 114, 115, 116, 117, 118, 119, 120, 121, 122, 123] (by decide +kernel) (by decide +kernel)
set_option maxRecDepth 20000 in
theorem gX8_chains_X8_ofChains : GoodIn wsX8_chains (wsV RX8 351 RX8 yX8_ofChains wsX8_ofChains) := goodIn_app (goodIn_of _ (by decide +kernel)) ggX8_chains_X8_ofChains
theorem dX8_chains_0 : decode cX8_chains 0 = .ok (.aload_n 0, 1) := by decide +kernel
theorem dX8_chains_1 : decode cX8_chains 1 = .ok (.iconst 0, 1) := by decide +kernel
theorem dX8_chains_2 : decode cX8_chains 2 = .ok (.putfield 49, 3) := by decide +kernel
theorem dX8_chains_5 : decode cX8_chains 5 = .ok (.aload_n 0, 1) := by decide +kernel
theorem dX8_chains_6 : decode cX8_chains 6 = .ok (.iload_n 1, 1) := by decide +kernel
theorem dX8_chains_7 : decode cX8_chains 7 = .ok (.invokevirtual 315, 3) := by decide +kernel
theorem dX8_chains_10 : decode cX8_chains 10 = .ok (.ifCond .ne 11, 3) := by decide +kernel
theorem dX8_chains_13 : decode cX8_chains 13 = .ok (.aload_n 0, 1) := by decide +kernel
theorem dX8_chains_14 : decode cX8_chains 14 = .ok (.iload_n 2, 1) := by decide +kernel
theorem dX8_chains_15 : decode cX8_chains 15 = .ok (.invokevirtual 330, 3) := by decide +kernel
theorem dX8_chains_18 : decode cX8_chains 18 = .ok (.ifCond .eq 7, 3) := by decide +kernel
theorem dX8_chains_21 : decode cX8_chains 21 = .ok (.iconst 0, 1) := by decide +kernel
theorem dX8_chains_22 : decode cX8_chains 22 = .ok (.goto 27, 3) := by decide +kernel
theorem dX8_chains_25 : decode cX8_chains 25 = .ok (.iload_n 3, 1) := by decide +kernel
theorem dX8_chains_26 : decode cX8_chains 26 = .ok (.iconst 2, 1) := by decide +kernel
theorem dX8_chains_27 : decode cX8_chains 27 = .ok (.if_icmp .ne 15, 3) := by decide +kernel
theorem dX8_chains_30 : decode cX8_chains 30 = .ok (.aload_n 0, 1) := by decide +kernel
theorem dX8_chains_31 : decode cX8_chains 31 = .ok (.iload_n 2, 1) := by decide +kernel
theorem dX8_chains_32 : decode cX8_chains 32 = .ok (.invokevirtual 239, 3) := by decide +kernel
theorem dX8_chains_35 : decode cX8_chains 35 = .ok (.ifCond .ne 7, 3) := by decide +kernel
theorem dX8_chains_38 : decode cX8_chains 38 = .ok (.iconst 1, 1) := by decide +kernel
theorem dX8_chains_39 : decode cX8_chains 39 = .ok (.goto 10, 3) := by decide +kernel
theorem dX8_chains_42 : decode cX8_chains 42 = .ok (.aload_n 0, 1) := by decide +kernel
theorem dX8_chains_43 : decode cX8_chains 43 = .ok (.iload_n 1, 1) := by decide +kernel
theorem dX8_chains_44 : decode cX8_chains 44 = .ok (.iload_n 2, 1) := by decide +kernel
theorem dX8_chains_45 : decode cX8_chains 45 = .ok (.iload_n 3, 1) := by decide +kernel
theorem dX8_chains_46 : decode cX8_chains 46 = .ok (.invokevirtual 351, 3) := by decide +kernel
theorem dX8_chains_49 : decode cX8_chains 49 = .ok (.ireturn, 1) := by decide +kernel
set_option maxRecDepth 20000 in
theorem ggX8_chain_X8_chains : GoodIn wsX8_chain wsX8_chains := goodIn_r _ [5, 6, 7, 8, 9, 4, 10, 11, 12, 13, 14, 15, 16, 17, 18, 19, 20, 21, 22, 23, 24, 25, 26, 27, 28, 29, 30, 31, 32, 33, 34, 35, 36, 37, 38, 39, 40, 41, 42, 43, 44, 45, 46, 47, 48, 49, 50, 51, 52, 53, 54, 55, 56, 57, 58, 59, 60, 61, 62, 63, 64, 65, 66, 67, 68, 69, 70, 71, 72, 73, 74, 75, 76, 77, 78, 79, 80, 81, 82, 83, 84, 85, 86, 87, 88, 89, 90, 91, 92, 93, 94, 95, 96, 97, 98, 99, 100, 101, 102, 103, 104, 105, 106, 107, 108, 109, 110, 111, 112, 113, 114, 115, 116, 117, 118, 119, 120, 121, 122, 123, 124, 125, 126, 127] (by decide +kernel) (by decide +kernel)
set_option maxRecDepth 20000 in
theorem gX8_chain_X8_chains : GoodIn wsX8_chain (wsV RX8 354 RX8 yX8_chains wsX8_chains) := goodIn_app (goodIn_of _ (by decide +kernel)) ggX8_chain_X8_chains
theorem dX8_chain_0 : decode cX8_chain 0 = .ok (.aload_n 0, 1) := by decide +kernel
theorem dX8_chain_1 : decode cX8_chain 1 = .ok (.iload_n 1, 1) := by decide +kernel
theorem dX8_chain_2 : decode cX8_chain 2 = .ok (.iload_n 2, 1) := by decide +kernel
theorem dX8_chain_3 : decode cX8_chain 3 = .ok (.iconst 0, 1) := by decide +kernel
theorem dX8_chain_4 : decode cX8_chain 4 = .ok (.invokevirtual 354, 3) := by decide +kernel
theorem dX8_chain_7 : decode cX8_chain 7 = .ok (.ireturn, 1) := by decide +kernel
set_option maxRecDepth 20000 in
theorem ggX8_worth_X8_chains : GoodIn wsX8_worth wsX8_chains := goodIn_r _ [5, 6, 7, 8, 9, 4, 10, 11, 12, 13, 14, 15, 16, 17, 18, 19, 20, 21, 22, 23, 24, 25, 26, 27, 28, 29, 30, 31, 32, 33, 34, 35, 36, 37, 38, 39, 40, 41, 42, 43, 44, 45, 46, 47, 48, 49, 50, 51, 52, 53, 54, 55, 56, 57, 58, 59, 60, 61, 62, 63, 64, 65, 66, 67, 68, 69, 70, 71, 72, 73, 74, 75, 76, 77, 78, 79, 80, 81, 82, 83, 84, 85, 86, 87, 88, 89, 90, 91, 92, 93, 94, 95, 96, 97, 98, 99, 100, 101, 102, 103, 104, 105, 106, 107, 108, 109, 110, 111, 112, 113, 114, 115, 116, 117, 118, 119, 120, 121, 122, 123, 124, 125, 126, 127] (by decide +kernel) (by decide +kernel)
set_option maxRecDepth 20000 in
theorem gX8_worth_X8_chains : GoodIn wsX8_worth (wsV RX8 354 RX8 yX8_chains wsX8_chains) := goodIn_app (goodIn_of _ (by decide +kernel)) ggX8_worth_X8_chains
theorem dX8_worth_0 : decode cX8_worth 0 = .ok (.aload_n 0, 1) := by decide +kernel
theorem dX8_worth_1 : decode cX8_worth 1 = .ok (.iload_n 1, 1) := by decide +kernel
theorem dX8_worth_2 : decode cX8_worth 2 = .ok (.iload_n 2, 1) := by decide +kernel
theorem dX8_worth_3 : decode cX8_worth 3 = .ok (.iconst 1, 1) := by decide +kernel
theorem dX8_worth_4 : decode cX8_worth 4 = .ok (.invokevirtual 354, 3) := by decide +kernel
theorem dX8_worth_7 : decode cX8_worth 7 = .ok (.ireturn, 1) := by decide +kernel
set_option maxRecDepth 20000 in
theorem ggX8_fillings_X8_chains : GoodIn wsX8_fillings wsX8_chains := goodIn_r _ [5, 6, 7, 8, 9, 4, 10, 11, 12, 13, 14, 15, 16, 17, 18, 19, 20, 21, 22, 23, 24, 25, 26, 27, 28, 29, 30, 31, 32, 33, 34, 35, 36, 37, 38, 39, 40, 41, 42, 43, 44, 45, 46, 47, 48, 49, 50, 51, 52, 53, 54, 55, 56, 57, 58, 59, 60, 61, 62, 63, 64, 65, 66, 67, 68, 69, 70, 71, 72, 73, 74, 75, 76, 77, 78, 79, 80, 81, 82, 83, 84, 85, 86, 87, 88, 89, 90, 91, 92, 93, 94, 95, 96, 97, 98, 99, 100, 101, 102, 103, 104, 105, 106, 107, 108, 109, 110, 111, 112, 113, 114, 115, 116, 117, 118, 119, 120, 121, 122, 123, 124, 125, 126, 127] (by decide +kernel) (by decide +kernel)
set_option maxRecDepth 20000 in
theorem gX8_fillings_X8_chains : GoodIn wsX8_fillings (wsV RX8 354 RX8 yX8_chains wsX8_chains) := goodIn_app (goodIn_of _ (by decide +kernel)) ggX8_fillings_X8_chains
theorem dX8_fillings_0 : decode cX8_fillings 0 = .ok (.aload_n 0, 1) := by decide +kernel
theorem dX8_fillings_1 : decode cX8_fillings 1 = .ok (.iload_n 1, 1) := by decide +kernel
theorem dX8_fillings_2 : decode cX8_fillings 2 = .ok (.iload_n 2, 1) := by decide +kernel
theorem dX8_fillings_3 : decode cX8_fillings 3 = .ok (.iconst 2, 1) := by decide +kernel
theorem dX8_fillings_4 : decode cX8_fillings 4 = .ok (.invokevirtual 354, 3) := by decide +kernel
theorem dX8_fillings_7 : decode cX8_fillings 7 = .ok (.ireturn, 1) := by decide +kernel
set_option maxRecDepth 20000 in
theorem ggX8_threats_X8_noRow : GoodIn wsX8_threats wsX8_noRow := goodIn_r _ [7, 2, 8, 9, 6, 10, 11, 12, 13, 14, 1, 71, 72, 73, 74, 75, 76, 77, 78, 79, 80, 81, 82, 83, 84, 85, 86, 87, 88, 89, 90, 91] (by decide +kernel) (by decide +kernel)
set_option maxRecDepth 20000 in
theorem gX8_threats_X8_noRow : GoodIn wsX8_threats (wsV RX8 330 RX8 yX8_noRow wsX8_noRow) := goodIn_app (goodIn_of _ (by decide +kernel)) ggX8_threats_X8_noRow
set_option maxRecDepth 20000 in
theorem ggX8_threats_X8_ofPlayer : GoodIn wsX8_threats wsX8_ofPlayer := goodIn_r _ [18, 2, 19, 20, 6, 21, 71, 72, 73, 74, 75, 76, 77, 78, 79, 80, 81, 82, 83, 84, 85, 86, 87, 88, 89, 90, 91] (by decide +kernel) (by decide +kernel)
set_option maxRecDepth 20000 in
theorem gX8_threats_X8_ofPlayer : GoodIn wsX8_threats (wsV RX8 266 RX8 yX8_ofPlayer wsX8_ofPlayer) := goodIn_app (goodIn_of _ (by decide +kernel)) ggX8_threats_X8_ofPlayer
set_option maxRecDepth 20000 in
theorem ggX8_threats_X8_hinders : GoodIn wsX8_threats wsX8_hinders := goodIn_r _ [25, 2, 26, 27, 28, 6, 29, 30, 31, 32, 19, 20, 21, 33, 34, 35, 36, 37, 38, 39, 40, 41, 42, 43, 44, 45, 46, 47, 48, 49, 50, 51, 52, 53, 54, 55, 56, 57, 58, 59, 60, 61, 62, 63, 64, 65, 66, 67, 68, 69, 70, 71, 72, 73, 74, 75, 76, 77, 78, 79, 80, 81, 82, 83, 84, 85, 86, 87, 88, 89, 90, 91] (by decide +kernel) (by decide +kernel)
set_option maxRecDepth 20000 in
theorem gX8_threats_X8_hinders : GoodIn wsX8_threats (wsV RX8 249 RX8 yX8_hinders wsX8_hinders) := goodIn_app (goodIn_of _ (by decide +kernel)) ggX8_threats_X8_hinders
set_option maxRecDepth 20000 in
theorem ggX8_threats_X8_lengthOf : GoodIn wsX8_threats wsX8_lengthOf := goodIn_r _ [29, 2, 30, 31, 6, 32, 19, 20, 21, 71, 72, 73, 74, 75, 76, 77, 78, 79, 80, 81, 82, 83, 84, 85, 86, 87, 88, 89, 90, 91] (by decide +kernel) (by decide +kernel)
set_option maxRecDepth 20000 in
theorem gX8_threats_X8_lengthOf : GoodIn wsX8_threats (wsV RX8 225 RX8 yX8_lengthOf wsX8_lengthOf) := goodIn_app (goodIn_of _ (by decide +kernel)) ggX8_threats_X8_lengthOf
set_option maxRecDepth 20000 in
theorem ggX8_threats_X8_free : GoodIn wsX8_threats wsX8_free := goodIn_r _ [36, 37, 38, 39, 6, 40, 2, 41, 42, 43, 71, 72, 73, 74, 75, 76, 77, 78, 79, 80, 81, 82, 83, 84, 85, 86, 87, 88, 89, 90, 91] (by decide +kernel) (by decide +kernel)
set_option maxRecDepth 20000 in
theorem gX8_threats_X8_free : GoodIn wsX8_threats (wsV RX8 239 RX8 yX8_free wsX8_free) := goodIn_app (goodIn_of _ (by decide +kernel)) ggX8_threats_X8_free
theorem dX8_threats_0 : decode cX8_threats 0 = .ok (.aload_n 0, 1) := by decide +kernel
theorem dX8_threats_1 : decode cX8_threats 1 = .ok (.iconst 0, 1) := by decide +kernel
theorem dX8_threats_2 : decode cX8_threats 2 = .ok (.putfield 49, 3) := by decide +kernel
theorem dX8_threats_5 : decode cX8_threats 5 = .ok (.aload_n 0, 1) := by decide +kernel
theorem dX8_threats_6 : decode cX8_threats 6 = .ok (.iload_n 1, 1) := by decide +kernel
theorem dX8_threats_7 : decode cX8_threats 7 = .ok (.invokevirtual 330, 3) := by decide +kernel
theorem dX8_threats_10 : decode cX8_threats 10 = .ok (.ifCond .eq 5, 3) := by decide +kernel
theorem dX8_threats_13 : decode cX8_threats 13 = .ok (.iconst 0, 1) := by decide +kernel
theorem dX8_threats_14 : decode cX8_threats 14 = .ok (.ireturn, 1) := by decide +kernel
theorem dX8_threats_15 : decode cX8_threats 15 = .ok (.iconst 0, 1) := by decide +kernel
theorem dX8_threats_16 : decode cX8_threats 16 = .ok (.istore_n 2, 1) := by decide +kernel
theorem dX8_threats_17 : decode cX8_threats 17 = .ok (.iconst 0, 1) := by decide +kernel
theorem dX8_threats_18 : decode cX8_threats 18 = .ok (.istore_n 3, 1) := by decide +kernel
theorem dX8_threats_19 : decode cX8_threats 19 = .ok (.iload_n 3, 1) := by decide +kernel
theorem dX8_threats_20 : decode cX8_threats 20 = .ok (.aload_n 0, 1) := by decide +kernel
theorem dX8_threats_21 : decode cX8_threats 21 = .ok (.getfield 17, 3) := by decide +kernel
theorem dX8_threats_24 : decode cX8_threats 24 = .ok (.iconst 1, 1) := by decide +kernel
theorem dX8_threats_25 : decode cX8_threats 25 = .ok (.iaload, 1) := by decide +kernel
theorem dX8_threats_26 : decode cX8_threats 26 = .ok (.if_icmp .ge 61, 3) := by decide +kernel
theorem dX8_threats_29 : decode cX8_threats 29 = .ok (.iconst 0, 1) := by decide +kernel
theorem dX8_threats_30 : decode cX8_threats 30 = .ok (.istore 4, 2) := by decide +kernel
theorem dX8_threats_32 : decode cX8_threats 32 = .ok (.iload 4, 2) := by decide +kernel
theorem dX8_threats_34 : decode cX8_threats 34 = .ok (.aload_n 0, 1) := by decide +kernel
theorem dX8_threats_35 : decode cX8_threats 35 = .ok (.iload_n 3, 1) := by decide +kernel
theorem dX8_threats_36 : decode cX8_threats 36 = .ok (.iconst 1, 1) := by decide +kernel
theorem dX8_threats_37 : decode cX8_threats 37 = .ok (.invokevirtual 266, 3) := by decide +kernel
theorem dX8_threats_40 : decode cX8_threats 40 = .ok (.if_icmp .ge 41, 3) := by decide +kernel
theorem dX8_threats_43 : decode cX8_threats 43 = .ok (.aload_n 0, 1) := by decide +kernel
theorem dX8_threats_44 : decode cX8_threats 44 = .ok (.iload_n 3, 1) := by decide +kernel
theorem dX8_threats_45 : decode cX8_threats 45 = .ok (.iload 4, 2) := by decide +kernel
theorem dX8_threats_47 : decode cX8_threats 47 = .ok (.iload_n 1, 1) := by decide +kernel
theorem dX8_threats_48 : decode cX8_threats 48 = .ok (.invokevirtual 249, 3) := by decide +kernel
theorem dX8_threats_51 : decode cX8_threats 51 = .ok (.ifCond .ne 24, 3) := by decide +kernel
theorem dX8_threats_54 : decode cX8_threats 54 = .ok (.aload_n 0, 1) := by decide +kernel
theorem dX8_threats_55 : decode cX8_threats 55 = .ok (.iload_n 3, 1) := by decide +kernel
theorem dX8_threats_56 : decode cX8_threats 56 = .ok (.iload 4, 2) := by decide +kernel
theorem dX8_threats_58 : decode cX8_threats 58 = .ok (.invokevirtual 225, 3) := by decide +kernel
theorem dX8_threats_61 : decode cX8_threats 61 = .ok (.aload_n 0, 1) := by decide +kernel
theorem dX8_threats_62 : decode cX8_threats 62 = .ok (.iload_n 1, 1) := by decide +kernel
theorem dX8_threats_63 : decode cX8_threats 63 = .ok (.invokevirtual 239, 3) := by decide +kernel
theorem dX8_threats_66 : decode cX8_threats 66 = .ok (.if_icmp .ne 9, 3) := by decide +kernel
theorem dX8_threats_69 : decode cX8_threats 69 = .ok (.iload_n 2, 1) := by decide +kernel
theorem dX8_threats_70 : decode cX8_threats 70 = .ok (.iconst 1, 1) := by decide +kernel
theorem dX8_threats_71 : decode cX8_threats 71 = .ok (.iload_n 3, 1) := by decide +kernel
theorem dX8_threats_72 : decode cX8_threats 72 = .ok (.ishl, 1) := by decide +kernel
theorem dX8_threats_73 : decode cX8_threats 73 = .ok (.ior, 1) := by decide +kernel
theorem dX8_threats_74 : decode cX8_threats 74 = .ok (.istore_n 2, 1) := by decide +kernel
theorem dX8_threats_75 : decode cX8_threats 75 = .ok (.iinc 4 1, 3) := by decide +kernel
theorem dX8_threats_78 : decode cX8_threats 78 = .ok (.goto (-46), 3) := by decide +kernel
theorem dX8_threats_81 : decode cX8_threats 81 = .ok (.iinc 3 1, 3) := by decide +kernel
theorem dX8_threats_84 : decode cX8_threats 84 = .ok (.goto (-65), 3) := by decide +kernel
theorem dX8_threats_87 : decode cX8_threats 87 = .ok (.iload_n 2, 1) := by decide +kernel
theorem dX8_threats_88 : decode cX8_threats 88 = .ok (.ireturn, 1) := by decide +kernel
set_option maxRecDepth 20000 in
theorem ggX8_winner_X8_copy : GoodIn wsX8_winner wsX8_copy := goodIn_r _ [8] (by decide +kernel) (by decide +kernel)
set_option maxRecDepth 20000 in
theorem gX8_winner_X8_copy : GoodIn wsX8_winner (va_wsS RX8 211 yX8_copy wsX8_copy) := goodIn_app (goodIn_of _ (by decide +kernel)) ggX8_winner_X8_copy
set_option maxRecDepth 20000 in
theorem ggX8_winner_X8_goOn : GoodIn wsX8_winner wsX8_goOn := goodIn_r _ [12, 2, 13, 14, 15, 7, 16, 17, 18, 19, 20, 21, 22, 23, 24, 25, 26, 27, 28, 29, 30, 31, 32, 33, 34, 35, 36, 37, 38, 39, 40, 41, 42, 43, 44, 45, 46, 47, 48, 49, 50, 51, 52, 53, 54, 55, 56, 57, 58, 59, 60, 61, 62, 63, 64, 65, 66, 67, 68, 69, 70, 71, 72, 73, 74, 75, 76, 77, 78, 79, 80, 81, 82, 83, 84, 85, 86, 87, 88, 89, 90, 91, 92, 93, 94, 95, 96, 97, 98, 99, 100, 101, 102, 103, 104, 105, 106, 107, 108, 109, 110, 111, 112, 113, 114, 115, 116, 117, 118, 119, 120, 121, 122, 123, 124, 125, 126, 127, 128, 129, 130, 131, 132, 133, 134, 135, 136, 137, 138, 139, 140, 141, 142, 143, 144, 145, 146] (by decide +kernel) (by decide +kernel)
set_option maxRecDepth 20000 in
theorem gX8_winner_X8_goOn : GoodIn wsX8_winner (wsV RX8 360 RX8 yX8_goOn wsX8_goOn) := goodIn_app (goodIn_of _ (by decide +kernel)) ggX8_winner_X8_goOn
set_option maxRecDepth 20000 in
theorem ggX8_winner_X8_ofPlayer : GoodIn wsX8_winner wsX8_ofPlayer := goodIn_r _ [24, 2, 25, 26, 7, 27, 126, 127, 128, 129, 130, 131, 132, 133, 134, 135, 136, 137, 138, 139, 140, 141, 142, 143, 144, 145, 146] (by decide +kernel) (by decide +kernel)
set_option maxRecDepth 20000 in
theorem gX8_winner_X8_ofPlayer : GoodIn wsX8_winner (wsV RX8 266 RX8 yX8_ofPlayer wsX8_ofPlayer) := goodIn_app (goodIn_of _ (by decide +kernel)) ggX8_winner_X8_ofPlayer
theorem dX8_winner_0 : decode cX8_winner 0 = .ok (.aload_n 0, 1) := by decide +kernel
theorem dX8_winner_1 : decode cX8_winner 1 = .ok (.iconst 0, 1) := by decide +kernel
theorem dX8_winner_2 : decode cX8_winner 2 = .ok (.putfield 49, 3) := by decide +kernel
theorem dX8_winner_5 : decode cX8_winner 5 = .ok (.aload_n 0, 1) := by decide +kernel
theorem dX8_winner_6 : decode cX8_winner 6 = .ok (.getfield 17, 3) := by decide +kernel
theorem dX8_winner_9 : decode cX8_winner 9 = .ok (.aload_n 0, 1) := by decide +kernel
theorem dX8_winner_10 : decode cX8_winner 10 = .ok (.getfield 23, 3) := by decide +kernel
theorem dX8_winner_13 : decode cX8_winner 13 = .ok (.sipush 602, 3) := by decide +kernel
theorem dX8_winner_16 : decode cX8_winner 16 = .ok (.invokestatic 211, 3) := by decide +kernel
theorem dX8_winner_19 : decode cX8_winner 19 = .ok (.aload_n 0, 1) := by decide +kernel
theorem dX8_winner_20 : decode cX8_winner 20 = .ok (.ldc_w 359, 3) := by decide +kernel
theorem dX8_winner_23 : decode cX8_winner 23 = .ok (.invokevirtual 360, 3) := by decide +kernel
theorem dX8_winner_26 : decode cX8_winner 26 = .ok (.istore_n 1, 1) := by decide +kernel
theorem dX8_winner_27 : decode cX8_winner 27 = .ok (.iconst 0, 1) := by decide +kernel
theorem dX8_winner_28 : decode cX8_winner 28 = .ok (.istore_n 2, 1) := by decide +kernel
theorem dX8_winner_29 : decode cX8_winner 29 = .ok (.iconst 1, 1) := by decide +kernel
theorem dX8_winner_30 : decode cX8_winner 30 = .ok (.istore_n 3, 1) := by decide +kernel
theorem dX8_winner_31 : decode cX8_winner 31 = .ok (.iload_n 3, 1) := by decide +kernel
theorem dX8_winner_32 : decode cX8_winner 32 = .ok (.aload_n 0, 1) := by decide +kernel
theorem dX8_winner_33 : decode cX8_winner 33 = .ok (.getfield 17, 3) := by decide +kernel
theorem dX8_winner_36 : decode cX8_winner 36 = .ok (.iconst 1, 1) := by decide +kernel
theorem dX8_winner_37 : decode cX8_winner 37 = .ok (.iaload, 1) := by decide +kernel
theorem dX8_winner_38 : decode cX8_winner 38 = .ok (.if_icmp .ge 26, 3) := by decide +kernel
theorem dX8_winner_41 : decode cX8_winner 41 = .ok (.aload_n 0, 1) := by decide +kernel
theorem dX8_winner_42 : decode cX8_winner 42 = .ok (.iload_n 3, 1) := by decide +kernel
theorem dX8_winner_43 : decode cX8_winner 43 = .ok (.iconst 0, 1) := by decide +kernel
theorem dX8_winner_44 : decode cX8_winner 44 = .ok (.invokevirtual 266, 3) := by decide +kernel
theorem dX8_winner_47 : decode cX8_winner 47 = .ok (.aload_n 0, 1) := by decide +kernel
theorem dX8_winner_48 : decode cX8_winner 48 = .ok (.iload_n 2, 1) := by decide +kernel
theorem dX8_winner_49 : decode cX8_winner 49 = .ok (.iconst 0, 1) := by decide +kernel
theorem dX8_winner_50 : decode cX8_winner 50 = .ok (.invokevirtual 266, 3) := by decide +kernel
theorem dX8_winner_53 : decode cX8_winner 53 = .ok (.if_icmp .le 5, 3) := by decide +kernel
theorem dX8_winner_56 : decode cX8_winner 56 = .ok (.iload_n 3, 1) := by decide +kernel
theorem dX8_winner_57 : decode cX8_winner 57 = .ok (.istore_n 2, 1) := by decide +kernel
theorem dX8_winner_58 : decode cX8_winner 58 = .ok (.iinc 3 1, 3) := by decide +kernel
theorem dX8_winner_61 : decode cX8_winner 61 = .ok (.goto (-30), 3) := by decide +kernel
theorem dX8_winner_64 : decode cX8_winner 64 = .ok (.aload_n 0, 1) := by decide +kernel
theorem dX8_winner_65 : decode cX8_winner 65 = .ok (.getfield 23, 3) := by decide +kernel
theorem dX8_winner_68 : decode cX8_winner 68 = .ok (.aload_n 0, 1) := by decide +kernel
theorem dX8_winner_69 : decode cX8_winner 69 = .ok (.getfield 17, 3) := by decide +kernel
theorem dX8_winner_72 : decode cX8_winner 72 = .ok (.sipush 602, 3) := by decide +kernel
theorem dX8_winner_75 : decode cX8_winner 75 = .ok (.invokestatic 211, 3) := by decide +kernel
theorem dX8_winner_78 : decode cX8_winner 78 = .ok (.iload_n 2, 1) := by decide +kernel
theorem dX8_winner_79 : decode cX8_winner 79 = .ok (.ireturn, 1) := by decide +kernel
set_option maxRecDepth 20000 in
theorem ggX8_stepsToEnd_X8_copy : GoodIn wsX8_stepsToEnd wsX8_copy := goodIn_r _ [8] (by decide +kernel) (by decide +kernel)
set_option maxRecDepth 20000 in
theorem gX8_stepsToEnd_X8_copy : GoodIn wsX8_stepsToEnd (va_wsS RX8 211 yX8_copy wsX8_copy) := goodIn_app (goodIn_of _ (by decide +kernel)) ggX8_stepsToEnd_X8_copy
set_option maxRecDepth 20000 in
theorem ggX8_stepsToEnd_X8_goOn : GoodIn wsX8_stepsToEnd wsX8_goOn := goodIn_r _ [12, 2, 13, 14, 15, 7, 16, 17, 18, 19, 20, 21, 22, 23, 24, 25, 26, 27, 28, 29, 30, 31, 32, 33, 34, 35, 36, 37, 38, 39, 40, 41, 42, 43, 44, 45, 46, 47, 48, 49, 50, 51, 52, 53, 54, 55, 56, 57, 58, 59, 60, 61, 62, 63, 64, 65, 66, 67, 68, 69, 70, 71, 72, 73, 74, 75, 76, 77, 78, 79, 80, 81, 82, 83, 84, 85, 86, 87, 88, 89, 90, 91, 92, 93, 94, 95, 96, 97, 98, 99, 100, 101, 102, 103, 104, 105, 106, 107, 108, 109, 110, 111, 112, 113, 114, 115, 116, 117, 118, 119, 120, 121, 122, 123, 124, 125, 126, 127, 128, 129, 130, 131, 132, 133, 134, 135, 136, 137, 138, 139, 140, 141, 142, 143, 144, 145, 146] (by decide +kernel) (by decide +kernel)
set_option maxRecDepth 20000 in
theorem gX8_stepsToEnd_X8_goOn : GoodIn wsX8_stepsToEnd (wsV RX8 360 RX8 yX8_goOn wsX8_goOn) := goodIn_app (goodIn_of _ (by decide +kernel)) ggX8_stepsToEnd_X8_goOn
theorem dX8_stepsToEnd_0 : decode cX8_stepsToEnd 0 = .ok (.aload_n 0, 1) := by decide +kernel
theorem dX8_stepsToEnd_1 : decode cX8_stepsToEnd 1 = .ok (.iconst 0, 1) := by decide +kernel
theorem dX8_stepsToEnd_2 : decode cX8_stepsToEnd 2 = .ok (.putfield 49, 3) := by decide +kernel
theorem dX8_stepsToEnd_5 : decode cX8_stepsToEnd 5 = .ok (.aload_n 0, 1) := by decide +kernel
theorem dX8_stepsToEnd_6 : decode cX8_stepsToEnd 6 = .ok (.getfield 17, 3) := by decide +kernel
theorem dX8_stepsToEnd_9 : decode cX8_stepsToEnd 9 = .ok (.aload_n 0, 1) := by decide +kernel
theorem dX8_stepsToEnd_10 : decode cX8_stepsToEnd 10 = .ok (.getfield 23, 3) := by decide +kernel
theorem dX8_stepsToEnd_13 : decode cX8_stepsToEnd 13 = .ok (.sipush 602, 3) := by decide +kernel
theorem dX8_stepsToEnd_16 : decode cX8_stepsToEnd 16 = .ok (.invokestatic 211, 3) := by decide +kernel
theorem dX8_stepsToEnd_19 : decode cX8_stepsToEnd 19 = .ok (.aload_n 0, 1) := by decide +kernel
theorem dX8_stepsToEnd_20 : decode cX8_stepsToEnd 20 = .ok (.ldc_w 359, 3) := by decide +kernel
theorem dX8_stepsToEnd_23 : decode cX8_stepsToEnd 23 = .ok (.invokevirtual 360, 3) := by decide +kernel
theorem dX8_stepsToEnd_26 : decode cX8_stepsToEnd 26 = .ok (.istore_n 1, 1) := by decide +kernel
theorem dX8_stepsToEnd_27 : decode cX8_stepsToEnd 27 = .ok (.aload_n 0, 1) := by decide +kernel
theorem dX8_stepsToEnd_28 : decode cX8_stepsToEnd 28 = .ok (.getfield 23, 3) := by decide +kernel
theorem dX8_stepsToEnd_31 : decode cX8_stepsToEnd 31 = .ok (.aload_n 0, 1) := by decide +kernel
theorem dX8_stepsToEnd_32 : decode cX8_stepsToEnd 32 = .ok (.getfield 17, 3) := by decide +kernel
theorem dX8_stepsToEnd_35 : decode cX8_stepsToEnd 35 = .ok (.sipush 602, 3) := by decide +kernel
theorem dX8_stepsToEnd_38 : decode cX8_stepsToEnd 38 = .ok (.invokestatic 211, 3) := by decide +kernel
theorem dX8_stepsToEnd_41 : decode cX8_stepsToEnd 41 = .ok (.iload_n 1, 1) := by decide +kernel
theorem dX8_stepsToEnd_42 : decode cX8_stepsToEnd 42 = .ok (.ireturn, 1) := by decide +kernel
set_option maxRecDepth 20000 in
theorem ggX8_covered_X8_ofRow : GoodIn wsX8_covered wsX8_ofRow := goodIn_r _ [7, 2, 8, 9, 6, 10, 11, 12, 13, 14, 15, 16, 17, 18, 19, 20, 21, 22, 23, 24, 25, 26, 27, 28, 29, 30, 31] (by decide +kernel) (by decide +kernel)
set_option maxRecDepth 20000 in
theorem gX8_covered_X8_ofRow : GoodIn wsX8_covered (wsV RX8 218 RX8 yX8_ofRow wsX8_ofRow) := goodIn_app (goodIn_of _ (by decide +kernel)) ggX8_covered_X8_ofRow
theorem dX8_covered_0 : decode cX8_covered 0 = .ok (.aload_n 0, 1) := by decide +kernel
theorem dX8_covered_1 : decode cX8_covered 1 = .ok (.iconst 0, 1) := by decide +kernel
theorem dX8_covered_2 : decode cX8_covered 2 = .ok (.putfield 49, 3) := by decide +kernel
theorem dX8_covered_5 : decode cX8_covered 5 = .ok (.iconst 0, 1) := by decide +kernel
theorem dX8_covered_6 : decode cX8_covered 6 = .ok (.istore_n 1, 1) := by decide +kernel
theorem dX8_covered_7 : decode cX8_covered 7 = .ok (.iconst 0, 1) := by decide +kernel
theorem dX8_covered_8 : decode cX8_covered 8 = .ok (.istore_n 2, 1) := by decide +kernel
theorem dX8_covered_9 : decode cX8_covered 9 = .ok (.iconst 0, 1) := by decide +kernel
theorem dX8_covered_10 : decode cX8_covered 10 = .ok (.istore_n 3, 1) := by decide +kernel
theorem dX8_covered_11 : decode cX8_covered 11 = .ok (.iload_n 3, 1) := by decide +kernel
theorem dX8_covered_12 : decode cX8_covered 12 = .ok (.aload_n 0, 1) := by decide +kernel
theorem dX8_covered_13 : decode cX8_covered 13 = .ok (.getfield 17, 3) := by decide +kernel
theorem dX8_covered_16 : decode cX8_covered 16 = .ok (.iconst 0, 1) := by decide +kernel
theorem dX8_covered_17 : decode cX8_covered 17 = .ok (.iaload, 1) := by decide +kernel
theorem dX8_covered_18 : decode cX8_covered 18 = .ok (.if_icmp .ge 27, 3) := by decide +kernel
theorem dX8_covered_21 : decode cX8_covered 21 = .ok (.iload_n 1, 1) := by decide +kernel
theorem dX8_covered_22 : decode cX8_covered 22 = .ok (.aload_n 0, 1) := by decide +kernel
theorem dX8_covered_23 : decode cX8_covered 23 = .ok (.iload_n 3, 1) := by decide +kernel
theorem dX8_covered_24 : decode cX8_covered 24 = .ok (.iconst 1, 1) := by decide +kernel
theorem dX8_covered_25 : decode cX8_covered 25 = .ok (.invokevirtual 218, 3) := by decide +kernel
theorem dX8_covered_28 : decode cX8_covered 28 = .ok (.iadd, 1) := by decide +kernel
theorem dX8_covered_29 : decode cX8_covered 29 = .ok (.istore_n 1, 1) := by decide +kernel
theorem dX8_covered_30 : decode cX8_covered 30 = .ok (.iload_n 2, 1) := by decide +kernel
theorem dX8_covered_31 : decode cX8_covered 31 = .ok (.aload_n 0, 1) := by decide +kernel
theorem dX8_covered_32 : decode cX8_covered 32 = .ok (.iload_n 3, 1) := by decide +kernel
theorem dX8_covered_33 : decode cX8_covered 33 = .ok (.iconst 0, 1) := by decide +kernel
theorem dX8_covered_34 : decode cX8_covered 34 = .ok (.invokevirtual 218, 3) := by decide +kernel
theorem dX8_covered_37 : decode cX8_covered 37 = .ok (.iadd, 1) := by decide +kernel
theorem dX8_covered_38 : decode cX8_covered 38 = .ok (.istore_n 2, 1) := by decide +kernel
theorem dX8_covered_39 : decode cX8_covered 39 = .ok (.iinc 3 1, 3) := by decide +kernel
theorem dX8_covered_42 : decode cX8_covered 42 = .ok (.goto (-31), 3) := by decide +kernel
theorem dX8_covered_45 : decode cX8_covered 45 = .ok (.iload_n 1, 1) := by decide +kernel
theorem dX8_covered_46 : decode cX8_covered 46 = .ok (.i2f, 1) := by decide +kernel
theorem dX8_covered_47 : decode cX8_covered 47 = .ok (.iload_n 2, 1) := by decide +kernel
theorem dX8_covered_48 : decode cX8_covered 48 = .ok (.i2f, 1) := by decide +kernel
theorem dX8_covered_49 : decode cX8_covered 49 = .ok (.fdiv, 1) := by decide +kernel
theorem dX8_covered_50 : decode cX8_covered 50 = .ok (.freturn, 1) := by decide +kernel
set_option maxRecDepth 20000 in
theorem ggX8_remember_X8_copy : GoodIn wsX8_remember wsX8_copy := goodIn_r _ [7] (by decide +kernel) (by decide +kernel)
set_option maxRecDepth 20000 in
theorem gX8_remember_X8_copy : GoodIn wsX8_remember (va_wsS RX8 211 yX8_copy wsX8_copy) := goodIn_app (goodIn_of _ (by decide +kernel)) ggX8_remember_X8_copy
theorem dX8_remember_0 : decode cX8_remember 0 = .ok (.aload_n 0, 1) := by decide +kernel
theorem dX8_remember_1 : decode cX8_remember 1 = .ok (.getfield 363, 3) := by decide +kernel
theorem dX8_remember_4 : decode cX8_remember 4 = .ok (.bipush 8, 2) := by decide +kernel
theorem dX8_remember_6 : decode cX8_remember 6 = .ok (.if_icmp .ne 47, 3) := by decide +kernel
theorem dX8_remember_9 : decode cX8_remember 9 = .ok (.iconst 1, 1) := by decide +kernel
theorem dX8_remember_10 : decode cX8_remember 10 = .ok (.istore_n 1, 1) := by decide +kernel
theorem dX8_remember_11 : decode cX8_remember 11 = .ok (.iload_n 1, 1) := by decide +kernel
theorem dX8_remember_12 : decode cX8_remember 12 = .ok (.bipush 8, 2) := by decide +kernel
theorem dX8_remember_14 : decode cX8_remember 14 = .ok (.if_icmp .ge 29, 3) := by decide +kernel
theorem dX8_remember_17 : decode cX8_remember 17 = .ok (.aload_n 0, 1) := by decide +kernel
theorem dX8_remember_18 : decode cX8_remember 18 = .ok (.getfield 28, 3) := by decide +kernel
theorem dX8_remember_21 : decode cX8_remember 21 = .ok (.iload_n 1, 1) := by decide +kernel
theorem dX8_remember_22 : decode cX8_remember 22 = .ok (.aaload, 1) := by decide +kernel
theorem dX8_remember_23 : decode cX8_remember 23 = .ok (.aload_n 0, 1) := by decide +kernel
theorem dX8_remember_24 : decode cX8_remember 24 = .ok (.getfield 28, 3) := by decide +kernel
theorem dX8_remember_27 : decode cX8_remember 27 = .ok (.iload_n 1, 1) := by decide +kernel
theorem dX8_remember_28 : decode cX8_remember 28 = .ok (.iconst 1, 1) := by decide +kernel
theorem dX8_remember_29 : decode cX8_remember 29 = .ok (.isub, 1) := by decide +kernel
theorem dX8_remember_30 : decode cX8_remember 30 = .ok (.aaload, 1) := by decide +kernel
theorem dX8_remember_31 : decode cX8_remember 31 = .ok (.sipush 1802, 3) := by decide +kernel
theorem dX8_remember_34 : decode cX8_remember 34 = .ok (.invokestatic 211, 3) := by decide +kernel
theorem dX8_remember_37 : decode cX8_remember 37 = .ok (.iinc 1 1, 3) := by decide +kernel
theorem dX8_remember_40 : decode cX8_remember 40 = .ok (.goto (-29), 3) := by decide +kernel
theorem dX8_remember_43 : decode cX8_remember 43 = .ok (.aload_n 0, 1) := by decide +kernel
theorem dX8_remember_44 : decode cX8_remember 44 = .ok (.dup, 1) := by decide +kernel
theorem dX8_remember_45 : decode cX8_remember 45 = .ok (.getfield 363, 3) := by decide +kernel
theorem dX8_remember_48 : decode cX8_remember 48 = .ok (.iconst 1, 1) := by decide +kernel
theorem dX8_remember_49 : decode cX8_remember 49 = .ok (.isub, 1) := by decide +kernel
theorem dX8_remember_50 : decode cX8_remember 50 = .ok (.putfield 363, 3) := by decide +kernel
theorem dX8_remember_53 : decode cX8_remember 53 = .ok (.aload_n 0, 1) := by decide +kernel
theorem dX8_remember_54 : decode cX8_remember 54 = .ok (.getfield 17, 3) := by decide +kernel
theorem dX8_remember_57 : decode cX8_remember 57 = .ok (.aload_n 0, 1) := by decide +kernel
theorem dX8_remember_58 : decode cX8_remember 58 = .ok (.getfield 28, 3) := by decide +kernel
theorem dX8_remember_61 : decode cX8_remember 61 = .ok (.aload_n 0, 1) := by decide +kernel
theorem dX8_remember_62 : decode cX8_remember 62 = .ok (.getfield 363, 3) := by decide +kernel
theorem dX8_remember_65 : decode cX8_remember 65 = .ok (.aaload, 1) := by decide +kernel
theorem dX8_remember_66 : decode cX8_remember 66 = .ok (.sipush 1802, 3) := by decide +kernel
theorem dX8_remember_69 : decode cX8_remember 69 = .ok (.invokestatic 211, 3) := by decide +kernel
theorem dX8_remember_72 : decode cX8_remember 72 = .ok (.aload_n 0, 1) := by decide +kernel
theorem dX8_remember_73 : decode cX8_remember 73 = .ok (.dup, 1) := by decide +kernel
theorem dX8_remember_74 : decode cX8_remember 74 = .ok (.getfield 363, 3) := by decide +kernel
theorem dX8_remember_77 : decode cX8_remember 77 = .ok (.iconst 1, 1) := by decide +kernel
theorem dX8_remember_78 : decode cX8_remember 78 = .ok (.iadd, 1) := by decide +kernel
theorem dX8_remember_79 : decode cX8_remember 79 = .ok (.putfield 363, 3) := by decide +kernel
theorem dX8_remember_82 : decode cX8_remember 82 = .ok (.return_, 1) := by decide +kernel
set_option maxRecDepth 20000 in
theorem ggX8_lay_X8_noPlay : GoodIn wsX8_lay wsX8_noPlay := goodIn_r _ [6, 7, 8, 9, 10, 5, 11, 12, 13, 14, 15, 16, 17, 18, 19, 20, 21, 22, 1, 23, 24, 25, 26, 27, 28, 29, 30, 31, 32, 33, 120, 121, 122, 123, 124, 125, 126, 127, 128, 129, 130, 131, 132, 133, 134, 135, 136, 137, 138, 139, 140] (by decide +kernel) (by decide +kernel)
set_option maxRecDepth 20000 in
theorem gX8_lay_X8_noPlay : GoodIn wsX8_lay (wsV RX8 348 RX8 yX8_noPlay wsX8_noPlay) := goodIn_app (goodIn_of _ (by decide +kernel)) ggX8_lay_X8_noPlay
set_option maxRecDepth 20000 in
theorem ggX8_lay_X8_refusal : GoodIn wsX8_lay wsX8_refusal := goodIn_r _ [37, 7, 38, 39, 40, 5, 41, 42, 43, 44, 45, 46, 47, 48, 27, 28, 29, 49, 50, 51, 52, 53, 54, 55, 56, 57, 58, 59, 60, 61, 62, 63, 64, 65, 66, 67, 68, 69, 70, 71, 72, 73, 74, 75, 76, 77, 78, 79, 80, 81, 82, 83, 84, 85, 86, 120, 121, 122, 123, 124, 125, 126, 127, 128, 129, 130, 131, 132, 133, 134, 135, 136, 137, 138, 139, 140] (by decide +kernel) (by decide +kernel)
set_option maxRecDepth 20000 in
theorem gX8_lay_X8_refusal : GoodIn wsX8_lay (wsV RX8 279 RX8 yX8_refusal wsX8_refusal) := goodIn_app (goodIn_of _ (by decide +kernel)) ggX8_lay_X8_refusal
set_option maxRecDepth 20000 in
theorem ggX8_lay_X8_fails : GoodIn wsX8_lay wsX8_fails := goodIn_r _ [22, 1, 120, 121, 122, 123, 124, 125, 126, 127, 128, 129, 130, 131, 132, 133, 134, 135, 136, 137, 138, 139, 140] (by decide +kernel) (by decide +kernel)
set_option maxRecDepth 20000 in
theorem gX8_lay_X8_fails : GoodIn wsX8_lay (wsV RX8 198 RX8 yX8_fails wsX8_fails) := goodIn_app (goodIn_of _ (by decide +kernel)) ggX8_lay_X8_fails
set_option maxRecDepth 20000 in
theorem ggX8_lay_X8_remember : GoodIn wsX8_lay wsX8_remember := goodIn_r _ [90, 91, 92, 7, 93, 94, 5, 95, 120, 121, 122, 123, 124, 125, 126, 127, 128, 129, 130, 131, 132, 133, 134, 135, 136, 137, 138, 139, 140] (by decide +kernel) (by decide +kernel)
set_option maxRecDepth 20000 in
theorem gX8_lay_X8_remember : GoodIn wsX8_lay (wsV RX8 208 RX8 yX8_remember wsX8_remember) := goodIn_app (goodIn_of _ (by decide +kernel)) ggX8_lay_X8_remember
set_option maxRecDepth 20000 in
theorem ggX8_lay_X8_layNow : GoodIn wsX8_lay wsX8_layNow := goodIn_r _ [99, 7, 100, 101, 102, 5, 103, 42, 43, 44, 45, 46, 47, 48, 27, 28, 29, 104, 105, 106, 107, 53, 54, 55, 56, 57, 58, 59, 72, 73, 74, 75, 64, 65, 66, 67, 76, 77, 78, 79, 80, 81, 82, 83, 84, 85, 86, 49, 50, 51, 52, 23, 24, 25, 26, 108, 109, 110, 111, 112, 113, 114, 115, 116, 117, 118, 119, 120, 121, 122, 123, 124, 125, 126, 127, 128, 129, 130, 131, 132, 133, 134, 135, 136, 137, 138, 139, 140] (by decide +kernel) (by decide +kernel)
set_option maxRecDepth 20000 in
theorem gX8_lay_X8_layNow : GoodIn wsX8_lay (wsV RX8 297 RX8 yX8_layNow wsX8_layNow) := goodIn_app (goodIn_of _ (by decide +kernel)) ggX8_lay_X8_layNow
theorem dX8_lay_0 : decode cX8_lay 0 = .ok (.aload_n 0, 1) := by decide +kernel
theorem dX8_lay_1 : decode cX8_lay 1 = .ok (.iconst 0, 1) := by decide +kernel
theorem dX8_lay_2 : decode cX8_lay 2 = .ok (.putfield 49, 3) := by decide +kernel
theorem dX8_lay_5 : decode cX8_lay 5 = .ok (.aload_n 0, 1) := by decide +kernel
theorem dX8_lay_6 : decode cX8_lay 6 = .ok (.iload_n 1, 1) := by decide +kernel
theorem dX8_lay_7 : decode cX8_lay 7 = .ok (.iload_n 2, 1) := by decide +kernel
theorem dX8_lay_8 : decode cX8_lay 8 = .ok (.invokevirtual 348, 3) := by decide +kernel
theorem dX8_lay_11 : decode cX8_lay 11 = .ok (.ifCond .ne 25, 3) := by decide +kernel
theorem dX8_lay_14 : decode cX8_lay 14 = .ok (.aload_n 0, 1) := by decide +kernel
theorem dX8_lay_15 : decode cX8_lay 15 = .ok (.aload_n 0, 1) := by decide +kernel
theorem dX8_lay_16 : decode cX8_lay 16 = .ok (.iload_n 1, 1) := by decide +kernel
theorem dX8_lay_17 : decode cX8_lay 17 = .ok (.iload_n 2, 1) := by decide +kernel
theorem dX8_lay_18 : decode cX8_lay 18 = .ok (.invokevirtual 279, 3) := by decide +kernel
theorem dX8_lay_21 : decode cX8_lay 21 = .ok (.ifCond .eq 7, 3) := by decide +kernel
theorem dX8_lay_24 : decode cX8_lay 24 = .ok (.iconst 1, 1) := by decide +kernel
theorem dX8_lay_25 : decode cX8_lay 25 = .ok (.goto 4, 3) := by decide +kernel
theorem dX8_lay_28 : decode cX8_lay 28 = .ok (.iconst 0, 1) := by decide +kernel
theorem dX8_lay_29 : decode cX8_lay 29 = .ok (.iconst 2, 1) := by decide +kernel
theorem dX8_lay_30 : decode cX8_lay 30 = .ok (.invokevirtual 198, 3) := by decide +kernel
theorem dX8_lay_33 : decode cX8_lay 33 = .ok (.ifCond .eq 5, 3) := by decide +kernel
theorem dX8_lay_36 : decode cX8_lay 36 = .ok (.iconst 0, 1) := by decide +kernel
theorem dX8_lay_37 : decode cX8_lay 37 = .ok (.ireturn, 1) := by decide +kernel
theorem dX8_lay_38 : decode cX8_lay 38 = .ok (.aload_n 0, 1) := by decide +kernel
theorem dX8_lay_39 : decode cX8_lay 39 = .ok (.invokevirtual 208, 3) := by decide +kernel
theorem dX8_lay_42 : decode cX8_lay 42 = .ok (.aload_n 0, 1) := by decide +kernel
theorem dX8_lay_43 : decode cX8_lay 43 = .ok (.iload_n 1, 1) := by decide +kernel
theorem dX8_lay_44 : decode cX8_lay 44 = .ok (.iload_n 2, 1) := by decide +kernel
theorem dX8_lay_45 : decode cX8_lay 45 = .ok (.invokevirtual 297, 3) := by decide +kernel
theorem dX8_lay_48 : decode cX8_lay 48 = .ok (.ireturn, 1) := by decide +kernel
set_option maxRecDepth 20000 in
theorem ggX8_pass_X8_fails : GoodIn wsX8_pass wsX8_fails := goodIn_r _ [7, 1, 43, 44, 45, 46, 47, 48, 49, 50, 51, 52, 53, 54, 55, 56, 57, 58, 59, 60, 61, 62, 63] (by decide +kernel) (by decide +kernel)
set_option maxRecDepth 20000 in
theorem gX8_pass_X8_fails : GoodIn wsX8_pass (wsV RX8 198 RX8 yX8_fails wsX8_fails) := goodIn_app (goodIn_of _ (by decide +kernel)) ggX8_pass_X8_fails
set_option maxRecDepth 20000 in
theorem ggX8_pass_X8_remember : GoodIn wsX8_pass wsX8_remember := goodIn_r _ [11, 12, 13, 2, 14, 15, 6, 16, 43, 44, 45, 46, 47, 48, 49, 50, 51, 52, 53, 54, 55, 56, 57, 58, 59, 60, 61, 62, 63] (by decide +kernel) (by decide +kernel)
set_option maxRecDepth 20000 in
theorem gX8_pass_X8_remember : GoodIn wsX8_pass (wsV RX8 208 RX8 yX8_remember wsX8_remember) := goodIn_app (goodIn_of _ (by decide +kernel)) ggX8_pass_X8_remember
set_option maxRecDepth 20000 in
theorem ggX8_pass_X8_passNow : GoodIn wsX8_pass wsX8_passNow := goodIn_r _ [20, 2, 21, 22, 23, 6, 24, 25, 26, 27, 28, 29, 30, 31, 32, 33, 34, 35, 36, 37, 38, 39, 40, 41, 42, 43, 44, 45, 46, 47, 48, 49, 50, 51, 52, 53, 54, 55, 56, 57, 58, 59, 60, 61, 62, 63] (by decide +kernel) (by decide +kernel)
set_option maxRecDepth 20000 in
theorem gX8_pass_X8_passNow : GoodIn wsX8_pass (wsV RX8 294 RX8 yX8_passNow wsX8_passNow) := goodIn_app (goodIn_of _ (by decide +kernel)) ggX8_pass_X8_passNow
theorem dX8_pass_0 : decode cX8_pass 0 = .ok (.aload_n 0, 1) := by decide +kernel
theorem dX8_pass_1 : decode cX8_pass 1 = .ok (.iconst 0, 1) := by decide +kernel
theorem dX8_pass_2 : decode cX8_pass 2 = .ok (.putfield 49, 3) := by decide +kernel
theorem dX8_pass_5 : decode cX8_pass 5 = .ok (.aload_n 0, 1) := by decide +kernel
theorem dX8_pass_6 : decode cX8_pass 6 = .ok (.aload_n 0, 1) := by decide +kernel
theorem dX8_pass_7 : decode cX8_pass 7 = .ok (.getfield 17, 3) := by decide +kernel
theorem dX8_pass_10 : decode cX8_pass 10 = .ok (.bipush 6, 2) := by decide +kernel
theorem dX8_pass_12 : decode cX8_pass 12 = .ok (.iaload, 1) := by decide +kernel
theorem dX8_pass_13 : decode cX8_pass 13 = .ok (.iconst 1, 1) := by decide +kernel
theorem dX8_pass_14 : decode cX8_pass 14 = .ok (.if_icmp .ne 7, 3) := by decide +kernel
theorem dX8_pass_17 : decode cX8_pass 17 = .ok (.iconst 1, 1) := by decide +kernel
theorem dX8_pass_18 : decode cX8_pass 18 = .ok (.goto 4, 3) := by decide +kernel
theorem dX8_pass_21 : decode cX8_pass 21 = .ok (.iconst 0, 1) := by decide +kernel
theorem dX8_pass_22 : decode cX8_pass 22 = .ok (.iconst 1, 1) := by decide +kernel
theorem dX8_pass_23 : decode cX8_pass 23 = .ok (.invokevirtual 198, 3) := by decide +kernel
theorem dX8_pass_26 : decode cX8_pass 26 = .ok (.ifCond .eq 5, 3) := by decide +kernel
theorem dX8_pass_29 : decode cX8_pass 29 = .ok (.iconst 0, 1) := by decide +kernel
theorem dX8_pass_30 : decode cX8_pass 30 = .ok (.ireturn, 1) := by decide +kernel
theorem dX8_pass_31 : decode cX8_pass 31 = .ok (.aload_n 0, 1) := by decide +kernel
theorem dX8_pass_32 : decode cX8_pass 32 = .ok (.invokevirtual 208, 3) := by decide +kernel
theorem dX8_pass_35 : decode cX8_pass 35 = .ok (.aload_n 0, 1) := by decide +kernel
theorem dX8_pass_36 : decode cX8_pass 36 = .ok (.invokevirtual 294, 3) := by decide +kernel
theorem dX8_pass_39 : decode cX8_pass 39 = .ok (.aload_n 0, 1) := by decide +kernel
theorem dX8_pass_40 : decode cX8_pass 40 = .ok (.getfield 17, 3) := by decide +kernel
theorem dX8_pass_43 : decode cX8_pass 43 = .ok (.iconst 5, 1) := by decide +kernel
theorem dX8_pass_44 : decode cX8_pass 44 = .ok (.iaload, 1) := by decide +kernel
theorem dX8_pass_45 : decode cX8_pass 45 = .ok (.ireturn, 1) := by decide +kernel
set_option maxRecDepth 20000 in
theorem ggX8_auto_X8_in : GoodIn wsX8_auto wsX8_in := goodIn_r _ [5] (by decide +kernel) (by decide +kernel)
set_option maxRecDepth 20000 in
theorem gX8_auto_X8_in : GoodIn wsX8_auto (va_wsS RX8 77 yX8_in wsX8_in) := goodIn_app (goodIn_of _ (by decide +kernel)) ggX8_auto_X8_in
set_option maxRecDepth 20000 in
theorem ggX8_auto_X8_fails : GoodIn wsX8_auto wsX8_fails := goodIn_r _ [9, 1, 137, 138, 139, 140, 141, 142, 143, 144, 145, 146, 147, 148, 149, 150, 151, 152, 153, 154, 155, 156, 157] (by decide +kernel) (by decide +kernel)
set_option maxRecDepth 20000 in
theorem gX8_auto_X8_fails : GoodIn wsX8_auto (wsV RX8 198 RX8 yX8_fails wsX8_fails) := goodIn_app (goodIn_of _ (by decide +kernel)) ggX8_auto_X8_fails
set_option maxRecDepth 20000 in
theorem ggX8_auto_X8_remember : GoodIn wsX8_auto wsX8_remember := goodIn_r _ [13, 14, 15, 16, 17, 18, 4, 19, 137, 138, 139, 140, 141, 142, 143, 144, 145, 146, 147, 148, 149, 150, 151, 152, 153, 154, 155, 156, 157] (by decide +kernel) (by decide +kernel)
set_option maxRecDepth 20000 in
theorem gX8_auto_X8_remember : GoodIn wsX8_auto (wsV RX8 208 RX8 yX8_remember wsX8_remember) := goodIn_app (goodIn_of _ (by decide +kernel)) ggX8_auto_X8_remember
set_option maxRecDepth 20000 in
theorem ggX8_auto_X8_goOn : GoodIn wsX8_auto wsX8_goOn := goodIn_r _ [23, 16, 24, 25, 26, 4, 27, 28, 29, 30, 31, 32, 33, 34, 35, 36, 37, 38, 39, 40, 41, 42, 43, 44, 45, 46, 47, 48, 49, 50, 51, 52, 53, 54, 55, 56, 57, 58, 59, 60, 61, 62, 63, 64, 65, 66, 67, 68, 69, 70, 71, 72, 73, 74, 75, 76, 77, 78, 79, 80, 81, 82, 83, 84, 85, 86, 87, 88, 89, 90, 91, 92, 93, 94, 95, 96, 97, 98, 99, 100, 101, 102, 103, 104, 105, 106, 107, 108, 109, 110, 111, 112, 113, 114, 115, 116, 117, 118, 119, 120, 121, 122, 123, 124, 125, 126, 127, 128, 129, 130, 131, 132, 133, 134, 135, 136, 137, 138, 139, 140, 141, 142, 143, 144, 145, 146, 147, 148, 149, 150, 151, 152, 153, 154, 155, 156, 157] (by decide +kernel) (by decide +kernel)
set_option maxRecDepth 20000 in
theorem gX8_auto_X8_goOn : GoodIn wsX8_auto (wsV RX8 360 RX8 yX8_goOn wsX8_goOn) := goodIn_app (goodIn_of _ (by decide +kernel)) ggX8_auto_X8_goOn
theorem dX8_auto_0 : decode cX8_auto 0 = .ok (.aload_n 0, 1) := by decide +kernel
theorem dX8_auto_1 : decode cX8_auto 1 = .ok (.iconst 0, 1) := by decide +kernel
theorem dX8_auto_2 : decode cX8_auto 2 = .ok (.putfield 49, 3) := by decide +kernel
theorem dX8_auto_5 : decode cX8_auto 5 = .ok (.aload_n 0, 1) := by decide +kernel
theorem dX8_auto_6 : decode cX8_auto 6 = .ok (.iload_n 1, 1) := by decide +kernel
theorem dX8_auto_7 : decode cX8_auto 7 = .ok (.iconst 1, 1) := by decide +kernel
theorem dX8_auto_8 : decode cX8_auto 8 = .ok (.bipush 50, 2) := by decide +kernel
theorem dX8_auto_10 : decode cX8_auto 10 = .ok (.invokestatic 77, 3) := by decide +kernel
theorem dX8_auto_13 : decode cX8_auto 13 = .ok (.ifCond .ne 7, 3) := by decide +kernel
theorem dX8_auto_16 : decode cX8_auto 16 = .ok (.iconst 1, 1) := by decide +kernel
theorem dX8_auto_17 : decode cX8_auto 17 = .ok (.goto 4, 3) := by decide +kernel
theorem dX8_auto_20 : decode cX8_auto 20 = .ok (.iconst 0, 1) := by decide +kernel
theorem dX8_auto_21 : decode cX8_auto 21 = .ok (.iconst 1, 1) := by decide +kernel
theorem dX8_auto_22 : decode cX8_auto 22 = .ok (.invokevirtual 198, 3) := by decide +kernel
theorem dX8_auto_25 : decode cX8_auto 25 = .ok (.ifCond .eq 5, 3) := by decide +kernel
theorem dX8_auto_28 : decode cX8_auto 28 = .ok (.iconst 0, 1) := by decide +kernel
theorem dX8_auto_29 : decode cX8_auto 29 = .ok (.ireturn, 1) := by decide +kernel
theorem dX8_auto_30 : decode cX8_auto 30 = .ok (.aload_n 0, 1) := by decide +kernel
theorem dX8_auto_31 : decode cX8_auto 31 = .ok (.invokevirtual 208, 3) := by decide +kernel
theorem dX8_auto_34 : decode cX8_auto 34 = .ok (.aload_n 0, 1) := by decide +kernel
theorem dX8_auto_35 : decode cX8_auto 35 = .ok (.iload_n 1, 1) := by decide +kernel
theorem dX8_auto_36 : decode cX8_auto 36 = .ok (.invokevirtual 360, 3) := by decide +kernel
theorem dX8_auto_39 : decode cX8_auto 39 = .ok (.ireturn, 1) := by decide +kernel
set_option maxRecDepth 20000 in
theorem ggX8_areLetters_X8_isLetter : GoodIn wsX8_areLetters wsX8_isLetter := goodIn_r _ [5, 6, 7, 4, 8] (by decide +kernel) (by decide +kernel)
set_option maxRecDepth 20000 in
theorem gX8_areLetters_X8_isLetter : GoodIn wsX8_areLetters (va_wsS RX8 155 yX8_isLetter wsX8_isLetter) := goodIn_app (goodIn_of _ (by decide +kernel)) ggX8_areLetters_X8_isLetter
theorem dX8_areLetters_0 : decode cX8_areLetters 0 = .ok (.iconst 0, 1) := by decide +kernel
theorem dX8_areLetters_1 : decode cX8_areLetters 1 = .ok (.istore_n 2, 1) := by decide +kernel
theorem dX8_areLetters_2 : decode cX8_areLetters 2 = .ok (.iload_n 2, 1) := by decide +kernel
theorem dX8_areLetters_3 : decode cX8_areLetters 3 = .ok (.iload_n 1, 1) := by decide +kernel
theorem dX8_areLetters_4 : decode cX8_areLetters 4 = .ok (.if_icmp .ge 23, 3) := by decide +kernel
theorem dX8_areLetters_7 : decode cX8_areLetters 7 = .ok (.aload_n 0, 1) := by decide +kernel
theorem dX8_areLetters_8 : decode cX8_areLetters 8 = .ok (.getfield 9, 3) := by decide +kernel
theorem dX8_areLetters_11 : decode cX8_areLetters 11 = .ok (.iload_n 2, 1) := by decide +kernel
theorem dX8_areLetters_12 : decode cX8_areLetters 12 = .ok (.iaload, 1) := by decide +kernel
theorem dX8_areLetters_13 : decode cX8_areLetters 13 = .ok (.invokestatic 155, 3) := by decide +kernel
theorem dX8_areLetters_16 : decode cX8_areLetters 16 = .ok (.ifCond .ne 5, 3) := by decide +kernel
theorem dX8_areLetters_19 : decode cX8_areLetters 19 = .ok (.iconst 0, 1) := by decide +kernel
theorem dX8_areLetters_20 : decode cX8_areLetters 20 = .ok (.ireturn, 1) := by decide +kernel
theorem dX8_areLetters_21 : decode cX8_areLetters 21 = .ok (.iinc 2 1, 3) := by decide +kernel
theorem dX8_areLetters_24 : decode cX8_areLetters 24 = .ok (.goto (-22), 3) := by decide +kernel
theorem dX8_areLetters_27 : decode cX8_areLetters 27 = .ok (.iconst 1, 1) := by decide +kernel
theorem dX8_areLetters_28 : decode cX8_areLetters 28 = .ok (.ireturn, 1) := by decide +kernel
set_option maxRecDepth 20000 in
theorem ggX8_give_X8_noPlayer : GoodIn wsX8_give wsX8_noPlayer := goodIn_r _ [9, 3, 10, 11, 8, 12, 13, 14, 15, 16, 1, 46, 47, 48, 49, 50, 51, 52, 53, 54, 55, 56, 57, 58, 59, 60, 61, 62, 63, 64, 65, 66] (by decide +kernel) (by decide +kernel)
set_option maxRecDepth 20000 in
theorem gX8_give_X8_noPlayer : GoodIn wsX8_give (wsV RX8 315 RX8 yX8_noPlayer wsX8_noPlayer) := goodIn_app (goodIn_of _ (by decide +kernel)) ggX8_give_X8_noPlayer
set_option maxRecDepth 20000 in
theorem ggX8_give_X8_min : GoodIn wsX8_give wsX8_min := goodIn_r _ [19] (by decide +kernel) (by decide +kernel)
set_option maxRecDepth 20000 in
theorem gX8_give_X8_min : GoodIn wsX8_give (va_wsS RX8 110 yX8_min wsX8_min) := goodIn_app (goodIn_of _ (by decide +kernel)) ggX8_give_X8_min
set_option maxRecDepth 20000 in
theorem ggX8_give_X8_in : GoodIn wsX8_give wsX8_in := goodIn_r _ [12] (by decide +kernel) (by decide +kernel)
set_option maxRecDepth 20000 in
theorem gX8_give_X8_in : GoodIn wsX8_give (va_wsS RX8 77 yX8_in wsX8_in) := goodIn_app (goodIn_of _ (by decide +kernel)) ggX8_give_X8_in
set_option maxRecDepth 20000 in
theorem ggX8_give_X8_areLetters : GoodIn wsX8_give wsX8_areLetters := goodIn_r _ [23, 4, 24, 25, 8, 26, 10, 11, 12, 46, 47, 48, 49, 50, 51, 52, 53, 54, 55, 56, 57, 58, 59, 60, 61, 62, 63, 64, 65, 66] (by decide +kernel) (by decide +kernel)
set_option maxRecDepth 20000 in
theorem gX8_give_X8_areLetters : GoodIn wsX8_give (wsV RX8 366 RX8 yX8_areLetters wsX8_areLetters) := goodIn_app (goodIn_of _ (by decide +kernel)) ggX8_give_X8_areLetters
set_option maxRecDepth 20000 in
theorem ggX8_give_X8_fails : GoodIn wsX8_give wsX8_fails := goodIn_r _ [16, 1, 46, 47, 48, 49, 50, 51, 52, 53, 54, 55, 56, 57, 58, 59, 60, 61, 62, 63, 64, 65, 66] (by decide +kernel) (by decide +kernel)
set_option maxRecDepth 20000 in
theorem gX8_give_X8_fails : GoodIn wsX8_give (wsV RX8 198 RX8 yX8_fails wsX8_fails) := goodIn_app (goodIn_of _ (by decide +kernel)) ggX8_give_X8_fails
set_option maxRecDepth 20000 in
theorem ggX8_give_X8_ofPlayer : GoodIn wsX8_give wsX8_ofPlayer := goodIn_r _ [30, 3, 31, 32, 8, 33, 46, 47, 48, 49, 50, 51, 52, 53, 54, 55, 56, 57, 58, 59, 60, 61, 62, 63, 64, 65, 66] (by decide +kernel) (by decide +kernel)
set_option maxRecDepth 20000 in
theorem gX8_give_X8_ofPlayer : GoodIn wsX8_give (wsV RX8 266 RX8 yX8_ofPlayer wsX8_ofPlayer) := goodIn_app (goodIn_of _ (by decide +kernel)) ggX8_give_X8_ofPlayer
set_option maxRecDepth 20000 in
theorem ggX8_give_X8_remember : GoodIn wsX8_give wsX8_remember := goodIn_r _ [37, 38, 39, 3, 40, 41, 8, 42, 46, 47, 48, 49, 50, 51, 52, 53, 54, 55, 56, 57, 58, 59, 60, 61, 62, 63, 64, 65, 66] (by decide +kernel) (by decide +kernel)
set_option maxRecDepth 20000 in
theorem gX8_give_X8_remember : GoodIn wsX8_give (wsV RX8 208 RX8 yX8_remember wsX8_remember) := goodIn_app (goodIn_of _ (by decide +kernel)) ggX8_give_X8_remember
set_option maxRecDepth 20000 in
theorem ggX8_give_X8_wordAt : GoodIn wsX8_give wsX8_wordAt := goodIn_r _ [45, 31, 32, 8, 33] (by decide +kernel) (by decide +kernel)
set_option maxRecDepth 20000 in
theorem gX8_give_X8_wordAt : GoodIn wsX8_give (va_wsS RX8 161 yX8_wordAt wsX8_wordAt) := goodIn_app (goodIn_of _ (by decide +kernel)) ggX8_give_X8_wordAt
set_option maxRecDepth 20000 in
theorem ggX8_give_X8_playerAt : GoodIn wsX8_give wsX8_playerAt := goodIn_r _ [33] (by decide +kernel) (by decide +kernel)
set_option maxRecDepth 20000 in
theorem gX8_give_X8_playerAt : GoodIn wsX8_give (va_wsS RX8 56 yX8_playerAt wsX8_playerAt) := goodIn_app (goodIn_of _ (by decide +kernel)) ggX8_give_X8_playerAt
theorem dX8_give_0 : decode cX8_give 0 = .ok (.aload_n 0, 1) := by decide +kernel
theorem dX8_give_1 : decode cX8_give 1 = .ok (.iconst 0, 1) := by decide +kernel
theorem dX8_give_2 : decode cX8_give 2 = .ok (.putfield 49, 3) := by decide +kernel
theorem dX8_give_5 : decode cX8_give 5 = .ok (.aload_n 0, 1) := by decide +kernel
theorem dX8_give_6 : decode cX8_give 6 = .ok (.iload_n 1, 1) := by decide +kernel
theorem dX8_give_7 : decode cX8_give 7 = .ok (.invokevirtual 315, 3) := by decide +kernel
theorem dX8_give_10 : decode cX8_give 10 = .ok (.ifCond .ne 76, 3) := by decide +kernel
theorem dX8_give_13 : decode cX8_give 13 = .ok (.aload_n 0, 1) := by decide +kernel
theorem dX8_give_14 : decode cX8_give 14 = .ok (.iload_n 2, 1) := by decide +kernel
theorem dX8_give_15 : decode cX8_give 15 = .ok (.iconst 1, 1) := by decide +kernel
theorem dX8_give_16 : decode cX8_give 16 = .ok (.bipush 8, 2) := by decide +kernel
theorem dX8_give_18 : decode cX8_give 18 = .ok (.aload_n 0, 1) := by decide +kernel
theorem dX8_give_19 : decode cX8_give 19 = .ok (.getfield 59, 3) := by decide +kernel
theorem dX8_give_22 : decode cX8_give 22 = .ok (.invokestatic 110, 3) := by decide +kernel
theorem dX8_give_25 : decode cX8_give 25 = .ok (.invokestatic 77, 3) := by decide +kernel
theorem dX8_give_28 : decode cX8_give 28 = .ok (.ifCond .eq 11, 3) := by decide +kernel
theorem dX8_give_31 : decode cX8_give 31 = .ok (.aload_n 0, 1) := by decide +kernel
theorem dX8_give_32 : decode cX8_give 32 = .ok (.iload_n 2, 1) := by decide +kernel
theorem dX8_give_33 : decode cX8_give 33 = .ok (.invokevirtual 366, 3) := by decide +kernel
theorem dX8_give_36 : decode cX8_give 36 = .ok (.ifCond .ne 7, 3) := by decide +kernel
theorem dX8_give_39 : decode cX8_give 39 = .ok (.iconst 1, 1) := by decide +kernel
theorem dX8_give_40 : decode cX8_give 40 = .ok (.goto 4, 3) := by decide +kernel
theorem dX8_give_43 : decode cX8_give 43 = .ok (.iconst 0, 1) := by decide +kernel
theorem dX8_give_44 : decode cX8_give 44 = .ok (.iconst 2, 1) := by decide +kernel
theorem dX8_give_45 : decode cX8_give 45 = .ok (.invokevirtual 198, 3) := by decide +kernel
theorem dX8_give_48 : decode cX8_give 48 = .ok (.ifCond .ne 38, 3) := by decide +kernel
theorem dX8_give_51 : decode cX8_give 51 = .ok (.aload_n 0, 1) := by decide +kernel
theorem dX8_give_52 : decode cX8_give 52 = .ok (.aload_n 0, 1) := by decide +kernel
theorem dX8_give_53 : decode cX8_give 53 = .ok (.iload_n 1, 1) := by decide +kernel
theorem dX8_give_54 : decode cX8_give 54 = .ok (.iconst 1, 1) := by decide +kernel
theorem dX8_give_55 : decode cX8_give 55 = .ok (.invokevirtual 266, 3) := by decide +kernel
theorem dX8_give_58 : decode cX8_give 58 = .ok (.bipush 8, 2) := by decide +kernel
theorem dX8_give_60 : decode cX8_give 60 = .ok (.if_icmp .eq 14, 3) := by decide +kernel
theorem dX8_give_63 : decode cX8_give 63 = .ok (.aload_n 0, 1) := by decide +kernel
theorem dX8_give_64 : decode cX8_give 64 = .ok (.getfield 17, 3) := by decide +kernel
theorem dX8_give_67 : decode cX8_give 67 = .ok (.bipush 6, 2) := by decide +kernel
theorem dX8_give_69 : decode cX8_give 69 = .ok (.iaload, 1) := by decide +kernel
theorem dX8_give_70 : decode cX8_give 70 = .ok (.iconst 1, 1) := by decide +kernel
theorem dX8_give_71 : decode cX8_give 71 = .ok (.if_icmp .ne 7, 3) := by decide +kernel
theorem dX8_give_74 : decode cX8_give 74 = .ok (.iconst 1, 1) := by decide +kernel
theorem dX8_give_75 : decode cX8_give 75 = .ok (.goto 4, 3) := by decide +kernel
theorem dX8_give_78 : decode cX8_give 78 = .ok (.iconst 0, 1) := by decide +kernel
theorem dX8_give_79 : decode cX8_give 79 = .ok (.iconst 3, 1) := by decide +kernel
theorem dX8_give_80 : decode cX8_give 80 = .ok (.invokevirtual 198, 3) := by decide +kernel
theorem dX8_give_83 : decode cX8_give 83 = .ok (.ifCond .eq 5, 3) := by decide +kernel
theorem dX8_give_86 : decode cX8_give 86 = .ok (.iconst 0, 1) := by decide +kernel
theorem dX8_give_87 : decode cX8_give 87 = .ok (.ireturn, 1) := by decide +kernel
theorem dX8_give_88 : decode cX8_give 88 = .ok (.aload_n 0, 1) := by decide +kernel
theorem dX8_give_89 : decode cX8_give 89 = .ok (.invokevirtual 208, 3) := by decide +kernel
theorem dX8_give_92 : decode cX8_give 92 = .ok (.aload_n 0, 1) := by decide +kernel
theorem dX8_give_93 : decode cX8_give 93 = .ok (.iconst 0, 1) := by decide +kernel
theorem dX8_give_94 : decode cX8_give 94 = .ok (.putfield 59, 3) := by decide +kernel
theorem dX8_give_97 : decode cX8_give 97 = .ok (.aload_n 0, 1) := by decide +kernel
theorem dX8_give_98 : decode cX8_give 98 = .ok (.iload_n 1, 1) := by decide +kernel
theorem dX8_give_99 : decode cX8_give 99 = .ok (.iconst 1, 1) := by decide +kernel
theorem dX8_give_100 : decode cX8_give 100 = .ok (.invokevirtual 266, 3) := by decide +kernel
theorem dX8_give_103 : decode cX8_give 103 = .ok (.istore_n 3, 1) := by decide +kernel
theorem dX8_give_104 : decode cX8_give 104 = .ok (.iload_n 1, 1) := by decide +kernel
theorem dX8_give_105 : decode cX8_give 105 = .ok (.iload_n 3, 1) := by decide +kernel
theorem dX8_give_106 : decode cX8_give 106 = .ok (.invokestatic 161, 3) := by decide +kernel
theorem dX8_give_109 : decode cX8_give 109 = .ok (.istore 4, 2) := by decide +kernel
theorem dX8_give_111 : decode cX8_give 111 = .ok (.aload_n 0, 1) := by decide +kernel
theorem dX8_give_112 : decode cX8_give 112 = .ok (.getfield 17, 3) := by decide +kernel
theorem dX8_give_115 : decode cX8_give 115 = .ok (.iload 4, 2) := by decide +kernel
theorem dX8_give_117 : decode cX8_give 117 = .ok (.iload_n 2, 1) := by decide +kernel
theorem dX8_give_118 : decode cX8_give 118 = .ok (.iastore, 1) := by decide +kernel
theorem dX8_give_119 : decode cX8_give 119 = .ok (.iconst 0, 1) := by decide +kernel
theorem dX8_give_120 : decode cX8_give 120 = .ok (.istore 5, 2) := by decide +kernel
theorem dX8_give_122 : decode cX8_give 122 = .ok (.iload 5, 2) := by decide +kernel
theorem dX8_give_124 : decode cX8_give 124 = .ok (.iload_n 2, 1) := by decide +kernel
theorem dX8_give_125 : decode cX8_give 125 = .ok (.if_icmp .ge 31, 3) := by decide +kernel
theorem dX8_give_128 : decode cX8_give 128 = .ok (.aload_n 0, 1) := by decide +kernel
theorem dX8_give_129 : decode cX8_give 129 = .ok (.getfield 17, 3) := by decide +kernel
theorem dX8_give_132 : decode cX8_give 132 = .ok (.iload 4, 2) := by decide +kernel
theorem dX8_give_134 : decode cX8_give 134 = .ok (.iconst 1, 1) := by decide +kernel
theorem dX8_give_135 : decode cX8_give 135 = .ok (.iadd, 1) := by decide +kernel
theorem dX8_give_136 : decode cX8_give 136 = .ok (.iload 5, 2) := by decide +kernel
theorem dX8_give_138 : decode cX8_give 138 = .ok (.iadd, 1) := by decide +kernel
theorem dX8_give_139 : decode cX8_give 139 = .ok (.aload_n 0, 1) := by decide +kernel
theorem dX8_give_140 : decode cX8_give 140 = .ok (.getfield 9, 3) := by decide +kernel
theorem dX8_give_143 : decode cX8_give 143 = .ok (.iload 5, 2) := by decide +kernel
theorem dX8_give_145 : decode cX8_give 145 = .ok (.iaload, 1) := by decide +kernel
theorem dX8_give_146 : decode cX8_give 146 = .ok (.bipush 97, 2) := by decide +kernel
theorem dX8_give_148 : decode cX8_give 148 = .ok (.isub, 1) := by decide +kernel
theorem dX8_give_149 : decode cX8_give 149 = .ok (.iastore, 1) := by decide +kernel
theorem dX8_give_150 : decode cX8_give 150 = .ok (.iinc 5 1, 3) := by decide +kernel
theorem dX8_give_153 : decode cX8_give 153 = .ok (.goto (-31), 3) := by decide +kernel
theorem dX8_give_156 : decode cX8_give 156 = .ok (.aload_n 0, 1) := by decide +kernel
theorem dX8_give_157 : decode cX8_give 157 = .ok (.getfield 17, 3) := by decide +kernel
theorem dX8_give_160 : decode cX8_give 160 = .ok (.iload_n 1, 1) := by decide +kernel
theorem dX8_give_161 : decode cX8_give 161 = .ok (.invokestatic 56, 3) := by decide +kernel
theorem dX8_give_164 : decode cX8_give 164 = .ok (.iconst 1, 1) := by decide +kernel
theorem dX8_give_165 : decode cX8_give 165 = .ok (.iadd, 1) := by decide +kernel
theorem dX8_give_166 : decode cX8_give 166 = .ok (.dup2, 1) := by decide +kernel
theorem dX8_give_167 : decode cX8_give 167 = .ok (.iaload, 1) := by decide +kernel
theorem dX8_give_168 : decode cX8_give 168 = .ok (.iconst 1, 1) := by decide +kernel
theorem dX8_give_169 : decode cX8_give 169 = .ok (.iadd, 1) := by decide +kernel
theorem dX8_give_170 : decode cX8_give 170 = .ok (.iastore, 1) := by decide +kernel
theorem dX8_give_171 : decode cX8_give 171 = .ok (.iload_n 3, 1) := by decide +kernel
theorem dX8_give_172 : decode cX8_give 172 = .ok (.ireturn, 1) := by decide +kernel
set_option maxRecDepth 20000 in
theorem ggX8_undo_X8_copy : GoodIn wsX8_undo wsX8_copy := goodIn_r _ [8] (by decide +kernel) (by decide +kernel)
set_option maxRecDepth 20000 in
theorem gX8_undo_X8_copy : GoodIn wsX8_undo (va_wsS RX8 211 yX8_copy wsX8_copy) := goodIn_app (goodIn_of _ (by decide +kernel)) ggX8_undo_X8_copy
theorem dX8_undo_0 : decode cX8_undo 0 = .ok (.aload_n 0, 1) := by decide +kernel
theorem dX8_undo_1 : decode cX8_undo 1 = .ok (.iconst 0, 1) := by decide +kernel
theorem dX8_undo_2 : decode cX8_undo 2 = .ok (.putfield 49, 3) := by decide +kernel
theorem dX8_undo_5 : decode cX8_undo 5 = .ok (.aload_n 0, 1) := by decide +kernel
theorem dX8_undo_6 : decode cX8_undo 6 = .ok (.getfield 363, 3) := by decide +kernel
theorem dX8_undo_9 : decode cX8_undo 9 = .ok (.ifCond .ne 5, 3) := by decide +kernel
theorem dX8_undo_12 : decode cX8_undo 12 = .ok (.iconst (-1), 1) := by decide +kernel
theorem dX8_undo_13 : decode cX8_undo 13 = .ok (.ireturn, 1) := by decide +kernel
theorem dX8_undo_14 : decode cX8_undo 14 = .ok (.aload_n 0, 1) := by decide +kernel
theorem dX8_undo_15 : decode cX8_undo 15 = .ok (.dup, 1) := by decide +kernel
theorem dX8_undo_16 : decode cX8_undo 16 = .ok (.getfield 363, 3) := by decide +kernel
theorem dX8_undo_19 : decode cX8_undo 19 = .ok (.iconst 1, 1) := by decide +kernel
theorem dX8_undo_20 : decode cX8_undo 20 = .ok (.isub, 1) := by decide +kernel
theorem dX8_undo_21 : decode cX8_undo 21 = .ok (.putfield 363, 3) := by decide +kernel
theorem dX8_undo_24 : decode cX8_undo 24 = .ok (.aload_n 0, 1) := by decide +kernel
theorem dX8_undo_25 : decode cX8_undo 25 = .ok (.getfield 28, 3) := by decide +kernel
theorem dX8_undo_28 : decode cX8_undo 28 = .ok (.aload_n 0, 1) := by decide +kernel
theorem dX8_undo_29 : decode cX8_undo 29 = .ok (.getfield 363, 3) := by decide +kernel
theorem dX8_undo_32 : decode cX8_undo 32 = .ok (.aaload, 1) := by decide +kernel
theorem dX8_undo_33 : decode cX8_undo 33 = .ok (.aload_n 0, 1) := by decide +kernel
theorem dX8_undo_34 : decode cX8_undo 34 = .ok (.getfield 17, 3) := by decide +kernel
theorem dX8_undo_37 : decode cX8_undo 37 = .ok (.sipush 1802, 3) := by decide +kernel
theorem dX8_undo_40 : decode cX8_undo 40 = .ok (.invokestatic 211, 3) := by decide +kernel
theorem dX8_undo_43 : decode cX8_undo 43 = .ok (.aload_n 0, 1) := by decide +kernel
theorem dX8_undo_44 : decode cX8_undo 44 = .ok (.getfield 363, 3) := by decide +kernel
theorem dX8_undo_47 : decode cX8_undo 47 = .ok (.ireturn, 1) := by decide +kernel
set_option maxRecDepth 20000 in
theorem ggX8_checksum_X8_told : GoodIn wsX8_checksum wsX8_told := goodIn_r _ [8, 3, 9, 10, 11, 7, 12, 13, 14, 15, 16, 17, 18, 19, 20, 21, 22, 23, 24, 25, 26, 27, 28, 29, 30, 31, 32, 33, 34, 35, 36, 37, 38, 39, 40, 41, 42, 43, 44, 45, 46, 47, 48, 49, 50, 51, 52, 53, 54, 55, 56, 57, 58, 59, 60, 61, 62, 63, 64, 65, 66, 67, 68, 69, 70, 71, 72, 73, 74, 75, 76, 77, 78, 79, 80, 81, 82, 83, 84, 85, 86, 87, 88, 109, 110, 111, 112, 113, 114, 115, 116, 117, 118, 119, 120, 121, 122, 123, 124, 125, 126, 127, 128, 129] (by decide +kernel) (by decide +kernel)
set_option maxRecDepth 20000 in
theorem gX8_checksum_X8_told : GoodIn wsX8_checksum (wsV RX8 327 RX8 yX8_told wsX8_told) := goodIn_app (goodIn_of _ (by decide +kernel)) ggX8_checksum_X8_told
set_option maxRecDepth 20000 in
theorem ggX8_checksum_X8_toldRow : GoodIn wsX8_checksum wsX8_toldRow := goodIn_r _ [92, 13, 14, 15, 7, 16, 3, 17, 18, 19, 24, 25, 26, 27, 109, 110, 111, 112, 113, 114, 115, 116, 117, 118, 119, 120, 121, 122, 123, 124, 125, 126, 127, 128, 129] (by decide +kernel) (by decide +kernel)
set_option maxRecDepth 20000 in
theorem gX8_checksum_X8_toldRow : GoodIn wsX8_checksum (wsV RX8 333 RX8 yX8_toldRow wsX8_toldRow) := goodIn_app (goodIn_of _ (by decide +kernel)) ggX8_checksum_X8_toldRow
set_option maxRecDepth 20000 in
theorem ggX8_checksum_X8_ofRow : GoodIn wsX8_checksum wsX8_ofRow := goodIn_r _ [16, 3, 17, 18, 7, 19, 109, 110, 111, 112, 113, 114, 115, 116, 117, 118, 119, 120, 121, 122, 123, 124, 125, 126, 127, 128, 129] (by decide +kernel) (by decide +kernel)
set_option maxRecDepth 20000 in
theorem gX8_checksum_X8_ofRow : GoodIn wsX8_checksum (wsV RX8 218 RX8 yX8_ofRow wsX8_ofRow) := goodIn_app (goodIn_of _ (by decide +kernel)) ggX8_checksum_X8_ofRow
set_option maxRecDepth 20000 in
theorem ggX8_checksum_X8_toldTile : GoodIn wsX8_checksum wsX8_toldTile := goodIn_r _ [96, 13, 14, 15, 7, 16, 3, 17, 18, 19, 109, 110, 111, 112, 113, 114, 115, 116, 117, 118, 119, 120, 121, 122, 123, 124, 125, 126, 127, 128, 129] (by decide +kernel) (by decide +kernel)
set_option maxRecDepth 20000 in
theorem gX8_checksum_X8_toldTile : GoodIn wsX8_checksum (wsV RX8 336 RX8 yX8_toldTile wsX8_toldTile) := goodIn_app (goodIn_of _ (by decide +kernel)) ggX8_checksum_X8_toldTile
set_option maxRecDepth 20000 in
theorem ggX8_checksum_X8_toldPlayer : GoodIn wsX8_checksum wsX8_toldPlayer := goodIn_r _ [100, 36, 37, 38, 7, 39, 3, 40, 41, 42, 101, 102, 103, 104, 51, 52, 53, 54, 55, 56, 57, 105, 106, 107, 108, 13, 14, 15, 16, 17, 18, 19, 109, 110, 111, 112, 113, 114, 115, 116, 117, 118, 119, 120, 121, 122, 123, 124, 125, 126, 127, 128, 129] (by decide +kernel) (by decide +kernel)
set_option maxRecDepth 20000 in
theorem gX8_checksum_X8_toldPlayer : GoodIn wsX8_checksum (wsV RX8 342 RX8 yX8_toldPlayer wsX8_toldPlayer) := goodIn_app (goodIn_of _ (by decide +kernel)) ggX8_checksum_X8_toldPlayer
set_option maxRecDepth 20000 in
theorem ggX8_checksum_X8_ofPlayer : GoodIn wsX8_checksum wsX8_ofPlayer := goodIn_r _ [39, 3, 40, 41, 7, 42, 109, 110, 111, 112, 113, 114, 115, 116, 117, 118, 119, 120, 121, 122, 123, 124, 125, 126, 127, 128, 129] (by decide +kernel) (by decide +kernel)
set_option maxRecDepth 20000 in
theorem gX8_checksum_X8_ofPlayer : GoodIn wsX8_checksum (wsV RX8 266 RX8 yX8_ofPlayer wsX8_ofPlayer) := goodIn_app (goodIn_of _ (by decide +kernel)) ggX8_checksum_X8_ofPlayer
set_option maxRecDepth 20000 in
theorem ggX8_checksum_X8_lengthOf : GoodIn wsX8_checksum wsX8_lengthOf := goodIn_r _ [54, 3, 55, 56, 7, 57, 40, 41, 42, 109, 110, 111, 112, 113, 114, 115, 116, 117, 118, 119, 120, 121, 122, 123, 124, 125, 126, 127, 128, 129] (by decide +kernel) (by decide +kernel)
set_option maxRecDepth 20000 in
theorem gX8_checksum_X8_lengthOf : GoodIn wsX8_checksum (wsV RX8 225 RX8 yX8_lengthOf wsX8_lengthOf) := goodIn_app (goodIn_of _ (by decide +kernel)) ggX8_checksum_X8_lengthOf
set_option maxRecDepth 20000 in
theorem ggX8_checksum_X8_wordAt : GoodIn wsX8_checksum wsX8_wordAt := goodIn_r _ [57, 40, 41, 7, 42] (by decide +kernel) (by decide +kernel)
set_option maxRecDepth 20000 in
theorem gX8_checksum_X8_wordAt : GoodIn wsX8_checksum (va_wsS RX8 161 yX8_wordAt wsX8_wordAt) := goodIn_app (goodIn_of _ (by decide +kernel)) ggX8_checksum_X8_wordAt
theorem dX8_checksum_0 : decode cX8_checksum 0 = .ok (.aload_n 0, 1) := by decide +kernel
theorem dX8_checksum_1 : decode cX8_checksum 1 = .ok (.iconst 0, 1) := by decide +kernel
theorem dX8_checksum_2 : decode cX8_checksum 2 = .ok (.putfield 49, 3) := by decide +kernel
theorem dX8_checksum_5 : decode cX8_checksum 5 = .ok (.lconst 0, 1) := by decide +kernel
theorem dX8_checksum_6 : decode cX8_checksum 6 = .ok (.lstore_n 1, 1) := by decide +kernel
theorem dX8_checksum_7 : decode cX8_checksum 7 = .ok (.iconst 0, 1) := by decide +kernel
theorem dX8_checksum_8 : decode cX8_checksum 8 = .ok (.istore_n 3, 1) := by decide +kernel
theorem dX8_checksum_9 : decode cX8_checksum 9 = .ok (.iload_n 3, 1) := by decide +kernel
theorem dX8_checksum_10 : decode cX8_checksum 10 = .ok (.bipush 12, 2) := by decide +kernel
theorem dX8_checksum_12 : decode cX8_checksum 12 = .ok (.if_icmp .ge 22, 3) := by decide +kernel
theorem dX8_checksum_15 : decode cX8_checksum 15 = .ok (.ldc2_w 369, 3) := by decide +kernel
theorem dX8_checksum_18 : decode cX8_checksum 18 = .ok (.lload_n 1, 1) := by decide +kernel
theorem dX8_checksum_19 : decode cX8_checksum 19 = .ok (.lmul, 1) := by decide +kernel
theorem dX8_checksum_20 : decode cX8_checksum 20 = .ok (.aload_n 0, 1) := by decide +kernel
theorem dX8_checksum_21 : decode cX8_checksum 21 = .ok (.iload_n 3, 1) := by decide +kernel
theorem dX8_checksum_22 : decode cX8_checksum 22 = .ok (.invokevirtual 327, 3) := by decide +kernel
theorem dX8_checksum_25 : decode cX8_checksum 25 = .ok (.i2l, 1) := by decide +kernel
theorem dX8_checksum_26 : decode cX8_checksum 26 = .ok (.ladd, 1) := by decide +kernel
theorem dX8_checksum_27 : decode cX8_checksum 27 = .ok (.lstore_n 1, 1) := by decide +kernel
theorem dX8_checksum_28 : decode cX8_checksum 28 = .ok (.iinc 3 1, 3) := by decide +kernel
theorem dX8_checksum_31 : decode cX8_checksum 31 = .ok (.goto (-22), 3) := by decide +kernel
theorem dX8_checksum_34 : decode cX8_checksum 34 = .ok (.iconst 0, 1) := by decide +kernel
theorem dX8_checksum_35 : decode cX8_checksum 35 = .ok (.istore_n 3, 1) := by decide +kernel
theorem dX8_checksum_36 : decode cX8_checksum 36 = .ok (.iload_n 3, 1) := by decide +kernel
theorem dX8_checksum_37 : decode cX8_checksum 37 = .ok (.aload_n 0, 1) := by decide +kernel
theorem dX8_checksum_38 : decode cX8_checksum 38 = .ok (.getfield 17, 3) := by decide +kernel
theorem dX8_checksum_41 : decode cX8_checksum 41 = .ok (.iconst 0, 1) := by decide +kernel
theorem dX8_checksum_42 : decode cX8_checksum 42 = .ok (.iaload, 1) := by decide +kernel
theorem dX8_checksum_43 : decode cX8_checksum 43 = .ok (.if_icmp .ge 74, 3) := by decide +kernel
theorem dX8_checksum_46 : decode cX8_checksum 46 = .ok (.iconst 0, 1) := by decide +kernel
theorem dX8_checksum_47 : decode cX8_checksum 47 = .ok (.istore 4, 2) := by decide +kernel
theorem dX8_checksum_49 : decode cX8_checksum 49 = .ok (.iload 4, 2) := by decide +kernel
theorem dX8_checksum_51 : decode cX8_checksum 51 = .ok (.iconst 4, 1) := by decide +kernel
theorem dX8_checksum_52 : decode cX8_checksum 52 = .ok (.if_icmp .ge 24, 3) := by decide +kernel
theorem dX8_checksum_55 : decode cX8_checksum 55 = .ok (.ldc2_w 369, 3) := by decide +kernel
theorem dX8_checksum_58 : decode cX8_checksum 58 = .ok (.lload_n 1, 1) := by decide +kernel
theorem dX8_checksum_59 : decode cX8_checksum 59 = .ok (.lmul, 1) := by decide +kernel
theorem dX8_checksum_60 : decode cX8_checksum 60 = .ok (.aload_n 0, 1) := by decide +kernel
theorem dX8_checksum_61 : decode cX8_checksum 61 = .ok (.iload_n 3, 1) := by decide +kernel
theorem dX8_checksum_62 : decode cX8_checksum 62 = .ok (.iload 4, 2) := by decide +kernel
theorem dX8_checksum_64 : decode cX8_checksum 64 = .ok (.invokevirtual 333, 3) := by decide +kernel
theorem dX8_checksum_67 : decode cX8_checksum 67 = .ok (.i2l, 1) := by decide +kernel
theorem dX8_checksum_68 : decode cX8_checksum 68 = .ok (.ladd, 1) := by decide +kernel
theorem dX8_checksum_69 : decode cX8_checksum 69 = .ok (.lstore_n 1, 1) := by decide +kernel
theorem dX8_checksum_70 : decode cX8_checksum 70 = .ok (.iinc 4 1, 3) := by decide +kernel
theorem dX8_checksum_73 : decode cX8_checksum 73 = .ok (.goto (-24), 3) := by decide +kernel
theorem dX8_checksum_76 : decode cX8_checksum 76 = .ok (.iconst 0, 1) := by decide +kernel
theorem dX8_checksum_77 : decode cX8_checksum 77 = .ok (.istore 4, 2) := by decide +kernel
theorem dX8_checksum_79 : decode cX8_checksum 79 = .ok (.iload 4, 2) := by decide +kernel
theorem dX8_checksum_81 : decode cX8_checksum 81 = .ok (.aload_n 0, 1) := by decide +kernel
theorem dX8_checksum_82 : decode cX8_checksum 82 = .ok (.iload_n 3, 1) := by decide +kernel
theorem dX8_checksum_83 : decode cX8_checksum 83 = .ok (.iconst 0, 1) := by decide +kernel
theorem dX8_checksum_84 : decode cX8_checksum 84 = .ok (.invokevirtual 218, 3) := by decide +kernel
theorem dX8_checksum_87 : decode cX8_checksum 87 = .ok (.if_icmp .ge 24, 3) := by decide +kernel
theorem dX8_checksum_90 : decode cX8_checksum 90 = .ok (.ldc2_w 369, 3) := by decide +kernel
theorem dX8_checksum_93 : decode cX8_checksum 93 = .ok (.lload_n 1, 1) := by decide +kernel
theorem dX8_checksum_94 : decode cX8_checksum 94 = .ok (.lmul, 1) := by decide +kernel
theorem dX8_checksum_95 : decode cX8_checksum 95 = .ok (.aload_n 0, 1) := by decide +kernel
theorem dX8_checksum_96 : decode cX8_checksum 96 = .ok (.iload_n 3, 1) := by decide +kernel
theorem dX8_checksum_97 : decode cX8_checksum 97 = .ok (.iload 4, 2) := by decide +kernel
theorem dX8_checksum_99 : decode cX8_checksum 99 = .ok (.invokevirtual 336, 3) := by decide +kernel
theorem dX8_checksum_102 : decode cX8_checksum 102 = .ok (.i2l, 1) := by decide +kernel
theorem dX8_checksum_103 : decode cX8_checksum 103 = .ok (.ladd, 1) := by decide +kernel
theorem dX8_checksum_104 : decode cX8_checksum 104 = .ok (.lstore_n 1, 1) := by decide +kernel
theorem dX8_checksum_105 : decode cX8_checksum 105 = .ok (.iinc 4 1, 3) := by decide +kernel
theorem dX8_checksum_108 : decode cX8_checksum 108 = .ok (.goto (-29), 3) := by decide +kernel
theorem dX8_checksum_111 : decode cX8_checksum 111 = .ok (.iinc 3 1, 3) := by decide +kernel
theorem dX8_checksum_114 : decode cX8_checksum 114 = .ok (.goto (-78), 3) := by decide +kernel
theorem dX8_checksum_117 : decode cX8_checksum 117 = .ok (.iconst 0, 1) := by decide +kernel
theorem dX8_checksum_118 : decode cX8_checksum 118 = .ok (.istore_n 3, 1) := by decide +kernel
theorem dX8_checksum_119 : decode cX8_checksum 119 = .ok (.iload_n 3, 1) := by decide +kernel
theorem dX8_checksum_120 : decode cX8_checksum 120 = .ok (.aload_n 0, 1) := by decide +kernel
theorem dX8_checksum_121 : decode cX8_checksum 121 = .ok (.getfield 17, 3) := by decide +kernel
theorem dX8_checksum_124 : decode cX8_checksum 124 = .ok (.iconst 1, 1) := by decide +kernel
theorem dX8_checksum_125 : decode cX8_checksum 125 = .ok (.iaload, 1) := by decide +kernel
theorem dX8_checksum_126 : decode cX8_checksum 126 = .ok (.if_icmp .ge 104, 3) := by decide +kernel
theorem dX8_checksum_129 : decode cX8_checksum 129 = .ok (.iconst 0, 1) := by decide +kernel
theorem dX8_checksum_130 : decode cX8_checksum 130 = .ok (.istore 4, 2) := by decide +kernel
theorem dX8_checksum_132 : decode cX8_checksum 132 = .ok (.iload 4, 2) := by decide +kernel
theorem dX8_checksum_134 : decode cX8_checksum 134 = .ok (.iconst 4, 1) := by decide +kernel
theorem dX8_checksum_135 : decode cX8_checksum 135 = .ok (.if_icmp .ge 24, 3) := by decide +kernel
theorem dX8_checksum_138 : decode cX8_checksum 138 = .ok (.ldc2_w 369, 3) := by decide +kernel
theorem dX8_checksum_141 : decode cX8_checksum 141 = .ok (.lload_n 1, 1) := by decide +kernel
theorem dX8_checksum_142 : decode cX8_checksum 142 = .ok (.lmul, 1) := by decide +kernel
theorem dX8_checksum_143 : decode cX8_checksum 143 = .ok (.aload_n 0, 1) := by decide +kernel
theorem dX8_checksum_144 : decode cX8_checksum 144 = .ok (.iload_n 3, 1) := by decide +kernel
theorem dX8_checksum_145 : decode cX8_checksum 145 = .ok (.iload 4, 2) := by decide +kernel
theorem dX8_checksum_147 : decode cX8_checksum 147 = .ok (.invokevirtual 342, 3) := by decide +kernel
theorem dX8_checksum_150 : decode cX8_checksum 150 = .ok (.i2l, 1) := by decide +kernel
theorem dX8_checksum_151 : decode cX8_checksum 151 = .ok (.ladd, 1) := by decide +kernel
theorem dX8_checksum_152 : decode cX8_checksum 152 = .ok (.lstore_n 1, 1) := by decide +kernel
theorem dX8_checksum_153 : decode cX8_checksum 153 = .ok (.iinc 4 1, 3) := by decide +kernel
theorem dX8_checksum_156 : decode cX8_checksum 156 = .ok (.goto (-24), 3) := by decide +kernel
theorem dX8_checksum_159 : decode cX8_checksum 159 = .ok (.iconst 0, 1) := by decide +kernel
theorem dX8_checksum_160 : decode cX8_checksum 160 = .ok (.istore 4, 2) := by decide +kernel
theorem dX8_checksum_162 : decode cX8_checksum 162 = .ok (.iload 4, 2) := by decide +kernel
theorem dX8_checksum_164 : decode cX8_checksum 164 = .ok (.aload_n 0, 1) := by decide +kernel
theorem dX8_checksum_165 : decode cX8_checksum 165 = .ok (.iload_n 3, 1) := by decide +kernel
theorem dX8_checksum_166 : decode cX8_checksum 166 = .ok (.iconst 1, 1) := by decide +kernel
theorem dX8_checksum_167 : decode cX8_checksum 167 = .ok (.invokevirtual 266, 3) := by decide +kernel
theorem dX8_checksum_170 : decode cX8_checksum 170 = .ok (.if_icmp .ge 54, 3) := by decide +kernel
theorem dX8_checksum_173 : decode cX8_checksum 173 = .ok (.iconst 0, 1) := by decide +kernel
theorem dX8_checksum_174 : decode cX8_checksum 174 = .ok (.istore 5, 2) := by decide +kernel
theorem dX8_checksum_176 : decode cX8_checksum 176 = .ok (.iload 5, 2) := by decide +kernel
theorem dX8_checksum_178 : decode cX8_checksum 178 = .ok (.aload_n 0, 1) := by decide +kernel
theorem dX8_checksum_179 : decode cX8_checksum 179 = .ok (.iload_n 3, 1) := by decide +kernel
theorem dX8_checksum_180 : decode cX8_checksum 180 = .ok (.iload 4, 2) := by decide +kernel
theorem dX8_checksum_182 : decode cX8_checksum 182 = .ok (.invokevirtual 225, 3) := by decide +kernel
theorem dX8_checksum_185 : decode cX8_checksum 185 = .ok (.if_icmp .ge 33, 3) := by decide +kernel
theorem dX8_checksum_188 : decode cX8_checksum 188 = .ok (.ldc2_w 369, 3) := by decide +kernel
theorem dX8_checksum_191 : decode cX8_checksum 191 = .ok (.lload_n 1, 1) := by decide +kernel
theorem dX8_checksum_192 : decode cX8_checksum 192 = .ok (.lmul, 1) := by decide +kernel
theorem dX8_checksum_193 : decode cX8_checksum 193 = .ok (.aload_n 0, 1) := by decide +kernel
theorem dX8_checksum_194 : decode cX8_checksum 194 = .ok (.getfield 17, 3) := by decide +kernel
theorem dX8_checksum_197 : decode cX8_checksum 197 = .ok (.iload_n 3, 1) := by decide +kernel
theorem dX8_checksum_198 : decode cX8_checksum 198 = .ok (.iload 4, 2) := by decide +kernel
theorem dX8_checksum_200 : decode cX8_checksum 200 = .ok (.invokestatic 161, 3) := by decide +kernel
theorem dX8_checksum_203 : decode cX8_checksum 203 = .ok (.iconst 1, 1) := by decide +kernel
theorem dX8_checksum_204 : decode cX8_checksum 204 = .ok (.iadd, 1) := by decide +kernel
theorem dX8_checksum_205 : decode cX8_checksum 205 = .ok (.iload 5, 2) := by decide +kernel
theorem dX8_checksum_207 : decode cX8_checksum 207 = .ok (.iadd, 1) := by decide +kernel
theorem dX8_checksum_208 : decode cX8_checksum 208 = .ok (.iaload, 1) := by decide +kernel
theorem dX8_checksum_209 : decode cX8_checksum 209 = .ok (.i2l, 1) := by decide +kernel
theorem dX8_checksum_210 : decode cX8_checksum 210 = .ok (.ladd, 1) := by decide +kernel
theorem dX8_checksum_211 : decode cX8_checksum 211 = .ok (.lstore_n 1, 1) := by decide +kernel
theorem dX8_checksum_212 : decode cX8_checksum 212 = .ok (.iinc 5 1, 3) := by decide +kernel
theorem dX8_checksum_215 : decode cX8_checksum 215 = .ok (.goto (-39), 3) := by decide +kernel
theorem dX8_checksum_218 : decode cX8_checksum 218 = .ok (.iinc 4 1, 3) := by decide +kernel
theorem dX8_checksum_221 : decode cX8_checksum 221 = .ok (.goto (-59), 3) := by decide +kernel
theorem dX8_checksum_224 : decode cX8_checksum 224 = .ok (.iinc 3 1, 3) := by decide +kernel
theorem dX8_checksum_227 : decode cX8_checksum 227 = .ok (.goto (-108), 3) := by decide +kernel
theorem dX8_checksum_230 : decode cX8_checksum 230 = .ok (.lload_n 1, 1) := by decide +kernel
theorem dX8_checksum_231 : decode cX8_checksum 231 = .ok (.lreturn, 1) := by decide +kernel
theorem dJ6_bitCount_0f7a4_0 : decode cJ6_bitCount_0f7a4 0 = .ok (.iload_n 0, 1) := by decide +kernel
theorem dJ6_bitCount_0f7a4_1 : decode cJ6_bitCount_0f7a4 1 = .ok (.iload_n 0, 1) := by decide +kernel
theorem dJ6_bitCount_0f7a4_2 : decode cJ6_bitCount_0f7a4 2 = .ok (.iconst 1, 1) := by decide +kernel
theorem dJ6_bitCount_0f7a4_3 : decode cJ6_bitCount_0f7a4 3 = .ok (.iushr, 1) := by decide +kernel
theorem dJ6_bitCount_0f7a4_4 : decode cJ6_bitCount_0f7a4 4 = .ok (.ldc_w 265, 3) := by decide +kernel
theorem dJ6_bitCount_0f7a4_7 : decode cJ6_bitCount_0f7a4 7 = .ok (.iand, 1) := by decide +kernel
theorem dJ6_bitCount_0f7a4_8 : decode cJ6_bitCount_0f7a4 8 = .ok (.isub, 1) := by decide +kernel
theorem dJ6_bitCount_0f7a4_9 : decode cJ6_bitCount_0f7a4 9 = .ok (.istore_n 0, 1) := by decide +kernel
theorem dJ6_bitCount_0f7a4_10 : decode cJ6_bitCount_0f7a4 10 = .ok (.iload_n 0, 1) := by decide +kernel
theorem dJ6_bitCount_0f7a4_11 : decode cJ6_bitCount_0f7a4 11 = .ok (.ldc_w 266, 3) := by decide +kernel
theorem dJ6_bitCount_0f7a4_14 : decode cJ6_bitCount_0f7a4 14 = .ok (.iand, 1) := by decide +kernel
theorem dJ6_bitCount_0f7a4_15 : decode cJ6_bitCount_0f7a4 15 = .ok (.iload_n 0, 1) := by decide +kernel
theorem dJ6_bitCount_0f7a4_16 : decode cJ6_bitCount_0f7a4 16 = .ok (.iconst 2, 1) := by decide +kernel
theorem dJ6_bitCount_0f7a4_17 : decode cJ6_bitCount_0f7a4 17 = .ok (.iushr, 1) := by decide +kernel
theorem dJ6_bitCount_0f7a4_18 : decode cJ6_bitCount_0f7a4 18 = .ok (.ldc_w 266, 3) := by decide +kernel
theorem dJ6_bitCount_0f7a4_21 : decode cJ6_bitCount_0f7a4 21 = .ok (.iand, 1) := by decide +kernel
theorem dJ6_bitCount_0f7a4_22 : decode cJ6_bitCount_0f7a4 22 = .ok (.iadd, 1) := by decide +kernel
theorem dJ6_bitCount_0f7a4_23 : decode cJ6_bitCount_0f7a4 23 = .ok (.istore_n 0, 1) := by decide +kernel
theorem dJ6_bitCount_0f7a4_24 : decode cJ6_bitCount_0f7a4 24 = .ok (.iload_n 0, 1) := by decide +kernel
theorem dJ6_bitCount_0f7a4_25 : decode cJ6_bitCount_0f7a4 25 = .ok (.iload_n 0, 1) := by decide +kernel
theorem dJ6_bitCount_0f7a4_26 : decode cJ6_bitCount_0f7a4 26 = .ok (.iconst 4, 1) := by decide +kernel
theorem dJ6_bitCount_0f7a4_27 : decode cJ6_bitCount_0f7a4 27 = .ok (.iushr, 1) := by decide +kernel
theorem dJ6_bitCount_0f7a4_28 : decode cJ6_bitCount_0f7a4 28 = .ok (.iadd, 1) := by decide +kernel
theorem dJ6_bitCount_0f7a4_29 : decode cJ6_bitCount_0f7a4 29 = .ok (.ldc_w 267, 3) := by decide +kernel
theorem dJ6_bitCount_0f7a4_32 : decode cJ6_bitCount_0f7a4 32 = .ok (.iand, 1) := by decide +kernel
theorem dJ6_bitCount_0f7a4_33 : decode cJ6_bitCount_0f7a4 33 = .ok (.istore_n 0, 1) := by decide +kernel
theorem dJ6_bitCount_0f7a4_34 : decode cJ6_bitCount_0f7a4 34 = .ok (.iload_n 0, 1) := by decide +kernel
theorem dJ6_bitCount_0f7a4_35 : decode cJ6_bitCount_0f7a4 35 = .ok (.iload_n 0, 1) := by decide +kernel
theorem dJ6_bitCount_0f7a4_36 : decode cJ6_bitCount_0f7a4 36 = .ok (.bipush 8, 2) := by decide +kernel
theorem dJ6_bitCount_0f7a4_38 : decode cJ6_bitCount_0f7a4 38 = .ok (.iushr, 1) := by decide +kernel
theorem dJ6_bitCount_0f7a4_39 : decode cJ6_bitCount_0f7a4 39 = .ok (.iadd, 1) := by decide +kernel
theorem dJ6_bitCount_0f7a4_40 : decode cJ6_bitCount_0f7a4 40 = .ok (.istore_n 0, 1) := by decide +kernel
theorem dJ6_bitCount_0f7a4_41 : decode cJ6_bitCount_0f7a4 41 = .ok (.iload_n 0, 1) := by decide +kernel
theorem dJ6_bitCount_0f7a4_42 : decode cJ6_bitCount_0f7a4 42 = .ok (.iload_n 0, 1) := by decide +kernel
theorem dJ6_bitCount_0f7a4_43 : decode cJ6_bitCount_0f7a4 43 = .ok (.bipush 16, 2) := by decide +kernel
theorem dJ6_bitCount_0f7a4_45 : decode cJ6_bitCount_0f7a4 45 = .ok (.iushr, 1) := by decide +kernel
theorem dJ6_bitCount_0f7a4_46 : decode cJ6_bitCount_0f7a4 46 = .ok (.iadd, 1) := by decide +kernel
theorem dJ6_bitCount_0f7a4_47 : decode cJ6_bitCount_0f7a4 47 = .ok (.istore_n 0, 1) := by decide +kernel
theorem dJ6_bitCount_0f7a4_48 : decode cJ6_bitCount_0f7a4 48 = .ok (.iload_n 0, 1) := by decide +kernel
theorem dJ6_bitCount_0f7a4_49 : decode cJ6_bitCount_0f7a4 49 = .ok (.bipush 63, 2) := by decide +kernel
theorem dJ6_bitCount_0f7a4_51 : decode cJ6_bitCount_0f7a4 51 = .ok (.iand, 1) := by decide +kernel
theorem dJ6_bitCount_0f7a4_52 : decode cJ6_bitCount_0f7a4 52 = .ok (.ireturn, 1) := by decide +kernel
theorem dJ9_max_7cf53_0 : decode cJ9_max_7cf53 0 = .ok (.iload_n 0, 1) := by decide +kernel
theorem dJ9_max_7cf53_1 : decode cJ9_max_7cf53 1 = .ok (.iload_n 1, 1) := by decide +kernel
theorem dJ9_max_7cf53_2 : decode cJ9_max_7cf53 2 = .ok (.if_icmp .lt 7, 3) := by decide +kernel
theorem dJ9_max_7cf53_5 : decode cJ9_max_7cf53 5 = .ok (.iload_n 0, 1) := by decide +kernel
theorem dJ9_max_7cf53_6 : decode cJ9_max_7cf53 6 = .ok (.goto 4, 3) := by decide +kernel
theorem dJ9_max_7cf53_9 : decode cJ9_max_7cf53 9 = .ok (.iload_n 1, 1) := by decide +kernel
theorem dJ9_max_7cf53_10 : decode cJ9_max_7cf53 10 = .ok (.ireturn, 1) := by decide +kernel
theorem dJ9_min_7cf53_0 : decode cJ9_min_7cf53 0 = .ok (.iload_n 0, 1) := by decide +kernel
theorem dJ9_min_7cf53_1 : decode cJ9_min_7cf53 1 = .ok (.iload_n 1, 1) := by decide +kernel
theorem dJ9_min_7cf53_2 : decode cJ9_min_7cf53 2 = .ok (.if_icmp .gt 7, 3) := by decide +kernel
theorem dJ9_min_7cf53_5 : decode cJ9_min_7cf53 5 = .ok (.iload_n 0, 1) := by decide +kernel
theorem dJ9_min_7cf53_6 : decode cJ9_min_7cf53 6 = .ok (.goto 4, 3) := by decide +kernel
theorem dJ9_min_7cf53_9 : decode cJ9_min_7cf53 9 = .ok (.iload_n 1, 1) := by decide +kernel
theorem dJ9_min_7cf53_10 : decode cJ9_min_7cf53 10 = .ok (.ireturn, 1) := by decide +kernel
set_option maxRecDepth 20000 in
theorem ggJ0_length_8abf5_J0_coder_7d493 : GoodIn wsJ0_length_8abf5 wsJ0_coder_7d493 := goodIn_r _ [6, 7, 8] (by decide +kernel) (by decide +kernel)
set_option maxRecDepth 20000 in
theorem gJ0_length_8abf5_J0_coder_7d493 : GoodIn wsJ0_length_8abf5 (wsV RJ0 335 RJ0 yJ0_coder_7d493 wsJ0_coder_7d493) := goodIn_app (goodIn_of _ (by decide +kernel)) ggJ0_length_8abf5_J0_coder_7d493
theorem dJ0_length_8abf5_0 : decode cJ0_length_8abf5 0 = .ok (.aload_n 0, 1) := by decide +kernel
theorem dJ0_length_8abf5_1 : decode cJ0_length_8abf5 1 = .ok (.getfield 9, 3) := by decide +kernel
theorem dJ0_length_8abf5_4 : decode cJ0_length_8abf5 4 = .ok (.arraylength, 1) := by decide +kernel
theorem dJ0_length_8abf5_5 : decode cJ0_length_8abf5 5 = .ok (.aload_n 0, 1) := by decide +kernel
theorem dJ0_length_8abf5_6 : decode cJ0_length_8abf5 6 = .ok (.invokevirtual 335, 3) := by decide +kernel
theorem dJ0_length_8abf5_9 : decode cJ0_length_8abf5 9 = .ok (.ishr, 1) := by decide +kernel
theorem dJ0_length_8abf5_10 : decode cJ0_length_8abf5 10 = .ok (.ireturn, 1) := by decide +kernel
set_option maxRecDepth 20000 in
theorem ggJ0_charAt_5068e_J0_isLatin1_aae02 : GoodIn wsJ0_charAt_5068e wsJ0_isLatin1_aae02 := goodIn_r _ [6, 7, 8] (by decide +kernel) (by decide +kernel)
set_option maxRecDepth 20000 in
theorem gJ0_charAt_5068e_J0_isLatin1_aae02 : GoodIn wsJ0_charAt_5068e (wsV RJ0 492 RJ0 yJ0_isLatin1_aae02 wsJ0_isLatin1_aae02) := goodIn_app (goodIn_of _ (by decide +kernel)) ggJ0_charAt_5068e_J0_isLatin1_aae02
set_option maxRecDepth 20000 in
theorem ggJ0_charAt_5068e_J1_charAt_3b067 : GoodIn wsJ0_charAt_5068e wsJ1_charAt_3b067 := goodIn_r _ [12, 13, 14, 5, 15, 16, 17, 18, 19, 20] (by decide +kernel) (by decide +kernel)
set_option maxRecDepth 20000 in
theorem gJ0_charAt_5068e_J1_charAt_3b067 : GoodIn wsJ0_charAt_5068e (va_wsS RJ0 495 yJ1_charAt_3b067 wsJ1_charAt_3b067) := goodIn_app (goodIn_of _ (by decide +kernel)) ggJ0_charAt_5068e_J1_charAt_3b067
set_option maxRecDepth 20000 in
theorem ggJ0_charAt_5068e_J2_charAt_3b067 : GoodIn wsJ0_charAt_5068e wsJ2_charAt_3b067 := goodIn_r _ [24, 25, 26, 23, 27, 28, 29, 30, 31, 14, 5, 15, 16, 17, 18, 19, 20, 32, 33, 34, 35, 36, 37] (by decide +kernel) (by decide +kernel)
set_option maxRecDepth 20000 in
theorem gJ0_charAt_5068e_J2_charAt_3b067 : GoodIn wsJ0_charAt_5068e (va_wsS RJ0 498 yJ2_charAt_3b067 wsJ2_charAt_3b067) := goodIn_app (goodIn_of _ (by decide +kernel)) ggJ0_charAt_5068e_J2_charAt_3b067
theorem dJ0_charAt_5068e_0 : decode cJ0_charAt_5068e 0 = .ok (.aload_n 0, 1) := by decide +kernel
theorem dJ0_charAt_5068e_1 : decode cJ0_charAt_5068e 1 = .ok (.invokevirtual 492, 3) := by decide +kernel
theorem dJ0_charAt_5068e_4 : decode cJ0_charAt_5068e 4 = .ok (.ifCond .eq 12, 3) := by decide +kernel
theorem dJ0_charAt_5068e_7 : decode cJ0_charAt_5068e 7 = .ok (.aload_n 0, 1) := by decide +kernel
theorem dJ0_charAt_5068e_8 : decode cJ0_charAt_5068e 8 = .ok (.getfield 9, 3) := by decide +kernel
theorem dJ0_charAt_5068e_11 : decode cJ0_charAt_5068e 11 = .ok (.iload_n 1, 1) := by decide +kernel
theorem dJ0_charAt_5068e_12 : decode cJ0_charAt_5068e 12 = .ok (.invokestatic 495, 3) := by decide +kernel
theorem dJ0_charAt_5068e_15 : decode cJ0_charAt_5068e 15 = .ok (.ireturn, 1) := by decide +kernel
theorem dJ0_charAt_5068e_16 : decode cJ0_charAt_5068e 16 = .ok (.aload_n 0, 1) := by decide +kernel
theorem dJ0_charAt_5068e_17 : decode cJ0_charAt_5068e 17 = .ok (.getfield 9, 3) := by decide +kernel
theorem dJ0_charAt_5068e_20 : decode cJ0_charAt_5068e 20 = .ok (.iload_n 1, 1) := by decide +kernel
theorem dJ0_charAt_5068e_21 : decode cJ0_charAt_5068e 21 = .ok (.invokestatic 498, 3) := by decide +kernel
theorem dJ0_charAt_5068e_24 : decode cJ0_charAt_5068e 24 = .ok (.ireturn, 1) := by decide +kernel
theorem dJ0_coder_7d493_0 : decode cJ0_coder_7d493 0 = .ok (.getstatic 38, 3) := by decide +kernel
theorem dJ0_coder_7d493_3 : decode cJ0_coder_7d493 3 = .ok (.ifCond .eq 10, 3) := by decide +kernel
theorem dJ0_coder_7d493_6 : decode cJ0_coder_7d493 6 = .ok (.aload_n 0, 1) := by decide +kernel
theorem dJ0_coder_7d493_7 : decode cJ0_coder_7d493 7 = .ok (.getfield 15, 3) := by decide +kernel
theorem dJ0_coder_7d493_10 : decode cJ0_coder_7d493 10 = .ok (.goto 4, 3) := by decide +kernel
theorem dJ0_coder_7d493_13 : decode cJ0_coder_7d493 13 = .ok (.iconst 1, 1) := by decide +kernel
theorem dJ0_coder_7d493_14 : decode cJ0_coder_7d493 14 = .ok (.ireturn, 1) := by decide +kernel
theorem dJ0_isLatin1_aae02_0 : decode cJ0_isLatin1_aae02 0 = .ok (.getstatic 38, 3) := by decide +kernel
theorem dJ0_isLatin1_aae02_3 : decode cJ0_isLatin1_aae02 3 = .ok (.ifCond .eq 14, 3) := by decide +kernel
theorem dJ0_isLatin1_aae02_6 : decode cJ0_isLatin1_aae02 6 = .ok (.aload_n 0, 1) := by decide +kernel
theorem dJ0_isLatin1_aae02_7 : decode cJ0_isLatin1_aae02 7 = .ok (.getfield 15, 3) := by decide +kernel
theorem dJ0_isLatin1_aae02_10 : decode cJ0_isLatin1_aae02 10 = .ok (.ifCond .ne 7, 3) := by decide +kernel
theorem dJ0_isLatin1_aae02_13 : decode cJ0_isLatin1_aae02 13 = .ok (.iconst 1, 1) := by decide +kernel
theorem dJ0_isLatin1_aae02_14 : decode cJ0_isLatin1_aae02 14 = .ok (.goto 4, 3) := by decide +kernel
theorem dJ0_isLatin1_aae02_17 : decode cJ0_isLatin1_aae02 17 = .ok (.iconst 0, 1) := by decide +kernel
theorem dJ0_isLatin1_aae02_18 : decode cJ0_isLatin1_aae02 18 = .ok (.ireturn, 1) := by decide +kernel
set_option maxRecDepth 20000 in
theorem ggJ0_checkIndex_df160_J3_checkIndex_8e157 : GoodIn wsJ0_checkIndex_df160 wsJ3_checkIndex_8e157 := goodIn_r _ [5] (by decide +kernel) (by decide +kernel)
set_option maxRecDepth 20000 in
theorem gJ0_checkIndex_df160_J3_checkIndex_8e157 : GoodIn wsJ0_checkIndex_df160 (va_wsS RJ0 1059 yJ3_checkIndex_8e157 wsJ3_checkIndex_8e157) := goodIn_app (goodIn_of _ (by decide +kernel)) ggJ0_checkIndex_df160_J3_checkIndex_8e157
theorem dJ0_checkIndex_df160_0 : decode cJ0_checkIndex_df160 0 = .ok (.iload_n 0, 1) := by decide +kernel
theorem dJ0_checkIndex_df160_1 : decode cJ0_checkIndex_df160 1 = .ok (.iload_n 1, 1) := by decide +kernel
theorem dJ0_checkIndex_df160_2 : decode cJ0_checkIndex_df160 2 = .ok (.getstatic 1053, 3) := by decide +kernel
theorem dJ0_checkIndex_df160_5 : decode cJ0_checkIndex_df160 5 = .ok (.invokestatic 1059, 3) := by decide +kernel
theorem dJ0_checkIndex_df160_8 : decode cJ0_checkIndex_df160 8 = .ok (.pop, 1) := by decide +kernel
theorem dJ0_checkIndex_df160_9 : decode cJ0_checkIndex_df160 9 = .ok (.return_, 1) := by decide +kernel
set_option maxRecDepth 20000 in
theorem ggJ1_charAt_3b067_J0_checkIndex_df160 : GoodIn wsJ1_charAt_3b067 wsJ0_checkIndex_df160 := goodIn_r _ [4, 5, 6, 7, 8, 9] (by decide +kernel) (by decide +kernel)
set_option maxRecDepth 20000 in
theorem gJ1_charAt_3b067_J0_checkIndex_df160 : GoodIn wsJ1_charAt_3b067 (va_wsS RJ1 9 yJ0_checkIndex_df160 wsJ0_checkIndex_df160) := goodIn_app (goodIn_of _ (by decide +kernel)) ggJ1_charAt_3b067_J0_checkIndex_df160
theorem dJ1_charAt_3b067_0 : decode cJ1_charAt_3b067 0 = .ok (.iload_n 1, 1) := by decide +kernel
theorem dJ1_charAt_3b067_1 : decode cJ1_charAt_3b067 1 = .ok (.aload_n 0, 1) := by decide +kernel
theorem dJ1_charAt_3b067_2 : decode cJ1_charAt_3b067 2 = .ok (.arraylength, 1) := by decide +kernel
theorem dJ1_charAt_3b067_3 : decode cJ1_charAt_3b067 3 = .ok (.invokestatic 9, 3) := by decide +kernel
theorem dJ1_charAt_3b067_6 : decode cJ1_charAt_3b067 6 = .ok (.aload_n 0, 1) := by decide +kernel
theorem dJ1_charAt_3b067_7 : decode cJ1_charAt_3b067 7 = .ok (.iload_n 1, 1) := by decide +kernel
theorem dJ1_charAt_3b067_8 : decode cJ1_charAt_3b067 8 = .ok (.baload, 1) := by decide +kernel
theorem dJ1_charAt_3b067_9 : decode cJ1_charAt_3b067 9 = .ok (.sipush 255, 3) := by decide +kernel
theorem dJ1_charAt_3b067_12 : decode cJ1_charAt_3b067 12 = .ok (.iand, 1) := by decide +kernel
theorem dJ1_charAt_3b067_13 : decode cJ1_charAt_3b067 13 = .ok (.i2c, 1) := by decide +kernel
theorem dJ1_charAt_3b067_14 : decode cJ1_charAt_3b067 14 = .ok (.ireturn, 1) := by decide +kernel
set_option maxRecDepth 20000 in
theorem ggJ2_getChar_3b067_J2_length_9d52b : GoodIn wsJ2_getChar_3b067 wsJ2_length_9d52b := goodIn_r _ [7] (by decide +kernel) (by decide +kernel)
set_option maxRecDepth 20000 in
theorem gJ2_getChar_3b067_J2_length_9d52b : GoodIn wsJ2_getChar_3b067 (va_wsS RJ2 48 yJ2_length_9d52b wsJ2_length_9d52b) := goodIn_app (goodIn_of _ (by decide +kernel)) ggJ2_getChar_3b067_J2_length_9d52b
theorem dJ2_getChar_3b067_0 : decode cJ2_getChar_3b067 0 = .ok (.getstatic 44, 3) := by decide +kernel
theorem dJ2_getChar_3b067_3 : decode cJ2_getChar_3b067 3 = .ok (.ifCond .ne 25, 3) := by decide +kernel
theorem dJ2_getChar_3b067_6 : decode cJ2_getChar_3b067 6 = .ok (.iload_n 1, 1) := by decide +kernel
theorem dJ2_getChar_3b067_7 : decode cJ2_getChar_3b067 7 = .ok (.ifCond .lt 11, 3) := by decide +kernel
theorem dJ2_getChar_3b067_10 : decode cJ2_getChar_3b067 10 = .ok (.iload_n 1, 1) := by decide +kernel
theorem dJ2_getChar_3b067_11 : decode cJ2_getChar_3b067 11 = .ok (.aload_n 0, 1) := by decide +kernel
theorem dJ2_getChar_3b067_12 : decode cJ2_getChar_3b067 12 = .ok (.invokestatic 48, 3) := by decide +kernel
theorem dJ2_getChar_3b067_15 : decode cJ2_getChar_3b067 15 = .ok (.if_icmp .lt 13, 3) := by decide +kernel
theorem dJ2_getChar_3b067_18 : decode cJ2_getChar_3b067 18 = .ok (.new 52, 3) := by decide +kernel
theorem dJ2_getChar_3b067_21 : decode cJ2_getChar_3b067 21 = .ok (.dup, 1) := by decide +kernel
theorem dJ2_getChar_3b067_22 : decode cJ2_getChar_3b067 22 = .ok (.ldc 54, 2) := by decide +kernel
theorem dJ2_getChar_3b067_24 : decode cJ2_getChar_3b067 24 = .ok (.invokespecial 56, 3) := by decide +kernel
theorem dJ2_getChar_3b067_27 : decode cJ2_getChar_3b067 27 = .ok (.athrow, 1) := by decide +kernel
theorem dJ2_getChar_3b067_28 : decode cJ2_getChar_3b067 28 = .ok (.iload_n 1, 1) := by decide +kernel
theorem dJ2_getChar_3b067_29 : decode cJ2_getChar_3b067 29 = .ok (.iconst 1, 1) := by decide +kernel
theorem dJ2_getChar_3b067_30 : decode cJ2_getChar_3b067 30 = .ok (.ishl, 1) := by decide +kernel
theorem dJ2_getChar_3b067_31 : decode cJ2_getChar_3b067 31 = .ok (.istore_n 1, 1) := by decide +kernel
theorem dJ2_getChar_3b067_32 : decode cJ2_getChar_3b067 32 = .ok (.aload_n 0, 1) := by decide +kernel
theorem dJ2_getChar_3b067_33 : decode cJ2_getChar_3b067 33 = .ok (.iload_n 1, 1) := by decide +kernel
theorem dJ2_getChar_3b067_34 : decode cJ2_getChar_3b067 34 = .ok (.iinc 1 1, 3) := by decide +kernel
theorem dJ2_getChar_3b067_37 : decode cJ2_getChar_3b067 37 = .ok (.baload, 1) := by decide +kernel
theorem dJ2_getChar_3b067_38 : decode cJ2_getChar_3b067 38 = .ok (.sipush 255, 3) := by decide +kernel
theorem dJ2_getChar_3b067_41 : decode cJ2_getChar_3b067 41 = .ok (.iand, 1) := by decide +kernel
theorem dJ2_getChar_3b067_42 : decode cJ2_getChar_3b067 42 = .ok (.getstatic 59, 3) := by decide +kernel
theorem dJ2_getChar_3b067_45 : decode cJ2_getChar_3b067 45 = .ok (.ishl, 1) := by decide +kernel
theorem dJ2_getChar_3b067_46 : decode cJ2_getChar_3b067 46 = .ok (.aload_n 0, 1) := by decide +kernel
theorem dJ2_getChar_3b067_47 : decode cJ2_getChar_3b067 47 = .ok (.iload_n 1, 1) := by decide +kernel
theorem dJ2_getChar_3b067_48 : decode cJ2_getChar_3b067 48 = .ok (.baload, 1) := by decide +kernel
theorem dJ2_getChar_3b067_49 : decode cJ2_getChar_3b067 49 = .ok (.sipush 255, 3) := by decide +kernel
theorem dJ2_getChar_3b067_52 : decode cJ2_getChar_3b067 52 = .ok (.iand, 1) := by decide +kernel
theorem dJ2_getChar_3b067_53 : decode cJ2_getChar_3b067 53 = .ok (.getstatic 63, 3) := by decide +kernel
theorem dJ2_getChar_3b067_56 : decode cJ2_getChar_3b067 56 = .ok (.ishl, 1) := by decide +kernel
theorem dJ2_getChar_3b067_57 : decode cJ2_getChar_3b067 57 = .ok (.ior, 1) := by decide +kernel
theorem dJ2_getChar_3b067_58 : decode cJ2_getChar_3b067 58 = .ok (.i2c, 1) := by decide +kernel
theorem dJ2_getChar_3b067_59 : decode cJ2_getChar_3b067 59 = .ok (.ireturn, 1) := by decide +kernel
theorem dJ2_length_9d52b_0 : decode cJ2_length_9d52b 0 = .ok (.aload_n 0, 1) := by decide +kernel
theorem dJ2_length_9d52b_1 : decode cJ2_length_9d52b 1 = .ok (.arraylength, 1) := by decide +kernel
theorem dJ2_length_9d52b_2 : decode cJ2_length_9d52b 2 = .ok (.iconst 1, 1) := by decide +kernel
theorem dJ2_length_9d52b_3 : decode cJ2_length_9d52b 3 = .ok (.ishr, 1) := by decide +kernel
theorem dJ2_length_9d52b_4 : decode cJ2_length_9d52b 4 = .ok (.ireturn, 1) := by decide +kernel
set_option maxRecDepth 20000 in
theorem ggJ2_charAt_3b067_J2_checkIndex_2214a : GoodIn wsJ2_charAt_3b067 wsJ2_checkIndex_2214a := goodIn_r _ [4, 5, 6, 3, 7, 8, 9, 10, 11, 12, 13, 14, 15, 16] (by decide +kernel) (by decide +kernel)
set_option maxRecDepth 20000 in
theorem gJ2_charAt_3b067_J2_checkIndex_2214a : GoodIn wsJ2_charAt_3b067 (va_wsS RJ2 67 yJ2_checkIndex_2214a wsJ2_checkIndex_2214a) := goodIn_app (goodIn_of _ (by decide +kernel)) ggJ2_charAt_3b067_J2_checkIndex_2214a
set_option maxRecDepth 20000 in
theorem ggJ2_charAt_3b067_J2_getChar_3b067 : GoodIn wsJ2_charAt_3b067 wsJ2_getChar_3b067 := goodIn_r _ [19, 20, 21, 22, 5, 6, 3, 7] (by decide +kernel) (by decide +kernel)
set_option maxRecDepth 20000 in
theorem gJ2_charAt_3b067_J2_getChar_3b067 : GoodIn wsJ2_charAt_3b067 (va_wsS RJ2 71 yJ2_getChar_3b067 wsJ2_getChar_3b067) := goodIn_app (goodIn_of _ (by decide +kernel)) ggJ2_charAt_3b067_J2_getChar_3b067
theorem dJ2_charAt_3b067_0 : decode cJ2_charAt_3b067 0 = .ok (.iload_n 1, 1) := by decide +kernel
theorem dJ2_charAt_3b067_1 : decode cJ2_charAt_3b067 1 = .ok (.aload_n 0, 1) := by decide +kernel
theorem dJ2_charAt_3b067_2 : decode cJ2_charAt_3b067 2 = .ok (.invokestatic 67, 3) := by decide +kernel
theorem dJ2_charAt_3b067_5 : decode cJ2_charAt_3b067 5 = .ok (.aload_n 0, 1) := by decide +kernel
theorem dJ2_charAt_3b067_6 : decode cJ2_charAt_3b067 6 = .ok (.iload_n 1, 1) := by decide +kernel
theorem dJ2_charAt_3b067_7 : decode cJ2_charAt_3b067 7 = .ok (.invokestatic 71, 3) := by decide +kernel
theorem dJ2_charAt_3b067_10 : decode cJ2_charAt_3b067 10 = .ok (.ireturn, 1) := by decide +kernel
set_option maxRecDepth 20000 in
theorem ggJ2_checkIndex_2214a_J2_length_9d52b : GoodIn wsJ2_checkIndex_2214a wsJ2_length_9d52b := goodIn_r _ [4] (by decide +kernel) (by decide +kernel)
set_option maxRecDepth 20000 in
theorem gJ2_checkIndex_2214a_J2_length_9d52b : GoodIn wsJ2_checkIndex_2214a (va_wsS RJ2 48 yJ2_length_9d52b wsJ2_length_9d52b) := goodIn_app (goodIn_of _ (by decide +kernel)) ggJ2_checkIndex_2214a_J2_length_9d52b
set_option maxRecDepth 20000 in
theorem ggJ2_checkIndex_2214a_J0_checkIndex_df160 : GoodIn wsJ2_checkIndex_2214a wsJ0_checkIndex_df160 := goodIn_r _ [8, 9, 10, 11, 12, 13] (by decide +kernel) (by decide +kernel)
set_option maxRecDepth 20000 in
theorem gJ2_checkIndex_2214a_J0_checkIndex_df160 : GoodIn wsJ2_checkIndex_2214a (va_wsS RJ2 414 yJ0_checkIndex_df160 wsJ0_checkIndex_df160) := goodIn_app (goodIn_of _ (by decide +kernel)) ggJ2_checkIndex_2214a_J0_checkIndex_df160
theorem dJ2_checkIndex_2214a_0 : decode cJ2_checkIndex_2214a 0 = .ok (.iload_n 0, 1) := by decide +kernel
theorem dJ2_checkIndex_2214a_1 : decode cJ2_checkIndex_2214a 1 = .ok (.aload_n 1, 1) := by decide +kernel
theorem dJ2_checkIndex_2214a_2 : decode cJ2_checkIndex_2214a 2 = .ok (.invokestatic 48, 3) := by decide +kernel
theorem dJ2_checkIndex_2214a_5 : decode cJ2_checkIndex_2214a 5 = .ok (.invokestatic 414, 3) := by decide +kernel
theorem dJ2_checkIndex_2214a_8 : decode cJ2_checkIndex_2214a 8 = .ok (.return_, 1) := by decide +kernel
theorem dJ7_fill_d0a16_0 : decode cJ7_fill_d0a16 0 = .ok (.iconst 0, 1) := by decide +kernel
theorem dJ7_fill_d0a16_1 : decode cJ7_fill_d0a16 1 = .ok (.istore_n 3, 1) := by decide +kernel
theorem dJ7_fill_d0a16_2 : decode cJ7_fill_d0a16 2 = .ok (.aload_n 0, 1) := by decide +kernel
theorem dJ7_fill_d0a16_3 : decode cJ7_fill_d0a16 3 = .ok (.arraylength, 1) := by decide +kernel
theorem dJ7_fill_d0a16_4 : decode cJ7_fill_d0a16 4 = .ok (.istore 4, 2) := by decide +kernel
theorem dJ7_fill_d0a16_6 : decode cJ7_fill_d0a16 6 = .ok (.iload_n 3, 1) := by decide +kernel
theorem dJ7_fill_d0a16_7 : decode cJ7_fill_d0a16 7 = .ok (.iload 4, 2) := by decide +kernel
theorem dJ7_fill_d0a16_9 : decode cJ7_fill_d0a16 9 = .ok (.if_icmp .ge 13, 3) := by decide +kernel
theorem dJ7_fill_d0a16_12 : decode cJ7_fill_d0a16 12 = .ok (.aload_n 0, 1) := by decide +kernel
theorem dJ7_fill_d0a16_13 : decode cJ7_fill_d0a16 13 = .ok (.iload_n 3, 1) := by decide +kernel
theorem dJ7_fill_d0a16_14 : decode cJ7_fill_d0a16 14 = .ok (.lload_n 1, 1) := by decide +kernel
theorem dJ7_fill_d0a16_15 : decode cJ7_fill_d0a16 15 = .ok (.lastore, 1) := by decide +kernel
theorem dJ7_fill_d0a16_16 : decode cJ7_fill_d0a16 16 = .ok (.iinc 3 1, 3) := by decide +kernel
theorem dJ7_fill_d0a16_19 : decode cJ7_fill_d0a16 19 = .ok (.goto (-13), 3) := by decide +kernel
theorem dJ7_fill_d0a16_22 : decode cJ7_fill_d0a16 22 = .ok (.return_, 1) := by decide +kernel
theorem dJ7_fill_53178_0 : decode cJ7_fill_53178 0 = .ok (.iconst 0, 1) := by decide +kernel
theorem dJ7_fill_53178_1 : decode cJ7_fill_53178 1 = .ok (.istore_n 2, 1) := by decide +kernel
theorem dJ7_fill_53178_2 : decode cJ7_fill_53178 2 = .ok (.aload_n 0, 1) := by decide +kernel
theorem dJ7_fill_53178_3 : decode cJ7_fill_53178 3 = .ok (.arraylength, 1) := by decide +kernel
theorem dJ7_fill_53178_4 : decode cJ7_fill_53178 4 = .ok (.istore_n 3, 1) := by decide +kernel
theorem dJ7_fill_53178_5 : decode cJ7_fill_53178 5 = .ok (.iload_n 2, 1) := by decide +kernel
theorem dJ7_fill_53178_6 : decode cJ7_fill_53178 6 = .ok (.iload_n 3, 1) := by decide +kernel
theorem dJ7_fill_53178_7 : decode cJ7_fill_53178 7 = .ok (.if_icmp .ge 13, 3) := by decide +kernel
theorem dJ7_fill_53178_10 : decode cJ7_fill_53178 10 = .ok (.aload_n 0, 1) := by decide +kernel
theorem dJ7_fill_53178_11 : decode cJ7_fill_53178 11 = .ok (.iload_n 2, 1) := by decide +kernel
theorem dJ7_fill_53178_12 : decode cJ7_fill_53178 12 = .ok (.iload_n 1, 1) := by decide +kernel
theorem dJ7_fill_53178_13 : decode cJ7_fill_53178 13 = .ok (.iastore, 1) := by decide +kernel
theorem dJ7_fill_53178_14 : decode cJ7_fill_53178 14 = .ok (.iinc 2 1, 3) := by decide +kernel
theorem dJ7_fill_53178_17 : decode cJ7_fill_53178 17 = .ok (.goto (-12), 3) := by decide +kernel
theorem dJ7_fill_53178_20 : decode cJ7_fill_53178 20 = .ok (.return_, 1) := by decide +kernel
theorem dJ3_checkIndex_8e157_0 : decode cJ3_checkIndex_8e157 0 = .ok (.iload_n 0, 1) := by decide +kernel
theorem dJ3_checkIndex_8e157_1 : decode cJ3_checkIndex_8e157 1 = .ok (.ifCond .lt 8, 3) := by decide +kernel
theorem dJ3_checkIndex_8e157_4 : decode cJ3_checkIndex_8e157 4 = .ok (.iload_n 0, 1) := by decide +kernel
theorem dJ3_checkIndex_8e157_5 : decode cJ3_checkIndex_8e157 5 = .ok (.iload_n 1, 1) := by decide +kernel
theorem dJ3_checkIndex_8e157_6 : decode cJ3_checkIndex_8e157 6 = .ok (.if_icmp .lt 10, 3) := by decide +kernel
theorem dJ3_checkIndex_8e157_9 : decode cJ3_checkIndex_8e157 9 = .ok (.aload_n 2, 1) := by decide +kernel
theorem dJ3_checkIndex_8e157_10 : decode cJ3_checkIndex_8e157 10 = .ok (.iload_n 0, 1) := by decide +kernel
theorem dJ3_checkIndex_8e157_11 : decode cJ3_checkIndex_8e157 11 = .ok (.iload_n 1, 1) := by decide +kernel
theorem dJ3_checkIndex_8e157_12 : decode cJ3_checkIndex_8e157 12 = .ok (.invokestatic 95, 3) := by decide +kernel
theorem dJ3_checkIndex_8e157_15 : decode cJ3_checkIndex_8e157 15 = .ok (.athrow, 1) := by decide +kernel
theorem dJ3_checkIndex_8e157_16 : decode cJ3_checkIndex_8e157 16 = .ok (.iload_n 0, 1) := by decide +kernel
theorem dJ3_checkIndex_8e157_17 : decode cJ3_checkIndex_8e157 17 = .ok (.ireturn, 1) := by decide +kernel
set_option maxRecDepth 20000 in
theorem ggL_load_X7_load : GoodIn wsL_load wsX7_load := goodIn_ca (goodIn_r _ [6, 7, 8, 9, 10, 11, 12, 13, 14, 15, 16, 17, 18, 19, 20, 21, 22, 23, 24, 25, 26, 27, 28, 29, 30, 31, 32, 33, 34, 35, 36, 37, 38, 39, 40, 41, 42, 43, 44, 45, 46, 47, 48, 49, 50, 51, 52, 53, 54, 55, 56, 57, 58, 59, 60, 61, 62, 63, 64, 65, 66, 67, 68, 69, 70, 71, 72, 73, 74, 75, 76, 77, 78, 79, 80, 81, 82, 83, 84, 85, 86, 87, 88, 89, 90, 91, 92, 93, 94, 95, 96, 97, 98, 99, 100, 101, 102, 103, 104, 105, 106, 107, 108, 109, 110, 111, 112, 113, 114, 115, 116, 117, 118, 119, 120, 121, 122, 123, 124, 125, 126, 127, 128, 129, 130, 131, 132, 133, 134, 135, 136, 137, 138, 139, 140, 141, 142, 143, 144, 145, 146, 147, 148, 149, 150, 151, 152, 153, 154, 155, 156, 157, 158, 159, 160, 161, 162, 163, 164, 165, 166, 167, 168, 169, 170, 171, 172, 173, 174, 175, 176, 177, 178, 179, 180, 181, 182, 183, 184, 185, 186, 187, 188, 189, 190, 191, 192, 193, 194, 195, 196, 197, 198, 199, 200, 201, 202, 203, 204, 205, 206, 207, 208, 209, 210, 211, 212, 213, 214, 215, 216, 217, 218, 219, 220, 221, 222, 223, 224, 225, 226, 227, 228, 229, 230, 231, 232, 233, 234, 235, 236, 237, 238, 239, 240, 241, 242, 243, 244, 245, 246, 247, 248, 249, 250, 251, 252, 253, 254, 255, 256, 257, 258, 259, 260, 261, 262, 263, 264, 265, 266, 267, 268, 269, 270, 271, 272, 273, 274, 275, 276, 277, 278, 279, 280, 281, 282, 283, 284, 285, 286, 287, 288, 289, 290, 291, 292, 293, 294, 295, 296, 297, 298, 299, 300, 301, 302, 303, 304, 305, 306, 307, 308, 309, 310, 311, 312, 313, 314, 315, 316, 317, 318, 319, 320, 321, 322, 323] (by decide +kernel) (by decide +kernel)) (goodIn_sub (fun _ h => List.mem_cons_of_mem _ (List.mem_append_right _ h)) (by decide +kernel))
set_option maxRecDepth 20000 in
theorem gL_load_X7_load : GoodIn wsL_load (wsV RL 7 RX7 yX7_load wsX7_load) := goodIn_app (goodIn_of _ (by decide +kernel)) ggL_load_X7_load
theorem dL_load_0 : decode cL_load 0 = .ok (.aload_n 2, 1) := by decide +kernel
theorem dL_load_1 : decode cL_load 1 = .ok (.iconst 0, 1) := by decide +kernel
theorem dL_load_2 : decode cL_load 2 = .ok (.aload_n 0, 1) := by decide +kernel
theorem dL_load_3 : decode cL_load 3 = .ok (.iload_n 1, 1) := by decide +kernel
theorem dL_load_4 : decode cL_load 4 = .ok (.invokevirtual 7, 3) := by decide +kernel
theorem dL_load_7 : decode cL_load 7 = .ok (.i2l, 1) := by decide +kernel
theorem dL_load_8 : decode cL_load 8 = .ok (.lastore, 1) := by decide +kernel
theorem dL_load_9 : decode cL_load 9 = .ok (.goto 6, 3) := by decide +kernel
theorem dL_load_12 : decode cL_load 12 = .ok (.astore_n 3, 1) := by decide +kernel
theorem dL_load_13 : decode cL_load 13 = .ok (.iconst 1, 1) := by decide +kernel
theorem dL_load_14 : decode cL_load 14 = .ok (.ireturn, 1) := by decide +kernel
theorem dL_load_15 : decode cL_load 15 = .ok (.iconst 0, 1) := by decide +kernel
theorem dL_load_16 : decode cL_load 16 = .ok (.ireturn, 1) := by decide +kernel
set_option maxRecDepth 20000 in
theorem ggL_state_X7_state : GoodIn wsL_state wsX7_state := goodIn_ca (goodIn_r _ [6, 7, 8, 9, 10, 11, 12, 13, 14, 15, 16, 17, 18, 19, 20, 21, 22, 23, 24, 25, 26, 27, 28, 29, 30, 31, 32, 33, 34, 35, 36, 37, 38, 39, 40, 41, 42, 43, 44, 45, 46, 47, 48, 49, 50, 51, 52, 53, 54, 55, 56, 57, 58, 59, 60, 61, 62, 63, 64, 65, 66, 67, 68, 69, 70, 71, 72, 73, 74, 75, 76, 77, 78, 79, 80, 81, 82, 83, 84, 85, 86, 87, 88, 89, 90, 91, 92, 93, 94, 95, 96, 97, 98, 99, 100, 101] (by decide +kernel) (by decide +kernel)) (goodIn_sub (fun _ h => List.mem_cons_of_mem _ (List.mem_append_right _ h)) (by decide +kernel))
set_option maxRecDepth 20000 in
theorem gL_state_X7_state : GoodIn wsL_state (wsV RL 15 RX7 yX7_state wsX7_state) := goodIn_app (goodIn_of _ (by decide +kernel)) ggL_state_X7_state
theorem dL_state_0 : decode cL_state 0 = .ok (.aload_n 2, 1) := by decide +kernel
theorem dL_state_1 : decode cL_state 1 = .ok (.iconst 0, 1) := by decide +kernel
theorem dL_state_2 : decode cL_state 2 = .ok (.aload_n 0, 1) := by decide +kernel
theorem dL_state_3 : decode cL_state 3 = .ok (.iload_n 1, 1) := by decide +kernel
theorem dL_state_4 : decode cL_state 4 = .ok (.invokevirtual 15, 3) := by decide +kernel
theorem dL_state_7 : decode cL_state 7 = .ok (.i2l, 1) := by decide +kernel
theorem dL_state_8 : decode cL_state 8 = .ok (.lastore, 1) := by decide +kernel
theorem dL_state_9 : decode cL_state 9 = .ok (.goto 6, 3) := by decide +kernel
theorem dL_state_12 : decode cL_state 12 = .ok (.astore_n 3, 1) := by decide +kernel
theorem dL_state_13 : decode cL_state 13 = .ok (.iconst 1, 1) := by decide +kernel
theorem dL_state_14 : decode cL_state 14 = .ok (.ireturn, 1) := by decide +kernel
theorem dL_state_15 : decode cL_state 15 = .ok (.iconst 0, 1) := by decide +kernel
theorem dL_state_16 : decode cL_state 16 = .ok (.ireturn, 1) := by decide +kernel
set_option maxRecDepth 20000 in
theorem ggL_row_X7_row : GoodIn wsL_row wsX7_row := goodIn_ca (goodIn_ca (goodIn_r _ [7, 8, 9, 10, 11, 12, 13, 6, 14, 15, 16, 17, 18, 19, 20, 21, 22, 23, 24, 25, 26, 27, 28, 29, 30, 31, 32, 33, 34, 35, 36, 37, 38, 39, 40, 41, 42, 43, 44, 45, 46, 47, 48, 49, 50, 51, 52, 53, 54, 55, 56, 57, 58, 59, 60, 61] (by decide +kernel) (by decide +kernel)) (goodIn_sub (fun _ h => List.mem_cons_of_mem _ (List.mem_append_left _ (List.mem_append_right _ h))) (by decide +kernel))) (goodIn_sub (fun _ h => List.mem_cons_of_mem _ (List.mem_append_right _ h)) (by decide +kernel))
set_option maxRecDepth 20000 in
theorem gL_row_X7_row : GoodIn wsL_row (wsV RL 18 RX7 yX7_row wsX7_row) := goodIn_app (goodIn_of _ (by decide +kernel)) ggL_row_X7_row
theorem dL_row_0 : decode cL_row 0 = .ok (.aload_n 3, 1) := by decide +kernel
theorem dL_row_1 : decode cL_row 1 = .ok (.iconst 0, 1) := by decide +kernel
theorem dL_row_2 : decode cL_row 2 = .ok (.aload_n 0, 1) := by decide +kernel
theorem dL_row_3 : decode cL_row 3 = .ok (.iload_n 1, 1) := by decide +kernel
theorem dL_row_4 : decode cL_row 4 = .ok (.iload_n 2, 1) := by decide +kernel
theorem dL_row_5 : decode cL_row 5 = .ok (.invokevirtual 18, 3) := by decide +kernel
theorem dL_row_8 : decode cL_row 8 = .ok (.i2l, 1) := by decide +kernel
theorem dL_row_9 : decode cL_row 9 = .ok (.lastore, 1) := by decide +kernel
theorem dL_row_10 : decode cL_row 10 = .ok (.goto 11, 3) := by decide +kernel
theorem dL_row_13 : decode cL_row 13 = .ok (.astore 4, 2) := by decide +kernel
theorem dL_row_15 : decode cL_row 15 = .ok (.iconst 1, 1) := by decide +kernel
theorem dL_row_16 : decode cL_row 16 = .ok (.ireturn, 1) := by decide +kernel
theorem dL_row_17 : decode cL_row 17 = .ok (.astore 4, 2) := by decide +kernel
theorem dL_row_19 : decode cL_row 19 = .ok (.iconst 2, 1) := by decide +kernel
theorem dL_row_20 : decode cL_row 20 = .ok (.ireturn, 1) := by decide +kernel
theorem dL_row_21 : decode cL_row 21 = .ok (.iconst 0, 1) := by decide +kernel
theorem dL_row_22 : decode cL_row 22 = .ok (.ireturn, 1) := by decide +kernel
set_option maxRecDepth 20000 in
theorem ggL_tile_X7_tile : GoodIn wsL_tile wsX7_tile := goodIn_ca (goodIn_ca (goodIn_r _ [7, 8, 9, 10, 11, 12, 13, 14, 15, 6, 16, 17, 18, 19, 20, 21, 22, 23, 24, 25, 26, 27, 28, 29, 30, 31, 32, 33, 34, 35, 36, 37, 38, 39, 40, 41, 42, 43, 44, 45, 46, 47, 48, 49, 50, 51, 52, 53, 54, 55] (by decide +kernel) (by decide +kernel)) (goodIn_sub (fun _ h => List.mem_cons_of_mem _ (List.mem_append_left _ (List.mem_append_right _ h))) (by decide +kernel))) (goodIn_sub (fun _ h => List.mem_cons_of_mem _ (List.mem_append_right _ h)) (by decide +kernel))
set_option maxRecDepth 20000 in
theorem gL_tile_X7_tile : GoodIn wsL_tile (wsV RL 24 RX7 yX7_tile wsX7_tile) := goodIn_app (goodIn_of _ (by decide +kernel)) ggL_tile_X7_tile
theorem dL_tile_0 : decode cL_tile 0 = .ok (.aload_n 3, 1) := by decide +kernel
theorem dL_tile_1 : decode cL_tile 1 = .ok (.iconst 0, 1) := by decide +kernel
theorem dL_tile_2 : decode cL_tile 2 = .ok (.aload_n 0, 1) := by decide +kernel
theorem dL_tile_3 : decode cL_tile 3 = .ok (.iload_n 1, 1) := by decide +kernel
theorem dL_tile_4 : decode cL_tile 4 = .ok (.iload_n 2, 1) := by decide +kernel
theorem dL_tile_5 : decode cL_tile 5 = .ok (.invokevirtual 24, 3) := by decide +kernel
theorem dL_tile_8 : decode cL_tile 8 = .ok (.i2l, 1) := by decide +kernel
theorem dL_tile_9 : decode cL_tile 9 = .ok (.lastore, 1) := by decide +kernel
theorem dL_tile_10 : decode cL_tile 10 = .ok (.goto 11, 3) := by decide +kernel
theorem dL_tile_13 : decode cL_tile 13 = .ok (.astore 4, 2) := by decide +kernel
theorem dL_tile_15 : decode cL_tile 15 = .ok (.iconst 1, 1) := by decide +kernel
theorem dL_tile_16 : decode cL_tile 16 = .ok (.ireturn, 1) := by decide +kernel
theorem dL_tile_17 : decode cL_tile 17 = .ok (.astore 4, 2) := by decide +kernel
theorem dL_tile_19 : decode cL_tile 19 = .ok (.iconst 2, 1) := by decide +kernel
theorem dL_tile_20 : decode cL_tile 20 = .ok (.ireturn, 1) := by decide +kernel
theorem dL_tile_21 : decode cL_tile 21 = .ok (.iconst 0, 1) := by decide +kernel
theorem dL_tile_22 : decode cL_tile 22 = .ok (.ireturn, 1) := by decide +kernel
set_option maxRecDepth 20000 in
theorem ggL_player_X7_player : GoodIn wsL_player wsX7_player := goodIn_ca (goodIn_ca (goodIn_r _ [7, 8, 9, 10, 11, 12, 13, 6, 14, 15, 16, 17, 18, 19, 20, 21, 22, 23, 24, 25, 26, 27, 28, 29, 30, 31, 32, 33, 34, 35, 36, 37, 38, 39, 40, 41, 42, 43, 44, 45, 46, 47, 48, 49, 50, 51, 52, 53, 54, 55, 56, 57, 58, 59, 60, 61, 62, 63, 64, 65, 66, 67, 68, 69, 70, 71, 72, 73, 74] (by decide +kernel) (by decide +kernel)) (goodIn_sub (fun _ h => List.mem_cons_of_mem _ (List.mem_append_left _ (List.mem_append_right _ h))) (by decide +kernel))) (goodIn_sub (fun _ h => List.mem_cons_of_mem _ (List.mem_append_right _ h)) (by decide +kernel))
set_option maxRecDepth 20000 in
theorem gL_player_X7_player : GoodIn wsL_player (wsV RL 29 RX7 yX7_player wsX7_player) := goodIn_app (goodIn_of _ (by decide +kernel)) ggL_player_X7_player
theorem dL_player_0 : decode cL_player 0 = .ok (.aload_n 3, 1) := by decide +kernel
theorem dL_player_1 : decode cL_player 1 = .ok (.iconst 0, 1) := by decide +kernel
theorem dL_player_2 : decode cL_player 2 = .ok (.aload_n 0, 1) := by decide +kernel
theorem dL_player_3 : decode cL_player 3 = .ok (.iload_n 1, 1) := by decide +kernel
theorem dL_player_4 : decode cL_player 4 = .ok (.iload_n 2, 1) := by decide +kernel
theorem dL_player_5 : decode cL_player 5 = .ok (.invokevirtual 29, 3) := by decide +kernel
theorem dL_player_8 : decode cL_player 8 = .ok (.i2l, 1) := by decide +kernel
theorem dL_player_9 : decode cL_player 9 = .ok (.lastore, 1) := by decide +kernel
theorem dL_player_10 : decode cL_player 10 = .ok (.goto 11, 3) := by decide +kernel
theorem dL_player_13 : decode cL_player 13 = .ok (.astore 4, 2) := by decide +kernel
theorem dL_player_15 : decode cL_player 15 = .ok (.iconst 1, 1) := by decide +kernel
theorem dL_player_16 : decode cL_player 16 = .ok (.ireturn, 1) := by decide +kernel
theorem dL_player_17 : decode cL_player 17 = .ok (.astore 4, 2) := by decide +kernel
theorem dL_player_19 : decode cL_player 19 = .ok (.iconst 2, 1) := by decide +kernel
theorem dL_player_20 : decode cL_player 20 = .ok (.ireturn, 1) := by decide +kernel
theorem dL_player_21 : decode cL_player 21 = .ok (.iconst 0, 1) := by decide +kernel
theorem dL_player_22 : decode cL_player 22 = .ok (.ireturn, 1) := by decide +kernel
set_option maxRecDepth 20000 in
theorem ggL_letter_X7_letter : GoodIn wsL_letter wsX7_letter := goodIn_ca (goodIn_ca (goodIn_r _ [7, 8, 9, 10, 11, 12, 13, 6, 14, 15, 16, 17, 18, 19, 20, 21, 22, 23, 24, 25, 26, 27, 28, 29, 30, 31, 32, 33, 34, 35, 36, 37, 38, 39, 40, 41, 42, 43, 44, 45, 46, 47, 48, 49, 50, 51, 52, 53, 54, 55, 56, 57, 58, 59, 60, 61, 62, 63, 64, 65, 66, 67] (by decide +kernel) (by decide +kernel)) (goodIn_sub (fun _ h => List.mem_cons_of_mem _ (List.mem_append_left _ (List.mem_append_right _ h))) (by decide +kernel))) (goodIn_sub (fun _ h => List.mem_cons_of_mem _ (List.mem_append_right _ h)) (by decide +kernel))
set_option maxRecDepth 20000 in
theorem gL_letter_X7_letter : GoodIn wsL_letter (wsV RL 32 RX7 yX7_letter wsX7_letter) := goodIn_app (goodIn_of _ (by decide +kernel)) ggL_letter_X7_letter
theorem dL_letter_0 : decode cL_letter 0 = .ok (.aload 4, 2) := by decide +kernel
theorem dL_letter_2 : decode cL_letter 2 = .ok (.iconst 0, 1) := by decide +kernel
theorem dL_letter_3 : decode cL_letter 3 = .ok (.aload_n 0, 1) := by decide +kernel
theorem dL_letter_4 : decode cL_letter 4 = .ok (.iload_n 1, 1) := by decide +kernel
theorem dL_letter_5 : decode cL_letter 5 = .ok (.iload_n 2, 1) := by decide +kernel
theorem dL_letter_6 : decode cL_letter 6 = .ok (.iload_n 3, 1) := by decide +kernel
theorem dL_letter_7 : decode cL_letter 7 = .ok (.invokevirtual 32, 3) := by decide +kernel
theorem dL_letter_10 : decode cL_letter 10 = .ok (.i2l, 1) := by decide +kernel
theorem dL_letter_11 : decode cL_letter 11 = .ok (.lastore, 1) := by decide +kernel
theorem dL_letter_12 : decode cL_letter 12 = .ok (.goto 11, 3) := by decide +kernel
theorem dL_letter_15 : decode cL_letter 15 = .ok (.astore 5, 2) := by decide +kernel
theorem dL_letter_17 : decode cL_letter 17 = .ok (.iconst 1, 1) := by decide +kernel
theorem dL_letter_18 : decode cL_letter 18 = .ok (.ireturn, 1) := by decide +kernel
theorem dL_letter_19 : decode cL_letter 19 = .ok (.astore 5, 2) := by decide +kernel
theorem dL_letter_21 : decode cL_letter 21 = .ok (.iconst 2, 1) := by decide +kernel
theorem dL_letter_22 : decode cL_letter 22 = .ok (.ireturn, 1) := by decide +kernel
theorem dL_letter_23 : decode cL_letter 23 = .ok (.iconst 0, 1) := by decide +kernel
theorem dL_letter_24 : decode cL_letter 24 = .ok (.ireturn, 1) := by decide +kernel
set_option maxRecDepth 20000 in
theorem ggL_alike_X7_alike : GoodIn wsL_alike wsX7_alike := goodIn_ca (goodIn_r _ [6, 7, 8, 9, 10, 11, 12, 13, 14, 15, 16, 17, 18, 19, 20, 21, 22, 23, 24, 25, 26, 27, 28, 29, 30, 31, 32, 33, 34, 35, 36, 37, 38, 39, 40] (by decide +kernel) (by decide +kernel)) (goodIn_sub (fun _ h => List.mem_cons_of_mem _ (List.mem_append_right _ h)) (by decide +kernel))
set_option maxRecDepth 20000 in
theorem gL_alike_X7_alike : GoodIn wsL_alike (wsV RL 36 RX7 yX7_alike wsX7_alike) := goodIn_app (goodIn_of _ (by decide +kernel)) ggL_alike_X7_alike
theorem dL_alike_0 : decode cL_alike 0 = .ok (.aload_n 3, 1) := by decide +kernel
theorem dL_alike_1 : decode cL_alike 1 = .ok (.iconst 0, 1) := by decide +kernel
theorem dL_alike_2 : decode cL_alike 2 = .ok (.aload_n 0, 1) := by decide +kernel
theorem dL_alike_3 : decode cL_alike 3 = .ok (.iload_n 1, 1) := by decide +kernel
theorem dL_alike_4 : decode cL_alike 4 = .ok (.iload_n 2, 1) := by decide +kernel
theorem dL_alike_5 : decode cL_alike 5 = .ok (.invokevirtual 36, 3) := by decide +kernel
theorem dL_alike_8 : decode cL_alike 8 = .ok (.ifCond .eq 7, 3) := by decide +kernel
theorem dL_alike_11 : decode cL_alike 11 = .ok (.lconst 1, 1) := by decide +kernel
theorem dL_alike_12 : decode cL_alike 12 = .ok (.goto 4, 3) := by decide +kernel
theorem dL_alike_15 : decode cL_alike 15 = .ok (.lconst 0, 1) := by decide +kernel
theorem dL_alike_16 : decode cL_alike 16 = .ok (.lastore, 1) := by decide +kernel
theorem dL_alike_17 : decode cL_alike 17 = .ok (.goto 7, 3) := by decide +kernel
theorem dL_alike_20 : decode cL_alike 20 = .ok (.astore 4, 2) := by decide +kernel
theorem dL_alike_22 : decode cL_alike 22 = .ok (.iconst 1, 1) := by decide +kernel
theorem dL_alike_23 : decode cL_alike 23 = .ok (.ireturn, 1) := by decide +kernel
theorem dL_alike_24 : decode cL_alike 24 = .ok (.iconst 0, 1) := by decide +kernel
theorem dL_alike_25 : decode cL_alike 25 = .ok (.ireturn, 1) := by decide +kernel
set_option maxRecDepth 20000 in
theorem ggL_rhyme_X7_rhyme : GoodIn wsL_rhyme wsX7_rhyme := goodIn_ca (goodIn_r _ [6, 7, 8, 9, 10, 11, 12, 13, 5, 14, 15, 16, 17, 18, 19, 20, 21, 22, 23, 24, 25, 26, 27, 28, 29, 30, 31, 32, 33, 34, 35, 36, 37, 38, 39, 40, 41, 42, 43, 44, 45, 46, 47, 48, 49, 50, 51, 52, 53, 54, 55, 56, 57, 58, 59, 60, 61, 62, 63, 64, 65, 66, 67, 68, 69] (by decide +kernel) (by decide +kernel)) (goodIn_sub (fun _ h => List.mem_cons_of_mem _ (List.mem_append_right _ h)) (by decide +kernel))
set_option maxRecDepth 20000 in
theorem gL_rhyme_X7_rhyme : GoodIn wsL_rhyme (wsV RL 40 RX7 yX7_rhyme wsX7_rhyme) := goodIn_app (goodIn_of _ (by decide +kernel)) ggL_rhyme_X7_rhyme
theorem dL_rhyme_0 : decode cL_rhyme 0 = .ok (.aload 4, 2) := by decide +kernel
theorem dL_rhyme_2 : decode cL_rhyme 2 = .ok (.iconst 0, 1) := by decide +kernel
theorem dL_rhyme_3 : decode cL_rhyme 3 = .ok (.aload_n 0, 1) := by decide +kernel
theorem dL_rhyme_4 : decode cL_rhyme 4 = .ok (.iload_n 1, 1) := by decide +kernel
theorem dL_rhyme_5 : decode cL_rhyme 5 = .ok (.iload_n 2, 1) := by decide +kernel
theorem dL_rhyme_6 : decode cL_rhyme 6 = .ok (.iload_n 3, 1) := by decide +kernel
theorem dL_rhyme_7 : decode cL_rhyme 7 = .ok (.invokevirtual 40, 3) := by decide +kernel
theorem dL_rhyme_10 : decode cL_rhyme 10 = .ok (.i2l, 1) := by decide +kernel
theorem dL_rhyme_11 : decode cL_rhyme 11 = .ok (.lastore, 1) := by decide +kernel
theorem dL_rhyme_12 : decode cL_rhyme 12 = .ok (.goto 7, 3) := by decide +kernel
theorem dL_rhyme_15 : decode cL_rhyme 15 = .ok (.astore 5, 2) := by decide +kernel
theorem dL_rhyme_17 : decode cL_rhyme 17 = .ok (.iconst 1, 1) := by decide +kernel
theorem dL_rhyme_18 : decode cL_rhyme 18 = .ok (.ireturn, 1) := by decide +kernel
theorem dL_rhyme_19 : decode cL_rhyme 19 = .ok (.iconst 0, 1) := by decide +kernel
theorem dL_rhyme_20 : decode cL_rhyme 20 = .ok (.ireturn, 1) := by decide +kernel
set_option maxRecDepth 20000 in
theorem ggL_why_X7_why : GoodIn wsL_why wsX7_why := goodIn_ca (goodIn_r _ [6, 7, 8, 9, 10, 11, 5, 12, 13, 14, 15, 16, 17, 18, 19, 20, 21, 22, 23, 24, 25, 26, 27, 28, 29, 30, 31, 32, 33, 34, 35, 36, 37, 38, 39, 40, 41, 42, 43, 44, 45, 46, 47, 48, 49, 50, 51, 52, 53, 54, 55, 56, 57, 58, 59, 60, 61, 62, 63, 64, 65, 66, 67, 68, 69, 70, 71, 72, 73, 74, 75, 76, 77, 78, 79, 80, 81, 82, 83, 84, 85, 86, 87] (by decide +kernel) (by decide +kernel)) (goodIn_sub (fun _ h => List.mem_cons_of_mem _ (List.mem_append_right _ h)) (by decide +kernel))
set_option maxRecDepth 20000 in
theorem gL_why_X7_why : GoodIn wsL_why (wsV RL 43 RX7 yX7_why wsX7_why) := goodIn_app (goodIn_of _ (by decide +kernel)) ggL_why_X7_why
theorem dL_why_0 : decode cL_why 0 = .ok (.aload_n 3, 1) := by decide +kernel
theorem dL_why_1 : decode cL_why 1 = .ok (.iconst 0, 1) := by decide +kernel
theorem dL_why_2 : decode cL_why 2 = .ok (.aload_n 0, 1) := by decide +kernel
theorem dL_why_3 : decode cL_why 3 = .ok (.iload_n 1, 1) := by decide +kernel
theorem dL_why_4 : decode cL_why 4 = .ok (.iload_n 2, 1) := by decide +kernel
theorem dL_why_5 : decode cL_why 5 = .ok (.invokevirtual 43, 3) := by decide +kernel
theorem dL_why_8 : decode cL_why 8 = .ok (.i2l, 1) := by decide +kernel
theorem dL_why_9 : decode cL_why 9 = .ok (.lastore, 1) := by decide +kernel
theorem dL_why_10 : decode cL_why 10 = .ok (.goto 7, 3) := by decide +kernel
theorem dL_why_13 : decode cL_why 13 = .ok (.astore 4, 2) := by decide +kernel
theorem dL_why_15 : decode cL_why 15 = .ok (.iconst 1, 1) := by decide +kernel
theorem dL_why_16 : decode cL_why 16 = .ok (.ireturn, 1) := by decide +kernel
theorem dL_why_17 : decode cL_why 17 = .ok (.iconst 0, 1) := by decide +kernel
theorem dL_why_18 : decode cL_why 18 = .ok (.ireturn, 1) := by decide +kernel
set_option maxRecDepth 20000 in
theorem ggL_play_X7_play : GoodIn wsL_play wsX7_play := goodIn_ca (goodIn_ca (goodIn_ca (goodIn_r _ [8, 9, 10, 11, 12, 13, 14, 15, 16, 17, 7, 18, 19, 20, 21, 22, 23, 24, 25, 26, 27, 28, 29, 30, 31, 32, 33, 34, 35, 36, 37, 38, 39, 40, 41, 42, 43, 44, 45, 46, 47, 48, 49, 50, 51, 52, 53, 54, 55, 56, 57, 58, 59, 60, 61, 62, 63, 64, 65, 66, 67, 68, 69, 70, 71, 72, 73, 74, 75, 76, 77, 78, 79, 80, 81, 82, 83, 84, 85, 86, 87, 88, 89, 90, 91, 92, 93, 94, 95, 96, 97, 98, 99, 100, 101, 102, 103, 104, 105, 106, 107, 108, 109, 110, 111, 112, 113, 114, 115, 116, 117, 118, 119, 120, 121, 122, 123, 124, 125, 126, 127, 128] (by decide +kernel) (by decide +kernel)) (goodIn_sub (fun _ h => List.mem_cons_of_mem _ (List.mem_append_left _ (List.mem_append_left _ (List.mem_append_right _ h)))) (by decide +kernel))) (goodIn_sub (fun _ h => List.mem_cons_of_mem _ (List.mem_append_left _ (List.mem_append_right _ h))) (by decide +kernel))) (goodIn_sub (fun _ h => List.mem_cons_of_mem _ (List.mem_append_right _ h)) (by decide +kernel))
set_option maxRecDepth 20000 in
theorem gL_play_X7_play : GoodIn wsL_play (wsV RL 46 RX7 yX7_play wsX7_play) := goodIn_app (goodIn_of _ (by decide +kernel)) ggL_play_X7_play
theorem dL_play_0 : decode cL_play 0 = .ok (.aload 4, 2) := by decide +kernel
theorem dL_play_2 : decode cL_play 2 = .ok (.iconst 0, 1) := by decide +kernel
theorem dL_play_3 : decode cL_play 3 = .ok (.aload_n 0, 1) := by decide +kernel
theorem dL_play_4 : decode cL_play 4 = .ok (.iload_n 1, 1) := by decide +kernel
theorem dL_play_5 : decode cL_play 5 = .ok (.iload_n 2, 1) := by decide +kernel
theorem dL_play_6 : decode cL_play 6 = .ok (.iload_n 3, 1) := by decide +kernel
theorem dL_play_7 : decode cL_play 7 = .ok (.invokevirtual 46, 3) := by decide +kernel
theorem dL_play_10 : decode cL_play 10 = .ok (.i2l, 1) := by decide +kernel
theorem dL_play_11 : decode cL_play 11 = .ok (.lastore, 1) := by decide +kernel
theorem dL_play_12 : decode cL_play 12 = .ok (.goto 15, 3) := by decide +kernel
theorem dL_play_15 : decode cL_play 15 = .ok (.astore 5, 2) := by decide +kernel
theorem dL_play_17 : decode cL_play 17 = .ok (.iconst 1, 1) := by decide +kernel
theorem dL_play_18 : decode cL_play 18 = .ok (.ireturn, 1) := by decide +kernel
theorem dL_play_19 : decode cL_play 19 = .ok (.astore 5, 2) := by decide +kernel
theorem dL_play_21 : decode cL_play 21 = .ok (.iconst 2, 1) := by decide +kernel
theorem dL_play_22 : decode cL_play 22 = .ok (.ireturn, 1) := by decide +kernel
theorem dL_play_23 : decode cL_play 23 = .ok (.astore 5, 2) := by decide +kernel
theorem dL_play_25 : decode cL_play 25 = .ok (.iconst 3, 1) := by decide +kernel
theorem dL_play_26 : decode cL_play 26 = .ok (.ireturn, 1) := by decide +kernel
theorem dL_play_27 : decode cL_play 27 = .ok (.iconst 0, 1) := by decide +kernel
theorem dL_play_28 : decode cL_play 28 = .ok (.ireturn, 1) := by decide +kernel
set_option maxRecDepth 20000 in
theorem ggL_chain_X7_chain : GoodIn wsL_chain wsX7_chain := goodIn_ca (goodIn_r _ [6, 7, 8, 9, 10, 11, 12, 5, 13, 14, 15, 16, 17, 18, 19, 20, 21, 22, 23, 24, 25, 26, 27, 28, 29, 30, 31, 32, 33, 34, 35, 36, 37, 38, 39, 40, 41, 42, 43, 44, 45, 46, 47, 48, 49, 50, 51, 52, 53, 54, 55, 56, 57, 58, 59, 60, 61, 62, 63, 64, 65, 66, 67, 68, 69, 70, 71, 72, 73, 74, 75, 76, 77, 78, 79, 80, 81, 82, 83, 84, 85, 86, 87, 88, 89, 90, 91, 92, 93, 94, 95, 96, 97, 98, 99, 100, 101, 102, 103, 104, 105, 106, 107, 108, 109, 110, 111, 112, 113, 114, 115, 116, 117, 118, 119, 120, 121, 122, 123, 124, 125, 126, 127, 128, 129, 130, 131, 132, 133, 134, 135, 136, 137, 138, 139, 140, 141, 142, 143, 144, 145, 146, 147, 148, 149, 150, 151, 152, 153, 154, 155, 156, 157] (by decide +kernel) (by decide +kernel)) (goodIn_sub (fun _ h => List.mem_cons_of_mem _ (List.mem_append_right _ h)) (by decide +kernel))
set_option maxRecDepth 20000 in
theorem gL_chain_X7_chain : GoodIn wsL_chain (wsV RL 49 RX7 yX7_chain wsX7_chain) := goodIn_app (goodIn_of _ (by decide +kernel)) ggL_chain_X7_chain
theorem dL_chain_0 : decode cL_chain 0 = .ok (.aload_n 3, 1) := by decide +kernel
theorem dL_chain_1 : decode cL_chain 1 = .ok (.iconst 0, 1) := by decide +kernel
theorem dL_chain_2 : decode cL_chain 2 = .ok (.aload_n 0, 1) := by decide +kernel
theorem dL_chain_3 : decode cL_chain 3 = .ok (.iload_n 1, 1) := by decide +kernel
theorem dL_chain_4 : decode cL_chain 4 = .ok (.iload_n 2, 1) := by decide +kernel
theorem dL_chain_5 : decode cL_chain 5 = .ok (.invokevirtual 49, 3) := by decide +kernel
theorem dL_chain_8 : decode cL_chain 8 = .ok (.i2l, 1) := by decide +kernel
theorem dL_chain_9 : decode cL_chain 9 = .ok (.lastore, 1) := by decide +kernel
theorem dL_chain_10 : decode cL_chain 10 = .ok (.goto 7, 3) := by decide +kernel
theorem dL_chain_13 : decode cL_chain 13 = .ok (.astore 4, 2) := by decide +kernel
theorem dL_chain_15 : decode cL_chain 15 = .ok (.iconst 1, 1) := by decide +kernel
theorem dL_chain_16 : decode cL_chain 16 = .ok (.ireturn, 1) := by decide +kernel
theorem dL_chain_17 : decode cL_chain 17 = .ok (.iconst 0, 1) := by decide +kernel
theorem dL_chain_18 : decode cL_chain 18 = .ok (.ireturn, 1) := by decide +kernel
set_option maxRecDepth 20000 in
theorem ggL_worth_X7_worth : GoodIn wsL_worth wsX7_worth := goodIn_ca (goodIn_r _ [6, 7, 8, 9, 10, 11, 12, 5, 13, 14, 15, 16, 17, 18, 19, 20, 21, 22, 23, 24, 25, 26, 27, 28, 29, 30, 31, 32, 33, 34, 35, 36, 37, 38, 39, 40, 41, 42, 43, 44, 45, 46, 47, 48, 49, 50, 51, 52, 53, 54, 55, 56, 57, 58, 59, 60, 61, 62, 63, 64, 65, 66, 67, 68, 69, 70, 71, 72, 73, 74, 75, 76, 77, 78, 79, 80, 81, 82, 83, 84, 85, 86, 87, 88, 89, 90, 91, 92, 93, 94, 95, 96, 97, 98, 99, 100, 101, 102, 103, 104, 105, 106, 107, 108, 109, 110, 111, 112, 113, 114, 115, 116, 117, 118, 119, 120, 121, 122, 123, 124, 125, 126, 127, 128, 129, 130, 131, 132, 133, 134, 135, 136, 137, 138, 139, 140, 141, 142, 143, 144, 145, 146, 147, 148, 149, 150, 151, 152, 153, 154, 155, 156, 157] (by decide +kernel) (by decide +kernel)) (goodIn_sub (fun _ h => List.mem_cons_of_mem _ (List.mem_append_right _ h)) (by decide +kernel))
set_option maxRecDepth 20000 in
theorem gL_worth_X7_worth : GoodIn wsL_worth (wsV RL 52 RX7 yX7_worth wsX7_worth) := goodIn_app (goodIn_of _ (by decide +kernel)) ggL_worth_X7_worth
theorem dL_worth_0 : decode cL_worth 0 = .ok (.aload_n 3, 1) := by decide +kernel
theorem dL_worth_1 : decode cL_worth 1 = .ok (.iconst 0, 1) := by decide +kernel
theorem dL_worth_2 : decode cL_worth 2 = .ok (.aload_n 0, 1) := by decide +kernel
theorem dL_worth_3 : decode cL_worth 3 = .ok (.iload_n 1, 1) := by decide +kernel
theorem dL_worth_4 : decode cL_worth 4 = .ok (.iload_n 2, 1) := by decide +kernel
theorem dL_worth_5 : decode cL_worth 5 = .ok (.invokevirtual 52, 3) := by decide +kernel
theorem dL_worth_8 : decode cL_worth 8 = .ok (.i2l, 1) := by decide +kernel
theorem dL_worth_9 : decode cL_worth 9 = .ok (.lastore, 1) := by decide +kernel
theorem dL_worth_10 : decode cL_worth 10 = .ok (.goto 7, 3) := by decide +kernel
theorem dL_worth_13 : decode cL_worth 13 = .ok (.astore 4, 2) := by decide +kernel
theorem dL_worth_15 : decode cL_worth 15 = .ok (.iconst 1, 1) := by decide +kernel
theorem dL_worth_16 : decode cL_worth 16 = .ok (.ireturn, 1) := by decide +kernel
theorem dL_worth_17 : decode cL_worth 17 = .ok (.iconst 0, 1) := by decide +kernel
theorem dL_worth_18 : decode cL_worth 18 = .ok (.ireturn, 1) := by decide +kernel
set_option maxRecDepth 20000 in
theorem ggL_fillings_X7_fillings : GoodIn wsL_fillings wsX7_fillings := goodIn_ca (goodIn_r _ [6, 7, 8, 9, 10, 11, 12, 5, 13, 14, 15, 16, 17, 18, 19, 20, 21, 22, 23, 24, 25, 26, 27, 28, 29, 30, 31, 32, 33, 34, 35, 36, 37, 38, 39, 40, 41, 42, 43, 44, 45, 46, 47, 48, 49, 50, 51, 52, 53, 54, 55, 56, 57, 58, 59, 60, 61, 62, 63, 64, 65, 66, 67, 68, 69, 70, 71, 72, 73, 74, 75, 76, 77, 78, 79, 80, 81, 82, 83, 84, 85, 86, 87, 88, 89, 90, 91, 92, 93, 94, 95, 96, 97, 98, 99, 100, 101, 102, 103, 104, 105, 106, 107, 108, 109, 110, 111, 112, 113, 114, 115, 116, 117, 118, 119, 120, 121, 122, 123, 124, 125, 126, 127, 128, 129, 130, 131, 132, 133, 134, 135, 136, 137, 138, 139, 140, 141, 142, 143, 144, 145, 146, 147, 148, 149, 150, 151, 152, 153, 154, 155, 156, 157, 158] (by decide +kernel) (by decide +kernel)) (goodIn_sub (fun _ h => List.mem_cons_of_mem _ (List.mem_append_right _ h)) (by decide +kernel))
set_option maxRecDepth 20000 in
theorem gL_fillings_X7_fillings : GoodIn wsL_fillings (wsV RL 55 RX7 yX7_fillings wsX7_fillings) := goodIn_app (goodIn_of _ (by decide +kernel)) ggL_fillings_X7_fillings
theorem dL_fillings_0 : decode cL_fillings 0 = .ok (.aload_n 3, 1) := by decide +kernel
theorem dL_fillings_1 : decode cL_fillings 1 = .ok (.iconst 0, 1) := by decide +kernel
theorem dL_fillings_2 : decode cL_fillings 2 = .ok (.aload_n 0, 1) := by decide +kernel
theorem dL_fillings_3 : decode cL_fillings 3 = .ok (.iload_n 1, 1) := by decide +kernel
theorem dL_fillings_4 : decode cL_fillings 4 = .ok (.iload_n 2, 1) := by decide +kernel
theorem dL_fillings_5 : decode cL_fillings 5 = .ok (.invokevirtual 55, 3) := by decide +kernel
theorem dL_fillings_8 : decode cL_fillings 8 = .ok (.i2l, 1) := by decide +kernel
theorem dL_fillings_9 : decode cL_fillings 9 = .ok (.lastore, 1) := by decide +kernel
theorem dL_fillings_10 : decode cL_fillings 10 = .ok (.goto 7, 3) := by decide +kernel
theorem dL_fillings_13 : decode cL_fillings 13 = .ok (.astore 4, 2) := by decide +kernel
theorem dL_fillings_15 : decode cL_fillings 15 = .ok (.iconst 1, 1) := by decide +kernel
theorem dL_fillings_16 : decode cL_fillings 16 = .ok (.ireturn, 1) := by decide +kernel
theorem dL_fillings_17 : decode cL_fillings 17 = .ok (.iconst 0, 1) := by decide +kernel
theorem dL_fillings_18 : decode cL_fillings 18 = .ok (.ireturn, 1) := by decide +kernel
set_option maxRecDepth 20000 in
theorem ggL_threats_X7_threats : GoodIn wsL_threats wsX7_threats := goodIn_ca (goodIn_r _ [6, 7, 8, 9, 10, 11, 12, 5, 13, 14, 15, 16, 17, 18, 19, 20, 21, 22, 23, 24, 25, 26, 27, 28, 29, 30, 31, 32, 33, 34, 35, 36, 37, 38, 39, 40, 41, 42, 43, 44, 45, 46, 47, 48, 49, 50, 51, 52, 53, 54, 55, 56, 57, 58, 59, 60, 61, 62, 63, 64, 65, 66, 67, 68, 69, 70, 71, 72, 73, 74, 75, 76, 77, 78, 79, 80, 81] (by decide +kernel) (by decide +kernel)) (goodIn_sub (fun _ h => List.mem_cons_of_mem _ (List.mem_append_right _ h)) (by decide +kernel))
set_option maxRecDepth 20000 in
theorem gL_threats_X7_threats : GoodIn wsL_threats (wsV RL 58 RX7 yX7_threats wsX7_threats) := goodIn_app (goodIn_of _ (by decide +kernel)) ggL_threats_X7_threats
theorem dL_threats_0 : decode cL_threats 0 = .ok (.aload_n 2, 1) := by decide +kernel
theorem dL_threats_1 : decode cL_threats 1 = .ok (.iconst 0, 1) := by decide +kernel
theorem dL_threats_2 : decode cL_threats 2 = .ok (.aload_n 0, 1) := by decide +kernel
theorem dL_threats_3 : decode cL_threats 3 = .ok (.iload_n 1, 1) := by decide +kernel
theorem dL_threats_4 : decode cL_threats 4 = .ok (.invokevirtual 58, 3) := by decide +kernel
theorem dL_threats_7 : decode cL_threats 7 = .ok (.i2l, 1) := by decide +kernel
theorem dL_threats_8 : decode cL_threats 8 = .ok (.lastore, 1) := by decide +kernel
theorem dL_threats_9 : decode cL_threats 9 = .ok (.goto 6, 3) := by decide +kernel
theorem dL_threats_12 : decode cL_threats 12 = .ok (.astore_n 3, 1) := by decide +kernel
theorem dL_threats_13 : decode cL_threats 13 = .ok (.iconst 1, 1) := by decide +kernel
theorem dL_threats_14 : decode cL_threats 14 = .ok (.ireturn, 1) := by decide +kernel
theorem dL_threats_15 : decode cL_threats 15 = .ok (.iconst 0, 1) := by decide +kernel
theorem dL_threats_16 : decode cL_threats 16 = .ok (.ireturn, 1) := by decide +kernel
set_option maxRecDepth 20000 in
theorem ggL_lay_X7_lay : GoodIn wsL_lay wsX7_lay := goodIn_ca (goodIn_ca (goodIn_r _ [7, 8, 9, 10, 11, 12, 13, 14, 15, 6, 16, 17, 18, 19, 20, 21, 22, 23, 24, 25, 26, 27, 28, 29, 30, 31, 32, 33, 34, 35, 36, 37, 38, 39, 40, 41, 42, 43, 44, 45, 46, 47, 48, 49, 50, 51, 52, 53, 54, 55, 56, 57, 58, 59, 60, 61, 62, 63, 64, 65, 66, 67, 68, 69, 70, 71, 72, 73, 74, 75, 76, 77, 78, 79, 80, 81, 82, 83, 84, 85, 86, 87, 88, 89, 90, 91, 92, 93, 94, 95, 96, 97, 98, 99, 100, 101, 102, 103, 104, 105, 106, 107, 108, 109, 110, 111, 112, 113, 114, 115, 116, 117, 118, 119, 120, 121, 122, 123, 124, 125, 126, 127, 128, 129, 130, 131, 132, 133, 134, 135, 136, 137, 138, 139, 140, 141, 142, 143, 144, 145, 146, 147, 148, 149, 150, 151, 152, 153, 154, 155, 156, 157, 158, 159, 160, 161, 162, 163, 164, 165, 166, 167, 168, 169, 170, 171, 172, 173, 174, 175] (by decide +kernel) (by decide +kernel)) (goodIn_sub (fun _ h => List.mem_cons_of_mem _ (List.mem_append_left _ (List.mem_append_right _ h))) (by decide +kernel))) (goodIn_sub (fun _ h => List.mem_cons_of_mem _ (List.mem_append_right _ h)) (by decide +kernel))
set_option maxRecDepth 20000 in
theorem gL_lay_X7_lay : GoodIn wsL_lay (wsV RL 61 RX7 yX7_lay wsX7_lay) := goodIn_app (goodIn_of _ (by decide +kernel)) ggL_lay_X7_lay
theorem dL_lay_0 : decode cL_lay 0 = .ok (.aload_n 3, 1) := by decide +kernel
theorem dL_lay_1 : decode cL_lay 1 = .ok (.iconst 0, 1) := by decide +kernel
theorem dL_lay_2 : decode cL_lay 2 = .ok (.aload_n 0, 1) := by decide +kernel
theorem dL_lay_3 : decode cL_lay 3 = .ok (.iload_n 1, 1) := by decide +kernel
theorem dL_lay_4 : decode cL_lay 4 = .ok (.iload_n 2, 1) := by decide +kernel
theorem dL_lay_5 : decode cL_lay 5 = .ok (.invokevirtual 61, 3) := by decide +kernel
theorem dL_lay_8 : decode cL_lay 8 = .ok (.i2l, 1) := by decide +kernel
theorem dL_lay_9 : decode cL_lay 9 = .ok (.lastore, 1) := by decide +kernel
theorem dL_lay_10 : decode cL_lay 10 = .ok (.goto 11, 3) := by decide +kernel
theorem dL_lay_13 : decode cL_lay 13 = .ok (.astore 4, 2) := by decide +kernel
theorem dL_lay_15 : decode cL_lay 15 = .ok (.iconst 1, 1) := by decide +kernel
theorem dL_lay_16 : decode cL_lay 16 = .ok (.ireturn, 1) := by decide +kernel
theorem dL_lay_17 : decode cL_lay 17 = .ok (.astore 4, 2) := by decide +kernel
theorem dL_lay_19 : decode cL_lay 19 = .ok (.iconst 2, 1) := by decide +kernel
theorem dL_lay_20 : decode cL_lay 20 = .ok (.ireturn, 1) := by decide +kernel
theorem dL_lay_21 : decode cL_lay 21 = .ok (.iconst 0, 1) := by decide +kernel
theorem dL_lay_22 : decode cL_lay 22 = .ok (.ireturn, 1) := by decide +kernel
set_option maxRecDepth 20000 in
theorem ggL_pass_X7_pass : GoodIn wsL_pass wsX7_pass := goodIn_ca (goodIn_r _ [6, 7, 8, 9, 10, 11, 12, 13, 14, 15, 16, 17, 18, 19, 20, 21, 22, 23, 24, 25, 26, 27, 28, 29, 30, 31, 32, 33, 34, 35, 36, 37, 38, 39, 40, 41, 42, 43, 44, 45, 46, 47, 48, 49, 50, 51, 52, 53, 54, 55, 56, 57, 58, 59, 60, 61, 62, 63, 64, 65, 66, 67, 68, 69, 70, 71, 72, 73, 74, 75, 76, 77, 78, 79, 80, 81, 82, 83, 84, 85, 86, 87, 88, 89, 90, 91, 92, 93, 94, 95, 96, 97, 98, 99, 100, 101, 102, 103, 104, 105, 106, 107, 108, 109, 110, 111, 112, 113, 114, 115, 116, 117] (by decide +kernel) (by decide +kernel)) (goodIn_sub (fun _ h => List.mem_cons_of_mem _ (List.mem_append_right _ h)) (by decide +kernel))
set_option maxRecDepth 20000 in
theorem gL_pass_X7_pass : GoodIn wsL_pass (wsV RL 66 RX7 yX7_pass wsX7_pass) := goodIn_app (goodIn_of _ (by decide +kernel)) ggL_pass_X7_pass
theorem dL_pass_0 : decode cL_pass 0 = .ok (.aload_n 1, 1) := by decide +kernel
theorem dL_pass_1 : decode cL_pass 1 = .ok (.iconst 0, 1) := by decide +kernel
theorem dL_pass_2 : decode cL_pass 2 = .ok (.aload_n 0, 1) := by decide +kernel
theorem dL_pass_3 : decode cL_pass 3 = .ok (.invokevirtual 66, 3) := by decide +kernel
theorem dL_pass_6 : decode cL_pass 6 = .ok (.i2l, 1) := by decide +kernel
theorem dL_pass_7 : decode cL_pass 7 = .ok (.lastore, 1) := by decide +kernel
theorem dL_pass_8 : decode cL_pass 8 = .ok (.goto 6, 3) := by decide +kernel
theorem dL_pass_11 : decode cL_pass 11 = .ok (.astore_n 2, 1) := by decide +kernel
theorem dL_pass_12 : decode cL_pass 12 = .ok (.iconst 1, 1) := by decide +kernel
theorem dL_pass_13 : decode cL_pass 13 = .ok (.ireturn, 1) := by decide +kernel
theorem dL_pass_14 : decode cL_pass 14 = .ok (.iconst 0, 1) := by decide +kernel
theorem dL_pass_15 : decode cL_pass 15 = .ok (.ireturn, 1) := by decide +kernel
set_option maxRecDepth 20000 in
theorem ggL_auto_X7_auto : GoodIn wsL_auto wsX7_auto := goodIn_ca (goodIn_r _ [6, 7, 8, 9, 10, 11, 12, 13, 14, 15, 16, 17, 18, 19, 20, 21, 22, 23, 24, 25, 26, 27, 28, 29, 30, 31, 32, 33, 34, 35, 36, 37, 38, 39, 40, 41, 42, 43, 44, 45, 46, 47, 48, 49, 50, 51, 52, 53, 54, 55, 56, 57, 58, 59, 60, 61, 62, 63, 64, 65, 66, 67, 68, 69, 70, 71, 72, 73, 74, 75, 76, 77, 78, 79, 80, 81, 82, 83, 84, 85, 86, 87, 88, 89, 90, 91, 92, 93, 94, 95, 96, 97, 98, 99, 100, 101, 102, 103, 104, 105, 106, 107, 108, 109, 110, 111, 112, 113, 114, 115, 116, 117, 118, 119, 120, 121, 122, 123, 124, 125, 126, 127, 128, 129, 130, 131, 132, 133, 134, 135, 136, 137, 138, 139, 140, 141, 142, 143, 144, 145, 146, 147, 148, 149, 150, 151, 152, 153, 154, 155, 156, 157, 158, 159, 160, 161, 162, 163, 164, 165, 166, 167, 168, 169, 170, 171, 172, 173, 174, 175, 176, 177, 178, 179, 180, 181, 182, 183, 184, 185, 186, 187, 188, 189, 190, 191, 192, 193, 194, 195, 196] (by decide +kernel) (by decide +kernel)) (goodIn_sub (fun _ h => List.mem_cons_of_mem _ (List.mem_append_right _ h)) (by decide +kernel))
set_option maxRecDepth 20000 in
theorem gL_auto_X7_auto : GoodIn wsL_auto (wsV RL 70 RX7 yX7_auto wsX7_auto) := goodIn_app (goodIn_of _ (by decide +kernel)) ggL_auto_X7_auto
theorem dL_auto_0 : decode cL_auto 0 = .ok (.aload_n 2, 1) := by decide +kernel
theorem dL_auto_1 : decode cL_auto 1 = .ok (.iconst 0, 1) := by decide +kernel
theorem dL_auto_2 : decode cL_auto 2 = .ok (.aload_n 0, 1) := by decide +kernel
theorem dL_auto_3 : decode cL_auto 3 = .ok (.iload_n 1, 1) := by decide +kernel
theorem dL_auto_4 : decode cL_auto 4 = .ok (.invokevirtual 70, 3) := by decide +kernel
theorem dL_auto_7 : decode cL_auto 7 = .ok (.i2l, 1) := by decide +kernel
theorem dL_auto_8 : decode cL_auto 8 = .ok (.lastore, 1) := by decide +kernel
theorem dL_auto_9 : decode cL_auto 9 = .ok (.goto 6, 3) := by decide +kernel
theorem dL_auto_12 : decode cL_auto 12 = .ok (.astore_n 3, 1) := by decide +kernel
theorem dL_auto_13 : decode cL_auto 13 = .ok (.iconst 1, 1) := by decide +kernel
theorem dL_auto_14 : decode cL_auto 14 = .ok (.ireturn, 1) := by decide +kernel
theorem dL_auto_15 : decode cL_auto 15 = .ok (.iconst 0, 1) := by decide +kernel
theorem dL_auto_16 : decode cL_auto 16 = .ok (.ireturn, 1) := by decide +kernel
set_option maxRecDepth 20000 in
theorem ggL_give_X7_give : GoodIn wsL_give wsX7_give := goodIn_ca (goodIn_ca (goodIn_ca (goodIn_r _ [8, 9, 10, 11, 12, 13, 14, 15, 16, 17, 18, 19, 20, 21, 7, 22, 23, 24, 25, 26, 27, 28, 29, 30, 31, 32, 33, 34, 35, 36, 37, 38, 39, 40, 41, 42, 43, 44, 45, 46, 47, 48, 49, 50, 51, 52, 53, 54, 55, 56, 57, 58, 59, 60, 61, 62, 63, 64, 65, 66, 67, 68, 69, 70, 71, 72, 73, 74, 75, 76, 77, 78, 79, 80, 81, 82, 83, 84, 85, 86, 87, 88, 89, 90, 91, 92, 93, 94, 95, 96, 97, 98, 99, 100, 101, 102, 103, 104, 105, 106, 107, 108, 109, 110, 111, 112, 113, 114, 115, 116, 117, 118, 119, 120, 121, 122, 123, 124, 125, 126, 127] (by decide +kernel) (by decide +kernel)) (goodIn_sub (fun _ h => List.mem_cons_of_mem _ (List.mem_append_left _ (List.mem_append_left _ (List.mem_append_right _ h)))) (by decide +kernel))) (goodIn_sub (fun _ h => List.mem_cons_of_mem _ (List.mem_append_left _ (List.mem_append_right _ h))) (by decide +kernel))) (goodIn_sub (fun _ h => List.mem_cons_of_mem _ (List.mem_append_right _ h)) (by decide +kernel))
set_option maxRecDepth 20000 in
theorem gL_give_X7_give : GoodIn wsL_give (wsV RL 73 RX7 yX7_give wsX7_give) := goodIn_app (goodIn_of _ (by decide +kernel)) ggL_give_X7_give
theorem dL_give_0 : decode cL_give 0 = .ok (.aload_n 3, 1) := by decide +kernel
theorem dL_give_1 : decode cL_give 1 = .ok (.iconst 0, 1) := by decide +kernel
theorem dL_give_2 : decode cL_give 2 = .ok (.aload_n 0, 1) := by decide +kernel
theorem dL_give_3 : decode cL_give 3 = .ok (.iload_n 1, 1) := by decide +kernel
theorem dL_give_4 : decode cL_give 4 = .ok (.iload_n 2, 1) := by decide +kernel
theorem dL_give_5 : decode cL_give 5 = .ok (.invokevirtual 73, 3) := by decide +kernel
theorem dL_give_8 : decode cL_give 8 = .ok (.i2l, 1) := by decide +kernel
theorem dL_give_9 : decode cL_give 9 = .ok (.lastore, 1) := by decide +kernel
theorem dL_give_10 : decode cL_give 10 = .ok (.goto 15, 3) := by decide +kernel
theorem dL_give_13 : decode cL_give 13 = .ok (.astore 4, 2) := by decide +kernel
theorem dL_give_15 : decode cL_give 15 = .ok (.iconst 1, 1) := by decide +kernel
theorem dL_give_16 : decode cL_give 16 = .ok (.ireturn, 1) := by decide +kernel
theorem dL_give_17 : decode cL_give 17 = .ok (.astore 4, 2) := by decide +kernel
theorem dL_give_19 : decode cL_give 19 = .ok (.iconst 2, 1) := by decide +kernel
theorem dL_give_20 : decode cL_give 20 = .ok (.ireturn, 1) := by decide +kernel
theorem dL_give_21 : decode cL_give 21 = .ok (.astore 4, 2) := by decide +kernel
theorem dL_give_23 : decode cL_give 23 = .ok (.iconst 3, 1) := by decide +kernel
theorem dL_give_24 : decode cL_give 24 = .ok (.ireturn, 1) := by decide +kernel
theorem dL_give_25 : decode cL_give 25 = .ok (.iconst 0, 1) := by decide +kernel
theorem dL_give_26 : decode cL_give 26 = .ok (.ireturn, 1) := by decide +kernel
set_option maxRecDepth 20000 in
theorem ggL_law_X7_init : GoodIn wsL_law wsX7_init := goodIn_r _ [9, 10, 11, 12, 13, 14, 15, 16, 17, 18, 19, 20, 21, 22, 23, 24, 25, 26, 27, 28, 29, 30, 31, 32, 33, 34, 35, 36, 37, 38, 39, 40, 41, 42, 43, 44, 6, 45, 46, 47, 48, 49, 50, 51, 52, 53, 54, 55, 56, 57, 58, 59, 60, 61, 62, 63, 64, 65, 66, 67, 68, 69, 70, 71, 72, 73, 74, 75, 76, 77, 78, 79, 80, 81, 82, 83, 84, 85, 86, 87, 88, 89, 90, 91, 92, 93, 94, 95, 96, 97, 98, 99, 100, 101, 102, 103, 104, 105, 106, 107, 108, 109, 110, 111, 112, 113, 114, 115, 116, 117, 118, 119, 120, 121, 1181, 1182, 1183, 1184, 1185, 1186, 1187, 1188, 1210, 1211, 1212, 1213, 1214, 1215, 1216, 1217, 1218, 1219, 1220, 1221, 1222, 1223, 1224, 1225, 1226, 1227, 1228, 1229, 1230, 1231, 1232, 1233, 1234, 1235, 1236, 1237, 1238, 1239, 1240, 1241, 1242, 1243, 1244, 1245, 1246, 1247, 1248, 1249, 1250, 1251, 1252, 1253, 1254, 1255, 1256, 1257, 1258, 1259] (by decide +kernel) (by decide +kernel)
set_option maxRecDepth 20000 in
theorem gL_law_X7_init : GoodIn wsL_law (wsX7_init) := ggL_law_X7_init
set_option maxRecDepth 20000 in
theorem ggL_law_X8_init : GoodIn wsL_law wsX8_init := goodIn_r _ [124, 125, 11, 12, 13, 126, 127, 128, 129, 130, 131, 132, 6, 133, 134, 135, 136, 137, 5, 138, 139, 140, 141, 142, 143, 144, 1189, 1190, 1191, 1192, 1193, 1194, 1195, 1196, 1197, 1198, 1199, 1200, 1201, 1202, 1203, 1204, 1205, 1206, 1207, 1208, 1209] (by decide +kernel) (by decide +kernel)
set_option maxRecDepth 20000 in
theorem gL_law_X8_init : GoodIn wsL_law (wsX8_init) := ggL_law_X8_init
set_option maxRecDepth 20000 in
theorem ggL_law_X7_append : GoodIn wsL_law wsX7_append := goodIn_r _ [148, 15, 149, 150, 151, 2, 152, 14, 1181, 1182, 1183, 1184, 1185, 1186, 1187, 1188] (by decide +kernel) (by decide +kernel)
set_option maxRecDepth 20000 in
theorem gL_law_X7_append : GoodIn wsL_law (wsV RL 80 RX7 yX7_append wsX7_append) := goodIn_app (goodIn_of _ (by decide +kernel)) ggL_law_X7_append
set_option maxRecDepth 20000 in
theorem ggL_law_X8_append : GoodIn wsL_law wsX8_append := goodIn_r _ [156, 157, 158, 126, 1189, 1190, 1191, 1192, 1193, 1194, 1195, 1196, 1197, 1198, 1199, 1200, 1201, 1202, 1203, 1204, 1205, 1206, 1207, 1208, 1209] (by decide +kernel) (by decide +kernel)
set_option maxRecDepth 20000 in
theorem gL_law_X8_append : GoodIn wsL_law (wsV RL 84 RX8 yX8_append wsX8_append) := goodIn_app (goodIn_of _ (by decide +kernel)) ggL_law_X8_append
set_option maxRecDepth 20000 in
theorem ggL_law_L_load : GoodIn wsL_law wsL_load := goodIn_ca (goodIn_r _ [162, 163, 164, 165, 166, 2, 167, 168, 169, 15, 29, 14, 170, 16, 25, 20, 171, 172, 173, 174, 28, 175, 113, 176, 177, 178, 179, 180, 181, 182, 183, 184, 185, 186, 112, 187, 188, 189, 111, 190, 66, 67, 19, 68, 41, 42, 43, 44, 45, 46, 47, 48, 49, 69, 70, 71, 72, 73, 74, 40, 75, 54, 55, 59, 76, 77, 78, 79, 80, 81, 82, 83, 84, 85, 86, 87, 58, 88, 89, 90, 91, 92, 93, 63, 94, 95, 96, 97, 191, 192, 193, 194, 195, 196, 197, 198, 199, 200, 201, 202, 203, 204, 205, 206, 207, 208, 209, 210, 211, 212, 213, 214, 215, 216, 217, 218, 219, 220, 221, 222, 223, 224, 225, 226, 227, 228, 229, 230, 231, 232, 233, 234, 235, 236, 237, 238, 239, 240, 241, 242, 243, 244, 245, 246, 247, 248, 249, 250, 251, 252, 253, 254, 255, 256, 257, 258, 259, 260, 261, 262, 263, 264, 265, 266, 267, 268, 269, 270, 271, 272, 273, 274, 275, 276, 277, 278, 279, 280, 281, 282, 283, 284, 285, 286, 287, 288, 289, 290, 291, 292, 293, 294, 295, 296, 297, 298, 299, 300, 301, 302, 303, 304, 305, 306, 307, 308, 309, 310, 311, 312, 313, 314, 315, 316, 317, 318, 319, 320, 321, 322, 323, 324, 325, 326, 327, 328, 329, 330, 331, 332, 333, 334, 335, 336, 337, 338, 339, 340, 341, 342, 343, 344, 345, 346, 347, 348, 349, 350, 351, 352, 353, 354, 24, 355, 103, 104, 105, 356, 357, 358, 359, 360, 361, 362, 363, 364, 365, 366, 367, 368, 369, 370, 371, 372, 373, 374, 375, 376, 1181, 1182, 1183, 1184, 1185, 1186, 1187, 1188, 1226, 1227, 1228, 1229, 1230, 1231, 1232, 1233, 1234, 1235, 1236, 1210, 1211, 1212, 1213, 1214, 1215, 1216, 1217, 1218, 1219, 1220, 1221, 1222, 1249, 1250, 1251, 1252, 1253, 1254, 1255, 1256, 1257, 1258, 1259, 1223, 1224, 1225] (by decide +kernel) (by decide +kernel)) (goodIn_sub (fun _ h => List.mem_append_left _ (List.mem_append_left _ (List.mem_append_left _ (List.mem_append_right _ h)))) (by decide +kernel))
set_option maxRecDepth 20000 in
theorem gL_law_L_load : GoodIn wsL_law (va_wsS RL 85 yL_load wsL_load) := goodIn_app (goodIn_of _ (by decide +kernel)) ggL_law_L_load
set_option maxRecDepth 20000 in
theorem ggL_law_X8_load : GoodIn wsL_law wsX8_load := goodIn_r _ [380, 157, 158, 381, 382, 383, 384, 385, 386, 387, 388, 129, 127, 128, 389, 390, 5, 391, 392, 393, 394, 395, 136, 137, 138, 396, 397, 398, 399, 400, 401, 402, 403, 404, 405, 406, 407, 408, 409, 410, 411, 412, 413, 414, 415, 416, 126, 417, 217, 218, 219, 220, 221, 222, 223, 224, 225, 226, 227, 418, 229, 230, 231, 232, 233, 234, 235, 236, 237, 238, 239, 240, 241, 242, 243, 244, 245, 246, 247, 248, 249, 250, 251, 252, 253, 254, 255, 256, 257, 258, 259, 260, 261, 262, 263, 264, 419, 420, 421, 422, 423, 424, 425, 426, 427, 428, 429, 430, 431, 432, 433, 139, 140, 141, 142, 143, 144, 434, 435, 436, 437, 438, 439, 440, 441, 442, 443, 444, 445, 446, 447, 448, 449, 450, 451, 452, 453, 454, 455, 456, 457, 458, 459, 460, 461, 462, 463, 464, 465, 466, 467, 468, 469, 470, 471, 472, 473, 474, 475, 476, 477, 478, 479, 480, 481, 482, 483, 484, 485, 486, 487, 488, 489, 490, 491, 132, 492, 493, 494, 495, 496, 497, 498, 499, 500, 501, 502, 1189, 1190, 1191, 1192, 1193, 1194, 1195, 1196, 1197, 1198, 1199, 1200, 1201, 1202, 1203, 1204, 1205, 1206, 1207, 1208, 1209] (by decide +kernel) (by decide +kernel)
set_option maxRecDepth 20000 in
theorem gL_law_X8_load : GoodIn wsL_law (wsV RL 90 RX8 yX8_load wsX8_load) := goodIn_app (goodIn_of _ (by decide +kernel)) ggL_law_X8_load
set_option maxRecDepth 20000 in
theorem ggL_law_X8_thrown : GoodIn wsL_law wsX8_thrown := goodIn_r _ [506, 157, 1189, 1190, 1191, 1192, 1193, 1194, 1195, 1196, 1197, 1198, 1199, 1200, 1201, 1202, 1203, 1204, 1205, 1206, 1207, 1208, 1209] (by decide +kernel) (by decide +kernel)
set_option maxRecDepth 20000 in
theorem gL_law_X8_thrown : GoodIn wsL_law (wsV RL 91 RX8 yX8_thrown wsX8_thrown) := goodIn_app (goodIn_of _ (by decide +kernel)) ggL_law_X8_thrown
set_option maxRecDepth 20000 in
theorem ggL_law_X7_errorOffset : GoodIn wsL_law wsX7_errorOffset := goodIn_r _ [510, 16, 1181, 1182, 1183, 1184, 1185, 1186, 1187, 1188] (by decide +kernel) (by decide +kernel)
set_option maxRecDepth 20000 in
theorem gL_law_X7_errorOffset : GoodIn wsL_law (wsV RL 94 RX7 yX7_errorOffset wsX7_errorOffset) := goodIn_app (goodIn_of _ (by decide +kernel)) ggL_law_X7_errorOffset
set_option maxRecDepth 20000 in
theorem ggL_law_X8_errorOffset : GoodIn wsL_law wsX8_errorOffset := goodIn_r _ [514, 157, 127, 1189, 1190, 1191, 1192, 1193, 1194, 1195, 1196, 1197, 1198, 1199, 1200, 1201, 1202, 1203, 1204, 1205, 1206, 1207, 1208, 1209] (by decide +kernel) (by decide +kernel)
set_option maxRecDepth 20000 in
theorem gL_law_X8_errorOffset : GoodIn wsL_law (wsV RL 97 RX8 yX8_errorOffset wsX8_errorOffset) := goodIn_app (goodIn_of _ (by decide +kernel)) ggL_law_X8_errorOffset
set_option maxRecDepth 20000 in
theorem ggL_law_L_state : GoodIn wsL_law wsL_state := goodIn_ca (goodIn_r _ [517, 163, 518, 519, 520, 2, 521, 168, 169, 20, 522, 523, 524, 19, 525, 41, 526, 376, 527, 528, 529, 69, 71, 70, 530, 531, 532, 533, 44, 534, 535, 536, 537, 538, 539, 540, 541, 542, 43, 543, 544, 545, 546, 48, 547, 548, 549, 550, 551, 552, 553, 554, 47, 555, 556, 557, 558, 45, 559, 560, 206, 561, 562, 563, 564, 40, 565, 566, 55, 567, 373, 374, 375, 1181, 1182, 1183, 1184, 1185, 1186, 1187, 1188, 1210, 1211, 1212, 1213, 1214, 1215, 1216, 1217, 1218, 1219, 1220, 1221, 1222, 1249, 1250, 1251, 1252, 1253, 1254, 1255, 1256] (by decide +kernel) (by decide +kernel)) (goodIn_sub (fun _ h => List.mem_append_left _ (List.mem_append_left _ (List.mem_append_left _ (List.mem_append_right _ h)))) (by decide +kernel))
set_option maxRecDepth 20000 in
theorem gL_law_L_state : GoodIn wsL_law (va_wsS RL 98 yL_state wsL_state) := goodIn_app (goodIn_of _ (by decide +kernel)) ggL_law_L_state
set_option maxRecDepth 20000 in
theorem ggL_law_X8_state : GoodIn wsL_law wsX8_state := goodIn_r _ [571, 157, 389, 390, 5, 391, 392, 393, 394, 395, 572, 573, 574, 575, 128, 576, 577, 578, 579, 580, 581, 582, 583, 142, 143, 144, 584, 585, 586, 587, 588, 589, 590, 591, 592, 593, 594, 595, 596, 597, 598, 599, 499, 500, 501, 502, 465, 466, 467, 600, 601, 602, 603, 604, 605, 606, 607, 608, 609, 610, 611, 468, 469, 470, 612, 613, 614, 615, 616, 617, 618, 619, 620, 621, 622, 623, 624, 625, 626, 627, 628, 629, 630, 631, 431, 432, 433, 632, 633, 634, 635, 495, 496, 497, 498, 1189, 1190, 1191, 1192, 1193, 1194, 1195, 1196, 1197, 1198, 1199, 1200, 1201, 1202, 1203, 1204, 1205, 1206, 1207, 1208, 1209] (by decide +kernel) (by decide +kernel)
set_option maxRecDepth 20000 in
theorem gL_law_X8_state : GoodIn wsL_law (wsV RL 100 RX8 yX8_state wsX8_state) := goodIn_app (goodIn_of _ (by decide +kernel)) ggL_law_X8_state
set_option maxRecDepth 20000 in
theorem ggL_law_L_row : GoodIn wsL_law wsL_row := goodIn_ca (goodIn_ca (goodIn_r _ [638, 639, 163, 640, 641, 642, 2, 643, 168, 169, 20, 644, 645, 646, 647, 648, 649, 650, 651, 652, 653, 654, 19, 655, 41, 542, 44, 46, 538, 539, 540, 541, 43, 1181, 1182, 1183, 1184, 1185, 1186, 1187, 1188, 1210, 1211, 1212, 1213, 1214, 1215, 1216, 1217, 1218, 1219, 1220, 1221, 1222, 1249, 1250, 1251, 1252, 1253, 1254, 1255, 1256] (by decide +kernel) (by decide +kernel)) (goodIn_sub (fun _ h => List.mem_append_left _ (List.mem_append_left _ (List.mem_append_left _ (List.mem_append_right _ h)))) (by decide +kernel))) (goodIn_sub (fun _ h => List.mem_append_left _ (List.mem_append_left _ (List.mem_append_right _ h))) (by decide +kernel))
set_option maxRecDepth 20000 in
theorem gL_law_L_row : GoodIn wsL_law (va_wsS RL 101 yL_row wsL_row) := goodIn_app (goodIn_of _ (by decide +kernel)) ggL_law_L_row
set_option maxRecDepth 20000 in
theorem ggL_law_X8_row : GoodIn wsL_law wsX8_row := goodIn_r _ [659, 157, 660, 661, 662, 5, 663, 128, 389, 390, 391, 392, 393, 394, 395, 664, 665, 666, 667, 580, 581, 582, 583, 142, 143, 144, 588, 589, 590, 591, 1189, 1190, 1191, 1192, 1193, 1194, 1195, 1196, 1197, 1198, 1199, 1200, 1201, 1202, 1203, 1204, 1205, 1206, 1207, 1208, 1209] (by decide +kernel) (by decide +kernel)
set_option maxRecDepth 20000 in
theorem gL_law_X8_row : GoodIn wsL_law (wsV RL 104 RX8 yX8_row wsX8_row) := goodIn_app (goodIn_of _ (by decide +kernel)) ggL_law_X8_row
set_option maxRecDepth 20000 in
theorem ggL_law_L_tile : GoodIn wsL_law wsL_tile := goodIn_ca (goodIn_ca (goodIn_r _ [670, 639, 671, 672, 673, 674, 2, 675, 676, 677, 20, 650, 678, 644, 645, 646, 647, 648, 649, 651, 679, 680, 681, 19, 682, 43, 42, 1181, 1182, 1183, 1184, 1185, 1186, 1187, 1188, 1210, 1211, 1212, 1213, 1214, 1215, 1216, 1217, 1218, 1219, 1220, 1221, 1222, 1249, 1250, 1251, 1252, 1253, 1254, 1255, 1256] (by decide +kernel) (by decide +kernel)) (goodIn_sub (fun _ h => List.mem_append_left _ (List.mem_append_right _ h)) (by decide +kernel))) (goodIn_sub (fun _ h => List.mem_append_left _ (List.mem_append_left _ (List.mem_append_right _ h))) (by decide +kernel))
set_option maxRecDepth 20000 in
theorem gL_law_L_tile : GoodIn wsL_law (va_wsS RL 105 yL_tile wsL_tile) := goodIn_app (goodIn_of _ (by decide +kernel)) ggL_law_L_tile
set_option maxRecDepth 20000 in
theorem ggL_law_X8_tile : GoodIn wsL_law wsX8_tile := goodIn_r _ [686, 157, 660, 661, 662, 5, 663, 128, 389, 390, 391, 392, 393, 394, 395, 580, 581, 582, 583, 142, 143, 144, 687, 688, 689, 690, 1189, 1190, 1191, 1192, 1193, 1194, 1195, 1196, 1197, 1198, 1199, 1200, 1201, 1202, 1203, 1204, 1205, 1206, 1207, 1208, 1209] (by decide +kernel) (by decide +kernel)
set_option maxRecDepth 20000 in
theorem gL_law_X8_tile : GoodIn wsL_law (wsV RL 107 RX8 yX8_tile wsX8_tile) := goodIn_app (goodIn_of _ (by decide +kernel)) ggL_law_X8_tile
set_option maxRecDepth 20000 in
theorem ggL_law_L_player : GoodIn wsL_law wsL_player := goodIn_ca (goodIn_ca (goodIn_r _ [693, 639, 163, 694, 695, 696, 2, 697, 168, 169, 20, 698, 699, 700, 701, 648, 649, 650, 702, 703, 704, 705, 19, 706, 48, 49, 707, 708, 709, 710, 551, 552, 553, 554, 47, 559, 560, 206, 561, 711, 712, 713, 714, 41, 526, 46, 1181, 1182, 1183, 1184, 1185, 1186, 1187, 1188, 1210, 1211, 1212, 1213, 1214, 1215, 1216, 1217, 1218, 1219, 1220, 1221, 1222, 1249, 1250, 1251, 1252, 1253, 1254, 1255, 1256] (by decide +kernel) (by decide +kernel)) (goodIn_sub (fun _ h => List.mem_append_left _ (List.mem_append_left _ (List.mem_append_left _ (List.mem_append_right _ h)))) (by decide +kernel))) (goodIn_sub (fun _ h => List.mem_append_left _ (List.mem_append_left _ (List.mem_append_right _ h))) (by decide +kernel))
set_option maxRecDepth 20000 in
theorem gL_law_L_player : GoodIn wsL_law (va_wsS RL 108 yL_player wsL_player) := goodIn_app (goodIn_of _ (by decide +kernel)) ggL_law_L_player
set_option maxRecDepth 20000 in
theorem ggL_law_X8_player : GoodIn wsL_law wsX8_player := goodIn_r _ [718, 157, 719, 720, 721, 5, 722, 128, 389, 390, 391, 392, 393, 394, 395, 723, 724, 725, 726, 499, 500, 501, 502, 465, 466, 467, 727, 728, 729, 730, 608, 609, 610, 611, 468, 469, 470, 731, 732, 733, 734, 580, 581, 582, 583, 142, 143, 144, 1189, 1190, 1191, 1192, 1193, 1194, 1195, 1196, 1197, 1198, 1199, 1200, 1201, 1202, 1203, 1204, 1205, 1206, 1207, 1208, 1209] (by decide +kernel) (by decide +kernel)
set_option maxRecDepth 20000 in
theorem gL_law_X8_player : GoodIn wsL_law (wsV RL 110 RX8 yX8_player wsX8_player) := goodIn_app (goodIn_of _ (by decide +kernel)) ggL_law_X8_player
set_option maxRecDepth 20000 in
theorem ggL_law_L_letter : GoodIn wsL_law wsL_letter := goodIn_ca (goodIn_ca (goodIn_r _ [737, 639, 671, 738, 739, 740, 2, 741, 676, 677, 20, 698, 699, 700, 701, 648, 649, 650, 702, 742, 743, 744, 745, 746, 747, 552, 553, 19, 554, 47, 748, 560, 206, 561, 749, 750, 751, 752, 753, 1181, 1182, 1183, 1184, 1185, 1186, 1187, 1188, 1210, 1211, 1212, 1213, 1214, 1215, 1216, 1217, 1218, 1219, 1220, 1221, 1222, 1249, 1250, 1251, 1252, 1253, 1254, 1255, 1256] (by decide +kernel) (by decide +kernel)) (goodIn_sub (fun _ h => List.mem_append_left _ (List.mem_append_right _ h)) (by decide +kernel))) (goodIn_sub (fun _ h => List.mem_append_left _ (List.mem_append_left _ (List.mem_append_right _ h))) (by decide +kernel))
set_option maxRecDepth 20000 in
theorem gL_law_L_letter : GoodIn wsL_law (va_wsS RL 111 yL_letter wsL_letter) := goodIn_app (goodIn_of _ (by decide +kernel)) ggL_law_L_letter
set_option maxRecDepth 20000 in
theorem ggL_law_X8_letter : GoodIn wsL_law wsX8_letter := goodIn_r _ [757, 157, 128, 758, 759, 760, 5, 761, 719, 720, 721, 722, 389, 390, 391, 392, 393, 394, 395, 499, 500, 501, 502, 465, 466, 467, 608, 609, 610, 611, 468, 469, 470, 1189, 1190, 1191, 1192, 1193, 1194, 1195, 1196, 1197, 1198, 1199, 1200, 1201, 1202, 1203, 1204, 1205, 1206, 1207, 1208, 1209] (by decide +kernel) (by decide +kernel)
set_option maxRecDepth 20000 in
theorem gL_law_X8_letter : GoodIn wsL_law (wsV RL 114 RX8 yX8_letter wsX8_letter) := goodIn_app (goodIn_of _ (by decide +kernel)) ggL_law_X8_letter
set_option maxRecDepth 20000 in
theorem ggL_law_L_alike : GoodIn wsL_law wsL_alike := goodIn_ca (goodIn_r _ [764, 163, 765, 766, 767, 2, 768, 168, 169, 20, 650, 769, 1181, 1182, 1183, 1184, 1185, 1186, 1187, 1188, 1210, 1211, 1212, 1213, 1214, 1215, 1216, 1217, 1218, 1219, 1220, 1221, 1222, 1249, 1250, 1251, 1252, 1253, 1254, 1255, 1256] (by decide +kernel) (by decide +kernel)) (goodIn_sub (fun _ h => List.mem_append_left _ (List.mem_append_left _ (List.mem_append_left _ (List.mem_append_right _ h)))) (by decide +kernel))
set_option maxRecDepth 20000 in
theorem gL_law_L_alike : GoodIn wsL_law (va_wsS RL 115 yL_alike wsL_alike) := goodIn_app (goodIn_of _ (by decide +kernel)) ggL_law_L_alike
set_option maxRecDepth 20000 in
theorem ggL_law_X8_alike : GoodIn wsL_law wsX8_alike := goodIn_r _ [773, 157, 389, 390, 5, 391, 392, 393, 394, 395, 632, 633, 634, 635, 128, 1189, 1190, 1191, 1192, 1193, 1194, 1195, 1196, 1197, 1198, 1199, 1200, 1201, 1202, 1203, 1204, 1205, 1206, 1207, 1208, 1209] (by decide +kernel) (by decide +kernel)
set_option maxRecDepth 20000 in
theorem gL_law_X8_alike : GoodIn wsL_law (wsV RL 117 RX8 yX8_alike wsX8_alike) := goodIn_app (goodIn_of _ (by decide +kernel)) ggL_law_X8_alike
set_option maxRecDepth 20000 in
theorem ggL_law_L_rhyme : GoodIn wsL_law wsL_rhyme := goodIn_ca (goodIn_r _ [776, 639, 777, 778, 779, 2, 780, 20, 781, 650, 782, 698, 699, 700, 701, 648, 649, 702, 742, 743, 744, 745, 746, 644, 645, 646, 647, 651, 747, 552, 553, 19, 554, 47, 783, 563, 564, 40, 565, 566, 55, 1181, 1182, 1183, 1184, 1185, 1186, 1187, 1188, 1210, 1211, 1212, 1213, 1214, 1215, 1216, 1217, 1218, 1219, 1220, 1221, 1222, 1249, 1250, 1251, 1252, 1253, 1254, 1255, 1256] (by decide +kernel) (by decide +kernel)) (goodIn_sub (fun _ h => List.mem_append_left _ (List.mem_append_left _ (List.mem_append_right _ h))) (by decide +kernel))
set_option maxRecDepth 20000 in
theorem gL_law_L_rhyme : GoodIn wsL_law (va_wsS RL 118 yL_rhyme wsL_rhyme) := goodIn_app (goodIn_of _ (by decide +kernel)) ggL_law_L_rhyme
set_option maxRecDepth 20000 in
theorem ggL_law_X8_rhyme : GoodIn wsL_law wsX8_rhyme := goodIn_r _ [787, 157, 758, 759, 760, 5, 761, 719, 720, 721, 722, 128, 389, 390, 391, 392, 393, 394, 395, 499, 500, 501, 502, 465, 466, 467, 660, 661, 662, 663, 580, 581, 582, 583, 142, 143, 144, 624, 625, 626, 627, 468, 469, 470, 608, 609, 610, 611, 616, 617, 618, 619, 628, 629, 630, 631, 431, 432, 433, 632, 633, 634, 635, 1189, 1190, 1191, 1192, 1193, 1194, 1195, 1196, 1197, 1198, 1199, 1200, 1201, 1202, 1203, 1204, 1205, 1206, 1207, 1208, 1209] (by decide +kernel) (by decide +kernel)
set_option maxRecDepth 20000 in
theorem gL_law_X8_rhyme : GoodIn wsL_law (wsV RL 120 RX8 yX8_rhyme wsX8_rhyme) := goodIn_app (goodIn_of _ (by decide +kernel)) ggL_law_X8_rhyme
set_option maxRecDepth 20000 in
theorem ggL_law_L_why : GoodIn wsL_law wsL_why := goodIn_ca (goodIn_r _ [790, 639, 791, 792, 793, 2, 794, 20, 795, 742, 743, 744, 745, 648, 649, 746, 644, 645, 646, 647, 650, 651, 796, 548, 549, 19, 550, 71, 69, 551, 552, 553, 554, 47, 555, 556, 557, 558, 44, 45, 41, 527, 559, 560, 206, 561, 538, 539, 540, 541, 542, 43, 562, 563, 564, 40, 565, 566, 55, 1181, 1182, 1183, 1184, 1185, 1186, 1187, 1188, 1210, 1211, 1212, 1213, 1214, 1215, 1216, 1217, 1218, 1219, 1220, 1221, 1222, 1249, 1250, 1251, 1252, 1253, 1254, 1255, 1256] (by decide +kernel) (by decide +kernel)) (goodIn_sub (fun _ h => List.mem_append_left _ (List.mem_append_left _ (List.mem_append_right _ h))) (by decide +kernel))
set_option maxRecDepth 20000 in
theorem gL_law_L_why : GoodIn wsL_law (va_wsS RL 121 yL_why wsL_why) := goodIn_app (goodIn_of _ (by decide +kernel)) ggL_law_L_why
set_option maxRecDepth 20000 in
theorem ggL_law_X8_why : GoodIn wsL_law wsX8_why := goodIn_r _ [800, 157, 801, 802, 803, 5, 804, 128, 758, 759, 760, 761, 719, 720, 721, 722, 389, 390, 391, 392, 393, 394, 395, 499, 500, 501, 502, 465, 466, 467, 660, 661, 662, 663, 600, 601, 602, 603, 604, 605, 606, 607, 608, 609, 610, 611, 468, 469, 470, 588, 589, 590, 591, 580, 581, 582, 583, 142, 143, 144, 612, 613, 614, 615, 616, 617, 618, 619, 620, 621, 622, 623, 624, 625, 626, 627, 628, 629, 630, 631, 431, 432, 433, 632, 633, 634, 635, 1189, 1190, 1191, 1192, 1193, 1194, 1195, 1196, 1197, 1198, 1199, 1200, 1201, 1202, 1203, 1204, 1205, 1206, 1207, 1208, 1209] (by decide +kernel) (by decide +kernel)
set_option maxRecDepth 20000 in
theorem gL_law_X8_why : GoodIn wsL_law (wsV RL 123 RX8 yX8_why wsX8_why) := goodIn_app (goodIn_of _ (by decide +kernel)) ggL_law_X8_why
set_option maxRecDepth 20000 in
theorem ggL_law_L_play : GoodIn wsL_law wsL_play := goodIn_ca (goodIn_ca (goodIn_ca (goodIn_r _ [807, 639, 163, 671, 808, 809, 810, 2, 811, 168, 169, 676, 677, 20, 795, 742, 743, 744, 745, 648, 649, 746, 644, 645, 646, 647, 650, 651, 796, 548, 549, 19, 550, 71, 69, 551, 552, 553, 554, 47, 555, 556, 557, 558, 44, 45, 41, 527, 559, 560, 206, 561, 538, 539, 540, 541, 542, 43, 562, 563, 564, 40, 565, 566, 55, 747, 812, 813, 814, 815, 528, 529, 816, 817, 818, 819, 50, 48, 820, 821, 822, 58, 823, 824, 825, 826, 827, 828, 89, 63, 64, 829, 830, 831, 832, 833, 834, 1181, 1182, 1183, 1184, 1185, 1186, 1187, 1188, 1210, 1211, 1212, 1213, 1214, 1215, 1216, 1217, 1218, 1219, 1220, 1221, 1222, 1249, 1250, 1251, 1252, 1253, 1254, 1255, 1256, 1257, 1258, 1259] (by decide +kernel) (by decide +kernel)) (goodIn_sub (fun _ h => List.mem_append_left _ (List.mem_append_left _ (List.mem_append_left _ (List.mem_append_right _ h)))) (by decide +kernel))) (goodIn_sub (fun _ h => List.mem_append_left _ (List.mem_append_right _ h)) (by decide +kernel))) (goodIn_sub (fun _ h => List.mem_append_left _ (List.mem_append_left _ (List.mem_append_right _ h))) (by decide +kernel))
set_option maxRecDepth 20000 in
theorem gL_law_L_play : GoodIn wsL_law (va_wsS RL 124 yL_play wsL_play) := goodIn_app (goodIn_of _ (by decide +kernel)) ggL_law_L_play
set_option maxRecDepth 20000 in
theorem ggL_law_X8_play : GoodIn wsL_law wsX8_play := goodIn_r _ [838, 157, 128, 801, 802, 803, 5, 804, 758, 759, 760, 761, 719, 720, 721, 722, 389, 390, 391, 392, 393, 394, 395, 499, 500, 501, 502, 465, 466, 467, 660, 661, 662, 663, 600, 601, 602, 603, 604, 605, 606, 607, 608, 609, 610, 611, 468, 469, 470, 588, 589, 590, 591, 580, 581, 582, 583, 142, 143, 144, 612, 613, 614, 615, 616, 617, 618, 619, 620, 621, 622, 623, 624, 625, 626, 627, 628, 629, 630, 631, 431, 432, 433, 632, 633, 634, 635, 839, 840, 841, 842, 843, 844, 845, 846, 847, 848, 849, 850, 133, 851, 852, 853, 854, 855, 856, 857, 858, 859, 860, 861, 862, 1189, 1190, 1191, 1192, 1193, 1194, 1195, 1196, 1197, 1198, 1199, 1200, 1201, 1202, 1203, 1204, 1205, 1206, 1207, 1208, 1209] (by decide +kernel) (by decide +kernel)
set_option maxRecDepth 20000 in
theorem gL_law_X8_play : GoodIn wsL_law (wsV RL 126 RX8 yX8_play wsX8_play) := goodIn_app (goodIn_of _ (by decide +kernel)) ggL_law_X8_play
set_option maxRecDepth 20000 in
theorem ggL_law_X7_best : GoodIn wsL_law wsX7_best := goodIn_r _ [866, 20, 867, 868, 869, 19, 870, 48, 69, 41, 526, 547, 548, 549, 550, 71, 551, 552, 553, 554, 47, 555, 556, 557, 558, 44, 45, 527, 559, 560, 206, 561, 538, 539, 540, 541, 542, 43, 562, 563, 564, 40, 565, 566, 55, 871, 817, 818, 819, 50, 820, 821, 822, 58, 823, 824, 813, 814, 815, 528, 529, 825, 826, 827, 828, 89, 63, 64, 829, 830, 831, 832, 833, 834, 1181, 1182, 1183, 1184, 1185, 1186, 1187, 1188, 1210, 1211, 1212, 1213, 1214, 1215, 1216, 1217, 1218, 1219, 1220, 1221, 1222, 1249, 1250, 1251, 1252, 1253, 1254, 1255, 1256, 1257, 1258, 1259] (by decide +kernel) (by decide +kernel)
set_option maxRecDepth 20000 in
theorem gL_law_X7_best : GoodIn wsL_law (wsV RL 127 RX7 yX7_best wsX7_best) := goodIn_app (goodIn_of _ (by decide +kernel)) ggL_law_X7_best
set_option maxRecDepth 20000 in
theorem ggL_law_X8_best : GoodIn wsL_law wsX8_best := goodIn_r _ [875, 157, 876, 877, 878, 5, 879, 128, 596, 597, 598, 599, 499, 500, 501, 502, 465, 466, 467, 600, 601, 602, 603, 604, 605, 606, 607, 608, 609, 610, 611, 468, 469, 470, 588, 589, 590, 591, 580, 581, 582, 583, 142, 143, 144, 612, 613, 614, 615, 616, 617, 618, 619, 620, 621, 622, 623, 624, 625, 626, 627, 628, 629, 630, 631, 431, 432, 433, 632, 633, 634, 635, 847, 848, 849, 850, 133, 839, 840, 841, 842, 843, 844, 845, 846, 851, 852, 853, 854, 855, 856, 857, 858, 859, 860, 861, 862, 1189, 1190, 1191, 1192, 1193, 1194, 1195, 1196, 1197, 1198, 1199, 1200, 1201, 1202, 1203, 1204, 1205, 1206, 1207, 1208, 1209] (by decide +kernel) (by decide +kernel)
set_option maxRecDepth 20000 in
theorem gL_law_X8_best : GoodIn wsL_law (wsV RL 130 RX8 yX8_best wsX8_best) := goodIn_app (goodIn_of _ (by decide +kernel)) ggL_law_X8_best
set_option maxRecDepth 20000 in
theorem ggL_law_L_chain : GoodIn wsL_law wsL_chain := goodIn_ca (goodIn_r _ [882, 639, 883, 884, 885, 2, 886, 33, 20, 887, 698, 699, 700, 701, 648, 649, 650, 702, 644, 645, 646, 647, 651, 888, 889, 890, 32, 891, 892, 893, 894, 118, 119, 895, 896, 82, 83, 84, 897, 898, 899, 900, 901, 902, 903, 904, 905, 906, 907, 908, 909, 120, 910, 121, 911, 539, 540, 19, 541, 41, 542, 43, 912, 552, 553, 554, 47, 913, 560, 206, 561, 914, 563, 564, 40, 565, 566, 55, 915, 556, 557, 558, 44, 45, 527, 559, 538, 562, 916, 813, 814, 815, 528, 529, 917, 918, 919, 920, 921, 922, 178, 923, 924, 925, 926, 927, 928, 929, 930, 931, 932, 933, 934, 935, 936, 937, 938, 1181, 1182, 1183, 1184, 1185, 1186, 1187, 1188, 1237, 1238, 1239, 1240, 1241, 1242, 1243, 1244, 1245, 1246, 1247, 1248, 1210, 1211, 1212, 1213, 1214, 1215, 1216, 1217, 1218, 1219, 1220, 1221, 1222, 1249, 1250, 1251, 1252, 1253, 1254, 1255, 1256] (by decide +kernel) (by decide +kernel)) (goodIn_sub (fun _ h => List.mem_append_left _ (List.mem_append_left _ (List.mem_append_right _ h))) (by decide +kernel))
set_option maxRecDepth 20000 in
theorem gL_law_L_chain : GoodIn wsL_law (va_wsS RL 131 yL_chain wsL_chain) := goodIn_app (goodIn_of _ (by decide +kernel)) ggL_law_L_chain
set_option maxRecDepth 20000 in
theorem ggL_law_X8_chain : GoodIn wsL_law wsX8_chain := goodIn_r _ [942, 943, 944, 945, 5, 946, 157, 719, 720, 721, 722, 128, 389, 390, 391, 392, 393, 394, 395, 660, 661, 662, 663, 588, 589, 590, 591, 580, 581, 582, 583, 142, 143, 144, 947, 948, 949, 950, 134, 135, 499, 500, 501, 502, 465, 466, 467, 951, 952, 953, 954, 727, 728, 729, 730, 608, 609, 610, 611, 468, 469, 470, 955, 956, 957, 604, 605, 606, 607, 612, 613, 614, 615, 616, 617, 618, 619, 620, 621, 622, 623, 624, 625, 626, 627, 628, 629, 630, 631, 431, 432, 433, 632, 633, 634, 635, 843, 844, 845, 846, 958, 959, 960, 961, 962, 963, 964, 1189, 1190, 1191, 1192, 1193, 1194, 1195, 1196, 1197, 1198, 1199, 1200, 1201, 1202, 1203, 1204, 1205, 1206, 1207, 1208, 1209] (by decide +kernel) (by decide +kernel)
set_option maxRecDepth 20000 in
theorem gL_law_X8_chain : GoodIn wsL_law (wsV RL 133 RX8 yX8_chain wsX8_chain) := goodIn_app (goodIn_of _ (by decide +kernel)) ggL_law_X8_chain
set_option maxRecDepth 20000 in
theorem ggL_law_L_worth : GoodIn wsL_law wsL_worth := goodIn_ca (goodIn_r _ [967, 639, 968, 969, 970, 2, 971, 33, 20, 972, 698, 699, 700, 701, 648, 649, 650, 702, 644, 645, 646, 647, 651, 888, 889, 890, 32, 891, 892, 893, 894, 118, 119, 895, 896, 82, 83, 84, 897, 898, 899, 900, 901, 902, 903, 904, 905, 906, 907, 908, 909, 120, 910, 121, 911, 539, 540, 19, 541, 41, 542, 43, 912, 552, 553, 554, 47, 913, 560, 206, 561, 914, 563, 564, 40, 565, 566, 55, 915, 556, 557, 558, 44, 45, 527, 559, 538, 562, 916, 813, 814, 815, 528, 529, 917, 918, 919, 920, 921, 922, 178, 923, 924, 925, 926, 927, 928, 929, 930, 931, 932, 933, 934, 935, 936, 937, 938, 1181, 1182, 1183, 1184, 1185, 1186, 1187, 1188, 1237, 1238, 1239, 1240, 1241, 1242, 1243, 1244, 1245, 1246, 1247, 1248, 1210, 1211, 1212, 1213, 1214, 1215, 1216, 1217, 1218, 1219, 1220, 1221, 1222, 1249, 1250, 1251, 1252, 1253, 1254, 1255, 1256] (by decide +kernel) (by decide +kernel)) (goodIn_sub (fun _ h => List.mem_append_left _ (List.mem_append_left _ (List.mem_append_right _ h))) (by decide +kernel))
set_option maxRecDepth 20000 in
theorem gL_law_L_worth : GoodIn wsL_law (va_wsS RL 134 yL_worth wsL_worth) := goodIn_app (goodIn_of _ (by decide +kernel)) ggL_law_L_worth
set_option maxRecDepth 20000 in
theorem ggL_law_X8_worth : GoodIn wsL_law wsX8_worth := goodIn_r _ [976, 943, 944, 945, 5, 946, 157, 719, 720, 721, 722, 128, 389, 390, 391, 392, 393, 394, 395, 660, 661, 662, 663, 588, 589, 590, 591, 580, 581, 582, 583, 142, 143, 144, 947, 948, 949, 950, 134, 135, 499, 500, 501, 502, 465, 466, 467, 951, 952, 953, 954, 727, 728, 729, 730, 608, 609, 610, 611, 468, 469, 470, 955, 956, 957, 604, 605, 606, 607, 612, 613, 614, 615, 616, 617, 618, 619, 620, 621, 622, 623, 624, 625, 626, 627, 628, 629, 630, 631, 431, 432, 433, 632, 633, 634, 635, 843, 844, 845, 846, 958, 959, 960, 961, 962, 963, 964, 1189, 1190, 1191, 1192, 1193, 1194, 1195, 1196, 1197, 1198, 1199, 1200, 1201, 1202, 1203, 1204, 1205, 1206, 1207, 1208, 1209] (by decide +kernel) (by decide +kernel)
set_option maxRecDepth 20000 in
theorem gL_law_X8_worth : GoodIn wsL_law (wsV RL 136 RX8 yX8_worth wsX8_worth) := goodIn_app (goodIn_of _ (by decide +kernel)) ggL_law_X8_worth
set_option maxRecDepth 20000 in
theorem ggL_law_L_fillings : GoodIn wsL_law wsL_fillings := goodIn_ca (goodIn_r _ [979, 639, 980, 981, 982, 2, 983, 20, 33, 984, 698, 699, 700, 701, 648, 649, 650, 702, 644, 645, 646, 647, 651, 985, 539, 540, 19, 541, 41, 542, 43, 888, 889, 890, 32, 891, 892, 893, 894, 118, 119, 895, 896, 82, 83, 84, 897, 898, 899, 900, 901, 902, 903, 904, 905, 906, 907, 908, 909, 120, 910, 121, 911, 912, 552, 553, 554, 47, 913, 560, 206, 561, 914, 563, 564, 40, 565, 566, 55, 915, 556, 557, 558, 44, 45, 527, 559, 538, 562, 916, 813, 814, 815, 528, 529, 917, 918, 919, 920, 921, 922, 178, 923, 924, 925, 926, 927, 928, 929, 930, 931, 932, 933, 934, 935, 936, 937, 938, 1181, 1182, 1183, 1184, 1185, 1186, 1187, 1188, 1237, 1238, 1239, 1240, 1241, 1242, 1243, 1244, 1245, 1246, 1247, 1248, 1210, 1211, 1212, 1213, 1214, 1215, 1216, 1217, 1218, 1219, 1220, 1221, 1222, 1249, 1250, 1251, 1252, 1253, 1254, 1255, 1256] (by decide +kernel) (by decide +kernel)) (goodIn_sub (fun _ h => List.mem_append_left _ (List.mem_append_left _ (List.mem_append_right _ h))) (by decide +kernel))
set_option maxRecDepth 20000 in
theorem gL_law_L_fillings : GoodIn wsL_law (va_wsS RL 137 yL_fillings wsL_fillings) := goodIn_app (goodIn_of _ (by decide +kernel)) ggL_law_L_fillings
set_option maxRecDepth 20000 in
theorem ggL_law_X8_fillings : GoodIn wsL_law wsX8_fillings := goodIn_r _ [989, 943, 944, 945, 5, 946, 157, 719, 720, 721, 722, 128, 389, 390, 391, 392, 393, 394, 395, 660, 661, 662, 663, 588, 589, 590, 591, 580, 581, 582, 583, 142, 143, 144, 947, 948, 949, 950, 134, 135, 499, 500, 501, 502, 465, 466, 467, 951, 952, 953, 954, 727, 728, 729, 730, 608, 609, 610, 611, 468, 469, 470, 955, 956, 957, 604, 605, 606, 607, 612, 613, 614, 615, 616, 617, 618, 619, 620, 621, 622, 623, 624, 625, 626, 627, 628, 629, 630, 631, 431, 432, 433, 632, 633, 634, 635, 843, 844, 845, 846, 958, 959, 960, 961, 962, 963, 964, 1189, 1190, 1191, 1192, 1193, 1194, 1195, 1196, 1197, 1198, 1199, 1200, 1201, 1202, 1203, 1204, 1205, 1206, 1207, 1208, 1209] (by decide +kernel) (by decide +kernel)
set_option maxRecDepth 20000 in
theorem gL_law_X8_fillings : GoodIn wsL_law (wsV RL 139 RX8 yX8_fillings wsX8_fillings) := goodIn_app (goodIn_of _ (by decide +kernel)) ggL_law_X8_fillings
set_option maxRecDepth 20000 in
theorem ggL_law_L_threats : GoodIn wsL_law wsL_threats := goodIn_ca (goodIn_r _ [992, 639, 993, 994, 995, 2, 996, 20, 650, 702, 644, 645, 646, 647, 648, 649, 651, 997, 998, 999, 19, 1000, 48, 551, 552, 553, 554, 47, 559, 560, 206, 561, 538, 539, 540, 541, 41, 542, 43, 555, 556, 557, 558, 44, 45, 527, 562, 563, 564, 40, 565, 566, 55, 1181, 1182, 1183, 1184, 1185, 1186, 1187, 1188, 1210, 1211, 1212, 1213, 1214, 1215, 1216, 1217, 1218, 1219, 1220, 1221, 1222, 1249, 1250, 1251, 1252, 1253, 1254, 1255, 1256] (by decide +kernel) (by decide +kernel)) (goodIn_sub (fun _ h => List.mem_append_left _ (List.mem_append_left _ (List.mem_append_right _ h))) (by decide +kernel))
set_option maxRecDepth 20000 in
theorem gL_law_L_threats : GoodIn wsL_law (va_wsS RL 140 yL_threats wsL_threats) := goodIn_app (goodIn_of _ (by decide +kernel)) ggL_law_L_threats
set_option maxRecDepth 20000 in
theorem ggL_law_X8_threats : GoodIn wsL_law wsX8_threats := goodIn_r _ [1004, 157, 128, 660, 661, 662, 5, 663, 389, 390, 391, 392, 393, 394, 395, 499, 500, 501, 502, 465, 466, 467, 604, 605, 606, 607, 608, 609, 610, 611, 468, 469, 470, 588, 589, 590, 591, 580, 581, 582, 583, 142, 143, 144, 612, 613, 614, 615, 616, 617, 618, 619, 620, 621, 622, 623, 624, 625, 626, 627, 628, 629, 630, 631, 431, 432, 433, 632, 633, 634, 635, 1189, 1190, 1191, 1192, 1193, 1194, 1195, 1196, 1197, 1198, 1199, 1200, 1201, 1202, 1203, 1204, 1205, 1206, 1207, 1208, 1209] (by decide +kernel) (by decide +kernel)
set_option maxRecDepth 20000 in
theorem gL_law_X8_threats : GoodIn wsL_law (wsV RL 142 RX8 yX8_threats wsX8_threats) := goodIn_app (goodIn_of _ (by decide +kernel)) ggL_law_X8_threats
set_option maxRecDepth 20000 in
theorem ggL_law_X7_winner : GoodIn wsL_law wsX7_winner := goodIn_r _ [1008, 21, 20, 1009, 371, 357, 358, 19, 359, 41, 42, 360, 182, 183, 184, 43, 44, 45, 46, 47, 48, 49, 69, 70, 71, 361, 362, 363, 40, 364, 54, 365, 55, 59, 76, 77, 78, 79, 80, 366, 367, 368, 58, 369, 63, 89, 370, 1010, 1011, 1012, 1013, 1014, 1015, 1016, 1017, 1018, 868, 869, 870, 526, 547, 548, 549, 550, 551, 552, 553, 554, 555, 556, 557, 558, 527, 559, 560, 206, 561, 538, 539, 540, 541, 542, 562, 563, 564, 565, 566, 871, 817, 818, 819, 50, 820, 821, 822, 823, 824, 813, 814, 815, 528, 529, 825, 826, 827, 828, 64, 829, 830, 831, 832, 833, 834, 1019, 1020, 1021, 1022, 376, 1023, 1024, 1025, 1026, 1027, 1028, 1029, 1030, 1031, 1032, 1033, 1034, 1035, 1036, 1037, 1038, 1039, 750, 751, 752, 753, 1040, 1041, 1042, 1043, 567, 373, 374, 375, 1044, 1045, 1046, 1047, 1181, 1182, 1183, 1184, 1185, 1186, 1187, 1188, 1210, 1211, 1212, 1213, 1214, 1215, 1216, 1217, 1218, 1219, 1220, 1221, 1222, 1249, 1250, 1251, 1252, 1253, 1254, 1255, 1256, 1257, 1258, 1259] (by decide +kernel) (by decide +kernel)
set_option maxRecDepth 20000 in
theorem gL_law_X7_winner : GoodIn wsL_law (wsV RL 143 RX7 yX7_winner wsX7_winner) := goodIn_app (goodIn_of _ (by decide +kernel)) ggL_law_X7_winner
set_option maxRecDepth 20000 in
theorem ggL_law_X8_winner : GoodIn wsL_law wsX8_winner := goodIn_r _ [1051, 157, 128, 130, 1052, 492, 493, 5, 494, 1053, 1054, 1055, 1056, 876, 877, 878, 879, 596, 597, 598, 599, 499, 500, 501, 502, 465, 466, 467, 600, 601, 602, 603, 604, 605, 606, 607, 608, 609, 610, 611, 468, 469, 470, 588, 589, 590, 591, 580, 581, 582, 583, 142, 143, 144, 612, 613, 614, 615, 616, 617, 618, 619, 620, 621, 622, 623, 624, 625, 626, 627, 628, 629, 630, 631, 431, 432, 433, 632, 633, 634, 635, 847, 848, 849, 850, 133, 839, 840, 841, 842, 843, 844, 845, 846, 851, 852, 853, 854, 855, 856, 857, 858, 859, 860, 861, 862, 1057, 1058, 1059, 1060, 1061, 1062, 1063, 1064, 1065, 1066, 1067, 1068, 1069, 1070, 1071, 1072, 495, 496, 497, 498, 1189, 1190, 1191, 1192, 1193, 1194, 1195, 1196, 1197, 1198, 1199, 1200, 1201, 1202, 1203, 1204, 1205, 1206, 1207, 1208, 1209] (by decide +kernel) (by decide +kernel)
set_option maxRecDepth 20000 in
theorem gL_law_X8_winner : GoodIn wsL_law (wsV RL 146 RX8 yX8_winner wsX8_winner) := goodIn_app (goodIn_of _ (by decide +kernel)) ggL_law_X8_winner
set_option maxRecDepth 20000 in
theorem ggL_law_X7_stepsToEnd : GoodIn wsL_law wsX7_stepsToEnd := goodIn_r _ [1076, 21, 20, 1009, 371, 357, 358, 19, 359, 41, 42, 360, 182, 183, 184, 43, 44, 45, 46, 47, 48, 49, 69, 70, 71, 361, 362, 363, 40, 364, 54, 365, 55, 59, 76, 77, 78, 79, 80, 366, 367, 368, 58, 369, 63, 89, 370, 1010, 1011, 1012, 1013, 1014, 1015, 1016, 1017, 1018, 868, 869, 870, 526, 547, 548, 549, 550, 551, 552, 553, 554, 555, 556, 557, 558, 527, 559, 560, 206, 561, 538, 539, 540, 541, 542, 562, 563, 564, 565, 566, 871, 817, 818, 819, 50, 820, 821, 822, 823, 824, 813, 814, 815, 528, 529, 825, 826, 827, 828, 64, 829, 830, 831, 832, 833, 834, 1019, 1020, 1021, 1022, 376, 1023, 1024, 1025, 1026, 1027, 1028, 1029, 1030, 1031, 1032, 1033, 1034, 1035, 1036, 1037, 1038, 1039, 750, 751, 752, 753, 1040, 1041, 1042, 1043, 567, 373, 374, 375, 1181, 1182, 1183, 1184, 1185, 1186, 1187, 1188, 1210, 1211, 1212, 1213, 1214, 1215, 1216, 1217, 1218, 1219, 1220, 1221, 1222, 1249, 1250, 1251, 1252, 1253, 1254, 1255, 1256, 1257, 1258, 1259] (by decide +kernel) (by decide +kernel)
set_option maxRecDepth 20000 in
theorem gL_law_X7_stepsToEnd : GoodIn wsL_law (wsV RL 147 RX7 yX7_stepsToEnd wsX7_stepsToEnd) := goodIn_app (goodIn_of _ (by decide +kernel)) ggL_law_X7_stepsToEnd
set_option maxRecDepth 20000 in
theorem ggL_law_X8_stepsToEnd : GoodIn wsL_law wsX8_stepsToEnd := goodIn_r _ [1080, 157, 128, 130, 1052, 492, 493, 5, 494, 1053, 1054, 1055, 1056, 876, 877, 878, 879, 596, 597, 598, 599, 499, 500, 501, 502, 465, 466, 467, 600, 601, 602, 603, 604, 605, 606, 607, 608, 609, 610, 611, 468, 469, 470, 588, 589, 590, 591, 580, 581, 582, 583, 142, 143, 144, 612, 613, 614, 615, 616, 617, 618, 619, 620, 621, 622, 623, 624, 625, 626, 627, 628, 629, 630, 631, 431, 432, 433, 632, 633, 634, 635, 847, 848, 849, 850, 133, 839, 840, 841, 842, 843, 844, 845, 846, 851, 852, 853, 854, 855, 856, 857, 858, 859, 860, 861, 862, 1057, 1058, 1059, 1060, 1061, 1062, 1063, 1064, 1065, 1066, 1067, 1068, 1069, 1070, 1071, 1072, 495, 496, 497, 498, 1189, 1190, 1191, 1192, 1193, 1194, 1195, 1196, 1197, 1198, 1199, 1200, 1201, 1202, 1203, 1204, 1205, 1206, 1207, 1208, 1209] (by decide +kernel) (by decide +kernel)
set_option maxRecDepth 20000 in
theorem gL_law_X8_stepsToEnd : GoodIn wsL_law (wsV RL 150 RX8 yX8_stepsToEnd wsX8_stepsToEnd) := goodIn_app (goodIn_of _ (by decide +kernel)) ggL_law_X8_stepsToEnd
set_option maxRecDepth 20000 in
theorem ggL_law_X7_covered : GoodIn wsL_law wsX7_covered := goodIn_r _ [1084, 20, 650, 651, 1085, 678, 1181, 1182, 1183, 1184, 1185, 1186, 1187, 1188, 1210, 1211, 1212, 1213, 1214, 1215, 1216, 1217, 1218, 1219, 1220, 1221, 1222, 1249, 1250, 1251, 1252, 1253, 1254, 1255, 1256] (by decide +kernel) (by decide +kernel)
set_option maxRecDepth 20000 in
theorem gL_law_X7_covered : GoodIn wsL_law (wsV RL 151 RX7 yX7_covered wsX7_covered) := goodIn_app (goodIn_of _ (by decide +kernel)) ggL_law_X7_covered
set_option maxRecDepth 20000 in
theorem ggL_law_X8_covered : GoodIn wsL_law wsX8_covered := goodIn_r _ [1089, 157, 128, 580, 581, 582, 5, 583, 142, 143, 144, 1189, 1190, 1191, 1192, 1193, 1194, 1195, 1196, 1197, 1198, 1199, 1200, 1201, 1202, 1203, 1204, 1205, 1206, 1207, 1208, 1209] (by decide +kernel) (by decide +kernel)
set_option maxRecDepth 20000 in
theorem gL_law_X8_covered : GoodIn wsL_law (wsV RL 155 RX8 yX8_covered wsX8_covered) := goodIn_app (goodIn_of _ (by decide +kernel)) ggL_law_X8_covered
set_option maxRecDepth 20000 in
theorem ggL_law_L_lay : GoodIn wsL_law wsL_lay := goodIn_ca (goodIn_ca (goodIn_r _ [1092, 639, 1093, 1094, 1095, 1096, 2, 1097, 1098, 1099, 20, 795, 25, 742, 743, 744, 745, 648, 649, 746, 644, 645, 646, 647, 650, 651, 796, 548, 549, 19, 550, 71, 69, 551, 552, 553, 554, 47, 555, 556, 557, 558, 44, 45, 41, 527, 559, 560, 206, 561, 538, 539, 540, 541, 542, 43, 562, 563, 564, 40, 565, 566, 55, 352, 353, 354, 24, 355, 103, 104, 105, 356, 357, 358, 359, 42, 360, 182, 183, 184, 46, 48, 49, 70, 361, 362, 363, 364, 54, 365, 59, 76, 77, 78, 79, 80, 366, 367, 368, 58, 369, 63, 89, 370, 1100, 1032, 1033, 1034, 824, 813, 814, 815, 528, 529, 1035, 1036, 1037, 1038, 1039, 750, 751, 752, 753, 1040, 1041, 1042, 1043, 567, 373, 374, 375, 376, 1023, 1024, 1025, 1026, 1027, 1028, 1029, 1030, 526, 1181, 1182, 1183, 1184, 1185, 1186, 1187, 1188, 1210, 1211, 1212, 1213, 1214, 1215, 1216, 1217, 1218, 1219, 1220, 1221, 1222, 1249, 1250, 1251, 1252, 1253, 1254, 1255, 1256, 1223, 1224, 1225, 1257, 1258, 1259] (by decide +kernel) (by decide +kernel)) (goodIn_sub (fun _ h => List.mem_append_right _ h) (by decide +kernel))) (goodIn_sub (fun _ h => List.mem_append_left _ (List.mem_append_left _ (List.mem_append_right _ h))) (by decide +kernel))
set_option maxRecDepth 20000 in
theorem gL_law_L_lay : GoodIn wsL_law (va_wsS RL 156 yL_lay wsL_lay) := goodIn_app (goodIn_of _ (by decide +kernel)) ggL_law_L_lay
set_option maxRecDepth 20000 in
theorem ggL_law_X8_lay : GoodIn wsL_law wsX8_lay := goodIn_r _ [1104, 157, 801, 802, 803, 5, 804, 128, 758, 759, 760, 761, 719, 720, 721, 722, 389, 390, 391, 392, 393, 394, 395, 499, 500, 501, 502, 465, 466, 467, 660, 661, 662, 663, 600, 601, 602, 603, 604, 605, 606, 607, 608, 609, 610, 611, 468, 469, 470, 588, 589, 590, 591, 580, 581, 582, 583, 142, 143, 144, 612, 613, 614, 615, 616, 617, 618, 619, 620, 621, 622, 623, 624, 625, 626, 627, 628, 629, 630, 631, 431, 432, 433, 632, 633, 634, 635, 487, 488, 489, 490, 491, 132, 492, 493, 494, 1069, 1070, 1071, 1072, 839, 840, 841, 842, 843, 844, 845, 846, 495, 496, 497, 498, 1061, 1062, 1063, 1064, 1065, 1066, 1067, 1068, 1189, 1190, 1191, 1192, 1193, 1194, 1195, 1196, 1197, 1198, 1199, 1200, 1201, 1202, 1203, 1204, 1205, 1206, 1207, 1208, 1209] (by decide +kernel) (by decide +kernel)
set_option maxRecDepth 20000 in
theorem gL_law_X8_lay : GoodIn wsL_law (wsV RL 158 RX8 yX8_lay wsX8_lay) := goodIn_app (goodIn_of _ (by decide +kernel)) ggL_law_X8_lay
set_option maxRecDepth 20000 in
theorem ggL_law_L_pass : GoodIn wsL_law wsL_pass := goodIn_ca (goodIn_r _ [1107, 1093, 1108, 1109, 1110, 2, 1111, 1098, 1099, 20, 1112, 25, 795, 352, 353, 354, 24, 355, 103, 104, 105, 356, 357, 358, 19, 359, 41, 42, 360, 182, 183, 184, 43, 44, 45, 46, 47, 48, 49, 69, 70, 71, 361, 362, 363, 40, 364, 54, 365, 55, 59, 76, 77, 78, 79, 80, 366, 367, 368, 58, 369, 63, 89, 370, 1113, 1020, 1021, 1022, 376, 1023, 1024, 1025, 1026, 1027, 1028, 1029, 1030, 526, 538, 539, 540, 541, 542, 1181, 1182, 1183, 1184, 1185, 1186, 1187, 1188, 1210, 1211, 1212, 1213, 1214, 1215, 1216, 1217, 1218, 1219, 1220, 1221, 1222, 1223, 1224, 1225, 1249, 1250, 1251, 1252, 1253, 1254, 1255, 1256, 1257, 1258, 1259] (by decide +kernel) (by decide +kernel)) (goodIn_sub (fun _ h => List.mem_append_right _ h) (by decide +kernel))
set_option maxRecDepth 20000 in
theorem gL_law_L_pass : GoodIn wsL_law (va_wsS RL 159 yL_pass wsL_pass) := goodIn_app (goodIn_of _ (by decide +kernel)) ggL_law_L_pass
set_option maxRecDepth 20000 in
theorem ggL_law_X8_pass : GoodIn wsL_law wsX8_pass := goodIn_r _ [1117, 157, 128, 392, 393, 394, 5, 395, 487, 488, 489, 490, 491, 132, 492, 493, 494, 1057, 1058, 1059, 1060, 1061, 1062, 1063, 1064, 580, 581, 582, 583, 142, 143, 144, 588, 589, 590, 591, 465, 466, 467, 1065, 1066, 1067, 1068, 1189, 1190, 1191, 1192, 1193, 1194, 1195, 1196, 1197, 1198, 1199, 1200, 1201, 1202, 1203, 1204, 1205, 1206, 1207, 1208, 1209] (by decide +kernel) (by decide +kernel)
set_option maxRecDepth 20000 in
theorem gL_law_X8_pass : GoodIn wsL_law (wsV RL 162 RX8 yX8_pass wsX8_pass) := goodIn_app (goodIn_of _ (by decide +kernel)) ggL_law_X8_pass
set_option maxRecDepth 20000 in
theorem ggL_law_L_auto : GoodIn wsL_law wsL_auto := goodIn_ca (goodIn_r _ [1120, 163, 1121, 1122, 1123, 2, 1124, 168, 169, 25, 20, 352, 353, 354, 24, 355, 103, 104, 105, 356, 357, 358, 19, 359, 41, 42, 360, 182, 183, 184, 43, 44, 45, 46, 47, 48, 49, 69, 70, 71, 361, 362, 363, 40, 364, 54, 365, 55, 59, 76, 77, 78, 79, 80, 366, 367, 368, 58, 369, 63, 89, 370, 1010, 1011, 1012, 1013, 1014, 1015, 1016, 1017, 1018, 868, 869, 870, 526, 547, 548, 549, 550, 551, 552, 553, 554, 555, 556, 557, 558, 527, 559, 560, 206, 561, 538, 539, 540, 541, 542, 562, 563, 564, 565, 566, 871, 817, 818, 819, 50, 820, 821, 822, 823, 824, 813, 814, 815, 528, 529, 825, 826, 827, 828, 64, 829, 830, 831, 832, 833, 834, 1019, 1020, 1021, 1022, 376, 1023, 1024, 1025, 1026, 1027, 1028, 1029, 1030, 1031, 1032, 1033, 1034, 1035, 1036, 1037, 1038, 1039, 750, 751, 752, 753, 1040, 1041, 1042, 1043, 567, 373, 374, 375, 1181, 1182, 1183, 1184, 1185, 1186, 1187, 1188, 1223, 1224, 1225, 1210, 1211, 1212, 1213, 1214, 1215, 1216, 1217, 1218, 1219, 1220, 1221, 1222, 1249, 1250, 1251, 1252, 1253, 1254, 1255, 1256, 1257, 1258, 1259] (by decide +kernel) (by decide +kernel)) (goodIn_sub (fun _ h => List.mem_append_left _ (List.mem_append_left _ (List.mem_append_left _ (List.mem_append_right _ h)))) (by decide +kernel))
set_option maxRecDepth 20000 in
theorem gL_law_L_auto : GoodIn wsL_law (va_wsS RL 163 yL_auto wsL_auto) := goodIn_app (goodIn_of _ (by decide +kernel)) ggL_law_L_auto
set_option maxRecDepth 20000 in
theorem ggL_law_X8_auto : GoodIn wsL_law wsX8_auto := goodIn_r _ [1128, 157, 389, 390, 5, 391, 392, 393, 394, 395, 487, 488, 489, 490, 491, 132, 128, 492, 493, 494, 1053, 1054, 1055, 1056, 876, 877, 878, 879, 596, 597, 598, 599, 499, 500, 501, 502, 465, 466, 467, 600, 601, 602, 603, 604, 605, 606, 607, 608, 609, 610, 611, 468, 469, 470, 588, 589, 590, 591, 580, 581, 582, 583, 142, 143, 144, 612, 613, 614, 615, 616, 617, 618, 619, 620, 621, 622, 623, 624, 625, 626, 627, 628, 629, 630, 631, 431, 432, 433, 632, 633, 634, 635, 847, 848, 849, 850, 133, 839, 840, 841, 842, 843, 844, 845, 846, 851, 852, 853, 854, 855, 856, 857, 858, 859, 860, 861, 862, 1057, 1058, 1059, 1060, 1061, 1062, 1063, 1064, 1065, 1066, 1067, 1068, 1069, 1070, 1071, 1072, 495, 496, 497, 498, 1189, 1190, 1191, 1192, 1193, 1194, 1195, 1196, 1197, 1198, 1199, 1200, 1201, 1202, 1203, 1204, 1205, 1206, 1207, 1208, 1209] (by decide +kernel) (by decide +kernel)
set_option maxRecDepth 20000 in
theorem gL_law_X8_auto : GoodIn wsL_law (wsV RL 165 RX8 yX8_auto wsX8_auto) := goodIn_app (goodIn_of _ (by decide +kernel)) ggL_law_X8_auto
set_option maxRecDepth 20000 in
theorem ggL_law_L_give : GoodIn wsL_law wsL_give := goodIn_ca (goodIn_ca (goodIn_ca (goodIn_r _ [1131, 639, 163, 1093, 1132, 1133, 1134, 2, 1135, 168, 169, 1098, 1099, 20, 746, 1112, 25, 14, 15, 698, 699, 700, 701, 648, 649, 650, 702, 1136, 1137, 1138, 1139, 1140, 205, 206, 207, 352, 353, 354, 24, 355, 103, 104, 105, 356, 357, 358, 19, 359, 41, 42, 360, 182, 183, 184, 43, 44, 45, 46, 47, 48, 49, 69, 70, 71, 361, 362, 363, 40, 364, 54, 365, 55, 59, 76, 77, 78, 79, 80, 366, 367, 368, 58, 369, 63, 89, 370, 1141, 325, 326, 1142, 328, 329, 330, 1181, 1182, 1183, 1184, 1185, 1186, 1187, 1188, 1210, 1211, 1212, 1213, 1214, 1215, 1216, 1217, 1218, 1219, 1220, 1221, 1222, 1249, 1250, 1251, 1252, 1253, 1254, 1255, 1256, 1223, 1224, 1225, 1257, 1258, 1259] (by decide +kernel) (by decide +kernel)) (goodIn_sub (fun _ h => List.mem_append_left _ (List.mem_append_left _ (List.mem_append_left _ (List.mem_append_right _ h)))) (by decide +kernel))) (goodIn_sub (fun _ h => List.mem_append_right _ h) (by decide +kernel))) (goodIn_sub (fun _ h => List.mem_append_left _ (List.mem_append_left _ (List.mem_append_right _ h))) (by decide +kernel))
set_option maxRecDepth 20000 in
theorem gL_law_L_give : GoodIn wsL_law (va_wsS RL 166 yL_give wsL_give) := goodIn_app (goodIn_of _ (by decide +kernel)) ggL_law_L_give
set_option maxRecDepth 20000 in
theorem ggL_law_X8_give : GoodIn wsL_law wsX8_give := goodIn_r _ [1146, 157, 158, 128, 126, 719, 720, 721, 5, 722, 389, 390, 391, 392, 393, 394, 395, 431, 432, 433, 1147, 1148, 1149, 1150, 454, 455, 456, 499, 500, 501, 502, 465, 466, 467, 487, 488, 489, 490, 491, 132, 492, 493, 494, 468, 469, 470, 1189, 1190, 1191, 1192, 1193, 1194, 1195, 1196, 1197, 1198, 1199, 1200, 1201, 1202, 1203, 1204, 1205, 1206, 1207, 1208, 1209] (by decide +kernel) (by decide +kernel)
set_option maxRecDepth 20000 in
theorem gL_law_X8_give : GoodIn wsL_law (wsV RL 168 RX8 yX8_give wsX8_give) := goodIn_app (goodIn_of _ (by decide +kernel)) ggL_law_X8_give
set_option maxRecDepth 20000 in
theorem ggL_law_X7_undo : GoodIn wsL_law wsX7_undo := goodIn_r _ [1154, 25, 20, 1155, 1156, 1157, 24, 1158, 105, 104, 103, 356, 357, 358, 19, 359, 41, 42, 360, 182, 183, 184, 43, 44, 45, 46, 47, 48, 49, 69, 70, 71, 361, 362, 363, 40, 364, 54, 365, 55, 59, 76, 77, 78, 79, 80, 366, 367, 368, 58, 369, 63, 89, 370, 1181, 1182, 1183, 1184, 1185, 1186, 1187, 1188, 1223, 1224, 1225, 1210, 1211, 1212, 1213, 1214, 1215, 1216, 1217, 1218, 1219, 1220, 1221, 1222, 1249, 1250, 1251, 1252, 1253, 1254, 1255, 1256, 1257, 1258, 1259] (by decide +kernel) (by decide +kernel)
set_option maxRecDepth 20000 in
theorem gL_law_X7_undo : GoodIn wsL_law (wsV RL 169 RX7 yX7_undo wsX7_undo) := goodIn_app (goodIn_of _ (by decide +kernel)) ggL_law_X7_undo
set_option maxRecDepth 20000 in
theorem ggL_law_X8_undo : GoodIn wsL_law wsX8_undo := goodIn_r _ [1162, 157, 491, 132, 128, 492, 493, 5, 494, 1189, 1190, 1191, 1192, 1193, 1194, 1195, 1196, 1197, 1198, 1199, 1200, 1201, 1202, 1203, 1204, 1205, 1206, 1207, 1208, 1209] (by decide +kernel) (by decide +kernel)
set_option maxRecDepth 20000 in
theorem gL_law_X8_undo : GoodIn wsL_law (wsV RL 172 RX8 yX8_undo wsX8_undo) := goodIn_app (goodIn_of _ (by decide +kernel)) ggL_law_X8_undo
set_option maxRecDepth 20000 in
theorem ggL_law_X7_checksum : GoodIn wsL_law wsX7_checksum := goodIn_r _ [1166, 1167, 20, 650, 651, 702, 522, 523, 524, 19, 525, 41, 526, 376, 527, 528, 529, 69, 71, 70, 530, 531, 532, 533, 44, 534, 535, 536, 537, 538, 539, 540, 541, 542, 43, 543, 544, 545, 546, 48, 547, 548, 549, 550, 551, 552, 553, 554, 47, 555, 556, 557, 558, 45, 559, 560, 206, 561, 562, 563, 564, 40, 565, 566, 55, 567, 373, 374, 375, 1168, 1169, 1170, 2, 1171, 678, 652, 653, 654, 655, 46, 679, 680, 681, 682, 42, 1172, 1173, 1174, 1175, 746, 703, 704, 705, 706, 49, 707, 708, 709, 710, 711, 712, 713, 714, 747, 748, 749, 750, 751, 752, 753, 1181, 1182, 1183, 1184, 1185, 1186, 1187, 1188, 1210, 1211, 1212, 1213, 1214, 1215, 1216, 1217, 1218, 1219, 1220, 1221, 1222, 1249, 1250, 1251, 1252, 1253, 1254, 1255, 1256] (by decide +kernel) (by decide +kernel)
set_option maxRecDepth 20000 in
theorem gL_law_X7_checksum : GoodIn wsL_law (wsV RL 173 RX7 yX7_checksum wsX7_checksum) := goodIn_app (goodIn_of _ (by decide +kernel)) ggL_law_X7_checksum
set_option maxRecDepth 20000 in
theorem ggL_law_X8_checksum : GoodIn wsL_law wsX8_checksum := goodIn_r _ [1179, 157, 1180, 128, 572, 573, 574, 5, 575, 576, 577, 578, 579, 580, 581, 582, 583, 142, 143, 144, 584, 585, 586, 587, 588, 589, 590, 591, 592, 593, 594, 595, 596, 597, 598, 599, 499, 500, 501, 502, 465, 466, 467, 600, 601, 602, 603, 604, 605, 606, 607, 608, 609, 610, 611, 468, 469, 470, 612, 613, 614, 615, 616, 617, 618, 619, 620, 621, 622, 623, 624, 625, 626, 627, 628, 629, 630, 631, 431, 432, 433, 632, 633, 634, 635, 495, 496, 497, 498, 664, 665, 666, 667, 687, 688, 689, 690, 723, 724, 725, 726, 727, 728, 729, 730, 731, 732, 733, 734, 1189, 1190, 1191, 1192, 1193, 1194, 1195, 1196, 1197, 1198, 1199, 1200, 1201, 1202, 1203, 1204, 1205, 1206, 1207, 1208, 1209] (by decide +kernel) (by decide +kernel)
set_option maxRecDepth 20000 in
theorem gL_law_X8_checksum : GoodIn wsL_law (wsV RL 177 RX8 yX8_checksum wsX8_checksum) := goodIn_app (goodIn_of _ (by decide +kernel)) ggL_law_X8_checksum
theorem dL_law_0 : decode cL_law 0 = .ok (.new 8, 3) := by decide +kernel
theorem dL_law_3 : decode cL_law 3 = .ok (.dup, 1) := by decide +kernel
theorem dL_law_4 : decode cL_law 4 = .ok (.invokespecial 76, 3) := by decide +kernel
theorem dL_law_7 : decode cL_law 7 = .ok (.astore_n 1, 1) := by decide +kernel
theorem dL_law_8 : decode cL_law 8 = .ok (.new 77, 3) := by decide +kernel
theorem dL_law_11 : decode cL_law 11 = .ok (.dup, 1) := by decide +kernel
theorem dL_law_12 : decode cL_law 12 = .ok (.invokespecial 79, 3) := by decide +kernel
theorem dL_law_15 : decode cL_law 15 = .ok (.astore_n 2, 1) := by decide +kernel
theorem dL_law_16 : decode cL_law 16 = .ok (.iconst 1, 1) := by decide +kernel
theorem dL_law_17 : decode cL_law 17 = .ok (.newarray .long, 2) := by decide +kernel
theorem dL_law_19 : decode cL_law 19 = .ok (.astore_n 3, 1) := by decide +kernel
theorem dL_law_20 : decode cL_law 20 = .ok (.iconst 0, 1) := by decide +kernel
theorem dL_law_21 : decode cL_law 21 = .ok (.istore 4, 2) := by decide +kernel
theorem dL_law_23 : decode cL_law 23 = .ok (.iload 4, 2) := by decide +kernel
theorem dL_law_25 : decode cL_law 25 = .ok (.aload_n 0, 1) := by decide +kernel
theorem dL_law_26 : decode cL_law 26 = .ok (.arraylength, 1) := by decide +kernel
theorem dL_law_27 : decode cL_law 27 = .ok (.bipush 6, 2) := by decide +kernel
theorem dL_law_29 : decode cL_law 29 = .ok (.isub, 1) := by decide +kernel
theorem dL_law_30 : decode cL_law 30 = .ok (.if_icmp .gt 1526, 3) := by decide +kernel
theorem dL_law_33 : decode cL_law 33 = .ok (.aload_n 0, 1) := by decide +kernel
theorem dL_law_34 : decode cL_law 34 = .ok (.iload 4, 2) := by decide +kernel
theorem dL_law_36 : decode cL_law 36 = .ok (.iaload, 1) := by decide +kernel
theorem dL_law_37 : decode cL_law 37 = .ok (.bipush 31, 2) := by decide +kernel
theorem dL_law_39 : decode cL_law 39 = .ok (.iand, 1) := by decide +kernel
theorem dL_law_40 : decode cL_law 40 = .ok (.tableswitch 1510 0 25 #[120, 193, 249, 262, 318, 386, 454, 522, 602, 677, 757, 825, 905, 918, 986, 1054, 1122, 1178, 1191, 1204, 1247, 1315, 1359, 1415, 1483, 1496], 120) := by decide +kernel
theorem dL_law_160 : decode cL_law 160 = .ok (.aload_n 1, 1) := by decide +kernel
theorem dL_law_161 : decode cL_law 161 = .ok (.aload_n 0, 1) := by decide +kernel
theorem dL_law_162 : decode cL_law 162 = .ok (.iload 4, 2) := by decide +kernel
theorem dL_law_164 : decode cL_law 164 = .ok (.iconst 1, 1) := by decide +kernel
theorem dL_law_165 : decode cL_law 165 = .ok (.iadd, 1) := by decide +kernel
theorem dL_law_166 : decode cL_law 166 = .ok (.iaload, 1) := by decide +kernel
theorem dL_law_167 : decode cL_law 167 = .ok (.aload_n 0, 1) := by decide +kernel
theorem dL_law_168 : decode cL_law 168 = .ok (.iload 4, 2) := by decide +kernel
theorem dL_law_170 : decode cL_law 170 = .ok (.iconst 2, 1) := by decide +kernel
theorem dL_law_171 : decode cL_law 171 = .ok (.iadd, 1) := by decide +kernel
theorem dL_law_172 : decode cL_law 172 = .ok (.iaload, 1) := by decide +kernel
theorem dL_law_173 : decode cL_law 173 = .ok (.aload_n 0, 1) := by decide +kernel
theorem dL_law_174 : decode cL_law 174 = .ok (.iload 4, 2) := by decide +kernel
theorem dL_law_176 : decode cL_law 176 = .ok (.iconst 3, 1) := by decide +kernel
theorem dL_law_177 : decode cL_law 177 = .ok (.iadd, 1) := by decide +kernel
theorem dL_law_178 : decode cL_law 178 = .ok (.iaload, 1) := by decide +kernel
theorem dL_law_179 : decode cL_law 179 = .ok (.aload_n 0, 1) := by decide +kernel
theorem dL_law_180 : decode cL_law 180 = .ok (.iload 4, 2) := by decide +kernel
theorem dL_law_182 : decode cL_law 182 = .ok (.iconst 4, 1) := by decide +kernel
theorem dL_law_183 : decode cL_law 183 = .ok (.iadd, 1) := by decide +kernel
theorem dL_law_184 : decode cL_law 184 = .ok (.iaload, 1) := by decide +kernel
theorem dL_law_185 : decode cL_law 185 = .ok (.aload_n 0, 1) := by decide +kernel
theorem dL_law_186 : decode cL_law 186 = .ok (.iload 4, 2) := by decide +kernel
theorem dL_law_188 : decode cL_law 188 = .ok (.iconst 5, 1) := by decide +kernel
theorem dL_law_189 : decode cL_law 189 = .ok (.iadd, 1) := by decide +kernel
theorem dL_law_190 : decode cL_law 190 = .ok (.iaload, 1) := by decide +kernel
theorem dL_law_191 : decode cL_law 191 = .ok (.invokevirtual 80, 3) := by decide +kernel
theorem dL_law_194 : decode cL_law 194 = .ok (.aload_n 2, 1) := by decide +kernel
theorem dL_law_195 : decode cL_law 195 = .ok (.aload_n 0, 1) := by decide +kernel
theorem dL_law_196 : decode cL_law 196 = .ok (.iload 4, 2) := by decide +kernel
theorem dL_law_198 : decode cL_law 198 = .ok (.iconst 1, 1) := by decide +kernel
theorem dL_law_199 : decode cL_law 199 = .ok (.iadd, 1) := by decide +kernel
theorem dL_law_200 : decode cL_law 200 = .ok (.iaload, 1) := by decide +kernel
theorem dL_law_201 : decode cL_law 201 = .ok (.aload_n 0, 1) := by decide +kernel
theorem dL_law_202 : decode cL_law 202 = .ok (.iload 4, 2) := by decide +kernel
theorem dL_law_204 : decode cL_law 204 = .ok (.iconst 2, 1) := by decide +kernel
theorem dL_law_205 : decode cL_law 205 = .ok (.iadd, 1) := by decide +kernel
theorem dL_law_206 : decode cL_law 206 = .ok (.iaload, 1) := by decide +kernel
theorem dL_law_207 : decode cL_law 207 = .ok (.aload_n 0, 1) := by decide +kernel
theorem dL_law_208 : decode cL_law 208 = .ok (.iload 4, 2) := by decide +kernel
theorem dL_law_210 : decode cL_law 210 = .ok (.iconst 3, 1) := by decide +kernel
theorem dL_law_211 : decode cL_law 211 = .ok (.iadd, 1) := by decide +kernel
theorem dL_law_212 : decode cL_law 212 = .ok (.iaload, 1) := by decide +kernel
theorem dL_law_213 : decode cL_law 213 = .ok (.aload_n 0, 1) := by decide +kernel
theorem dL_law_214 : decode cL_law 214 = .ok (.iload 4, 2) := by decide +kernel
theorem dL_law_216 : decode cL_law 216 = .ok (.iconst 4, 1) := by decide +kernel
theorem dL_law_217 : decode cL_law 217 = .ok (.iadd, 1) := by decide +kernel
theorem dL_law_218 : decode cL_law 218 = .ok (.iaload, 1) := by decide +kernel
theorem dL_law_219 : decode cL_law 219 = .ok (.aload_n 0, 1) := by decide +kernel
theorem dL_law_220 : decode cL_law 220 = .ok (.iload 4, 2) := by decide +kernel
theorem dL_law_222 : decode cL_law 222 = .ok (.iconst 5, 1) := by decide +kernel
theorem dL_law_223 : decode cL_law 223 = .ok (.iadd, 1) := by decide +kernel
theorem dL_law_224 : decode cL_law 224 = .ok (.iaload, 1) := by decide +kernel
theorem dL_law_225 : decode cL_law 225 = .ok (.invokevirtual 84, 3) := by decide +kernel
theorem dL_law_228 : decode cL_law 228 = .ok (.if_icmp .eq 1322, 3) := by decide +kernel
theorem dL_law_231 : decode cL_law 231 = .ok (.iconst 0, 1) := by decide +kernel
theorem dL_law_232 : decode cL_law 232 = .ok (.ireturn, 1) := by decide +kernel
theorem dL_law_233 : decode cL_law 233 = .ok (.aload_n 1, 1) := by decide +kernel
theorem dL_law_234 : decode cL_law 234 = .ok (.aload_n 0, 1) := by decide +kernel
theorem dL_law_235 : decode cL_law 235 = .ok (.iload 4, 2) := by decide +kernel
theorem dL_law_237 : decode cL_law 237 = .ok (.iconst 1, 1) := by decide +kernel
theorem dL_law_238 : decode cL_law 238 = .ok (.iadd, 1) := by decide +kernel
theorem dL_law_239 : decode cL_law 239 = .ok (.iaload, 1) := by decide +kernel
theorem dL_law_240 : decode cL_law 240 = .ok (.aload_n 3, 1) := by decide +kernel
theorem dL_law_241 : decode cL_law 241 = .ok (.invokestatic 85, 3) := by decide +kernel
theorem dL_law_244 : decode cL_law 244 = .ok (.istore 5, 2) := by decide +kernel
theorem dL_law_246 : decode cL_law 246 = .ok (.aload_n 2, 1) := by decide +kernel
theorem dL_law_247 : decode cL_law 247 = .ok (.aload_n 0, 1) := by decide +kernel
theorem dL_law_248 : decode cL_law 248 = .ok (.iload 4, 2) := by decide +kernel
theorem dL_law_250 : decode cL_law 250 = .ok (.iconst 1, 1) := by decide +kernel
theorem dL_law_251 : decode cL_law 251 = .ok (.iadd, 1) := by decide +kernel
theorem dL_law_252 : decode cL_law 252 = .ok (.iaload, 1) := by decide +kernel
theorem dL_law_253 : decode cL_law 253 = .ok (.invokevirtual 90, 3) := by decide +kernel
theorem dL_law_256 : decode cL_law 256 = .ok (.istore 6, 2) := by decide +kernel
theorem dL_law_258 : decode cL_law 258 = .ok (.aload_n 2, 1) := by decide +kernel
theorem dL_law_259 : decode cL_law 259 = .ok (.invokevirtual 91, 3) := by decide +kernel
theorem dL_law_262 : decode cL_law 262 = .ok (.iload 5, 2) := by decide +kernel
theorem dL_law_264 : decode cL_law 264 = .ok (.if_icmp .eq 5, 3) := by decide +kernel
theorem dL_law_267 : decode cL_law 267 = .ok (.iconst 0, 1) := by decide +kernel
theorem dL_law_268 : decode cL_law 268 = .ok (.ireturn, 1) := by decide +kernel
theorem dL_law_269 : decode cL_law 269 = .ok (.iload 5, 2) := by decide +kernel
theorem dL_law_271 : decode cL_law 271 = .ok (.ifCond .ne 15, 3) := by decide +kernel
theorem dL_law_274 : decode cL_law 274 = .ok (.aload_n 3, 1) := by decide +kernel
theorem dL_law_275 : decode cL_law 275 = .ok (.iconst 0, 1) := by decide +kernel
theorem dL_law_276 : decode cL_law 276 = .ok (.laload, 1) := by decide +kernel
theorem dL_law_277 : decode cL_law 277 = .ok (.iload 6, 2) := by decide +kernel
theorem dL_law_279 : decode cL_law 279 = .ok (.i2l, 1) := by decide +kernel
theorem dL_law_280 : decode cL_law 280 = .ok (.lcmp, 1) := by decide +kernel
theorem dL_law_281 : decode cL_law 281 = .ok (.ifCond .eq 5, 3) := by decide +kernel
theorem dL_law_284 : decode cL_law 284 = .ok (.iconst 0, 1) := by decide +kernel
theorem dL_law_285 : decode cL_law 285 = .ok (.ireturn, 1) := by decide +kernel
theorem dL_law_286 : decode cL_law 286 = .ok (.goto 1264, 3) := by decide +kernel
theorem dL_law_289 : decode cL_law 289 = .ok (.aload_n 1, 1) := by decide +kernel
theorem dL_law_290 : decode cL_law 290 = .ok (.invokevirtual 94, 3) := by decide +kernel
theorem dL_law_293 : decode cL_law 293 = .ok (.aload_n 2, 1) := by decide +kernel
theorem dL_law_294 : decode cL_law 294 = .ok (.invokevirtual 97, 3) := by decide +kernel
theorem dL_law_297 : decode cL_law 297 = .ok (.if_icmp .eq 1253, 3) := by decide +kernel
theorem dL_law_300 : decode cL_law 300 = .ok (.iconst 0, 1) := by decide +kernel
theorem dL_law_301 : decode cL_law 301 = .ok (.ireturn, 1) := by decide +kernel
theorem dL_law_302 : decode cL_law 302 = .ok (.aload_n 1, 1) := by decide +kernel
theorem dL_law_303 : decode cL_law 303 = .ok (.aload_n 0, 1) := by decide +kernel
theorem dL_law_304 : decode cL_law 304 = .ok (.iload 4, 2) := by decide +kernel
theorem dL_law_306 : decode cL_law 306 = .ok (.iconst 1, 1) := by decide +kernel
theorem dL_law_307 : decode cL_law 307 = .ok (.iadd, 1) := by decide +kernel
theorem dL_law_308 : decode cL_law 308 = .ok (.iaload, 1) := by decide +kernel
theorem dL_law_309 : decode cL_law 309 = .ok (.aload_n 3, 1) := by decide +kernel
theorem dL_law_310 : decode cL_law 310 = .ok (.invokestatic 98, 3) := by decide +kernel
theorem dL_law_313 : decode cL_law 313 = .ok (.istore 5, 2) := by decide +kernel
theorem dL_law_315 : decode cL_law 315 = .ok (.aload_n 2, 1) := by decide +kernel
theorem dL_law_316 : decode cL_law 316 = .ok (.aload_n 0, 1) := by decide +kernel
theorem dL_law_317 : decode cL_law 317 = .ok (.iload 4, 2) := by decide +kernel
theorem dL_law_319 : decode cL_law 319 = .ok (.iconst 1, 1) := by decide +kernel
theorem dL_law_320 : decode cL_law 320 = .ok (.iadd, 1) := by decide +kernel
theorem dL_law_321 : decode cL_law 321 = .ok (.iaload, 1) := by decide +kernel
theorem dL_law_322 : decode cL_law 322 = .ok (.invokevirtual 100, 3) := by decide +kernel
theorem dL_law_325 : decode cL_law 325 = .ok (.istore 6, 2) := by decide +kernel
theorem dL_law_327 : decode cL_law 327 = .ok (.aload_n 2, 1) := by decide +kernel
theorem dL_law_328 : decode cL_law 328 = .ok (.invokevirtual 91, 3) := by decide +kernel
theorem dL_law_331 : decode cL_law 331 = .ok (.iload 5, 2) := by decide +kernel
theorem dL_law_333 : decode cL_law 333 = .ok (.if_icmp .eq 5, 3) := by decide +kernel
theorem dL_law_336 : decode cL_law 336 = .ok (.iconst 0, 1) := by decide +kernel
theorem dL_law_337 : decode cL_law 337 = .ok (.ireturn, 1) := by decide +kernel
theorem dL_law_338 : decode cL_law 338 = .ok (.iload 5, 2) := by decide +kernel
theorem dL_law_340 : decode cL_law 340 = .ok (.ifCond .ne 15, 3) := by decide +kernel
theorem dL_law_343 : decode cL_law 343 = .ok (.aload_n 3, 1) := by decide +kernel
theorem dL_law_344 : decode cL_law 344 = .ok (.iconst 0, 1) := by decide +kernel
theorem dL_law_345 : decode cL_law 345 = .ok (.laload, 1) := by decide +kernel
theorem dL_law_346 : decode cL_law 346 = .ok (.iload 6, 2) := by decide +kernel
theorem dL_law_348 : decode cL_law 348 = .ok (.i2l, 1) := by decide +kernel
theorem dL_law_349 : decode cL_law 349 = .ok (.lcmp, 1) := by decide +kernel
theorem dL_law_350 : decode cL_law 350 = .ok (.ifCond .eq 5, 3) := by decide +kernel
theorem dL_law_353 : decode cL_law 353 = .ok (.iconst 0, 1) := by decide +kernel
theorem dL_law_354 : decode cL_law 354 = .ok (.ireturn, 1) := by decide +kernel
theorem dL_law_355 : decode cL_law 355 = .ok (.goto 1195, 3) := by decide +kernel
theorem dL_law_358 : decode cL_law 358 = .ok (.aload_n 1, 1) := by decide +kernel
theorem dL_law_359 : decode cL_law 359 = .ok (.aload_n 0, 1) := by decide +kernel
theorem dL_law_360 : decode cL_law 360 = .ok (.iload 4, 2) := by decide +kernel
theorem dL_law_362 : decode cL_law 362 = .ok (.iconst 1, 1) := by decide +kernel
theorem dL_law_363 : decode cL_law 363 = .ok (.iadd, 1) := by decide +kernel
theorem dL_law_364 : decode cL_law 364 = .ok (.iaload, 1) := by decide +kernel
theorem dL_law_365 : decode cL_law 365 = .ok (.aload_n 0, 1) := by decide +kernel
theorem dL_law_366 : decode cL_law 366 = .ok (.iload 4, 2) := by decide +kernel
theorem dL_law_368 : decode cL_law 368 = .ok (.iconst 2, 1) := by decide +kernel
theorem dL_law_369 : decode cL_law 369 = .ok (.iadd, 1) := by decide +kernel
theorem dL_law_370 : decode cL_law 370 = .ok (.iaload, 1) := by decide +kernel
theorem dL_law_371 : decode cL_law 371 = .ok (.aload_n 3, 1) := by decide +kernel
theorem dL_law_372 : decode cL_law 372 = .ok (.invokestatic 101, 3) := by decide +kernel
theorem dL_law_375 : decode cL_law 375 = .ok (.istore 5, 2) := by decide +kernel
theorem dL_law_377 : decode cL_law 377 = .ok (.aload_n 2, 1) := by decide +kernel
theorem dL_law_378 : decode cL_law 378 = .ok (.aload_n 0, 1) := by decide +kernel
theorem dL_law_379 : decode cL_law 379 = .ok (.iload 4, 2) := by decide +kernel
theorem dL_law_381 : decode cL_law 381 = .ok (.iconst 1, 1) := by decide +kernel
theorem dL_law_382 : decode cL_law 382 = .ok (.iadd, 1) := by decide +kernel
theorem dL_law_383 : decode cL_law 383 = .ok (.iaload, 1) := by decide +kernel
theorem dL_law_384 : decode cL_law 384 = .ok (.aload_n 0, 1) := by decide +kernel
theorem dL_law_385 : decode cL_law 385 = .ok (.iload 4, 2) := by decide +kernel
theorem dL_law_387 : decode cL_law 387 = .ok (.iconst 2, 1) := by decide +kernel
theorem dL_law_388 : decode cL_law 388 = .ok (.iadd, 1) := by decide +kernel
theorem dL_law_389 : decode cL_law 389 = .ok (.iaload, 1) := by decide +kernel
theorem dL_law_390 : decode cL_law 390 = .ok (.invokevirtual 104, 3) := by decide +kernel
theorem dL_law_393 : decode cL_law 393 = .ok (.istore 6, 2) := by decide +kernel
theorem dL_law_395 : decode cL_law 395 = .ok (.aload_n 2, 1) := by decide +kernel
theorem dL_law_396 : decode cL_law 396 = .ok (.invokevirtual 91, 3) := by decide +kernel
theorem dL_law_399 : decode cL_law 399 = .ok (.iload 5, 2) := by decide +kernel
theorem dL_law_401 : decode cL_law 401 = .ok (.if_icmp .eq 5, 3) := by decide +kernel
theorem dL_law_404 : decode cL_law 404 = .ok (.iconst 0, 1) := by decide +kernel
theorem dL_law_405 : decode cL_law 405 = .ok (.ireturn, 1) := by decide +kernel
theorem dL_law_406 : decode cL_law 406 = .ok (.iload 5, 2) := by decide +kernel
theorem dL_law_408 : decode cL_law 408 = .ok (.ifCond .ne 15, 3) := by decide +kernel
theorem dL_law_411 : decode cL_law 411 = .ok (.aload_n 3, 1) := by decide +kernel
theorem dL_law_412 : decode cL_law 412 = .ok (.iconst 0, 1) := by decide +kernel
theorem dL_law_413 : decode cL_law 413 = .ok (.laload, 1) := by decide +kernel
theorem dL_law_414 : decode cL_law 414 = .ok (.iload 6, 2) := by decide +kernel
theorem dL_law_416 : decode cL_law 416 = .ok (.i2l, 1) := by decide +kernel
theorem dL_law_417 : decode cL_law 417 = .ok (.lcmp, 1) := by decide +kernel
theorem dL_law_418 : decode cL_law 418 = .ok (.ifCond .eq 5, 3) := by decide +kernel
theorem dL_law_421 : decode cL_law 421 = .ok (.iconst 0, 1) := by decide +kernel
theorem dL_law_422 : decode cL_law 422 = .ok (.ireturn, 1) := by decide +kernel
theorem dL_law_423 : decode cL_law 423 = .ok (.goto 1127, 3) := by decide +kernel
theorem dL_law_426 : decode cL_law 426 = .ok (.aload_n 1, 1) := by decide +kernel
theorem dL_law_427 : decode cL_law 427 = .ok (.aload_n 0, 1) := by decide +kernel
theorem dL_law_428 : decode cL_law 428 = .ok (.iload 4, 2) := by decide +kernel
theorem dL_law_430 : decode cL_law 430 = .ok (.iconst 1, 1) := by decide +kernel
theorem dL_law_431 : decode cL_law 431 = .ok (.iadd, 1) := by decide +kernel
theorem dL_law_432 : decode cL_law 432 = .ok (.iaload, 1) := by decide +kernel
theorem dL_law_433 : decode cL_law 433 = .ok (.aload_n 0, 1) := by decide +kernel
theorem dL_law_434 : decode cL_law 434 = .ok (.iload 4, 2) := by decide +kernel
theorem dL_law_436 : decode cL_law 436 = .ok (.iconst 2, 1) := by decide +kernel
theorem dL_law_437 : decode cL_law 437 = .ok (.iadd, 1) := by decide +kernel
theorem dL_law_438 : decode cL_law 438 = .ok (.iaload, 1) := by decide +kernel
theorem dL_law_439 : decode cL_law 439 = .ok (.aload_n 3, 1) := by decide +kernel
theorem dL_law_440 : decode cL_law 440 = .ok (.invokestatic 105, 3) := by decide +kernel
theorem dL_law_443 : decode cL_law 443 = .ok (.istore 5, 2) := by decide +kernel
theorem dL_law_445 : decode cL_law 445 = .ok (.aload_n 2, 1) := by decide +kernel
theorem dL_law_446 : decode cL_law 446 = .ok (.aload_n 0, 1) := by decide +kernel
theorem dL_law_447 : decode cL_law 447 = .ok (.iload 4, 2) := by decide +kernel
theorem dL_law_449 : decode cL_law 449 = .ok (.iconst 1, 1) := by decide +kernel
theorem dL_law_450 : decode cL_law 450 = .ok (.iadd, 1) := by decide +kernel
theorem dL_law_451 : decode cL_law 451 = .ok (.iaload, 1) := by decide +kernel
theorem dL_law_452 : decode cL_law 452 = .ok (.aload_n 0, 1) := by decide +kernel
theorem dL_law_453 : decode cL_law 453 = .ok (.iload 4, 2) := by decide +kernel
theorem dL_law_455 : decode cL_law 455 = .ok (.iconst 2, 1) := by decide +kernel
theorem dL_law_456 : decode cL_law 456 = .ok (.iadd, 1) := by decide +kernel
theorem dL_law_457 : decode cL_law 457 = .ok (.iaload, 1) := by decide +kernel
theorem dL_law_458 : decode cL_law 458 = .ok (.invokevirtual 107, 3) := by decide +kernel
theorem dL_law_461 : decode cL_law 461 = .ok (.istore 6, 2) := by decide +kernel
theorem dL_law_463 : decode cL_law 463 = .ok (.aload_n 2, 1) := by decide +kernel
theorem dL_law_464 : decode cL_law 464 = .ok (.invokevirtual 91, 3) := by decide +kernel
theorem dL_law_467 : decode cL_law 467 = .ok (.iload 5, 2) := by decide +kernel
theorem dL_law_469 : decode cL_law 469 = .ok (.if_icmp .eq 5, 3) := by decide +kernel
theorem dL_law_472 : decode cL_law 472 = .ok (.iconst 0, 1) := by decide +kernel
theorem dL_law_473 : decode cL_law 473 = .ok (.ireturn, 1) := by decide +kernel
theorem dL_law_474 : decode cL_law 474 = .ok (.iload 5, 2) := by decide +kernel
theorem dL_law_476 : decode cL_law 476 = .ok (.ifCond .ne 15, 3) := by decide +kernel
theorem dL_law_479 : decode cL_law 479 = .ok (.aload_n 3, 1) := by decide +kernel
theorem dL_law_480 : decode cL_law 480 = .ok (.iconst 0, 1) := by decide +kernel
theorem dL_law_481 : decode cL_law 481 = .ok (.laload, 1) := by decide +kernel
theorem dL_law_482 : decode cL_law 482 = .ok (.iload 6, 2) := by decide +kernel
theorem dL_law_484 : decode cL_law 484 = .ok (.i2l, 1) := by decide +kernel
theorem dL_law_485 : decode cL_law 485 = .ok (.lcmp, 1) := by decide +kernel
theorem dL_law_486 : decode cL_law 486 = .ok (.ifCond .eq 5, 3) := by decide +kernel
theorem dL_law_489 : decode cL_law 489 = .ok (.iconst 0, 1) := by decide +kernel
theorem dL_law_490 : decode cL_law 490 = .ok (.ireturn, 1) := by decide +kernel
theorem dL_law_491 : decode cL_law 491 = .ok (.goto 1059, 3) := by decide +kernel
theorem dL_law_494 : decode cL_law 494 = .ok (.aload_n 1, 1) := by decide +kernel
theorem dL_law_495 : decode cL_law 495 = .ok (.aload_n 0, 1) := by decide +kernel
theorem dL_law_496 : decode cL_law 496 = .ok (.iload 4, 2) := by decide +kernel
theorem dL_law_498 : decode cL_law 498 = .ok (.iconst 1, 1) := by decide +kernel
theorem dL_law_499 : decode cL_law 499 = .ok (.iadd, 1) := by decide +kernel
theorem dL_law_500 : decode cL_law 500 = .ok (.iaload, 1) := by decide +kernel
theorem dL_law_501 : decode cL_law 501 = .ok (.aload_n 0, 1) := by decide +kernel
theorem dL_law_502 : decode cL_law 502 = .ok (.iload 4, 2) := by decide +kernel
theorem dL_law_504 : decode cL_law 504 = .ok (.iconst 2, 1) := by decide +kernel
theorem dL_law_505 : decode cL_law 505 = .ok (.iadd, 1) := by decide +kernel
theorem dL_law_506 : decode cL_law 506 = .ok (.iaload, 1) := by decide +kernel
theorem dL_law_507 : decode cL_law 507 = .ok (.aload_n 3, 1) := by decide +kernel
theorem dL_law_508 : decode cL_law 508 = .ok (.invokestatic 108, 3) := by decide +kernel
theorem dL_law_511 : decode cL_law 511 = .ok (.istore 5, 2) := by decide +kernel
theorem dL_law_513 : decode cL_law 513 = .ok (.aload_n 2, 1) := by decide +kernel
theorem dL_law_514 : decode cL_law 514 = .ok (.aload_n 0, 1) := by decide +kernel
theorem dL_law_515 : decode cL_law 515 = .ok (.iload 4, 2) := by decide +kernel
theorem dL_law_517 : decode cL_law 517 = .ok (.iconst 1, 1) := by decide +kernel
theorem dL_law_518 : decode cL_law 518 = .ok (.iadd, 1) := by decide +kernel
theorem dL_law_519 : decode cL_law 519 = .ok (.iaload, 1) := by decide +kernel
theorem dL_law_520 : decode cL_law 520 = .ok (.aload_n 0, 1) := by decide +kernel
theorem dL_law_521 : decode cL_law 521 = .ok (.iload 4, 2) := by decide +kernel
theorem dL_law_523 : decode cL_law 523 = .ok (.iconst 2, 1) := by decide +kernel
theorem dL_law_524 : decode cL_law 524 = .ok (.iadd, 1) := by decide +kernel
theorem dL_law_525 : decode cL_law 525 = .ok (.iaload, 1) := by decide +kernel
theorem dL_law_526 : decode cL_law 526 = .ok (.invokevirtual 110, 3) := by decide +kernel
theorem dL_law_529 : decode cL_law 529 = .ok (.istore 6, 2) := by decide +kernel
theorem dL_law_531 : decode cL_law 531 = .ok (.aload_n 2, 1) := by decide +kernel
theorem dL_law_532 : decode cL_law 532 = .ok (.invokevirtual 91, 3) := by decide +kernel
theorem dL_law_535 : decode cL_law 535 = .ok (.iload 5, 2) := by decide +kernel
theorem dL_law_537 : decode cL_law 537 = .ok (.if_icmp .eq 5, 3) := by decide +kernel
theorem dL_law_540 : decode cL_law 540 = .ok (.iconst 0, 1) := by decide +kernel
theorem dL_law_541 : decode cL_law 541 = .ok (.ireturn, 1) := by decide +kernel
theorem dL_law_542 : decode cL_law 542 = .ok (.iload 5, 2) := by decide +kernel
theorem dL_law_544 : decode cL_law 544 = .ok (.ifCond .ne 15, 3) := by decide +kernel
theorem dL_law_547 : decode cL_law 547 = .ok (.aload_n 3, 1) := by decide +kernel
theorem dL_law_548 : decode cL_law 548 = .ok (.iconst 0, 1) := by decide +kernel
theorem dL_law_549 : decode cL_law 549 = .ok (.laload, 1) := by decide +kernel
theorem dL_law_550 : decode cL_law 550 = .ok (.iload 6, 2) := by decide +kernel
theorem dL_law_552 : decode cL_law 552 = .ok (.i2l, 1) := by decide +kernel
theorem dL_law_553 : decode cL_law 553 = .ok (.lcmp, 1) := by decide +kernel
theorem dL_law_554 : decode cL_law 554 = .ok (.ifCond .eq 5, 3) := by decide +kernel
theorem dL_law_557 : decode cL_law 557 = .ok (.iconst 0, 1) := by decide +kernel
theorem dL_law_558 : decode cL_law 558 = .ok (.ireturn, 1) := by decide +kernel
theorem dL_law_559 : decode cL_law 559 = .ok (.goto 991, 3) := by decide +kernel
theorem dL_law_562 : decode cL_law 562 = .ok (.aload_n 1, 1) := by decide +kernel
theorem dL_law_563 : decode cL_law 563 = .ok (.aload_n 0, 1) := by decide +kernel
theorem dL_law_564 : decode cL_law 564 = .ok (.iload 4, 2) := by decide +kernel
theorem dL_law_566 : decode cL_law 566 = .ok (.iconst 1, 1) := by decide +kernel
theorem dL_law_567 : decode cL_law 567 = .ok (.iadd, 1) := by decide +kernel
theorem dL_law_568 : decode cL_law 568 = .ok (.iaload, 1) := by decide +kernel
theorem dL_law_569 : decode cL_law 569 = .ok (.aload_n 0, 1) := by decide +kernel
theorem dL_law_570 : decode cL_law 570 = .ok (.iload 4, 2) := by decide +kernel
theorem dL_law_572 : decode cL_law 572 = .ok (.iconst 2, 1) := by decide +kernel
theorem dL_law_573 : decode cL_law 573 = .ok (.iadd, 1) := by decide +kernel
theorem dL_law_574 : decode cL_law 574 = .ok (.iaload, 1) := by decide +kernel
theorem dL_law_575 : decode cL_law 575 = .ok (.aload_n 0, 1) := by decide +kernel
theorem dL_law_576 : decode cL_law 576 = .ok (.iload 4, 2) := by decide +kernel
theorem dL_law_578 : decode cL_law 578 = .ok (.iconst 3, 1) := by decide +kernel
theorem dL_law_579 : decode cL_law 579 = .ok (.iadd, 1) := by decide +kernel
theorem dL_law_580 : decode cL_law 580 = .ok (.iaload, 1) := by decide +kernel
theorem dL_law_581 : decode cL_law 581 = .ok (.aload_n 3, 1) := by decide +kernel
theorem dL_law_582 : decode cL_law 582 = .ok (.invokestatic 111, 3) := by decide +kernel
theorem dL_law_585 : decode cL_law 585 = .ok (.istore 5, 2) := by decide +kernel
theorem dL_law_587 : decode cL_law 587 = .ok (.aload_n 2, 1) := by decide +kernel
theorem dL_law_588 : decode cL_law 588 = .ok (.aload_n 0, 1) := by decide +kernel
theorem dL_law_589 : decode cL_law 589 = .ok (.iload 4, 2) := by decide +kernel
theorem dL_law_591 : decode cL_law 591 = .ok (.iconst 1, 1) := by decide +kernel
theorem dL_law_592 : decode cL_law 592 = .ok (.iadd, 1) := by decide +kernel
theorem dL_law_593 : decode cL_law 593 = .ok (.iaload, 1) := by decide +kernel
theorem dL_law_594 : decode cL_law 594 = .ok (.aload_n 0, 1) := by decide +kernel
theorem dL_law_595 : decode cL_law 595 = .ok (.iload 4, 2) := by decide +kernel
theorem dL_law_597 : decode cL_law 597 = .ok (.iconst 2, 1) := by decide +kernel
theorem dL_law_598 : decode cL_law 598 = .ok (.iadd, 1) := by decide +kernel
theorem dL_law_599 : decode cL_law 599 = .ok (.iaload, 1) := by decide +kernel
theorem dL_law_600 : decode cL_law 600 = .ok (.aload_n 0, 1) := by decide +kernel
theorem dL_law_601 : decode cL_law 601 = .ok (.iload 4, 2) := by decide +kernel
theorem dL_law_603 : decode cL_law 603 = .ok (.iconst 3, 1) := by decide +kernel
theorem dL_law_604 : decode cL_law 604 = .ok (.iadd, 1) := by decide +kernel
theorem dL_law_605 : decode cL_law 605 = .ok (.iaload, 1) := by decide +kernel
theorem dL_law_606 : decode cL_law 606 = .ok (.invokevirtual 114, 3) := by decide +kernel
theorem dL_law_609 : decode cL_law 609 = .ok (.istore 6, 2) := by decide +kernel
theorem dL_law_611 : decode cL_law 611 = .ok (.aload_n 2, 1) := by decide +kernel
theorem dL_law_612 : decode cL_law 612 = .ok (.invokevirtual 91, 3) := by decide +kernel
theorem dL_law_615 : decode cL_law 615 = .ok (.iload 5, 2) := by decide +kernel
theorem dL_law_617 : decode cL_law 617 = .ok (.if_icmp .eq 5, 3) := by decide +kernel
theorem dL_law_620 : decode cL_law 620 = .ok (.iconst 0, 1) := by decide +kernel
theorem dL_law_621 : decode cL_law 621 = .ok (.ireturn, 1) := by decide +kernel
theorem dL_law_622 : decode cL_law 622 = .ok (.iload 5, 2) := by decide +kernel
theorem dL_law_624 : decode cL_law 624 = .ok (.ifCond .ne 15, 3) := by decide +kernel
theorem dL_law_627 : decode cL_law 627 = .ok (.aload_n 3, 1) := by decide +kernel
theorem dL_law_628 : decode cL_law 628 = .ok (.iconst 0, 1) := by decide +kernel
theorem dL_law_629 : decode cL_law 629 = .ok (.laload, 1) := by decide +kernel
theorem dL_law_630 : decode cL_law 630 = .ok (.iload 6, 2) := by decide +kernel
theorem dL_law_632 : decode cL_law 632 = .ok (.i2l, 1) := by decide +kernel
theorem dL_law_633 : decode cL_law 633 = .ok (.lcmp, 1) := by decide +kernel
theorem dL_law_634 : decode cL_law 634 = .ok (.ifCond .eq 5, 3) := by decide +kernel
theorem dL_law_637 : decode cL_law 637 = .ok (.iconst 0, 1) := by decide +kernel
theorem dL_law_638 : decode cL_law 638 = .ok (.ireturn, 1) := by decide +kernel
theorem dL_law_639 : decode cL_law 639 = .ok (.goto 911, 3) := by decide +kernel
theorem dL_law_642 : decode cL_law 642 = .ok (.aload_n 1, 1) := by decide +kernel
theorem dL_law_643 : decode cL_law 643 = .ok (.aload_n 0, 1) := by decide +kernel
theorem dL_law_644 : decode cL_law 644 = .ok (.iload 4, 2) := by decide +kernel
theorem dL_law_646 : decode cL_law 646 = .ok (.iconst 1, 1) := by decide +kernel
theorem dL_law_647 : decode cL_law 647 = .ok (.iadd, 1) := by decide +kernel
theorem dL_law_648 : decode cL_law 648 = .ok (.iaload, 1) := by decide +kernel
theorem dL_law_649 : decode cL_law 649 = .ok (.aload_n 0, 1) := by decide +kernel
theorem dL_law_650 : decode cL_law 650 = .ok (.iload 4, 2) := by decide +kernel
theorem dL_law_652 : decode cL_law 652 = .ok (.iconst 2, 1) := by decide +kernel
theorem dL_law_653 : decode cL_law 653 = .ok (.iadd, 1) := by decide +kernel
theorem dL_law_654 : decode cL_law 654 = .ok (.iaload, 1) := by decide +kernel
theorem dL_law_655 : decode cL_law 655 = .ok (.aload_n 3, 1) := by decide +kernel
theorem dL_law_656 : decode cL_law 656 = .ok (.invokestatic 115, 3) := by decide +kernel
theorem dL_law_659 : decode cL_law 659 = .ok (.istore 5, 2) := by decide +kernel
theorem dL_law_661 : decode cL_law 661 = .ok (.aload_n 2, 1) := by decide +kernel
theorem dL_law_662 : decode cL_law 662 = .ok (.aload_n 0, 1) := by decide +kernel
theorem dL_law_663 : decode cL_law 663 = .ok (.iload 4, 2) := by decide +kernel
theorem dL_law_665 : decode cL_law 665 = .ok (.iconst 1, 1) := by decide +kernel
theorem dL_law_666 : decode cL_law 666 = .ok (.iadd, 1) := by decide +kernel
theorem dL_law_667 : decode cL_law 667 = .ok (.iaload, 1) := by decide +kernel
theorem dL_law_668 : decode cL_law 668 = .ok (.aload_n 0, 1) := by decide +kernel
theorem dL_law_669 : decode cL_law 669 = .ok (.iload 4, 2) := by decide +kernel
theorem dL_law_671 : decode cL_law 671 = .ok (.iconst 2, 1) := by decide +kernel
theorem dL_law_672 : decode cL_law 672 = .ok (.iadd, 1) := by decide +kernel
theorem dL_law_673 : decode cL_law 673 = .ok (.iaload, 1) := by decide +kernel
theorem dL_law_674 : decode cL_law 674 = .ok (.invokevirtual 117, 3) := by decide +kernel
theorem dL_law_677 : decode cL_law 677 = .ok (.istore 6, 2) := by decide +kernel
theorem dL_law_679 : decode cL_law 679 = .ok (.aload_n 2, 1) := by decide +kernel
theorem dL_law_680 : decode cL_law 680 = .ok (.invokevirtual 91, 3) := by decide +kernel
theorem dL_law_683 : decode cL_law 683 = .ok (.iload 5, 2) := by decide +kernel
theorem dL_law_685 : decode cL_law 685 = .ok (.if_icmp .eq 5, 3) := by decide +kernel
theorem dL_law_688 : decode cL_law 688 = .ok (.iconst 0, 1) := by decide +kernel
theorem dL_law_689 : decode cL_law 689 = .ok (.ireturn, 1) := by decide +kernel
theorem dL_law_690 : decode cL_law 690 = .ok (.iload 5, 2) := by decide +kernel
theorem dL_law_692 : decode cL_law 692 = .ok (.ifCond .ne 22, 3) := by decide +kernel
theorem dL_law_695 : decode cL_law 695 = .ok (.aload_n 3, 1) := by decide +kernel
theorem dL_law_696 : decode cL_law 696 = .ok (.iconst 0, 1) := by decide +kernel
theorem dL_law_697 : decode cL_law 697 = .ok (.laload, 1) := by decide +kernel
theorem dL_law_698 : decode cL_law 698 = .ok (.iload 6, 2) := by decide +kernel
theorem dL_law_700 : decode cL_law 700 = .ok (.ifCond .eq 7, 3) := by decide +kernel
theorem dL_law_703 : decode cL_law 703 = .ok (.lconst 1, 1) := by decide +kernel
theorem dL_law_704 : decode cL_law 704 = .ok (.goto 4, 3) := by decide +kernel
theorem dL_law_707 : decode cL_law 707 = .ok (.lconst 0, 1) := by decide +kernel
theorem dL_law_708 : decode cL_law 708 = .ok (.lcmp, 1) := by decide +kernel
theorem dL_law_709 : decode cL_law 709 = .ok (.ifCond .eq 5, 3) := by decide +kernel
theorem dL_law_712 : decode cL_law 712 = .ok (.iconst 0, 1) := by decide +kernel
theorem dL_law_713 : decode cL_law 713 = .ok (.ireturn, 1) := by decide +kernel
theorem dL_law_714 : decode cL_law 714 = .ok (.goto 836, 3) := by decide +kernel
theorem dL_law_717 : decode cL_law 717 = .ok (.aload_n 1, 1) := by decide +kernel
theorem dL_law_718 : decode cL_law 718 = .ok (.aload_n 0, 1) := by decide +kernel
theorem dL_law_719 : decode cL_law 719 = .ok (.iload 4, 2) := by decide +kernel
theorem dL_law_721 : decode cL_law 721 = .ok (.iconst 1, 1) := by decide +kernel
theorem dL_law_722 : decode cL_law 722 = .ok (.iadd, 1) := by decide +kernel
theorem dL_law_723 : decode cL_law 723 = .ok (.iaload, 1) := by decide +kernel
theorem dL_law_724 : decode cL_law 724 = .ok (.aload_n 0, 1) := by decide +kernel
theorem dL_law_725 : decode cL_law 725 = .ok (.iload 4, 2) := by decide +kernel
theorem dL_law_727 : decode cL_law 727 = .ok (.iconst 2, 1) := by decide +kernel
theorem dL_law_728 : decode cL_law 728 = .ok (.iadd, 1) := by decide +kernel
theorem dL_law_729 : decode cL_law 729 = .ok (.iaload, 1) := by decide +kernel
theorem dL_law_730 : decode cL_law 730 = .ok (.aload_n 0, 1) := by decide +kernel
theorem dL_law_731 : decode cL_law 731 = .ok (.iload 4, 2) := by decide +kernel
theorem dL_law_733 : decode cL_law 733 = .ok (.iconst 3, 1) := by decide +kernel
theorem dL_law_734 : decode cL_law 734 = .ok (.iadd, 1) := by decide +kernel
theorem dL_law_735 : decode cL_law 735 = .ok (.iaload, 1) := by decide +kernel
theorem dL_law_736 : decode cL_law 736 = .ok (.aload_n 3, 1) := by decide +kernel
theorem dL_law_737 : decode cL_law 737 = .ok (.invokestatic 118, 3) := by decide +kernel
theorem dL_law_740 : decode cL_law 740 = .ok (.istore 5, 2) := by decide +kernel
theorem dL_law_742 : decode cL_law 742 = .ok (.aload_n 2, 1) := by decide +kernel
theorem dL_law_743 : decode cL_law 743 = .ok (.aload_n 0, 1) := by decide +kernel
theorem dL_law_744 : decode cL_law 744 = .ok (.iload 4, 2) := by decide +kernel
theorem dL_law_746 : decode cL_law 746 = .ok (.iconst 1, 1) := by decide +kernel
theorem dL_law_747 : decode cL_law 747 = .ok (.iadd, 1) := by decide +kernel
theorem dL_law_748 : decode cL_law 748 = .ok (.iaload, 1) := by decide +kernel
theorem dL_law_749 : decode cL_law 749 = .ok (.aload_n 0, 1) := by decide +kernel
theorem dL_law_750 : decode cL_law 750 = .ok (.iload 4, 2) := by decide +kernel
theorem dL_law_752 : decode cL_law 752 = .ok (.iconst 2, 1) := by decide +kernel
theorem dL_law_753 : decode cL_law 753 = .ok (.iadd, 1) := by decide +kernel
theorem dL_law_754 : decode cL_law 754 = .ok (.iaload, 1) := by decide +kernel
theorem dL_law_755 : decode cL_law 755 = .ok (.aload_n 0, 1) := by decide +kernel
theorem dL_law_756 : decode cL_law 756 = .ok (.iload 4, 2) := by decide +kernel
theorem dL_law_758 : decode cL_law 758 = .ok (.iconst 3, 1) := by decide +kernel
theorem dL_law_759 : decode cL_law 759 = .ok (.iadd, 1) := by decide +kernel
theorem dL_law_760 : decode cL_law 760 = .ok (.iaload, 1) := by decide +kernel
theorem dL_law_761 : decode cL_law 761 = .ok (.invokevirtual 120, 3) := by decide +kernel
theorem dL_law_764 : decode cL_law 764 = .ok (.istore 6, 2) := by decide +kernel
theorem dL_law_766 : decode cL_law 766 = .ok (.aload_n 2, 1) := by decide +kernel
theorem dL_law_767 : decode cL_law 767 = .ok (.invokevirtual 91, 3) := by decide +kernel
theorem dL_law_770 : decode cL_law 770 = .ok (.iload 5, 2) := by decide +kernel
theorem dL_law_772 : decode cL_law 772 = .ok (.if_icmp .eq 5, 3) := by decide +kernel
theorem dL_law_775 : decode cL_law 775 = .ok (.iconst 0, 1) := by decide +kernel
theorem dL_law_776 : decode cL_law 776 = .ok (.ireturn, 1) := by decide +kernel
theorem dL_law_777 : decode cL_law 777 = .ok (.iload 5, 2) := by decide +kernel
theorem dL_law_779 : decode cL_law 779 = .ok (.ifCond .ne 15, 3) := by decide +kernel
theorem dL_law_782 : decode cL_law 782 = .ok (.aload_n 3, 1) := by decide +kernel
theorem dL_law_783 : decode cL_law 783 = .ok (.iconst 0, 1) := by decide +kernel
theorem dL_law_784 : decode cL_law 784 = .ok (.laload, 1) := by decide +kernel
theorem dL_law_785 : decode cL_law 785 = .ok (.iload 6, 2) := by decide +kernel
theorem dL_law_787 : decode cL_law 787 = .ok (.i2l, 1) := by decide +kernel
theorem dL_law_788 : decode cL_law 788 = .ok (.lcmp, 1) := by decide +kernel
theorem dL_law_789 : decode cL_law 789 = .ok (.ifCond .eq 5, 3) := by decide +kernel
theorem dL_law_792 : decode cL_law 792 = .ok (.iconst 0, 1) := by decide +kernel
theorem dL_law_793 : decode cL_law 793 = .ok (.ireturn, 1) := by decide +kernel
theorem dL_law_794 : decode cL_law 794 = .ok (.goto 756, 3) := by decide +kernel
theorem dL_law_797 : decode cL_law 797 = .ok (.aload_n 1, 1) := by decide +kernel
theorem dL_law_798 : decode cL_law 798 = .ok (.aload_n 0, 1) := by decide +kernel
theorem dL_law_799 : decode cL_law 799 = .ok (.iload 4, 2) := by decide +kernel
theorem dL_law_801 : decode cL_law 801 = .ok (.iconst 1, 1) := by decide +kernel
theorem dL_law_802 : decode cL_law 802 = .ok (.iadd, 1) := by decide +kernel
theorem dL_law_803 : decode cL_law 803 = .ok (.iaload, 1) := by decide +kernel
theorem dL_law_804 : decode cL_law 804 = .ok (.aload_n 0, 1) := by decide +kernel
theorem dL_law_805 : decode cL_law 805 = .ok (.iload 4, 2) := by decide +kernel
theorem dL_law_807 : decode cL_law 807 = .ok (.iconst 2, 1) := by decide +kernel
theorem dL_law_808 : decode cL_law 808 = .ok (.iadd, 1) := by decide +kernel
theorem dL_law_809 : decode cL_law 809 = .ok (.iaload, 1) := by decide +kernel
theorem dL_law_810 : decode cL_law 810 = .ok (.aload_n 3, 1) := by decide +kernel
theorem dL_law_811 : decode cL_law 811 = .ok (.invokestatic 121, 3) := by decide +kernel
theorem dL_law_814 : decode cL_law 814 = .ok (.istore 5, 2) := by decide +kernel
theorem dL_law_816 : decode cL_law 816 = .ok (.aload_n 2, 1) := by decide +kernel
theorem dL_law_817 : decode cL_law 817 = .ok (.aload_n 0, 1) := by decide +kernel
theorem dL_law_818 : decode cL_law 818 = .ok (.iload 4, 2) := by decide +kernel
theorem dL_law_820 : decode cL_law 820 = .ok (.iconst 1, 1) := by decide +kernel
theorem dL_law_821 : decode cL_law 821 = .ok (.iadd, 1) := by decide +kernel
theorem dL_law_822 : decode cL_law 822 = .ok (.iaload, 1) := by decide +kernel
theorem dL_law_823 : decode cL_law 823 = .ok (.aload_n 0, 1) := by decide +kernel
theorem dL_law_824 : decode cL_law 824 = .ok (.iload 4, 2) := by decide +kernel
theorem dL_law_826 : decode cL_law 826 = .ok (.iconst 2, 1) := by decide +kernel
theorem dL_law_827 : decode cL_law 827 = .ok (.iadd, 1) := by decide +kernel
theorem dL_law_828 : decode cL_law 828 = .ok (.iaload, 1) := by decide +kernel
theorem dL_law_829 : decode cL_law 829 = .ok (.invokevirtual 123, 3) := by decide +kernel
theorem dL_law_832 : decode cL_law 832 = .ok (.istore 6, 2) := by decide +kernel
theorem dL_law_834 : decode cL_law 834 = .ok (.aload_n 2, 1) := by decide +kernel
theorem dL_law_835 : decode cL_law 835 = .ok (.invokevirtual 91, 3) := by decide +kernel
theorem dL_law_838 : decode cL_law 838 = .ok (.iload 5, 2) := by decide +kernel
theorem dL_law_840 : decode cL_law 840 = .ok (.if_icmp .eq 5, 3) := by decide +kernel
theorem dL_law_843 : decode cL_law 843 = .ok (.iconst 0, 1) := by decide +kernel
theorem dL_law_844 : decode cL_law 844 = .ok (.ireturn, 1) := by decide +kernel
theorem dL_law_845 : decode cL_law 845 = .ok (.iload 5, 2) := by decide +kernel
theorem dL_law_847 : decode cL_law 847 = .ok (.ifCond .ne 15, 3) := by decide +kernel
theorem dL_law_850 : decode cL_law 850 = .ok (.aload_n 3, 1) := by decide +kernel
theorem dL_law_851 : decode cL_law 851 = .ok (.iconst 0, 1) := by decide +kernel
theorem dL_law_852 : decode cL_law 852 = .ok (.laload, 1) := by decide +kernel
theorem dL_law_853 : decode cL_law 853 = .ok (.iload 6, 2) := by decide +kernel
theorem dL_law_855 : decode cL_law 855 = .ok (.i2l, 1) := by decide +kernel
theorem dL_law_856 : decode cL_law 856 = .ok (.lcmp, 1) := by decide +kernel
theorem dL_law_857 : decode cL_law 857 = .ok (.ifCond .eq 5, 3) := by decide +kernel
theorem dL_law_860 : decode cL_law 860 = .ok (.iconst 0, 1) := by decide +kernel
theorem dL_law_861 : decode cL_law 861 = .ok (.ireturn, 1) := by decide +kernel
theorem dL_law_862 : decode cL_law 862 = .ok (.goto 688, 3) := by decide +kernel
theorem dL_law_865 : decode cL_law 865 = .ok (.aload_n 1, 1) := by decide +kernel
theorem dL_law_866 : decode cL_law 866 = .ok (.aload_n 0, 1) := by decide +kernel
theorem dL_law_867 : decode cL_law 867 = .ok (.iload 4, 2) := by decide +kernel
theorem dL_law_869 : decode cL_law 869 = .ok (.iconst 1, 1) := by decide +kernel
theorem dL_law_870 : decode cL_law 870 = .ok (.iadd, 1) := by decide +kernel
theorem dL_law_871 : decode cL_law 871 = .ok (.iaload, 1) := by decide +kernel
theorem dL_law_872 : decode cL_law 872 = .ok (.aload_n 0, 1) := by decide +kernel
theorem dL_law_873 : decode cL_law 873 = .ok (.iload 4, 2) := by decide +kernel
theorem dL_law_875 : decode cL_law 875 = .ok (.iconst 2, 1) := by decide +kernel
theorem dL_law_876 : decode cL_law 876 = .ok (.iadd, 1) := by decide +kernel
theorem dL_law_877 : decode cL_law 877 = .ok (.iaload, 1) := by decide +kernel
theorem dL_law_878 : decode cL_law 878 = .ok (.aload_n 0, 1) := by decide +kernel
theorem dL_law_879 : decode cL_law 879 = .ok (.iload 4, 2) := by decide +kernel
theorem dL_law_881 : decode cL_law 881 = .ok (.iconst 3, 1) := by decide +kernel
theorem dL_law_882 : decode cL_law 882 = .ok (.iadd, 1) := by decide +kernel
theorem dL_law_883 : decode cL_law 883 = .ok (.iaload, 1) := by decide +kernel
theorem dL_law_884 : decode cL_law 884 = .ok (.aload_n 3, 1) := by decide +kernel
theorem dL_law_885 : decode cL_law 885 = .ok (.invokestatic 124, 3) := by decide +kernel
theorem dL_law_888 : decode cL_law 888 = .ok (.istore 5, 2) := by decide +kernel
theorem dL_law_890 : decode cL_law 890 = .ok (.aload_n 2, 1) := by decide +kernel
theorem dL_law_891 : decode cL_law 891 = .ok (.aload_n 0, 1) := by decide +kernel
theorem dL_law_892 : decode cL_law 892 = .ok (.iload 4, 2) := by decide +kernel
theorem dL_law_894 : decode cL_law 894 = .ok (.iconst 1, 1) := by decide +kernel
theorem dL_law_895 : decode cL_law 895 = .ok (.iadd, 1) := by decide +kernel
theorem dL_law_896 : decode cL_law 896 = .ok (.iaload, 1) := by decide +kernel
theorem dL_law_897 : decode cL_law 897 = .ok (.aload_n 0, 1) := by decide +kernel
theorem dL_law_898 : decode cL_law 898 = .ok (.iload 4, 2) := by decide +kernel
theorem dL_law_900 : decode cL_law 900 = .ok (.iconst 2, 1) := by decide +kernel
theorem dL_law_901 : decode cL_law 901 = .ok (.iadd, 1) := by decide +kernel
theorem dL_law_902 : decode cL_law 902 = .ok (.iaload, 1) := by decide +kernel
theorem dL_law_903 : decode cL_law 903 = .ok (.aload_n 0, 1) := by decide +kernel
theorem dL_law_904 : decode cL_law 904 = .ok (.iload 4, 2) := by decide +kernel
theorem dL_law_906 : decode cL_law 906 = .ok (.iconst 3, 1) := by decide +kernel
theorem dL_law_907 : decode cL_law 907 = .ok (.iadd, 1) := by decide +kernel
theorem dL_law_908 : decode cL_law 908 = .ok (.iaload, 1) := by decide +kernel
theorem dL_law_909 : decode cL_law 909 = .ok (.invokevirtual 126, 3) := by decide +kernel
theorem dL_law_912 : decode cL_law 912 = .ok (.istore 6, 2) := by decide +kernel
theorem dL_law_914 : decode cL_law 914 = .ok (.aload_n 2, 1) := by decide +kernel
theorem dL_law_915 : decode cL_law 915 = .ok (.invokevirtual 91, 3) := by decide +kernel
theorem dL_law_918 : decode cL_law 918 = .ok (.iload 5, 2) := by decide +kernel
theorem dL_law_920 : decode cL_law 920 = .ok (.if_icmp .eq 5, 3) := by decide +kernel
theorem dL_law_923 : decode cL_law 923 = .ok (.iconst 0, 1) := by decide +kernel
theorem dL_law_924 : decode cL_law 924 = .ok (.ireturn, 1) := by decide +kernel
theorem dL_law_925 : decode cL_law 925 = .ok (.iload 5, 2) := by decide +kernel
theorem dL_law_927 : decode cL_law 927 = .ok (.ifCond .ne 15, 3) := by decide +kernel
theorem dL_law_930 : decode cL_law 930 = .ok (.aload_n 3, 1) := by decide +kernel
theorem dL_law_931 : decode cL_law 931 = .ok (.iconst 0, 1) := by decide +kernel
theorem dL_law_932 : decode cL_law 932 = .ok (.laload, 1) := by decide +kernel
theorem dL_law_933 : decode cL_law 933 = .ok (.iload 6, 2) := by decide +kernel
theorem dL_law_935 : decode cL_law 935 = .ok (.i2l, 1) := by decide +kernel
theorem dL_law_936 : decode cL_law 936 = .ok (.lcmp, 1) := by decide +kernel
theorem dL_law_937 : decode cL_law 937 = .ok (.ifCond .eq 5, 3) := by decide +kernel
theorem dL_law_940 : decode cL_law 940 = .ok (.iconst 0, 1) := by decide +kernel
theorem dL_law_941 : decode cL_law 941 = .ok (.ireturn, 1) := by decide +kernel
theorem dL_law_942 : decode cL_law 942 = .ok (.goto 608, 3) := by decide +kernel
theorem dL_law_945 : decode cL_law 945 = .ok (.aload_n 1, 1) := by decide +kernel
theorem dL_law_946 : decode cL_law 946 = .ok (.invokevirtual 127, 3) := by decide +kernel
theorem dL_law_949 : decode cL_law 949 = .ok (.aload_n 2, 1) := by decide +kernel
theorem dL_law_950 : decode cL_law 950 = .ok (.invokevirtual 130, 3) := by decide +kernel
theorem dL_law_953 : decode cL_law 953 = .ok (.if_icmp .eq 597, 3) := by decide +kernel
theorem dL_law_956 : decode cL_law 956 = .ok (.iconst 0, 1) := by decide +kernel
theorem dL_law_957 : decode cL_law 957 = .ok (.ireturn, 1) := by decide +kernel
theorem dL_law_958 : decode cL_law 958 = .ok (.aload_n 1, 1) := by decide +kernel
theorem dL_law_959 : decode cL_law 959 = .ok (.aload_n 0, 1) := by decide +kernel
theorem dL_law_960 : decode cL_law 960 = .ok (.iload 4, 2) := by decide +kernel
theorem dL_law_962 : decode cL_law 962 = .ok (.iconst 1, 1) := by decide +kernel
theorem dL_law_963 : decode cL_law 963 = .ok (.iadd, 1) := by decide +kernel
theorem dL_law_964 : decode cL_law 964 = .ok (.iaload, 1) := by decide +kernel
theorem dL_law_965 : decode cL_law 965 = .ok (.aload_n 0, 1) := by decide +kernel
theorem dL_law_966 : decode cL_law 966 = .ok (.iload 4, 2) := by decide +kernel
theorem dL_law_968 : decode cL_law 968 = .ok (.iconst 2, 1) := by decide +kernel
theorem dL_law_969 : decode cL_law 969 = .ok (.iadd, 1) := by decide +kernel
theorem dL_law_970 : decode cL_law 970 = .ok (.iaload, 1) := by decide +kernel
theorem dL_law_971 : decode cL_law 971 = .ok (.aload_n 3, 1) := by decide +kernel
theorem dL_law_972 : decode cL_law 972 = .ok (.invokestatic 131, 3) := by decide +kernel
theorem dL_law_975 : decode cL_law 975 = .ok (.istore 5, 2) := by decide +kernel
theorem dL_law_977 : decode cL_law 977 = .ok (.aload_n 2, 1) := by decide +kernel
theorem dL_law_978 : decode cL_law 978 = .ok (.aload_n 0, 1) := by decide +kernel
theorem dL_law_979 : decode cL_law 979 = .ok (.iload 4, 2) := by decide +kernel
theorem dL_law_981 : decode cL_law 981 = .ok (.iconst 1, 1) := by decide +kernel
theorem dL_law_982 : decode cL_law 982 = .ok (.iadd, 1) := by decide +kernel
theorem dL_law_983 : decode cL_law 983 = .ok (.iaload, 1) := by decide +kernel
theorem dL_law_984 : decode cL_law 984 = .ok (.aload_n 0, 1) := by decide +kernel
theorem dL_law_985 : decode cL_law 985 = .ok (.iload 4, 2) := by decide +kernel
theorem dL_law_987 : decode cL_law 987 = .ok (.iconst 2, 1) := by decide +kernel
theorem dL_law_988 : decode cL_law 988 = .ok (.iadd, 1) := by decide +kernel
theorem dL_law_989 : decode cL_law 989 = .ok (.iaload, 1) := by decide +kernel
theorem dL_law_990 : decode cL_law 990 = .ok (.invokevirtual 133, 3) := by decide +kernel
theorem dL_law_993 : decode cL_law 993 = .ok (.istore 6, 2) := by decide +kernel
theorem dL_law_995 : decode cL_law 995 = .ok (.aload_n 2, 1) := by decide +kernel
theorem dL_law_996 : decode cL_law 996 = .ok (.invokevirtual 91, 3) := by decide +kernel
theorem dL_law_999 : decode cL_law 999 = .ok (.iload 5, 2) := by decide +kernel
theorem dL_law_1001 : decode cL_law 1001 = .ok (.if_icmp .eq 5, 3) := by decide +kernel
theorem dL_law_1004 : decode cL_law 1004 = .ok (.iconst 0, 1) := by decide +kernel
theorem dL_law_1005 : decode cL_law 1005 = .ok (.ireturn, 1) := by decide +kernel
theorem dL_law_1006 : decode cL_law 1006 = .ok (.iload 5, 2) := by decide +kernel
theorem dL_law_1008 : decode cL_law 1008 = .ok (.ifCond .ne 15, 3) := by decide +kernel
theorem dL_law_1011 : decode cL_law 1011 = .ok (.aload_n 3, 1) := by decide +kernel
theorem dL_law_1012 : decode cL_law 1012 = .ok (.iconst 0, 1) := by decide +kernel
theorem dL_law_1013 : decode cL_law 1013 = .ok (.laload, 1) := by decide +kernel
theorem dL_law_1014 : decode cL_law 1014 = .ok (.iload 6, 2) := by decide +kernel
theorem dL_law_1016 : decode cL_law 1016 = .ok (.i2l, 1) := by decide +kernel
theorem dL_law_1017 : decode cL_law 1017 = .ok (.lcmp, 1) := by decide +kernel
theorem dL_law_1018 : decode cL_law 1018 = .ok (.ifCond .eq 5, 3) := by decide +kernel
theorem dL_law_1021 : decode cL_law 1021 = .ok (.iconst 0, 1) := by decide +kernel
theorem dL_law_1022 : decode cL_law 1022 = .ok (.ireturn, 1) := by decide +kernel
theorem dL_law_1023 : decode cL_law 1023 = .ok (.goto 527, 3) := by decide +kernel
theorem dL_law_1026 : decode cL_law 1026 = .ok (.aload_n 1, 1) := by decide +kernel
theorem dL_law_1027 : decode cL_law 1027 = .ok (.aload_n 0, 1) := by decide +kernel
theorem dL_law_1028 : decode cL_law 1028 = .ok (.iload 4, 2) := by decide +kernel
theorem dL_law_1030 : decode cL_law 1030 = .ok (.iconst 1, 1) := by decide +kernel
theorem dL_law_1031 : decode cL_law 1031 = .ok (.iadd, 1) := by decide +kernel
theorem dL_law_1032 : decode cL_law 1032 = .ok (.iaload, 1) := by decide +kernel
theorem dL_law_1033 : decode cL_law 1033 = .ok (.aload_n 0, 1) := by decide +kernel
theorem dL_law_1034 : decode cL_law 1034 = .ok (.iload 4, 2) := by decide +kernel
theorem dL_law_1036 : decode cL_law 1036 = .ok (.iconst 2, 1) := by decide +kernel
theorem dL_law_1037 : decode cL_law 1037 = .ok (.iadd, 1) := by decide +kernel
theorem dL_law_1038 : decode cL_law 1038 = .ok (.iaload, 1) := by decide +kernel
theorem dL_law_1039 : decode cL_law 1039 = .ok (.aload_n 3, 1) := by decide +kernel
theorem dL_law_1040 : decode cL_law 1040 = .ok (.invokestatic 134, 3) := by decide +kernel
theorem dL_law_1043 : decode cL_law 1043 = .ok (.istore 5, 2) := by decide +kernel
theorem dL_law_1045 : decode cL_law 1045 = .ok (.aload_n 2, 1) := by decide +kernel
theorem dL_law_1046 : decode cL_law 1046 = .ok (.aload_n 0, 1) := by decide +kernel
theorem dL_law_1047 : decode cL_law 1047 = .ok (.iload 4, 2) := by decide +kernel
theorem dL_law_1049 : decode cL_law 1049 = .ok (.iconst 1, 1) := by decide +kernel
theorem dL_law_1050 : decode cL_law 1050 = .ok (.iadd, 1) := by decide +kernel
theorem dL_law_1051 : decode cL_law 1051 = .ok (.iaload, 1) := by decide +kernel
theorem dL_law_1052 : decode cL_law 1052 = .ok (.aload_n 0, 1) := by decide +kernel
theorem dL_law_1053 : decode cL_law 1053 = .ok (.iload 4, 2) := by decide +kernel
theorem dL_law_1055 : decode cL_law 1055 = .ok (.iconst 2, 1) := by decide +kernel
theorem dL_law_1056 : decode cL_law 1056 = .ok (.iadd, 1) := by decide +kernel
theorem dL_law_1057 : decode cL_law 1057 = .ok (.iaload, 1) := by decide +kernel
theorem dL_law_1058 : decode cL_law 1058 = .ok (.invokevirtual 136, 3) := by decide +kernel
theorem dL_law_1061 : decode cL_law 1061 = .ok (.istore 6, 2) := by decide +kernel
theorem dL_law_1063 : decode cL_law 1063 = .ok (.aload_n 2, 1) := by decide +kernel
theorem dL_law_1064 : decode cL_law 1064 = .ok (.invokevirtual 91, 3) := by decide +kernel
theorem dL_law_1067 : decode cL_law 1067 = .ok (.iload 5, 2) := by decide +kernel
theorem dL_law_1069 : decode cL_law 1069 = .ok (.if_icmp .eq 5, 3) := by decide +kernel
theorem dL_law_1072 : decode cL_law 1072 = .ok (.iconst 0, 1) := by decide +kernel
theorem dL_law_1073 : decode cL_law 1073 = .ok (.ireturn, 1) := by decide +kernel
theorem dL_law_1074 : decode cL_law 1074 = .ok (.iload 5, 2) := by decide +kernel
theorem dL_law_1076 : decode cL_law 1076 = .ok (.ifCond .ne 15, 3) := by decide +kernel
theorem dL_law_1079 : decode cL_law 1079 = .ok (.aload_n 3, 1) := by decide +kernel
theorem dL_law_1080 : decode cL_law 1080 = .ok (.iconst 0, 1) := by decide +kernel
theorem dL_law_1081 : decode cL_law 1081 = .ok (.laload, 1) := by decide +kernel
theorem dL_law_1082 : decode cL_law 1082 = .ok (.iload 6, 2) := by decide +kernel
theorem dL_law_1084 : decode cL_law 1084 = .ok (.i2l, 1) := by decide +kernel
theorem dL_law_1085 : decode cL_law 1085 = .ok (.lcmp, 1) := by decide +kernel
theorem dL_law_1086 : decode cL_law 1086 = .ok (.ifCond .eq 5, 3) := by decide +kernel
theorem dL_law_1089 : decode cL_law 1089 = .ok (.iconst 0, 1) := by decide +kernel
theorem dL_law_1090 : decode cL_law 1090 = .ok (.ireturn, 1) := by decide +kernel
theorem dL_law_1091 : decode cL_law 1091 = .ok (.goto 459, 3) := by decide +kernel
theorem dL_law_1094 : decode cL_law 1094 = .ok (.aload_n 1, 1) := by decide +kernel
theorem dL_law_1095 : decode cL_law 1095 = .ok (.aload_n 0, 1) := by decide +kernel
theorem dL_law_1096 : decode cL_law 1096 = .ok (.iload 4, 2) := by decide +kernel
theorem dL_law_1098 : decode cL_law 1098 = .ok (.iconst 1, 1) := by decide +kernel
theorem dL_law_1099 : decode cL_law 1099 = .ok (.iadd, 1) := by decide +kernel
theorem dL_law_1100 : decode cL_law 1100 = .ok (.iaload, 1) := by decide +kernel
theorem dL_law_1101 : decode cL_law 1101 = .ok (.aload_n 0, 1) := by decide +kernel
theorem dL_law_1102 : decode cL_law 1102 = .ok (.iload 4, 2) := by decide +kernel
theorem dL_law_1104 : decode cL_law 1104 = .ok (.iconst 2, 1) := by decide +kernel
theorem dL_law_1105 : decode cL_law 1105 = .ok (.iadd, 1) := by decide +kernel
theorem dL_law_1106 : decode cL_law 1106 = .ok (.iaload, 1) := by decide +kernel
theorem dL_law_1107 : decode cL_law 1107 = .ok (.aload_n 3, 1) := by decide +kernel
theorem dL_law_1108 : decode cL_law 1108 = .ok (.invokestatic 137, 3) := by decide +kernel
theorem dL_law_1111 : decode cL_law 1111 = .ok (.istore 5, 2) := by decide +kernel
theorem dL_law_1113 : decode cL_law 1113 = .ok (.aload_n 2, 1) := by decide +kernel
theorem dL_law_1114 : decode cL_law 1114 = .ok (.aload_n 0, 1) := by decide +kernel
theorem dL_law_1115 : decode cL_law 1115 = .ok (.iload 4, 2) := by decide +kernel
theorem dL_law_1117 : decode cL_law 1117 = .ok (.iconst 1, 1) := by decide +kernel
theorem dL_law_1118 : decode cL_law 1118 = .ok (.iadd, 1) := by decide +kernel
theorem dL_law_1119 : decode cL_law 1119 = .ok (.iaload, 1) := by decide +kernel
theorem dL_law_1120 : decode cL_law 1120 = .ok (.aload_n 0, 1) := by decide +kernel
theorem dL_law_1121 : decode cL_law 1121 = .ok (.iload 4, 2) := by decide +kernel
theorem dL_law_1123 : decode cL_law 1123 = .ok (.iconst 2, 1) := by decide +kernel
theorem dL_law_1124 : decode cL_law 1124 = .ok (.iadd, 1) := by decide +kernel
theorem dL_law_1125 : decode cL_law 1125 = .ok (.iaload, 1) := by decide +kernel
theorem dL_law_1126 : decode cL_law 1126 = .ok (.invokevirtual 139, 3) := by decide +kernel
theorem dL_law_1129 : decode cL_law 1129 = .ok (.istore 6, 2) := by decide +kernel
theorem dL_law_1131 : decode cL_law 1131 = .ok (.aload_n 2, 1) := by decide +kernel
theorem dL_law_1132 : decode cL_law 1132 = .ok (.invokevirtual 91, 3) := by decide +kernel
theorem dL_law_1135 : decode cL_law 1135 = .ok (.iload 5, 2) := by decide +kernel
theorem dL_law_1137 : decode cL_law 1137 = .ok (.if_icmp .eq 5, 3) := by decide +kernel
theorem dL_law_1140 : decode cL_law 1140 = .ok (.iconst 0, 1) := by decide +kernel
theorem dL_law_1141 : decode cL_law 1141 = .ok (.ireturn, 1) := by decide +kernel
theorem dL_law_1142 : decode cL_law 1142 = .ok (.iload 5, 2) := by decide +kernel
theorem dL_law_1144 : decode cL_law 1144 = .ok (.ifCond .ne 15, 3) := by decide +kernel
theorem dL_law_1147 : decode cL_law 1147 = .ok (.aload_n 3, 1) := by decide +kernel
theorem dL_law_1148 : decode cL_law 1148 = .ok (.iconst 0, 1) := by decide +kernel
theorem dL_law_1149 : decode cL_law 1149 = .ok (.laload, 1) := by decide +kernel
theorem dL_law_1150 : decode cL_law 1150 = .ok (.iload 6, 2) := by decide +kernel
theorem dL_law_1152 : decode cL_law 1152 = .ok (.i2l, 1) := by decide +kernel
theorem dL_law_1153 : decode cL_law 1153 = .ok (.lcmp, 1) := by decide +kernel
theorem dL_law_1154 : decode cL_law 1154 = .ok (.ifCond .eq 5, 3) := by decide +kernel
theorem dL_law_1157 : decode cL_law 1157 = .ok (.iconst 0, 1) := by decide +kernel
theorem dL_law_1158 : decode cL_law 1158 = .ok (.ireturn, 1) := by decide +kernel
theorem dL_law_1159 : decode cL_law 1159 = .ok (.goto 391, 3) := by decide +kernel
theorem dL_law_1162 : decode cL_law 1162 = .ok (.aload_n 1, 1) := by decide +kernel
theorem dL_law_1163 : decode cL_law 1163 = .ok (.aload_n 0, 1) := by decide +kernel
theorem dL_law_1164 : decode cL_law 1164 = .ok (.iload 4, 2) := by decide +kernel
theorem dL_law_1166 : decode cL_law 1166 = .ok (.iconst 1, 1) := by decide +kernel
theorem dL_law_1167 : decode cL_law 1167 = .ok (.iadd, 1) := by decide +kernel
theorem dL_law_1168 : decode cL_law 1168 = .ok (.iaload, 1) := by decide +kernel
theorem dL_law_1169 : decode cL_law 1169 = .ok (.aload_n 3, 1) := by decide +kernel
theorem dL_law_1170 : decode cL_law 1170 = .ok (.invokestatic 140, 3) := by decide +kernel
theorem dL_law_1173 : decode cL_law 1173 = .ok (.istore 5, 2) := by decide +kernel
theorem dL_law_1175 : decode cL_law 1175 = .ok (.aload_n 2, 1) := by decide +kernel
theorem dL_law_1176 : decode cL_law 1176 = .ok (.aload_n 0, 1) := by decide +kernel
theorem dL_law_1177 : decode cL_law 1177 = .ok (.iload 4, 2) := by decide +kernel
theorem dL_law_1179 : decode cL_law 1179 = .ok (.iconst 1, 1) := by decide +kernel
theorem dL_law_1180 : decode cL_law 1180 = .ok (.iadd, 1) := by decide +kernel
theorem dL_law_1181 : decode cL_law 1181 = .ok (.iaload, 1) := by decide +kernel
theorem dL_law_1182 : decode cL_law 1182 = .ok (.invokevirtual 142, 3) := by decide +kernel
theorem dL_law_1185 : decode cL_law 1185 = .ok (.istore 6, 2) := by decide +kernel
theorem dL_law_1187 : decode cL_law 1187 = .ok (.aload_n 2, 1) := by decide +kernel
theorem dL_law_1188 : decode cL_law 1188 = .ok (.invokevirtual 91, 3) := by decide +kernel
theorem dL_law_1191 : decode cL_law 1191 = .ok (.iload 5, 2) := by decide +kernel
theorem dL_law_1193 : decode cL_law 1193 = .ok (.if_icmp .eq 5, 3) := by decide +kernel
theorem dL_law_1196 : decode cL_law 1196 = .ok (.iconst 0, 1) := by decide +kernel
theorem dL_law_1197 : decode cL_law 1197 = .ok (.ireturn, 1) := by decide +kernel
theorem dL_law_1198 : decode cL_law 1198 = .ok (.iload 5, 2) := by decide +kernel
theorem dL_law_1200 : decode cL_law 1200 = .ok (.ifCond .ne 15, 3) := by decide +kernel
theorem dL_law_1203 : decode cL_law 1203 = .ok (.aload_n 3, 1) := by decide +kernel
theorem dL_law_1204 : decode cL_law 1204 = .ok (.iconst 0, 1) := by decide +kernel
theorem dL_law_1205 : decode cL_law 1205 = .ok (.laload, 1) := by decide +kernel
theorem dL_law_1206 : decode cL_law 1206 = .ok (.iload 6, 2) := by decide +kernel
theorem dL_law_1208 : decode cL_law 1208 = .ok (.i2l, 1) := by decide +kernel
theorem dL_law_1209 : decode cL_law 1209 = .ok (.lcmp, 1) := by decide +kernel
theorem dL_law_1210 : decode cL_law 1210 = .ok (.ifCond .eq 5, 3) := by decide +kernel
theorem dL_law_1213 : decode cL_law 1213 = .ok (.iconst 0, 1) := by decide +kernel
theorem dL_law_1214 : decode cL_law 1214 = .ok (.ireturn, 1) := by decide +kernel
theorem dL_law_1215 : decode cL_law 1215 = .ok (.goto 335, 3) := by decide +kernel
theorem dL_law_1218 : decode cL_law 1218 = .ok (.aload_n 1, 1) := by decide +kernel
theorem dL_law_1219 : decode cL_law 1219 = .ok (.invokevirtual 143, 3) := by decide +kernel
theorem dL_law_1222 : decode cL_law 1222 = .ok (.aload_n 2, 1) := by decide +kernel
theorem dL_law_1223 : decode cL_law 1223 = .ok (.invokevirtual 146, 3) := by decide +kernel
theorem dL_law_1226 : decode cL_law 1226 = .ok (.if_icmp .eq 324, 3) := by decide +kernel
theorem dL_law_1229 : decode cL_law 1229 = .ok (.iconst 0, 1) := by decide +kernel
theorem dL_law_1230 : decode cL_law 1230 = .ok (.ireturn, 1) := by decide +kernel
theorem dL_law_1231 : decode cL_law 1231 = .ok (.aload_n 1, 1) := by decide +kernel
theorem dL_law_1232 : decode cL_law 1232 = .ok (.invokevirtual 147, 3) := by decide +kernel
theorem dL_law_1235 : decode cL_law 1235 = .ok (.aload_n 2, 1) := by decide +kernel
theorem dL_law_1236 : decode cL_law 1236 = .ok (.invokevirtual 150, 3) := by decide +kernel
theorem dL_law_1239 : decode cL_law 1239 = .ok (.if_icmp .eq 311, 3) := by decide +kernel
theorem dL_law_1242 : decode cL_law 1242 = .ok (.iconst 0, 1) := by decide +kernel
theorem dL_law_1243 : decode cL_law 1243 = .ok (.ireturn, 1) := by decide +kernel
theorem dL_law_1244 : decode cL_law 1244 = .ok (.aload_n 1, 1) := by decide +kernel
theorem dL_law_1245 : decode cL_law 1245 = .ok (.invokevirtual 151, 3) := by decide +kernel
theorem dL_law_1248 : decode cL_law 1248 = .ok (.f2d, 1) := by decide +kernel
theorem dL_law_1249 : decode cL_law 1249 = .ok (.dstore 5, 2) := by decide +kernel
theorem dL_law_1251 : decode cL_law 1251 = .ok (.aload_n 2, 1) := by decide +kernel
theorem dL_law_1252 : decode cL_law 1252 = .ok (.invokevirtual 155, 3) := by decide +kernel
theorem dL_law_1255 : decode cL_law 1255 = .ok (.f2d, 1) := by decide +kernel
theorem dL_law_1256 : decode cL_law 1256 = .ok (.dstore 7, 2) := by decide +kernel
theorem dL_law_1258 : decode cL_law 1258 = .ok (.dload 5, 2) := by decide +kernel
theorem dL_law_1260 : decode cL_law 1260 = .ok (.dload 7, 2) := by decide +kernel
theorem dL_law_1262 : decode cL_law 1262 = .ok (.dcmp .l, 1) := by decide +kernel
theorem dL_law_1263 : decode cL_law 1263 = .ok (.ifCond .eq 21, 3) := by decide +kernel
theorem dL_law_1266 : decode cL_law 1266 = .ok (.dload 5, 2) := by decide +kernel
theorem dL_law_1268 : decode cL_law 1268 = .ok (.dload 5, 2) := by decide +kernel
theorem dL_law_1270 : decode cL_law 1270 = .ok (.dcmp .l, 1) := by decide +kernel
theorem dL_law_1271 : decode cL_law 1271 = .ok (.ifCond .eq 11, 3) := by decide +kernel
theorem dL_law_1274 : decode cL_law 1274 = .ok (.dload 7, 2) := by decide +kernel
theorem dL_law_1276 : decode cL_law 1276 = .ok (.dload 7, 2) := by decide +kernel
theorem dL_law_1278 : decode cL_law 1278 = .ok (.dcmp .l, 1) := by decide +kernel
theorem dL_law_1279 : decode cL_law 1279 = .ok (.ifCond .ne 5, 3) := by decide +kernel
theorem dL_law_1282 : decode cL_law 1282 = .ok (.iconst 0, 1) := by decide +kernel
theorem dL_law_1283 : decode cL_law 1283 = .ok (.ireturn, 1) := by decide +kernel
theorem dL_law_1284 : decode cL_law 1284 = .ok (.goto 266, 3) := by decide +kernel
theorem dL_law_1287 : decode cL_law 1287 = .ok (.aload_n 1, 1) := by decide +kernel
theorem dL_law_1288 : decode cL_law 1288 = .ok (.aload_n 0, 1) := by decide +kernel
theorem dL_law_1289 : decode cL_law 1289 = .ok (.iload 4, 2) := by decide +kernel
theorem dL_law_1291 : decode cL_law 1291 = .ok (.iconst 1, 1) := by decide +kernel
theorem dL_law_1292 : decode cL_law 1292 = .ok (.iadd, 1) := by decide +kernel
theorem dL_law_1293 : decode cL_law 1293 = .ok (.iaload, 1) := by decide +kernel
theorem dL_law_1294 : decode cL_law 1294 = .ok (.aload_n 0, 1) := by decide +kernel
theorem dL_law_1295 : decode cL_law 1295 = .ok (.iload 4, 2) := by decide +kernel
theorem dL_law_1297 : decode cL_law 1297 = .ok (.iconst 2, 1) := by decide +kernel
theorem dL_law_1298 : decode cL_law 1298 = .ok (.iadd, 1) := by decide +kernel
theorem dL_law_1299 : decode cL_law 1299 = .ok (.iaload, 1) := by decide +kernel
theorem dL_law_1300 : decode cL_law 1300 = .ok (.aload_n 3, 1) := by decide +kernel
theorem dL_law_1301 : decode cL_law 1301 = .ok (.invokestatic 156, 3) := by decide +kernel
theorem dL_law_1304 : decode cL_law 1304 = .ok (.istore 5, 2) := by decide +kernel
theorem dL_law_1306 : decode cL_law 1306 = .ok (.aload_n 2, 1) := by decide +kernel
theorem dL_law_1307 : decode cL_law 1307 = .ok (.aload_n 0, 1) := by decide +kernel
theorem dL_law_1308 : decode cL_law 1308 = .ok (.iload 4, 2) := by decide +kernel
theorem dL_law_1310 : decode cL_law 1310 = .ok (.iconst 1, 1) := by decide +kernel
theorem dL_law_1311 : decode cL_law 1311 = .ok (.iadd, 1) := by decide +kernel
theorem dL_law_1312 : decode cL_law 1312 = .ok (.iaload, 1) := by decide +kernel
theorem dL_law_1313 : decode cL_law 1313 = .ok (.aload_n 0, 1) := by decide +kernel
theorem dL_law_1314 : decode cL_law 1314 = .ok (.iload 4, 2) := by decide +kernel
theorem dL_law_1316 : decode cL_law 1316 = .ok (.iconst 2, 1) := by decide +kernel
theorem dL_law_1317 : decode cL_law 1317 = .ok (.iadd, 1) := by decide +kernel
theorem dL_law_1318 : decode cL_law 1318 = .ok (.iaload, 1) := by decide +kernel
theorem dL_law_1319 : decode cL_law 1319 = .ok (.invokevirtual 158, 3) := by decide +kernel
theorem dL_law_1322 : decode cL_law 1322 = .ok (.istore 6, 2) := by decide +kernel
theorem dL_law_1324 : decode cL_law 1324 = .ok (.aload_n 2, 1) := by decide +kernel
theorem dL_law_1325 : decode cL_law 1325 = .ok (.invokevirtual 91, 3) := by decide +kernel
theorem dL_law_1328 : decode cL_law 1328 = .ok (.iload 5, 2) := by decide +kernel
theorem dL_law_1330 : decode cL_law 1330 = .ok (.if_icmp .eq 5, 3) := by decide +kernel
theorem dL_law_1333 : decode cL_law 1333 = .ok (.iconst 0, 1) := by decide +kernel
theorem dL_law_1334 : decode cL_law 1334 = .ok (.ireturn, 1) := by decide +kernel
theorem dL_law_1335 : decode cL_law 1335 = .ok (.iload 5, 2) := by decide +kernel
theorem dL_law_1337 : decode cL_law 1337 = .ok (.ifCond .ne 15, 3) := by decide +kernel
theorem dL_law_1340 : decode cL_law 1340 = .ok (.aload_n 3, 1) := by decide +kernel
theorem dL_law_1341 : decode cL_law 1341 = .ok (.iconst 0, 1) := by decide +kernel
theorem dL_law_1342 : decode cL_law 1342 = .ok (.laload, 1) := by decide +kernel
theorem dL_law_1343 : decode cL_law 1343 = .ok (.iload 6, 2) := by decide +kernel
theorem dL_law_1345 : decode cL_law 1345 = .ok (.i2l, 1) := by decide +kernel
theorem dL_law_1346 : decode cL_law 1346 = .ok (.lcmp, 1) := by decide +kernel
theorem dL_law_1347 : decode cL_law 1347 = .ok (.ifCond .eq 5, 3) := by decide +kernel
theorem dL_law_1350 : decode cL_law 1350 = .ok (.iconst 0, 1) := by decide +kernel
theorem dL_law_1351 : decode cL_law 1351 = .ok (.ireturn, 1) := by decide +kernel
theorem dL_law_1352 : decode cL_law 1352 = .ok (.goto 198, 3) := by decide +kernel
theorem dL_law_1355 : decode cL_law 1355 = .ok (.aload_n 1, 1) := by decide +kernel
theorem dL_law_1356 : decode cL_law 1356 = .ok (.aload_n 3, 1) := by decide +kernel
theorem dL_law_1357 : decode cL_law 1357 = .ok (.invokestatic 159, 3) := by decide +kernel
theorem dL_law_1360 : decode cL_law 1360 = .ok (.istore 5, 2) := by decide +kernel
theorem dL_law_1362 : decode cL_law 1362 = .ok (.aload_n 2, 1) := by decide +kernel
theorem dL_law_1363 : decode cL_law 1363 = .ok (.invokevirtual 162, 3) := by decide +kernel
theorem dL_law_1366 : decode cL_law 1366 = .ok (.istore 6, 2) := by decide +kernel
theorem dL_law_1368 : decode cL_law 1368 = .ok (.aload_n 2, 1) := by decide +kernel
theorem dL_law_1369 : decode cL_law 1369 = .ok (.invokevirtual 91, 3) := by decide +kernel
theorem dL_law_1372 : decode cL_law 1372 = .ok (.iload 5, 2) := by decide +kernel
theorem dL_law_1374 : decode cL_law 1374 = .ok (.if_icmp .eq 5, 3) := by decide +kernel
theorem dL_law_1377 : decode cL_law 1377 = .ok (.iconst 0, 1) := by decide +kernel
theorem dL_law_1378 : decode cL_law 1378 = .ok (.ireturn, 1) := by decide +kernel
theorem dL_law_1379 : decode cL_law 1379 = .ok (.iload 5, 2) := by decide +kernel
theorem dL_law_1381 : decode cL_law 1381 = .ok (.ifCond .ne 15, 3) := by decide +kernel
theorem dL_law_1384 : decode cL_law 1384 = .ok (.aload_n 3, 1) := by decide +kernel
theorem dL_law_1385 : decode cL_law 1385 = .ok (.iconst 0, 1) := by decide +kernel
theorem dL_law_1386 : decode cL_law 1386 = .ok (.laload, 1) := by decide +kernel
theorem dL_law_1387 : decode cL_law 1387 = .ok (.iload 6, 2) := by decide +kernel
theorem dL_law_1389 : decode cL_law 1389 = .ok (.i2l, 1) := by decide +kernel
theorem dL_law_1390 : decode cL_law 1390 = .ok (.lcmp, 1) := by decide +kernel
theorem dL_law_1391 : decode cL_law 1391 = .ok (.ifCond .eq 5, 3) := by decide +kernel
theorem dL_law_1394 : decode cL_law 1394 = .ok (.iconst 0, 1) := by decide +kernel
theorem dL_law_1395 : decode cL_law 1395 = .ok (.ireturn, 1) := by decide +kernel
theorem dL_law_1396 : decode cL_law 1396 = .ok (.goto 154, 3) := by decide +kernel
theorem dL_law_1399 : decode cL_law 1399 = .ok (.aload_n 1, 1) := by decide +kernel
theorem dL_law_1400 : decode cL_law 1400 = .ok (.aload_n 0, 1) := by decide +kernel
theorem dL_law_1401 : decode cL_law 1401 = .ok (.iload 4, 2) := by decide +kernel
theorem dL_law_1403 : decode cL_law 1403 = .ok (.iconst 1, 1) := by decide +kernel
theorem dL_law_1404 : decode cL_law 1404 = .ok (.iadd, 1) := by decide +kernel
theorem dL_law_1405 : decode cL_law 1405 = .ok (.iaload, 1) := by decide +kernel
theorem dL_law_1406 : decode cL_law 1406 = .ok (.aload_n 3, 1) := by decide +kernel
theorem dL_law_1407 : decode cL_law 1407 = .ok (.invokestatic 163, 3) := by decide +kernel
theorem dL_law_1410 : decode cL_law 1410 = .ok (.istore 5, 2) := by decide +kernel
theorem dL_law_1412 : decode cL_law 1412 = .ok (.aload_n 2, 1) := by decide +kernel
theorem dL_law_1413 : decode cL_law 1413 = .ok (.aload_n 0, 1) := by decide +kernel
theorem dL_law_1414 : decode cL_law 1414 = .ok (.iload 4, 2) := by decide +kernel
theorem dL_law_1416 : decode cL_law 1416 = .ok (.iconst 1, 1) := by decide +kernel
theorem dL_law_1417 : decode cL_law 1417 = .ok (.iadd, 1) := by decide +kernel
theorem dL_law_1418 : decode cL_law 1418 = .ok (.iaload, 1) := by decide +kernel
theorem dL_law_1419 : decode cL_law 1419 = .ok (.invokevirtual 165, 3) := by decide +kernel
theorem dL_law_1422 : decode cL_law 1422 = .ok (.istore 6, 2) := by decide +kernel
theorem dL_law_1424 : decode cL_law 1424 = .ok (.aload_n 2, 1) := by decide +kernel
theorem dL_law_1425 : decode cL_law 1425 = .ok (.invokevirtual 91, 3) := by decide +kernel
theorem dL_law_1428 : decode cL_law 1428 = .ok (.iload 5, 2) := by decide +kernel
theorem dL_law_1430 : decode cL_law 1430 = .ok (.if_icmp .eq 5, 3) := by decide +kernel
theorem dL_law_1433 : decode cL_law 1433 = .ok (.iconst 0, 1) := by decide +kernel
theorem dL_law_1434 : decode cL_law 1434 = .ok (.ireturn, 1) := by decide +kernel
theorem dL_law_1435 : decode cL_law 1435 = .ok (.iload 5, 2) := by decide +kernel
theorem dL_law_1437 : decode cL_law 1437 = .ok (.ifCond .ne 15, 3) := by decide +kernel
theorem dL_law_1440 : decode cL_law 1440 = .ok (.aload_n 3, 1) := by decide +kernel
theorem dL_law_1441 : decode cL_law 1441 = .ok (.iconst 0, 1) := by decide +kernel
theorem dL_law_1442 : decode cL_law 1442 = .ok (.laload, 1) := by decide +kernel
theorem dL_law_1443 : decode cL_law 1443 = .ok (.iload 6, 2) := by decide +kernel
theorem dL_law_1445 : decode cL_law 1445 = .ok (.i2l, 1) := by decide +kernel
theorem dL_law_1446 : decode cL_law 1446 = .ok (.lcmp, 1) := by decide +kernel
theorem dL_law_1447 : decode cL_law 1447 = .ok (.ifCond .eq 5, 3) := by decide +kernel
theorem dL_law_1450 : decode cL_law 1450 = .ok (.iconst 0, 1) := by decide +kernel
theorem dL_law_1451 : decode cL_law 1451 = .ok (.ireturn, 1) := by decide +kernel
theorem dL_law_1452 : decode cL_law 1452 = .ok (.goto 98, 3) := by decide +kernel
theorem dL_law_1455 : decode cL_law 1455 = .ok (.aload_n 1, 1) := by decide +kernel
theorem dL_law_1456 : decode cL_law 1456 = .ok (.aload_n 0, 1) := by decide +kernel
theorem dL_law_1457 : decode cL_law 1457 = .ok (.iload 4, 2) := by decide +kernel
theorem dL_law_1459 : decode cL_law 1459 = .ok (.iconst 1, 1) := by decide +kernel
theorem dL_law_1460 : decode cL_law 1460 = .ok (.iadd, 1) := by decide +kernel
theorem dL_law_1461 : decode cL_law 1461 = .ok (.iaload, 1) := by decide +kernel
theorem dL_law_1462 : decode cL_law 1462 = .ok (.aload_n 0, 1) := by decide +kernel
theorem dL_law_1463 : decode cL_law 1463 = .ok (.iload 4, 2) := by decide +kernel
theorem dL_law_1465 : decode cL_law 1465 = .ok (.iconst 2, 1) := by decide +kernel
theorem dL_law_1466 : decode cL_law 1466 = .ok (.iadd, 1) := by decide +kernel
theorem dL_law_1467 : decode cL_law 1467 = .ok (.iaload, 1) := by decide +kernel
theorem dL_law_1468 : decode cL_law 1468 = .ok (.aload_n 3, 1) := by decide +kernel
theorem dL_law_1469 : decode cL_law 1469 = .ok (.invokestatic 166, 3) := by decide +kernel
theorem dL_law_1472 : decode cL_law 1472 = .ok (.istore 5, 2) := by decide +kernel
theorem dL_law_1474 : decode cL_law 1474 = .ok (.aload_n 2, 1) := by decide +kernel
theorem dL_law_1475 : decode cL_law 1475 = .ok (.aload_n 0, 1) := by decide +kernel
theorem dL_law_1476 : decode cL_law 1476 = .ok (.iload 4, 2) := by decide +kernel
theorem dL_law_1478 : decode cL_law 1478 = .ok (.iconst 1, 1) := by decide +kernel
theorem dL_law_1479 : decode cL_law 1479 = .ok (.iadd, 1) := by decide +kernel
theorem dL_law_1480 : decode cL_law 1480 = .ok (.iaload, 1) := by decide +kernel
theorem dL_law_1481 : decode cL_law 1481 = .ok (.aload_n 0, 1) := by decide +kernel
theorem dL_law_1482 : decode cL_law 1482 = .ok (.iload 4, 2) := by decide +kernel
theorem dL_law_1484 : decode cL_law 1484 = .ok (.iconst 2, 1) := by decide +kernel
theorem dL_law_1485 : decode cL_law 1485 = .ok (.iadd, 1) := by decide +kernel
theorem dL_law_1486 : decode cL_law 1486 = .ok (.iaload, 1) := by decide +kernel
theorem dL_law_1487 : decode cL_law 1487 = .ok (.invokevirtual 168, 3) := by decide +kernel
theorem dL_law_1490 : decode cL_law 1490 = .ok (.istore 6, 2) := by decide +kernel
theorem dL_law_1492 : decode cL_law 1492 = .ok (.aload_n 2, 1) := by decide +kernel
theorem dL_law_1493 : decode cL_law 1493 = .ok (.invokevirtual 91, 3) := by decide +kernel
theorem dL_law_1496 : decode cL_law 1496 = .ok (.iload 5, 2) := by decide +kernel
theorem dL_law_1498 : decode cL_law 1498 = .ok (.if_icmp .eq 5, 3) := by decide +kernel
theorem dL_law_1501 : decode cL_law 1501 = .ok (.iconst 0, 1) := by decide +kernel
theorem dL_law_1502 : decode cL_law 1502 = .ok (.ireturn, 1) := by decide +kernel
theorem dL_law_1503 : decode cL_law 1503 = .ok (.iload 5, 2) := by decide +kernel
theorem dL_law_1505 : decode cL_law 1505 = .ok (.ifCond .ne 15, 3) := by decide +kernel
theorem dL_law_1508 : decode cL_law 1508 = .ok (.aload_n 3, 1) := by decide +kernel
theorem dL_law_1509 : decode cL_law 1509 = .ok (.iconst 0, 1) := by decide +kernel
theorem dL_law_1510 : decode cL_law 1510 = .ok (.laload, 1) := by decide +kernel
theorem dL_law_1511 : decode cL_law 1511 = .ok (.iload 6, 2) := by decide +kernel
theorem dL_law_1513 : decode cL_law 1513 = .ok (.i2l, 1) := by decide +kernel
theorem dL_law_1514 : decode cL_law 1514 = .ok (.lcmp, 1) := by decide +kernel
theorem dL_law_1515 : decode cL_law 1515 = .ok (.ifCond .eq 5, 3) := by decide +kernel
theorem dL_law_1518 : decode cL_law 1518 = .ok (.iconst 0, 1) := by decide +kernel
theorem dL_law_1519 : decode cL_law 1519 = .ok (.ireturn, 1) := by decide +kernel
theorem dL_law_1520 : decode cL_law 1520 = .ok (.goto 30, 3) := by decide +kernel
theorem dL_law_1523 : decode cL_law 1523 = .ok (.aload_n 1, 1) := by decide +kernel
theorem dL_law_1524 : decode cL_law 1524 = .ok (.invokevirtual 169, 3) := by decide +kernel
theorem dL_law_1527 : decode cL_law 1527 = .ok (.aload_n 2, 1) := by decide +kernel
theorem dL_law_1528 : decode cL_law 1528 = .ok (.invokevirtual 172, 3) := by decide +kernel
theorem dL_law_1531 : decode cL_law 1531 = .ok (.if_icmp .eq 19, 3) := by decide +kernel
theorem dL_law_1534 : decode cL_law 1534 = .ok (.iconst 0, 1) := by decide +kernel
theorem dL_law_1535 : decode cL_law 1535 = .ok (.ireturn, 1) := by decide +kernel
theorem dL_law_1536 : decode cL_law 1536 = .ok (.aload_n 1, 1) := by decide +kernel
theorem dL_law_1537 : decode cL_law 1537 = .ok (.invokevirtual 173, 3) := by decide +kernel
theorem dL_law_1540 : decode cL_law 1540 = .ok (.aload_n 2, 1) := by decide +kernel
theorem dL_law_1541 : decode cL_law 1541 = .ok (.invokevirtual 177, 3) := by decide +kernel
theorem dL_law_1544 : decode cL_law 1544 = .ok (.lcmp, 1) := by decide +kernel
theorem dL_law_1545 : decode cL_law 1545 = .ok (.ifCond .eq 5, 3) := by decide +kernel
theorem dL_law_1548 : decode cL_law 1548 = .ok (.iconst 0, 1) := by decide +kernel
theorem dL_law_1549 : decode cL_law 1549 = .ok (.ireturn, 1) := by decide +kernel
theorem dL_law_1550 : decode cL_law 1550 = .ok (.iinc 4 6, 3) := by decide +kernel
theorem dL_law_1553 : decode cL_law 1553 = .ok (.goto (-1530), 3) := by decide +kernel
theorem dL_law_1556 : decode cL_law 1556 = .ok (.iconst 1, 1) := by decide +kernel
theorem dL_law_1557 : decode cL_law 1557 = .ok (.ireturn, 1) := by decide +kernel

