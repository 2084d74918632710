theorem dX8_play_30 : decode cX8_play 30 = .ok (.invokevirtual 198, 3) := by decide +kernel
theorem dX8_play_33 : decode cX8_play 33 = .ok (.ifCond .ne 25, 3) := by decide +kernel
theorem dX8_play_36 : decode cX8_play 36 = .ok (.aload_n 0, 1) := by decide +kernel
theorem dX8_play_37 : decode cX8_play 37 = .ok (.aload_n 0, 1) := by decide +kernel
theorem dX8_play_38 : decode cX8_play 38 = .ok (.iload_n 1, 1) := by decide +kernel
theorem dX8_play_39 : decode cX8_play 39 = .ok (.iload_n 2, 1) := by decide +kernel
theorem dX8_play_40 : decode cX8_play 40 = .ok (.invokevirtual 279, 3) := by decide +kernel
theorem dX8_play_43 : decode cX8_play 43 = .ok (.ifCond .eq 7, 3) := by decide +kernel
theorem dX8_play_46 : decode cX8_play 46 = .ok (.iconst 1, 1) := by decide +kernel
theorem dX8_play_47 : decode cX8_play 47 = .ok (.goto 4, 3) := by decide +kernel
theorem dX8_play_50 : decode cX8_play 50 = .ok (.iconst 0, 1) := by decide +kernel
theorem dX8_play_51 : decode cX8_play 51 = .ok (.iconst 3, 1) := by decide +kernel
theorem dX8_play_52 : decode cX8_play 52 = .ok (.invokevirtual 198, 3) := by decide +kernel
theorem dX8_play_55 : decode cX8_play 55 = .ok (.ifCond .eq 5, 3) := by decide +kernel
theorem dX8_play_58 : decode cX8_play 58 = .ok (.iconst 0, 1) := by decide +kernel
theorem dX8_play_59 : decode cX8_play 59 = .ok (.ireturn, 1) := by decide +kernel
theorem dX8_play_60 : decode cX8_play 60 = .ok (.iload_n 3, 1) := by decide +kernel
theorem dX8_play_61 : decode cX8_play 61 = .ok (.ifCond .ne 18, 3) := by decide +kernel
theorem dX8_play_64 : decode cX8_play 64 = .ok (.aload_n 0, 1) := by decide +kernel
theorem dX8_play_65 : decode cX8_play 65 = .ok (.aload_n 0, 1) := by decide +kernel
theorem dX8_play_66 : decode cX8_play 66 = .ok (.getfield 17, 3) := by decide +kernel
theorem dX8_play_69 : decode cX8_play 69 = .ok (.iconst 5, 1) := by decide +kernel
theorem dX8_play_70 : decode cX8_play 70 = .ok (.iaload, 1) := by decide +kernel
theorem dX8_play_71 : decode cX8_play 71 = .ok (.iload_n 1, 1) := by decide +kernel
theorem dX8_play_72 : decode cX8_play 72 = .ok (.iload_n 2, 1) := by decide +kernel
theorem dX8_play_73 : decode cX8_play 73 = .ok (.invokevirtual 263, 3) := by decide +kernel
theorem dX8_play_76 : decode cX8_play 76 = .ok (.goto 9, 3) := by decide +kernel
theorem dX8_play_79 : decode cX8_play 79 = .ok (.aload_n 0, 1) := by decide +kernel
theorem dX8_play_80 : decode cX8_play 80 = .ok (.iload_n 1, 1) := by decide +kernel
theorem dX8_play_81 : decode cX8_play 81 = .ok (.iload_n 2, 1) := by decide +kernel
theorem dX8_play_82 : decode cX8_play 82 = .ok (.invokevirtual 282, 3) := by decide +kernel
theorem dX8_play_85 : decode cX8_play 85 = .ok (.ireturn, 1) := by decide +kernel
set_option maxRecDepth 20000 in
theorem ggX8_best_X8_bestPlay : GoodIn wsX8_best wsX8_bestPlay := goodIn_r _ [6, 7, 8, 9, 10, 5, 11, 12, 13, 14, 15, 16, 17, 18, 19, 20, 21, 22, 23, 24, 25, 26, 27, 28, 29, 30, 31, 32, 33, 34, 35, 36, 37, 38, 39, 40, 41, 42, 43, 44, 45, 46, 47, 48, 49, 50, 51, 52, 53, 54, 55, 56, 57, 58, 59, 60, 61, 62, 63, 64, 65, 66, 67, 68, 69, 70, 71, 72, 73, 74, 75, 76, 77, 78, 79, 80, 81, 82, 83, 84, 85, 86, 87, 88, 89, 90, 91, 92, 93, 94, 95, 96, 97, 98, 99, 100, 101, 102, 103, 104, 105, 106, 107, 108, 109, 110, 111, 112, 113, 114, 115, 116, 117] (by decide +kernel) (by decide +kernel)
set_option maxRecDepth 20000 in
theorem gX8_best_X8_bestPlay : GoodIn wsX8_best (wsV RX8 291 RX8 yX8_bestPlay wsX8_bestPlay) := goodIn_app (goodIn_of _ (by decide +kernel)) ggX8_best_X8_bestPlay
theorem dX8_best_0 : decode cX8_best 0 = .ok (.aload_n 0, 1) := by decide +kernel
theorem dX8_best_1 : decode cX8_best 1 = .ok (.iconst 0, 1) := by decide +kernel
theorem dX8_best_2 : decode cX8_best 2 = .ok (.putfield 49, 3) := by decide +kernel
theorem dX8_best_5 : decode cX8_best 5 = .ok (.aload_n 0, 1) := by decide +kernel
theorem dX8_best_6 : decode cX8_best 6 = .ok (.invokevirtual 291, 3) := by decide +kernel
theorem dX8_best_9 : decode cX8_best 9 = .ok (.ireturn, 1) := by decide +kernel
set_option maxRecDepth 20000 in
theorem ggX8_chains_X8_noPlayer : GoodIn wsX8_chains wsX8_noPlayer := goodIn_r _ [6, 7, 8, 9, 5, 10, 11, 12, 13, 14, 1, 103, 104, 105, 106, 107, 108, 109, 110, 111, 112, 113, 114, 115, 116, 117, 118, 119, 120, 121, 122, 123] (by decide +kernel) (by decide +kernel)
set_option maxRecDepth 20000 in
theorem gX8_chains_X8_noPlayer : GoodIn wsX8_chains (wsV RX8 315 RX8 yX8_noPlayer wsX8_noPlayer) := goodIn_app (goodIn_of _ (by decide +kernel)) ggX8_chains_X8_noPlayer
set_option maxRecDepth 20000 in
theorem ggX8_chains_X8_noRow : GoodIn wsX8_chains wsX8_noRow := goodIn_r _ [18, 7, 8, 9, 5, 10, 11, 12, 13, 14, 1, 103, 104, 105, 106, 107, 108, 109, 110, 111, 112, 113, 114, 115, 116, 117, 118, 119, 120, 121, 122, 123] (by decide +kernel) (by decide +kernel)
set_option maxRecDepth 20000 in
theorem gX8_chains_X8_noRow : GoodIn wsX8_chains (wsV RX8 330 RX8 yX8_noRow wsX8_noRow) := goodIn_app (goodIn_of _ (by decide +kernel)) ggX8_chains_X8_noRow
set_option maxRecDepth 20000 in
theorem ggX8_chains_X8_free : GoodIn wsX8_chains wsX8_free := goodIn_r _ [22, 23, 24, 25, 5, 26, 7, 27, 28, 29, 103, 104, 105, 106, 107, 108, 109, 110, 111, 112, 113, 114, 115, 116, 117, 118, 119, 120, 121, 122, 123] (by decide +kernel) (by decide +kernel)
set_option maxRecDepth 20000 in
theorem gX8_chains_X8_free : GoodIn wsX8_chains (wsV RX8 239 RX8 yX8_free wsX8_free) := goodIn_app (goodIn_of _ (by decide +kernel)) ggX8_chains_X8_free
set_option maxRecDepth 20000 in
theorem ggX8_chains_X8_ofChains : GoodIn wsX8_chains wsX8_ofChains := goodIn_r _ [33, 34, 35, 36, 37, 38, 5, 39, 7, 40, 41, 42, 43, 44, 45, 46, 47, 48, 49, 50, 51, 52, 53, 54, 55, 56, 57, 19, 20, 21, 22, 23, 24, 25, 26, 27, 28, 29, 58, 59, 60, 61, 62, 63, 64, 65, 66, 67, 68, 69, 70, 71, 72, 73, 74, 75, 76, 77, 78, 79, 80, 81, 82, 83, 84, 85, 86, 87, 88, 89, 90, 91, 92, 93, 94, 95, 96, 97, 98, 99, 100, 101, 102, 103, 104, 105, 106, 107, 108, 109, 110, 111, 112, 113, 114, 115, 116, 117, 118, 119, 120, 121, 122, 123] (by decide +kernel) (by decide +kernel)
set_option maxRecDepth 20000 in
theorem gX8_chains_X8_ofChains : GoodIn wsX8_chains (wsV RX8 351 RX8 yX8_ofChains wsX8_ofChains) := goodIn_app (goodIn_of _ (by decide +kernel)) ggX8_chains_X8_ofChains
theorem dX8_chains_0 : decode cX8_chains 0 = .ok (.aload_n 0, 1) := by decide +kernel
theorem dX8_chains_1 : decode cX8_chains 1 = .ok (.iconst 0, 1) := by decide +kernel
theorem dX8_chains_2 : decode cX8_chains 2 = .ok (.putfield 49, 3) := by decide +kernel
theorem dX8_chains_5 : decode cX8_chains 5 = .ok (.aload_n 0, 1) := by decide +kernel
theorem dX8_chains_6 : decode cX8_chains 6 = .ok (.iload_n 1, 1) := by decide +kernel
theorem dX8_chains_7 : decode cX8_chains 7 = .ok (.invokevirtual 315, 3) := by decide +kernel
theorem dX8_chains_10 : decode cX8_chains 10 = .ok (.ifCond .ne 11, 3) := by decide +kernel
theorem dX8_chains_13 : decode cX8_chains 13 = .ok (.aload_n 0, 1) := by decide +kernel
theorem dX8_chains_14 : decode cX8_chains 14 = .ok (.iload_n 2, 1) := by decide +kernel
theorem dX8_chains_15 : decode cX8_chains 15 = .ok (.invokevirtual 330, 3) := by decide +kernel
theorem dX8_chains_18 : decode cX8_chains 18 = .ok (.ifCond .eq 7, 3) := by decide +kernel
theorem dX8_chains_21 : decode cX8_chains 21 = .ok (.iconst 0, 1) := by decide +kernel
theorem dX8_chains_22 : decode cX8_chains 22 = .ok (.goto 27, 3) := by decide +kernel
theorem dX8_chains_25 : decode cX8_chains 25 = .ok (.iload_n 3, 1) := by decide +kernel
theorem dX8_chains_26 : decode cX8_chains 26 = .ok (.iconst 2, 1) := by decide +kernel
theorem dX8_chains_27 : decode cX8_chains 27 = .ok (.if_icmp .ne 15, 3) := by decide +kernel
theorem dX8_chains_30 : decode cX8_chains 30 = .ok (.aload_n 0, 1) := by decide +kernel
theorem dX8_chains_31 : decode cX8_chains 31 = .ok (.iload_n 2, 1) := by decide +kernel
theorem dX8_chains_32 : decode cX8_chains 32 = .ok (.invokevirtual 239, 3) := by decide +kernel
theorem dX8_chains_35 : decode cX8_chains 35 = .ok (.ifCond .ne 7, 3) := by decide +kernel
theorem dX8_chains_38 : decode cX8_chains 38 = .ok (.iconst 1, 1) := by decide +kernel
theorem dX8_chains_39 : decode cX8_chains 39 = .ok (.goto 10, 3) := by decide +kernel
theorem dX8_chains_42 : decode cX8_chains 42 = .ok (.aload_n 0, 1) := by decide +kernel
theorem dX8_chains_43 : decode cX8_chains 43 = .ok (.iload_n 1, 1) := by decide +kernel
theorem dX8_chains_44 : decode cX8_chains 44 = .ok (.iload_n 2, 1) := by decide +kernel
theorem dX8_chains_45 : decode cX8_chains 45 = .ok (.iload_n 3, 1) := by decide +kernel
theorem dX8_chains_46 : decode cX8_chains 46 = .ok (.invokevirtual 351, 3) := by decide +kernel
theorem dX8_chains_49 : decode cX8_chains 49 = .ok (.ireturn, 1) := by decide +kernel
set_option maxRecDepth 20000 in
theorem ggX8_chain_X8_chains : GoodIn wsX8_chain wsX8_chains := goodIn_r _ [5, 6, 7, 8, 9, 4, 10, 11, 12, 13, 14, 15, 16, 17, 18, 19, 20, 21, 22, 23, 24, 25, 26, 27, 28, 29, 30, 31, 32, 33, 34, 35, 36, 37, 38, 39, 40, 41, 42, 43, 44, 45, 46, 47, 48, 49, 50, 51, 52, 53, 54, 55, 56, 57, 58, 59, 60, 61, 62, 63, 64, 65, 66, 67, 68, 69, 70, 71, 72, 73, 74, 75, 76, 77, 78, 79, 80, 81, 82, 83, 84, 85, 86, 87, 88, 89, 90, 91, 92, 93, 94, 95, 96, 97, 98, 99, 100, 101, 102, 103, 104, 105, 106, 107, 108, 109, 110, 111, 112, 113, 114, 115, 116, 117, 118, 119, 120, 121, 122, 123, 124, 125, 126, 127] (by decide +kernel) (by decide +kernel)
set_option maxRecDepth 20000 in
theorem gX8_chain_X8_chains : GoodIn wsX8_chain (wsV RX8 354 RX8 yX8_chains wsX8_chains) := goodIn_app (goodIn_of _ (by decide +kernel)) ggX8_chain_X8_chains
theorem dX8_chain_0 : decode cX8_chain 0 = .ok (.aload_n 0, 1) := by decide +kernel
theorem dX8_chain_1 : decode cX8_chain 1 = .ok (.iload_n 1, 1) := by decide +kernel
theorem dX8_chain_2 : decode cX8_chain 2 = .ok (.iload_n 2, 1) := by decide +kernel
theorem dX8_chain_3 : decode cX8_chain 3 = .ok (.iconst 0, 1) := by decide +kernel
theorem dX8_chain_4 : decode cX8_chain 4 = .ok (.invokevirtual 354, 3) := by decide +kernel
theorem dX8_chain_7 : decode cX8_chain 7 = .ok (.ireturn, 1) := by decide +kernel
set_option maxRecDepth 20000 in
theorem ggX8_worth_X8_chains : GoodIn wsX8_worth wsX8_chains := goodIn_r _ [5, 6, 7, 8, 9, 4, 10, 11, 12, 13, 14, 15, 16, 17, 18, 19, 20, 21, 22, 23, 24, 25, 26, 27, 28, 29, 30, 31, 32, 33, 34, 35, 36, 37, 38, 39, 40, 41, 42, 43, 44, 45, 46, 47, 48, 49, 50, 51, 52, 53, 54, 55, 56, 57, 58, 59, 60, 61, 62, 63, 64, 65, 66, 67, 68, 69, 70, 71, 72, 73, 74, 75, 76, 77, 78, 79, 80, 81, 82, 83, 84, 85, 86, 87, 88, 89, 90, 91, 92, 93, 94, 95, 96, 97, 98, 99, 100, 101, 102, 103, 104, 105, 106, 107, 108, 109, 110, 111, 112, 113, 114, 115, 116, 117, 118, 119, 120, 121, 122, 123, 124, 125, 126, 127] (by decide +kernel) (by decide +kernel)
set_option maxRecDepth 20000 in
theorem gX8_worth_X8_chains : GoodIn wsX8_worth (wsV RX8 354 RX8 yX8_chains wsX8_chains) := goodIn_app (goodIn_of _ (by decide +kernel)) ggX8_worth_X8_chains
theorem dX8_worth_0 : decode cX8_worth 0 = .ok (.aload_n 0, 1) := by decide +kernel
theorem dX8_worth_1 : decode cX8_worth 1 = .ok (.iload_n 1, 1) := by decide +kernel
theorem dX8_worth_2 : decode cX8_worth 2 = .ok (.iload_n 2, 1) := by decide +kernel
theorem dX8_worth_3 : decode cX8_worth 3 = .ok (.iconst 1, 1) := by decide +kernel
theorem dX8_worth_4 : decode cX8_worth 4 = .ok (.invokevirtual 354, 3) := by decide +kernel
theorem dX8_worth_7 : decode cX8_worth 7 = .ok (.ireturn, 1) := by decide +kernel
set_option maxRecDepth 20000 in
theorem ggX8_fillings_X8_chains : GoodIn wsX8_fillings wsX8_chains := goodIn_r _ [5, 6, 7, 8, 9, 4, 10, 11, 12, 13, 14, 15, 16, 17, 18, 19, 20, 21, 22, 23, 24, 25, 26, 27, 28, 29, 30, 31, 32, 33, 34, 35, 36, 37, 38, 39, 40, 41, 42, 43, 44, 45, 46, 47, 48, 49, 50, 51, 52, 53, 54, 55, 56, 57, 58, 59, 60, 61, 62, 63, 64, 65, 66, 67, 68, 69, 70, 71, 72, 73, 74, 75, 76, 77, 78, 79, 80, 81, 82, 83, 84, 85, 86, 87, 88, 89, 90, 91, 92, 93, 94, 95, 96, 97, 98, 99, 100, 101, 102, 103, 104, 105, 106, 107, 108, 109, 110, 111, 112, 113, 114, 115, 116, 117, 118, 119, 120, 121, 122, 123, 124, 125, 126, 127] (by decide +kernel) (by decide +kernel)
set_option maxRecDepth 20000 in
theorem gX8_fillings_X8_chains : GoodIn wsX8_fillings (wsV RX8 354 RX8 yX8_chains wsX8_chains) := goodIn_app (goodIn_of _ (by decide +kernel)) ggX8_fillings_X8_chains
theorem dX8_fillings_0 : decode cX8_fillings 0 = .ok (.aload_n 0, 1) := by decide +kernel
theorem dX8_fillings_1 : decode cX8_fillings 1 = .ok (.iload_n 1, 1) := by decide +kernel
theorem dX8_fillings_2 : decode cX8_fillings 2 = .ok (.iload_n 2, 1) := by decide +kernel
theorem dX8_fillings_3 : decode cX8_fillings 3 = .ok (.iconst 2, 1) := by decide +kernel
theorem dX8_fillings_4 : decode cX8_fillings 4 = .ok (.invokevirtual 354, 3) := by decide +kernel
theorem dX8_fillings_7 : decode cX8_fillings 7 = .ok (.ireturn, 1) := by decide +kernel
set_option maxRecDepth 20000 in
theorem ggX8_threats_X8_noRow : GoodIn wsX8_threats wsX8_noRow := goodIn_r _ [7, 2, 8, 9, 6, 10, 11, 12, 13, 14, 1, 71, 72, 73, 74, 75, 76, 77, 78, 79, 80, 81, 82, 83, 84, 85, 86, 87, 88, 89, 90, 91] (by decide +kernel) (by decide +kernel)
set_option maxRecDepth 20000 in
theorem gX8_threats_X8_noRow : GoodIn wsX8_threats (wsV RX8 330 RX8 yX8_noRow wsX8_noRow) := goodIn_app (goodIn_of _ (by decide +kernel)) ggX8_threats_X8_noRow
set_option maxRecDepth 20000 in
theorem ggX8_threats_X8_ofPlayer : GoodIn wsX8_threats wsX8_ofPlayer := goodIn_r _ [18, 2, 19, 20, 6, 21, 71, 72, 73, 74, 75, 76, 77, 78, 79, 80, 81, 82, 83, 84, 85, 86, 87, 88, 89, 90, 91] (by decide +kernel) (by decide +kernel)
set_option maxRecDepth 20000 in
theorem gX8_threats_X8_ofPlayer : GoodIn wsX8_threats (wsV RX8 266 RX8 yX8_ofPlayer wsX8_ofPlayer) := goodIn_app (goodIn_of _ (by decide +kernel)) ggX8_threats_X8_ofPlayer
set_option maxRecDepth 20000 in
theorem ggX8_threats_X8_hinders : GoodIn wsX8_threats wsX8_hinders := goodIn_r _ [25, 2, 26, 27, 28, 6, 29, 30, 31, 32, 19, 20, 21, 33, 34, 35, 36, 37, 38, 39, 40, 41, 42, 43, 44, 45, 46, 47, 48, 49, 50, 51, 52, 53, 54, 55, 56, 57, 58, 59, 60, 61, 62, 63, 64, 65, 66, 67, 68, 69, 70, 71, 72, 73, 74, 75, 76, 77, 78, 79, 80, 81, 82, 83, 84, 85, 86, 87, 88, 89, 90, 91] (by decide +kernel) (by decide +kernel)
set_option maxRecDepth 20000 in
theorem gX8_threats_X8_hinders : GoodIn wsX8_threats (wsV RX8 249 RX8 yX8_hinders wsX8_hinders) := goodIn_app (goodIn_of _ (by decide +kernel)) ggX8_threats_X8_hinders
set_option maxRecDepth 20000 in
theorem ggX8_threats_X8_lengthOf : GoodIn wsX8_threats wsX8_lengthOf := goodIn_r _ [29, 2, 30, 31, 6, 32, 19, 20, 21, 71, 72, 73, 74, 75, 76, 77, 78, 79, 80, 81, 82, 83, 84, 85, 86, 87, 88, 89, 90, 91] (by decide +kernel) (by decide +kernel)
set_option maxRecDepth 20000 in
theorem gX8_threats_X8_lengthOf : GoodIn wsX8_threats (wsV RX8 225 RX8 yX8_lengthOf wsX8_lengthOf) := goodIn_app (goodIn_of _ (by decide +kernel)) ggX8_threats_X8_lengthOf
set_option maxRecDepth 20000 in
theorem ggX8_threats_X8_free : GoodIn wsX8_threats wsX8_free := goodIn_r _ [36, 37, 38, 39, 6, 40, 2, 41, 42, 43, 71, 72, 73, 74, 75, 76, 77, 78, 79, 80, 81, 82, 83, 84, 85, 86, 87, 88, 89, 90, 91] (by decide +kernel) (by decide +kernel)
set_option maxRecDepth 20000 in
theorem gX8_threats_X8_free : GoodIn wsX8_threats (wsV RX8 239 RX8 yX8_free wsX8_free) := goodIn_app (goodIn_of _ (by decide +kernel)) ggX8_threats_X8_free
theorem dX8_threats_0 : decode cX8_threats 0 = .ok (.aload_n 0, 1) := by decide +kernel
theorem dX8_threats_1 : decode cX8_threats 1 = .ok (.iconst 0, 1) := by decide +kernel
theorem dX8_threats_2 : decode cX8_threats 2 = .ok (.putfield 49, 3) := by decide +kernel
theorem dX8_threats_5 : decode cX8_threats 5 = .ok (.aload_n 0, 1) := by decide +kernel
theorem dX8_threats_6 : decode cX8_threats 6 = .ok (.iload_n 1, 1) := by decide +kernel
theorem dX8_threats_7 : decode cX8_threats 7 = .ok (.invokevirtual 330, 3) := by decide +kernel
theorem dX8_threats_10 : decode cX8_threats 10 = .ok (.ifCond .eq 5, 3) := by decide +kernel
theorem dX8_threats_13 : decode cX8_threats 13 = .ok (.iconst 0, 1) := by decide +kernel
theorem dX8_threats_14 : decode cX8_threats 14 = .ok (.ireturn, 1) := by decide +kernel
theorem dX8_threats_15 : decode cX8_threats 15 = .ok (.iconst 0, 1) := by decide +kernel
theorem dX8_threats_16 : decode cX8_threats 16 = .ok (.istore_n 2, 1) := by decide +kernel
theorem dX8_threats_17 : decode cX8_threats 17 = .ok (.iconst 0, 1) := by decide +kernel
theorem dX8_threats_18 : decode cX8_threats 18 = .ok (.istore_n 3, 1) := by decide +kernel
theorem dX8_threats_19 : decode cX8_threats 19 = .ok (.iload_n 3, 1) := by decide +kernel
theorem dX8_threats_20 : decode cX8_threats 20 = .ok (.aload_n 0, 1) := by decide +kernel
theorem dX8_threats_21 : decode cX8_threats 21 = .ok (.getfield 17, 3) := by decide +kernel
theorem dX8_threats_24 : decode cX8_threats 24 = .ok (.iconst 1, 1) := by decide +kernel
theorem dX8_threats_25 : decode cX8_threats 25 = .ok (.iaload, 1) := by decide +kernel
theorem dX8_threats_26 : decode cX8_threats 26 = .ok (.if_icmp .ge 61, 3) := by decide +kernel
theorem dX8_threats_29 : decode cX8_threats 29 = .ok (.iconst 0, 1) := by decide +kernel
theorem dX8_threats_30 : decode cX8_threats 30 = .ok (.istore 4, 2) := by decide +kernel
theorem dX8_threats_32 : decode cX8_threats 32 = .ok (.iload 4, 2) := by decide +kernel
theorem dX8_threats_34 : decode cX8_threats 34 = .ok (.aload_n 0, 1) := by decide +kernel
theorem dX8_threats_35 : decode cX8_threats 35 = .ok (.iload_n 3, 1) := by decide +kernel
theorem dX8_threats_36 : decode cX8_threats 36 = .ok (.iconst 1, 1) := by decide +kernel
theorem dX8_threats_37 : decode cX8_threats 37 = .ok (.invokevirtual 266, 3) := by decide +kernel
theorem dX8_threats_40 : decode cX8_threats 40 = .ok (.if_icmp .ge 41, 3) := by decide +kernel
theorem dX8_threats_43 : decode cX8_threats 43 = .ok (.aload_n 0, 1) := by decide +kernel
theorem dX8_threats_44 : decode cX8_threats 44 = .ok (.iload_n 3, 1) := by decide +kernel
theorem dX8_threats_45 : decode cX8_threats 45 = .ok (.iload 4, 2) := by decide +kernel
theorem dX8_threats_47 : decode cX8_threats 47 = .ok (.iload_n 1, 1) := by decide +kernel
theorem dX8_threats_48 : decode cX8_threats 48 = .ok (.invokevirtual 249, 3) := by decide +kernel
theorem dX8_threats_51 : decode cX8_threats 51 = .ok (.ifCond .ne 24, 3) := by decide +kernel
theorem dX8_threats_54 : decode cX8_threats 54 = .ok (.aload_n 0, 1) := by decide +kernel
theorem dX8_threats_55 : decode cX8_threats 55 = .ok (.iload_n 3, 1) := by decide +kernel
theorem dX8_threats_56 : decode cX8_threats 56 = .ok (.iload 4, 2) := by decide +kernel
theorem dX8_threats_58 : decode cX8_threats 58 = .ok (.invokevirtual 225, 3) := by decide +kernel
theorem dX8_threats_61 : decode cX8_threats 61 = .ok (.aload_n 0, 1) := by decide +kernel
theorem dX8_threats_62 : decode cX8_threats 62 = .ok (.iload_n 1, 1) := by decide +kernel
theorem dX8_threats_63 : decode cX8_threats 63 = .ok (.invokevirtual 239, 3) := by decide +kernel
theorem dX8_threats_66 : decode cX8_threats 66 = .ok (.if_icmp .ne 9, 3) := by decide +kernel
theorem dX8_threats_69 : decode cX8_threats 69 = .ok (.iload_n 2, 1) := by decide +kernel
theorem dX8_threats_70 : decode cX8_threats 70 = .ok (.iconst 1, 1) := by decide +kernel
theorem dX8_threats_71 : decode cX8_threats 71 = .ok (.iload_n 3, 1) := by decide +kernel
theorem dX8_threats_72 : decode cX8_threats 72 = .ok (.ishl, 1) := by decide +kernel
theorem dX8_threats_73 : decode cX8_threats 73 = .ok (.ior, 1) := by decide +kernel
theorem dX8_threats_74 : decode cX8_threats 74 = .ok (.istore_n 2, 1) := by decide +kernel
theorem dX8_threats_75 : decode cX8_threats 75 = .ok (.iinc 4 1, 3) := by decide +kernel
theorem dX8_threats_78 : decode cX8_threats 78 = .ok (.goto (-46), 3) := by decide +kernel
theorem dX8_threats_81 : decode cX8_threats 81 = .ok (.iinc 3 1, 3) := by decide +kernel
theorem dX8_threats_84 : decode cX8_threats 84 = .ok (.goto (-65), 3) := by decide +kernel
theorem dX8_threats_87 : decode cX8_threats 87 = .ok (.iload_n 2, 1) := by decide +kernel
theorem dX8_threats_88 : decode cX8_threats 88 = .ok (.ireturn, 1) := by decide +kernel
set_option maxRecDepth 20000 in
theorem ggX8_winner_X8_copy : GoodIn wsX8_winner wsX8_copy := goodIn_r _ [8] (by decide +kernel) (by decide +kernel)
set_option maxRecDepth 20000 in
theorem gX8_winner_X8_copy : GoodIn wsX8_winner (va_wsS RX8 211 yX8_copy wsX8_copy) := goodIn_app (goodIn_of _ (by decide +kernel)) ggX8_winner_X8_copy
set_option maxRecDepth 20000 in
theorem ggX8_winner_X8_goOn : GoodIn wsX8_winner wsX8_goOn := goodIn_r _ [12, 2, 13, 14, 15, 7, 16, 17, 18, 19, 20, 21, 22, 23, 24, 25, 26, 27, 28, 29, 30, 31, 32, 33, 34, 35, 36, 37, 38, 39, 40, 41, 42, 43, 44, 45, 46, 47, 48, 49, 50, 51, 52, 53, 54, 55, 56, 57, 58, 59, 60, 61, 62, 63, 64, 65, 66, 67, 68, 69, 70, 71, 72, 73, 74, 75, 76, 77, 78, 79, 80, 81, 82, 83, 84, 85, 86, 87, 88, 89, 90, 91, 92, 93, 94, 95, 96, 97, 98, 99, 100, 101, 102, 103, 104, 105, 106, 107, 108, 109, 110, 111, 112, 113, 114, 115, 116, 117, 118, 119, 120, 121, 122, 123, 124, 125, 126, 127, 128, 129, 130, 131, 132, 133, 134, 135, 136, 137, 138, 139, 140, 141, 142, 143, 144, 145, 146] (by decide +kernel) (by decide +kernel)
set_option maxRecDepth 20000 in
theorem gX8_winner_X8_goOn : GoodIn wsX8_winner (wsV RX8 360 RX8 yX8_goOn wsX8_goOn) := goodIn_app (goodIn_of _ (by decide +kernel)) ggX8_winner_X8_goOn
set_option maxRecDepth 20000 in
theorem ggX8_winner_X8_ofPlayer : GoodIn wsX8_winner wsX8_ofPlayer := goodIn_r _ [24, 2, 25, 26, 7, 27, 126, 127, 128, 129, 130, 131, 132, 133, 134, 135, 136, 137, 138, 139, 140, 141, 142, 143, 144, 145, 146] (by decide +kernel) (by decide +kernel)
set_option maxRecDepth 20000 in
theorem gX8_winner_X8_ofPlayer : GoodIn wsX8_winner (wsV RX8 266 RX8 yX8_ofPlayer wsX8_ofPlayer) := goodIn_app (goodIn_of _ (by decide +kernel)) ggX8_winner_X8_ofPlayer
theorem dX8_winner_0 : decode cX8_winner 0 = .ok (.aload_n 0, 1) := by decide +kernel
theorem dX8_winner_1 : decode cX8_winner 1 = .ok (.iconst 0, 1) := by decide +kernel
theorem dX8_winner_2 : decode cX8_winner 2 = .ok (.putfield 49, 3) := by decide +kernel
theorem dX8_winner_5 : decode cX8_winner 5 = .ok (.aload_n 0, 1) := by decide +kernel
theorem dX8_winner_6 : decode cX8_winner 6 = .ok (.getfield 17, 3) := by decide +kernel
theorem dX8_winner_9 : decode cX8_winner 9 = .ok (.aload_n 0, 1) := by decide +kernel
theorem dX8_winner_10 : decode cX8_winner 10 = .ok (.getfield 23, 3) := by decide +kernel
theorem dX8_winner_13 : decode cX8_winner 13 = .ok (.sipush 602, 3) := by decide +kernel
theorem dX8_winner_16 : decode cX8_winner 16 = .ok (.invokestatic 211, 3) := by decide +kernel
theorem dX8_winner_19 : decode cX8_winner 19 = .ok (.aload_n 0, 1) := by decide +kernel
theorem dX8_winner_20 : decode cX8_winner 20 = .ok (.ldc_w 359, 3) := by decide +kernel
theorem dX8_winner_23 : decode cX8_winner 23 = .ok (.invokevirtual 360, 3) := by decide +kernel
theorem dX8_winner_26 : decode cX8_winner 26 = .ok (.istore_n 1, 1) := by decide +kernel
theorem dX8_winner_27 : decode cX8_winner 27 = .ok (.iconst 0, 1) := by decide +kernel
theorem dX8_winner_28 : decode cX8_winner 28 = .ok (.istore_n 2, 1) := by decide +kernel
theorem dX8_winner_29 : decode cX8_winner 29 = .ok (.iconst 1, 1) := by decide +kernel
theorem dX8_winner_30 : decode cX8_winner 30 = .ok (.istore_n 3, 1) := by decide +kernel
theorem dX8_winner_31 : decode cX8_winner 31 = .ok (.iload_n 3, 1) := by decide +kernel
theorem dX8_winner_32 : decode cX8_winner 32 = .ok (.aload_n 0, 1) := by decide +kernel
theorem dX8_winner_33 : decode cX8_winner 33 = .ok (.getfield 17, 3) := by decide +kernel
theorem dX8_winner_36 : decode cX8_winner 36 = .ok (.iconst 1, 1) := by decide +kernel
theorem dX8_winner_37 : decode cX8_winner 37 = .ok (.iaload, 1) := by decide +kernel
theorem dX8_winner_38 : decode cX8_winner 38 = .ok (.if_icmp .ge 26, 3) := by decide +kernel
theorem dX8_winner_41 : decode cX8_winner 41 = .ok (.aload_n 0, 1) := by decide +kernel
theorem dX8_winner_42 : decode cX8_winner 42 = .ok (.iload_n 3, 1) := by decide +kernel
theorem dX8_winner_43 : decode cX8_winner 43 = .ok (.iconst 0, 1) := by decide +kernel
theorem dX8_winner_44 : decode cX8_winner 44 = .ok (.invokevirtual 266, 3) := by decide +kernel
theorem dX8_winner_47 : decode cX8_winner 47 = .ok (.aload_n 0, 1) := by decide +kernel
theorem dX8_winner_48 : decode cX8_winner 48 = .ok (.iload_n 2, 1) := by decide +kernel
theorem dX8_winner_49 : decode cX8_winner 49 = .ok (.iconst 0, 1) := by decide +kernel
theorem dX8_winner_50 : decode cX8_winner 50 = .ok (.invokevirtual 266, 3) := by decide +kernel
theorem dX8_winner_53 : decode cX8_winner 53 = .ok (.if_icmp .le 5, 3) := by decide +kernel
theorem dX8_winner_56 : decode cX8_winner 56 = .ok (.iload_n 3, 1) := by decide +kernel
theorem dX8_winner_57 : decode cX8_winner 57 = .ok (.istore_n 2, 1) := by decide +kernel
theorem dX8_winner_58 : decode cX8_winner 58 = .ok (.iinc 3 1, 3) := by decide +kernel
theorem dX8_winner_61 : decode cX8_winner 61 = .ok (.goto (-30), 3) := by decide +kernel
theorem dX8_winner_64 : decode cX8_winner 64 = .ok (.aload_n 0, 1) := by decide +kernel
theorem dX8_winner_65 : decode cX8_winner 65 = .ok (.getfield 23, 3) := by decide +kernel
theorem dX8_winner_68 : decode cX8_winner 68 = .ok (.aload_n 0, 1) := by decide +kernel
theorem dX8_winner_69 : decode cX8_winner 69 = .ok (.getfield 17, 3) := by decide +kernel
theorem dX8_winner_72 : decode cX8_winner 72 = .ok (.sipush 602, 3) := by decide +kernel
theorem dX8_winner_75 : decode cX8_winner 75 = .ok (.invokestatic 211, 3) := by decide +kernel
theorem dX8_winner_78 : decode cX8_winner 78 = .ok (.iload_n 2, 1) := by decide +kernel
theorem dX8_winner_79 : decode cX8_winner 79 = .ok (.ireturn, 1) := by decide +kernel
set_option maxRecDepth 20000 in
theorem ggX8_stepsToEnd_X8_copy : GoodIn wsX8_stepsToEnd wsX8_copy := goodIn_r _ [8] (by decide +kernel) (by decide +kernel)
set_option maxRecDepth 20000 in
theorem gX8_stepsToEnd_X8_copy : GoodIn wsX8_stepsToEnd (va_wsS RX8 211 yX8_copy wsX8_copy) := goodIn_app (goodIn_of _ (by decide +kernel)) ggX8_stepsToEnd_X8_copy
set_option maxRecDepth 20000 in
theorem ggX8_stepsToEnd_X8_goOn : GoodIn wsX8_stepsToEnd wsX8_goOn := goodIn_r _ [12, 2, 13, 14, 15, 7, 16, 17, 18, 19, 20, 21, 22, 23, 24, 25, 26, 27, 28, 29, 30, 31, 32, 33, 34, 35, 36, 37, 38, 39, 40, 41, 42, 43, 44, 45, 46, 47, 48, 49, 50, 51, 52, 53, 54, 55, 56, 57, 58, 59, 60, 61, 62, 63, 64, 65, 66, 67, 68, 69, 70, 71, 72, 73, 74, 75, 76, 77, 78, 79, 80, 81, 82, 83, 84, 85, 86, 87, 88, 89, 90, 91, 92, 93, 94, 95, 96, 97, 98, 99, 100, 101, 102, 103, 104, 105, 106, 107, 108, 109, 110, 111, 112, 113, 114, 115, 116, 117, 118, 119, 120, 121, 122, 123, 124, 125, 126, 127, 128, 129, 130, 131, 132, 133, 134, 135, 136, 137, 138, 139, 140, 141, 142, 143, 144, 145, 146] (by decide +kernel) (by decide +kernel)
set_option maxRecDepth 20000 in
theorem gX8_stepsToEnd_X8_goOn : GoodIn wsX8_stepsToEnd (wsV RX8 360 RX8 yX8_goOn wsX8_goOn) := goodIn_app (goodIn_of _ (by decide +kernel)) ggX8_stepsToEnd_X8_goOn
theorem dX8_stepsToEnd_0 : decode cX8_stepsToEnd 0 = .ok (.aload_n 0, 1) := by decide +kernel
theorem dX8_stepsToEnd_1 : decode cX8_stepsToEnd 1 = .ok (.iconst 0, 1) := by decide +kernel
theorem dX8_stepsToEnd_2 : decode cX8_stepsToEnd 2 = .ok (.putfield 49, 3) := by decide +kernel
theorem dX8_stepsToEnd_5 : decode cX8_stepsToEnd 5 = .ok (.aload_n 0, 1) := by decide +kernel
theorem dX8_stepsToEnd_6 : decode cX8_stepsToEnd 6 = .ok (.getfield 17, 3) := by decide +kernel
theorem dX8_stepsToEnd_9 : decode cX8_stepsToEnd 9 = .ok (.aload_n 0, 1) := by decide +kernel
theorem dX8_stepsToEnd_10 : decode cX8_stepsToEnd 10 = .ok (.getfield 23, 3) := by decide +kernel
theorem dX8_stepsToEnd_13 : decode cX8_stepsToEnd 13 = .ok (.sipush 602, 3) := by decide +kernel
theorem dX8_stepsToEnd_16 : decode cX8_stepsToEnd 16 = .ok (.invokestatic 211, 3) := by decide +kernel
theorem dX8_stepsToEnd_19 : decode cX8_stepsToEnd 19 = .ok (.aload_n 0, 1) := by decide +kernel
theorem dX8_stepsToEnd_20 : decode cX8_stepsToEnd 20 = .ok (.ldc_w 359, 3) := by decide +kernel
theorem dX8_stepsToEnd_23 : decode cX8_stepsToEnd 23 = .ok (.invokevirtual 360, 3) := by decide +kernel
theorem dX8_stepsToEnd_26 : decode cX8_stepsToEnd 26 = .ok (.istore_n 1, 1) := by decide +kernel
theorem dX8_stepsToEnd_27 : decode cX8_stepsToEnd 27 = .ok (.aload_n 0, 1) := by decide +kernel
theorem dX8_stepsToEnd_28 : decode cX8_stepsToEnd 28 = .ok (.getfield 23, 3) := by decide +kernel
theorem dX8_stepsToEnd_31 : decode cX8_stepsToEnd 31 = .ok (.aload_n 0, 1) := by decide +kernel
theorem dX8_stepsToEnd_32 : decode cX8_stepsToEnd 32 = .ok (.getfield 17, 3) := by decide +kernel
theorem dX8_stepsToEnd_35 : decode cX8_stepsToEnd 35 = .ok (.sipush 602, 3) := by decide +kernel
theorem dX8_stepsToEnd_38 : decode cX8_stepsToEnd 38 = .ok (.invokestatic 211, 3) := by decide +kernel
theorem dX8_stepsToEnd_41 : decode cX8_stepsToEnd 41 = .ok (.iload_n 1, 1) := by decide +kernel
theorem dX8_stepsToEnd_42 : decode cX8_stepsToEnd 42 = .ok (.ireturn, 1) := by decide +kernel
set_option maxRecDepth 20000 in
theorem ggX8_covered_X8_ofRow : GoodIn wsX8_covered wsX8_ofRow := goodIn_r _ [7, 2, 8, 9, 6, 10, 11, 12, 13, 14, 15, 16, 17, 18, 19, 20, 21, 22, 23, 24, 25, 26, 27, 28, 29, 30, 31] (by decide +kernel) (by decide +kernel)
set_option maxRecDepth 20000 in
theorem gX8_covered_X8_ofRow : GoodIn wsX8_covered (wsV RX8 218 RX8 yX8_ofRow wsX8_ofRow) := goodIn_app (goodIn_of _ (by decide +kernel)) ggX8_covered_X8_ofRow
theorem dX8_covered_0 : decode cX8_covered 0 = .ok (.aload_n 0, 1) := by decide +kernel
theorem dX8_covered_1 : decode cX8_covered 1 = .ok (.iconst 0, 1) := by decide +kernel
theorem dX8_covered_2 : decode cX8_covered 2 = .ok (.putfield 49, 3) := by decide +kernel
theorem dX8_covered_5 : decode cX8_covered 5 = .ok (.iconst 0, 1) := by decide +kernel
theorem dX8_covered_6 : decode cX8_covered 6 = .ok (.istore_n 1, 1) := by decide +kernel
theorem dX8_covered_7 : decode cX8_covered 7 = .ok (.iconst 0, 1) := by decide +kernel
theorem dX8_covered_8 : decode cX8_covered 8 = .ok (.istore_n 2, 1) := by decide +kernel
theorem dX8_covered_9 : decode cX8_covered 9 = .ok (.iconst 0, 1) := by decide +kernel
theorem dX8_covered_10 : decode cX8_covered 10 = .ok (.istore_n 3, 1) := by decide +kernel
theorem dX8_covered_11 : decode cX8_covered 11 = .ok (.iload_n 3, 1) := by decide +kernel
theorem dX8_covered_12 : decode cX8_covered 12 = .ok (.aload_n 0, 1) := by decide +kernel
theorem dX8_covered_13 : decode cX8_covered 13 = .ok (.getfield 17, 3) := by decide +kernel
theorem dX8_covered_16 : decode cX8_covered 16 = .ok (.iconst 0, 1) := by decide +kernel
theorem dX8_covered_17 : decode cX8_covered 17 = .ok (.iaload, 1) := by decide +kernel
theorem dX8_covered_18 : decode cX8_covered 18 = .ok (.if_icmp .ge 27, 3) := by decide +kernel
theorem dX8_covered_21 : decode cX8_covered 21 = .ok (.iload_n 1, 1) := by decide +kernel
theorem dX8_covered_22 : decode cX8_covered 22 = .ok (.aload_n 0, 1) := by decide +kernel
theorem dX8_covered_23 : decode cX8_covered 23 = .ok (.iload_n 3, 1) := by decide +kernel
theorem dX8_covered_24 : decode cX8_covered 24 = .ok (.iconst 1, 1) := by decide +kernel
theorem dX8_covered_25 : decode cX8_covered 25 = .ok (.invokevirtual 218, 3) := by decide +kernel
theorem dX8_covered_28 : decode cX8_covered 28 = .ok (.iadd, 1) := by decide +kernel
theorem dX8_covered_29 : decode cX8_covered 29 = .ok (.istore_n 1, 1) := by decide +kernel
theorem dX8_covered_30 : decode cX8_covered 30 = .ok (.iload_n 2, 1) := by decide +kernel
theorem dX8_covered_31 : decode cX8_covered 31 = .ok (.aload_n 0, 1) := by decide +kernel
theorem dX8_covered_32 : decode cX8_covered 32 = .ok (.iload_n 3, 1) := by decide +kernel
theorem dX8_covered_33 : decode cX8_covered 33 = .ok (.iconst 0, 1) := by decide +kernel
theorem dX8_covered_34 : decode cX8_covered 34 = .ok (.invokevirtual 218, 3) := by decide +kernel
theorem dX8_covered_37 : decode cX8_covered 37 = .ok (.iadd, 1) := by decide +kernel
theorem dX8_covered_38 : decode cX8_covered 38 = .ok (.istore_n 2, 1) := by decide +kernel
theorem dX8_covered_39 : decode cX8_covered 39 = .ok (.iinc 3 1, 3) := by decide +kernel
theorem dX8_covered_42 : decode cX8_covered 42 = .ok (.goto (-31), 3) := by decide +kernel
theorem dX8_covered_45 : decode cX8_covered 45 = .ok (.iload_n 1, 1) := by decide +kernel
theorem dX8_covered_46 : decode cX8_covered 46 = .ok (.i2f, 1) := by decide +kernel
theorem dX8_covered_47 : decode cX8_covered 47 = .ok (.iload_n 2, 1) := by decide +kernel
theorem dX8_covered_48 : decode cX8_covered 48 = .ok (.i2f, 1) := by decide +kernel
theorem dX8_covered_49 : decode cX8_covered 49 = .ok (.fdiv, 1) := by decide +kernel
theorem dX8_covered_50 : decode cX8_covered 50 = .ok (.freturn, 1) := by decide +kernel
set_option maxRecDepth 20000 in
theorem ggX8_remember_X8_copy : GoodIn wsX8_remember wsX8_copy := goodIn_r _ [7] (by decide +kernel) (by decide +kernel)
set_option maxRecDepth 20000 in
theorem gX8_remember_X8_copy : GoodIn wsX8_remember (va_wsS RX8 211 yX8_copy wsX8_copy) := goodIn_app (goodIn_of _ (by decide +kernel)) ggX8_remember_X8_copy
theorem dX8_remember_0 : decode cX8_remember 0 = .ok (.aload_n 0, 1) := by decide +kernel
theorem dX8_remember_1 : decode cX8_remember 1 = .ok (.getfield 363, 3) := by decide +kernel
theorem dX8_remember_4 : decode cX8_remember 4 = .ok (.bipush 8, 2) := by decide +kernel
theorem dX8_remember_6 : decode cX8_remember 6 = .ok (.if_icmp .ne 47, 3) := by decide +kernel
theorem dX8_remember_9 : decode cX8_remember 9 = .ok (.iconst 1, 1) := by decide +kernel
theorem dX8_remember_10 : decode cX8_remember 10 = .ok (.istore_n 1, 1) := by decide +kernel
theorem dX8_remember_11 : decode cX8_remember 11 = .ok (.iload_n 1, 1) := by decide +kernel
theorem dX8_remember_12 : decode cX8_remember 12 = .ok (.bipush 8, 2) := by decide +kernel
theorem dX8_remember_14 : decode cX8_remember 14 = .ok (.if_icmp .ge 29, 3) := by decide +kernel
theorem dX8_remember_17 : decode cX8_remember 17 = .ok (.aload_n 0, 1) := by decide +kernel
theorem dX8_remember_18 : decode cX8_remember 18 = .ok (.getfield 28, 3) := by decide +kernel
theorem dX8_remember_21 : decode cX8_remember 21 = .ok (.iload_n 1, 1) := by decide +kernel
theorem dX8_remember_22 : decode cX8_remember 22 = .ok (.aaload, 1) := by decide +kernel
theorem dX8_remember_23 : decode cX8_remember 23 = .ok (.aload_n 0, 1) := by decide +kernel
theorem dX8_remember_24 : decode cX8_remember 24 = .ok (.getfield 28, 3) := by decide +kernel
theorem dX8_remember_27 : decode cX8_remember 27 = .ok (.iload_n 1, 1) := by decide +kernel
theorem dX8_remember_28 : decode cX8_remember 28 = .ok (.iconst 1, 1) := by decide +kernel
theorem dX8_remember_29 : decode cX8_remember 29 = .ok (.isub, 1) := by decide +kernel
theorem dX8_remember_30 : decode cX8_remember 30 = .ok (.aaload, 1) := by decide +kernel
theorem dX8_remember_31 : decode cX8_remember 31 = .ok (.sipush 1802, 3) := by decide +kernel
theorem dX8_remember_34 : decode cX8_remember 34 = .ok (.invokestatic 211, 3) := by decide +kernel
theorem dX8_remember_37 : decode cX8_remember 37 = .ok (.iinc 1 1, 3) := by decide +kernel
theorem dX8_remember_40 : decode cX8_remember 40 = .ok (.goto (-29), 3) := by decide +kernel
theorem dX8_remember_43 : decode cX8_remember 43 = .ok (.aload_n 0, 1) := by decide +kernel
theorem dX8_remember_44 : decode cX8_remember 44 = .ok (.dup, 1) := by decide +kernel
theorem dX8_remember_45 : decode cX8_remember 45 = .ok (.getfield 363, 3) := by decide +kernel
theorem dX8_remember_48 : decode cX8_remember 48 = .ok (.iconst 1, 1) := by decide +kernel
theorem dX8_remember_49 : decode cX8_remember 49 = .ok (.isub, 1) := by decide +kernel
theorem dX8_remember_50 : decode cX8_remember 50 = .ok (.putfield 363, 3) := by decide +kernel
theorem dX8_remember_53 : decode cX8_remember 53 = .ok (.aload_n 0, 1) := by decide +kernel
theorem dX8_remember_54 : decode cX8_remember 54 = .ok (.getfield 17, 3) := by decide +kernel
theorem dX8_remember_57 : decode cX8_remember 57 = .ok (.aload_n 0, 1) := by decide +kernel
theorem dX8_remember_58 : decode cX8_remember 58 = .ok (.getfield 28, 3) := by decide +kernel
theorem dX8_remember_61 : decode cX8_remember 61 = .ok (.aload_n 0, 1) := by decide +kernel
theorem dX8_remember_62 : decode cX8_remember 62 = .ok (.getfield 363, 3) := by decide +kernel
theorem dX8_remember_65 : decode cX8_remember 65 = .ok (.aaload, 1) := by decide +kernel
theorem dX8_remember_66 : decode cX8_remember 66 = .ok (.sipush 1802, 3) := by decide +kernel
theorem dX8_remember_69 : decode cX8_remember 69 = .ok (.invokestatic 211, 3) := by decide +kernel
theorem dX8_remember_72 : decode cX8_remember 72 = .ok (.aload_n 0, 1) := by decide +kernel
theorem dX8_remember_73 : decode cX8_remember 73 = .ok (.dup, 1) := by decide +kernel
theorem dX8_remember_74 : decode cX8_remember 74 = .ok (.getfield 363, 3) := by decide +kernel
theorem dX8_remember_77 : decode cX8_remember 77 = .ok (.iconst 1, 1) := by decide +kernel
theorem dX8_remember_78 : decode cX8_remember 78 = .ok (.iadd, 1) := by decide +kernel
theorem dX8_remember_79 : decode cX8_remember 79 = .ok (.putfield 363, 3) := by decide +kernel
theorem dX8_remember_82 : decode cX8_remember 82 = .ok (.return_, 1) := by decide +kernel
set_option maxRecDepth 20000 in
theorem ggX8_lay_X8_noPlay : GoodIn wsX8_lay wsX8_noPlay := goodIn_r _ [6, 7, 8, 9, 10, 5, 11, 12, 13, 14, 15, 16, 17, 18, 19, 20, 21, 22, 1, 23, 24, 25, 26, 27, 28, 29, 30, 31, 32, 33, 120, 121, 122, 123, 124, 125, 126, 127, 128, 129, 130, 131, 132, 133, 134, 135, 136, 137, 138, 139, 140] (by decide +kernel) (by decide +kernel)
set_option maxRecDepth 20000 in
theorem gX8_lay_X8_noPlay : GoodIn wsX8_lay (wsV RX8 348 RX8 yX8_noPlay wsX8_noPlay) := goodIn_app (goodIn_of _ (by decide +kernel)) ggX8_lay_X8_noPlay
set_option maxRecDepth 20000 in
theorem ggX8_lay_X8_refusal : GoodIn wsX8_lay wsX8_refusal := goodIn_r _ [37, 7, 38, 39, 40, 5, 41, 42, 43, 44, 45, 46, 47, 48, 27, 28, 29, 49, 50, 51, 52, 53, 54, 55, 56, 57, 58, 59, 60, 61, 62, 63, 64, 65, 66, 67, 68, 69, 70, 71, 72, 73, 74, 75, 76, 77, 78, 79, 80, 81, 82, 83, 84, 85, 86, 120, 121, 122, 123, 124, 125, 126, 127, 128, 129, 130, 131, 132, 133, 134, 135, 136, 137, 138, 139, 140] (by decide +kernel) (by decide +kernel)
set_option maxRecDepth 20000 in
theorem gX8_lay_X8_refusal : GoodIn wsX8_lay (wsV RX8 279 RX8 yX8_refusal wsX8_refusal) := goodIn_app (goodIn_of _ (by decide +kernel)) ggX8_lay_X8_refusal
set_option maxRecDepth 20000 in
theorem ggX8_lay_X8_fails : GoodIn wsX8_lay wsX8_fails := goodIn_r _ [22, 1, 120, 121, 122, 123, 124, 125, 126, 127, 128, 129, 130, 131, 132, 133, 134, 135, 136, 137, 138, 139, 140] (by decide +kernel) (by decide +kernel)
set_option maxRecDepth 20000 in
theorem gX8_lay_X8_fails : GoodIn wsX8_lay (wsV RX8 198 RX8 yX8_fails wsX8_fails) := goodIn_app (goodIn_of _ (by decide +kernel)) ggX8_lay_X8_fails
set_option maxRecDepth 20000 in
theorem ggX8_lay_X8_remember : GoodIn wsX8_lay wsX8_remember := goodIn_r _ [90, 91, 92, 7, 93, 94, 5, 95, 120, 121, 122, 123, 124, 125, 126, 127, 128, 129, 130, 131, 132, 133, 134, 135, 136, 137, 138, 139, 140] (by decide +kernel) (by decide +kernel)
set_option maxRecDepth 20000 in
theorem gX8_lay_X8_remember : GoodIn wsX8_lay (wsV RX8 208 RX8 yX8_remember wsX8_remember) := goodIn_app (goodIn_of _ (by decide +kernel)) ggX8_lay_X8_remember
set_option maxRecDepth 20000 in
theorem ggX8_lay_X8_layNow : GoodIn wsX8_lay wsX8_layNow := goodIn_r _ [99, 7, 100, 101, 102, 5, 103, 42, 43, 44, 45, 46, 47, 48, 27, 28, 29, 104, 105, 106, 107, 53, 54, 55, 56, 57, 58, 59, 72, 73, 74, 75, 64, 65, 66, 67, 76, 77, 78, 79, 80, 81, 82, 83, 84, 85, 86, 49, 50, 51, 52, 23, 24, 25, 26, 108, 109, 110, 111, 112, 113, 114, 115, 116, 117, 118, 119, 120, 121, 122, 123, 124, 125, 126, 127, 128, 129, 130, 131, 132, 133, 134, 135, 136, 137, 138, 139, 140] (by decide +kernel) (by decide +kernel)
set_option maxRecDepth 20000 in
theorem gX8_lay_X8_layNow : GoodIn wsX8_lay (wsV RX8 297 RX8 yX8_layNow wsX8_layNow) := goodIn_app (goodIn_of _ (by decide +kernel)) ggX8_lay_X8_layNow
theorem dX8_lay_0 : decode cX8_lay 0 = .ok (.aload_n 0, 1) := by decide +kernel
theorem dX8_lay_1 : decode cX8_lay 1 = .ok (.iconst 0, 1) := by decide +kernel
theorem dX8_lay_2 : decode cX8_lay 2 = .ok (.putfield 49, 3) := by decide +kernel
theorem dX8_lay_5 : decode cX8_lay 5 = .ok (.aload_n 0, 1) := by decide +kernel
theorem dX8_lay_6 : decode cX8_lay 6 = .ok (.iload_n 1, 1) := by decide +kernel
theorem dX8_lay_7 : decode cX8_lay 7 = .ok (.iload_n 2, 1) := by decide +kernel
theorem dX8_lay_8 : decode cX8_lay 8 = .ok (.invokevirtual 348, 3) := by decide +kernel
theorem dX8_lay_11 : decode cX8_lay 11 = .ok (.ifCond .ne 25, 3) := by decide +kernel
theorem dX8_lay_14 : decode cX8_lay 14 = .ok (.aload_n 0, 1) := by decide +kernel
theorem dX8_lay_15 : decode cX8_lay 15 = .ok (.aload_n 0, 1) := by decide +kernel
theorem dX8_lay_16 : decode cX8_lay 16 = .ok (.iload_n 1, 1) := by decide +kernel
theorem dX8_lay_17 : decode cX8_lay 17 = .ok (.iload_n 2, 1) := by decide +kernel
theorem dX8_lay_18 : decode cX8_lay 18 = .ok (.invokevirtual 279, 3) := by decide +kernel
theorem dX8_lay_21 : decode cX8_lay 21 = .ok (.ifCond .eq 7, 3) := by decide +kernel
theorem dX8_lay_24 : decode cX8_lay 24 = .ok (.iconst 1, 1) := by decide +kernel
theorem dX8_lay_25 : decode cX8_lay 25 = .ok (.goto 4, 3) := by decide +kernel
theorem dX8_lay_28 : decode cX8_lay 28 = .ok (.iconst 0, 1) := by decide +kernel
theorem dX8_lay_29 : decode cX8_lay 29 = .ok (.iconst 2, 1) := by decide +kernel
theorem dX8_lay_30 : decode cX8_lay 30 = .ok (.invokevirtual 198, 3) := by decide +kernel
theorem dX8_lay_33 : decode cX8_lay 33 = .ok (.ifCond .eq 5, 3) := by decide +kernel
theorem dX8_lay_36 : decode cX8_lay 36 = .ok (.iconst 0, 1) := by decide +kernel
theorem dX8_lay_37 : decode cX8_lay 37 = .ok (.ireturn, 1) := by decide +kernel
theorem dX8_lay_38 : decode cX8_lay 38 = .ok (.aload_n 0, 1) := by decide +kernel
theorem dX8_lay_39 : decode cX8_lay 39 = .ok (.invokevirtual 208, 3) := by decide +kernel
theorem dX8_lay_42 : decode cX8_lay 42 = .ok (.aload_n 0, 1) := by decide +kernel
theorem dX8_lay_43 : decode cX8_lay 43 = .ok (.iload_n 1, 1) := by decide +kernel
theorem dX8_lay_44 : decode cX8_lay 44 = .ok (.iload_n 2, 1) := by decide +kernel
theorem dX8_lay_45 : decode cX8_lay 45 = .ok (.invokevirtual 297, 3) := by decide +kernel
theorem dX8_lay_48 : decode cX8_lay 48 = .ok (.ireturn, 1) := by decide +kernel
set_option maxRecDepth 20000 in
theorem ggX8_pass_X8_fails : GoodIn wsX8_pass wsX8_fails := goodIn_r _ [7, 1, 43, 44, 45, 46, 47, 48, 49, 50, 51, 52, 53, 54, 55, 56, 57, 58, 59, 60, 61, 62, 63] (by decide +kernel) (by decide +kernel)
set_option maxRecDepth 20000 in
theorem gX8_pass_X8_fails : GoodIn wsX8_pass (wsV RX8 198 RX8 yX8_fails wsX8_fails) := goodIn_app (goodIn_of _ (by decide +kernel)) ggX8_pass_X8_fails
set_option maxRecDepth 20000 in
theorem ggX8_pass_X8_remember : GoodIn wsX8_pass wsX8_remember := goodIn_r _ [11, 12, 13, 2, 14, 15, 6, 16, 43, 44, 45, 46, 47, 48, 49, 50, 51, 52, 53, 54, 55, 56, 57, 58, 59, 60, 61, 62, 63] (by decide +kernel) (by decide +kernel)
set_option maxRecDepth 20000 in
theorem gX8_pass_X8_remember : GoodIn wsX8_pass (wsV RX8 208 RX8 yX8_remember wsX8_remember) := goodIn_app (goodIn_of _ (by decide +kernel)) ggX8_pass_X8_remember
set_option maxRecDepth 20000 in
theorem ggX8_pass_X8_passNow : GoodIn wsX8_pass wsX8_passNow := goodIn_r _ [20, 2, 21, 22, 23, 6, 24, 25, 26, 27, 28, 29, 30, 31, 32, 33, 34, 35, 36, 37, 38, 39, 40, 41, 42, 43, 44, 45, 46, 47, 48, 49, 50, 51, 52, 53, 54, 55, 56, 57, 58, 59, 60, 61, 62, 63] (by decide +kernel) (by decide +kernel)
set_option maxRecDepth 20000 in
theorem gX8_pass_X8_passNow : GoodIn wsX8_pass (wsV RX8 294 RX8 yX8_passNow wsX8_passNow) := goodIn_app (goodIn_of _ (by decide +kernel)) ggX8_pass_X8_passNow
theorem dX8_pass_0 : decode cX8_pass 0 = .ok (.aload_n 0, 1) := by decide +kernel
theorem dX8_pass_1 : decode cX8_pass 1 = .ok (.iconst 0, 1) := by decide +kernel
theorem dX8_pass_2 : decode cX8_pass 2 = .ok (.putfield 49, 3) := by decide +kernel
theorem dX8_pass_5 : decode cX8_pass 5 = .ok (.aload_n 0, 1) := by decide +kernel
theorem dX8_pass_6 : decode cX8_pass 6 = .ok (.aload_n 0, 1) := by decide +kernel
theorem dX8_pass_7 : decode cX8_pass 7 = .ok (.getfield 17, 3) := by decide +kernel
theorem dX8_pass_10 : decode cX8_pass 10 = .ok (.bipush 6, 2) := by decide +kernel
theorem dX8_pass_12 : decode cX8_pass 12 = .ok (.iaload, 1) := by decide +kernel
theorem dX8_pass_13 : decode cX8_pass 13 = .ok (.iconst 1, 1) := by decide +kernel
theorem dX8_pass_14 : decode cX8_pass 14 = .ok (.if_icmp .ne 7, 3) := by decide +kernel
theorem dX8_pass_17 : decode cX8_pass 17 = .ok (.iconst 1, 1) := by decide +kernel
theorem dX8_pass_18 : decode cX8_pass 18 = .ok (.goto 4, 3) := by decide +kernel
theorem dX8_pass_21 : decode cX8_pass 21 = .ok (.iconst 0, 1) := by decide +kernel
theorem dX8_pass_22 : decode cX8_pass 22 = .ok (.iconst 1, 1) := by decide +kernel
theorem dX8_pass_23 : decode cX8_pass 23 = .ok (.invokevirtual 198, 3) := by decide +kernel
theorem dX8_pass_26 : decode cX8_pass 26 = .ok (.ifCond .eq 5, 3) := by decide +kernel
theorem dX8_pass_29 : decode cX8_pass 29 = .ok (.iconst 0, 1) := by decide +kernel
theorem dX8_pass_30 : decode cX8_pass 30 = .ok (.ireturn, 1) := by decide +kernel
theorem dX8_pass_31 : decode cX8_pass 31 = .ok (.aload_n 0, 1) := by decide +kernel
theorem dX8_pass_32 : decode cX8_pass 32 = .ok (.invokevirtual 208, 3) := by decide +kernel
theorem dX8_pass_35 : decode cX8_pass 35 = .ok (.aload_n 0, 1) := by decide +kernel
theorem dX8_pass_36 : decode cX8_pass 36 = .ok (.invokevirtual 294, 3) := by decide +kernel
theorem dX8_pass_39 : decode cX8_pass 39 = .ok (.aload_n 0, 1) := by decide +kernel
theorem dX8_pass_40 : decode cX8_pass 40 = .ok (.getfield 17, 3) := by decide +kernel
theorem dX8_pass_43 : decode cX8_pass 43 = .ok (.iconst 5, 1) := by decide +kernel
theorem dX8_pass_44 : decode cX8_pass 44 = .ok (.iaload, 1) := by decide +kernel
theorem dX8_pass_45 : decode cX8_pass 45 = .ok (.ireturn, 1) := by decide +kernel
set_option maxRecDepth 20000 in
theorem ggX8_auto_X8_in : GoodIn wsX8_auto wsX8_in := goodIn_r _ [5] (by decide +kernel) (by decide +kernel)
set_option maxRecDepth 20000 in
theorem gX8_auto_X8_in : GoodIn wsX8_auto (va_wsS RX8 77 yX8_in wsX8_in) := goodIn_app (goodIn_of _ (by decide +kernel)) ggX8_auto_X8_in
set_option maxRecDepth 20000 in
theorem ggX8_auto_X8_fails : GoodIn wsX8_auto wsX8_fails := goodIn_r _ [9, 1, 137, 138, 139, 140, 141, 142, 143, 144, 145, 146, 147, 148, 149, 150, 151, 152, 153, 154, 155, 156, 157] (by decide +kernel) (by decide +kernel)
set_option maxRecDepth 20000 in
theorem gX8_auto_X8_fails : GoodIn wsX8_auto (wsV RX8 198 RX8 yX8_fails wsX8_fails) := goodIn_app (goodIn_of _ (by decide +kernel)) ggX8_auto_X8_fails
set_option maxRecDepth 20000 in
theorem ggX8_auto_X8_remember : GoodIn wsX8_auto wsX8_remember := goodIn_r _ [13, 14, 15, 16, 17, 18, 4, 19, 137, 138, 139, 140, 141, 142, 143, 144, 145, 146, 147, 148, 149, 150, 151, 152, 153, 154, 155, 156, 157] (by decide +kernel) (by decide +kernel)
set_option maxRecDepth 20000 in
theorem gX8_auto_X8_remember : GoodIn wsX8_auto (wsV RX8 208 RX8 yX8_remember wsX8_remember) := goodIn_app (goodIn_of _ (by decide +kernel)) ggX8_auto_X8_remember
set_option maxRecDepth 20000 in
theorem ggX8_auto_X8_goOn : GoodIn wsX8_auto wsX8_goOn := goodIn_r _ [23, 16, 24, 25, 26, 4, 27, 28, 29, 30, 31, 32, 33, 34, 35, 36, 37, 38, 39, 40, 41, 42, 43, 44, 45, 46, 47, 48, 49, 50, 51, 52, 53, 54, 55, 56, 57, 58, 59, 60, 61, 62, 63, 64, 65, 66, 67, 68, 69, 70, 71, 72, 73, 74, 75, 76, 77, 78, 79, 80, 81, 82, 83, 84, 85, 86, 87, 88, 89, 90, 91, 92, 93, 94, 95, 96, 97, 98, 99, 100, 101, 102, 103, 104, 105, 106, 107, 108, 109, 110, 111, 112, 113, 114, 115, 116, 117, 118, 119, 120, 121, 122, 123, 124, 125, 126, 127, 128, 129, 130, 131, 132, 133, 134, 135, 136, 137, 138, 139, 140, 141, 142, 143, 144, 145, 146, 147, 148, 149, 150, 151, 152, 153, 154, 155, 156, 157] (by decide +kernel) (by decide +kernel)
set_option maxRecDepth 20000 in
theorem gX8_auto_X8_goOn : GoodIn wsX8_auto (wsV RX8 360 RX8 yX8_goOn wsX8_goOn) := goodIn_app (goodIn_of _ (by decide +kernel)) ggX8_auto_X8_goOn
theorem dX8_auto_0 : decode cX8_auto 0 = .ok (.aload_n 0, 1) := by decide +kernel
theorem dX8_auto_1 : decode cX8_auto 1 = .ok (.iconst 0, 1) := by decide +kernel
theorem dX8_auto_2 : decode cX8_auto 2 = .ok (.putfield 49, 3) := by decide +kernel
theorem dX8_auto_5 : decode cX8_auto 5 = .ok (.aload_n 0, 1) := by decide +kernel
theorem dX8_auto_6 : decode cX8_auto 6 = .ok (.iload_n 1, 1) := by decide +kernel
theorem dX8_auto_7 : decode cX8_auto 7 = .ok (.iconst 1, 1) := by decide +kernel
theorem dX8_auto_8 : decode cX8_auto 8 = .ok (.bipush 50, 2) := by decide +kernel
theorem dX8_auto_10 : decode cX8_auto 10 = .ok (.invokestatic 77, 3) := by decide +kernel
theorem dX8_auto_13 : decode cX8_auto 13 = .ok (.ifCond .ne 7, 3) := by decide +kernel
theorem dX8_auto_16 : decode cX8_auto 16 = .ok (.iconst 1, 1) := by decide +kernel
theorem dX8_auto_17 : decode cX8_auto 17 = .ok (.goto 4, 3) := by decide +kernel
theorem dX8_auto_20 : decode cX8_auto 20 = .ok (.iconst 0, 1) := by decide +kernel
theorem dX8_auto_21 : decode cX8_auto 21 = .ok (.iconst 1, 1) := by decide +kernel
theorem dX8_auto_22 : decode cX8_auto 22 = .ok (.invokevirtual 198, 3) := by decide +kernel
theorem dX8_auto_25 : decode cX8_auto 25 = .ok (.ifCond .eq 5, 3) := by decide +kernel
theorem dX8_auto_28 : decode cX8_auto 28 = .ok (.iconst 0, 1) := by decide +kernel
theorem dX8_auto_29 : decode cX8_auto 29 = .ok (.ireturn, 1) := by decide +kernel
theorem dX8_auto_30 : decode cX8_auto 30 = .ok (.aload_n 0, 1) := by decide +kernel
theorem dX8_auto_31 : decode cX8_auto 31 = .ok (.invokevirtual 208, 3) := by decide +kernel
theorem dX8_auto_34 : decode cX8_auto 34 = .ok (.aload_n 0, 1) := by decide +kernel
theorem dX8_auto_35 : decode cX8_auto 35 = .ok (.iload_n 1, 1) := by decide +kernel
theorem dX8_auto_36 : decode cX8_auto 36 = .ok (.invokevirtual 360, 3) := by decide +kernel
theorem dX8_auto_39 : decode cX8_auto 39 = .ok (.ireturn, 1) := by decide +kernel
set_option maxRecDepth 20000 in
theorem ggX8_areLetters_X8_isLetter : GoodIn wsX8_areLetters wsX8_isLetter := goodIn_r _ [5, 6, 7, 4, 8] (by decide +kernel) (by decide +kernel)
set_option maxRecDepth 20000 in
theorem gX8_areLetters_X8_isLetter : GoodIn wsX8_areLetters (va_wsS RX8 155 yX8_isLetter wsX8_isLetter) := goodIn_app (goodIn_of _ (by decide +kernel)) ggX8_areLetters_X8_isLetter
theorem dX8_areLetters_0 : decode cX8_areLetters 0 = .ok (.iconst 0, 1) := by decide +kernel
theorem dX8_areLetters_1 : decode cX8_areLetters 1 = .ok (.istore_n 2, 1) := by decide +kernel
theorem dX8_areLetters_2 : decode cX8_areLetters 2 = .ok (.iload_n 2, 1) := by decide +kernel
theorem dX8_areLetters_3 : decode cX8_areLetters 3 = .ok (.iload_n 1, 1) := by decide +kernel
theorem dX8_areLetters_4 : decode cX8_areLetters 4 = .ok (.if_icmp .ge 23, 3) := by decide +kernel
theorem dX8_areLetters_7 : decode cX8_areLetters 7 = .ok (.aload_n 0, 1) := by decide +kernel
theorem dX8_areLetters_8 : decode cX8_areLetters 8 = .ok (.getfield 9, 3) := by decide +kernel
theorem dX8_areLetters_11 : decode cX8_areLetters 11 = .ok (.iload_n 2, 1) := by decide +kernel
theorem dX8_areLetters_12 : decode cX8_areLetters 12 = .ok (.iaload, 1) := by decide +kernel
theorem dX8_areLetters_13 : decode cX8_areLetters 13 = .ok (.invokestatic 155, 3) := by decide +kernel
theorem dX8_areLetters_16 : decode cX8_areLetters 16 = .ok (.ifCond .ne 5, 3) := by decide +kernel
theorem dX8_areLetters_19 : decode cX8_areLetters 19 = .ok (.iconst 0, 1) := by decide +kernel
theorem dX8_areLetters_20 : decode cX8_areLetters 20 = .ok (.ireturn, 1) := by decide +kernel
theorem dX8_areLetters_21 : decode cX8_areLetters 21 = .ok (.iinc 2 1, 3) := by decide +kernel
theorem dX8_areLetters_24 : decode cX8_areLetters 24 = .ok (.goto (-22), 3) := by decide +kernel
theorem dX8_areLetters_27 : decode cX8_areLetters 27 = .ok (.iconst 1, 1) := by decide +kernel
theorem dX8_areLetters_28 : decode cX8_areLetters 28 = .ok (.ireturn, 1) := by decide +kernel
set_option maxRecDepth 20000 in
theorem ggX8_give_X8_noPlayer : GoodIn wsX8_give wsX8_noPlayer := goodIn_r _ [9, 3, 10, 11, 8, 12, 13, 14, 15, 16, 1, 46, 47, 48, 49, 50, 51, 52, 53, 54, 55, 56, 57, 58, 59, 60, 61, 62, 63, 64, 65, 66] (by decide +kernel) (by decide +kernel)
set_option maxRecDepth 20000 in
theorem gX8_give_X8_noPlayer : GoodIn wsX8_give (wsV RX8 315 RX8 yX8_noPlayer wsX8_noPlayer) := goodIn_app (goodIn_of _ (by decide +kernel)) ggX8_give_X8_noPlayer
set_option maxRecDepth 20000 in
theorem ggX8_give_X8_min : GoodIn wsX8_give wsX8_min := goodIn_r _ [19] (by decide +kernel) (by decide +kernel)
set_option maxRecDepth 20000 in
theorem gX8_give_X8_min : GoodIn wsX8_give (va_wsS RX8 110 yX8_min wsX8_min) := goodIn_app (goodIn_of _ (by decide +kernel)) ggX8_give_X8_min
set_option maxRecDepth 20000 in
theorem ggX8_give_X8_in : GoodIn wsX8_give wsX8_in := goodIn_r _ [12] (by decide +kernel) (by decide +kernel)
set_option maxRecDepth 20000 in
theorem gX8_give_X8_in : GoodIn wsX8_give (va_wsS RX8 77 yX8_in wsX8_in) := goodIn_app (goodIn_of _ (by decide +kernel)) ggX8_give_X8_in
set_option maxRecDepth 20000 in
theorem ggX8_give_X8_areLetters : GoodIn wsX8_give wsX8_areLetters := goodIn_r _ [23, 4, 24, 25, 8, 26, 10, 11, 12, 46, 47, 48, 49, 50, 51, 52, 53, 54, 55, 56, 57, 58, 59, 60, 61, 62, 63, 64, 65, 66] (by decide +kernel) (by decide +kernel)
set_option maxRecDepth 20000 in
theorem gX8_give_X8_areLetters : GoodIn wsX8_give (wsV RX8 366 RX8 yX8_areLetters wsX8_areLetters) := goodIn_app (goodIn_of _ (by decide +kernel)) ggX8_give_X8_areLetters
set_option maxRecDepth 20000 in
theorem ggX8_give_X8_fails : GoodIn wsX8_give wsX8_fails := goodIn_r _ [16, 1, 46, 47, 48, 49, 50, 51, 52, 53, 54, 55, 56, 57, 58, 59, 60, 61, 62, 63, 64, 65, 66] (by decide +kernel) (by decide +kernel)
set_option maxRecDepth 20000 in
theorem gX8_give_X8_fails : GoodIn wsX8_give (wsV RX8 198 RX8 yX8_fails wsX8_fails) := goodIn_app (goodIn_of _ (by decide +kernel)) ggX8_give_X8_fails
set_option maxRecDepth 20000 in
theorem ggX8_give_X8_ofPlayer : GoodIn wsX8_give wsX8_ofPlayer := goodIn_r _ [30, 3, 31, 32, 8, 33, 46, 47, 48, 49, 50, 51, 52, 53, 54, 55, 56, 57, 58, 59, 60, 61, 62, 63, 64, 65, 66] (by decide +kernel) (by decide +kernel)
set_option maxRecDepth 20000 in
theorem gX8_give_X8_ofPlayer : GoodIn wsX8_give (wsV RX8 266 RX8 yX8_ofPlayer wsX8_ofPlayer) := goodIn_app (goodIn_of _ (by decide +kernel)) ggX8_give_X8_ofPlayer
set_option maxRecDepth 20000 in
theorem ggX8_give_X8_remember : GoodIn wsX8_give wsX8_remember := goodIn_r _ [37, 38, 39, 3, 40, 41, 8, 42, 46, 47, 48, 49, 50, 51, 52, 53, 54, 55, 56, 57, 58, 59, 60, 61, 62, 63, 64, 65, 66] (by decide +kernel) (by decide +kernel)
set_option maxRecDepth 20000 in
theorem gX8_give_X8_remember : GoodIn wsX8_give (wsV RX8 208 RX8 yX8_remember wsX8_remember) := goodIn_app (goodIn_of _ (by decide +kernel)) ggX8_give_X8_remember
set_option maxRecDepth 20000 in
theorem ggX8_give_X8_wordAt : GoodIn wsX8_give wsX8_wordAt := goodIn_r _ [45, 31, 32, 8, 33] (by decide +kernel) (by decide +kernel)
set_option maxRecDepth 20000 in
theorem gX8_give_X8_wordAt : GoodIn wsX8_give (va_wsS RX8 161 yX8_wordAt wsX8_wordAt) := goodIn_app (goodIn_of _ (by decide +kernel)) ggX8_give_X8_wordAt
set_option maxRecDepth 20000 in
theorem ggX8_give_X8_playerAt : GoodIn wsX8_give wsX8_playerAt := goodIn_r _ [33] (by decide +kernel) (by decide +kernel)
set_option maxRecDepth 20000 in
theorem gX8_give_X8_playerAt : GoodIn wsX8_give (va_wsS RX8 56 yX8_playerAt wsX8_playerAt) := goodIn_app (goodIn_of _ (by decide +kernel)) ggX8_give_X8_playerAt
theorem dX8_give_0 : decode cX8_give 0 = .ok (.aload_n 0, 1) := by decide +kernel
theorem dX8_give_1 : decode cX8_give 1 = .ok (.iconst 0, 1) := by decide +kernel
theorem dX8_give_2 : decode cX8_give 2 = .ok (.putfield 49, 3) := by decide +kernel
theorem dX8_give_5 : decode cX8_give 5 = .ok (.aload_n 0, 1) := by decide +kernel
theorem dX8_give_6 : decode cX8_give 6 = .ok (.iload_n 1, 1) := by decide +kernel
theorem dX8_give_7 : decode cX8_give 7 = .ok (.invokevirtual 315, 3) := by decide +kernel
theorem dX8_give_10 : decode cX8_give 10 = .ok (.ifCond .ne 76, 3) := by decide +kernel
theorem dX8_give_13 : decode cX8_give 13 = .ok (.aload_n 0, 1) := by decide +kernel
theorem dX8_give_14 : decode cX8_give 14 = .ok (.iload_n 2, 1) := by decide +kernel
theorem dX8_give_15 : decode cX8_give 15 = .ok (.iconst 1, 1) := by decide +kernel
theorem dX8_give_16 : decode cX8_give 16 = .ok (.bipush 8, 2) := by decide +kernel
theorem dX8_give_18 : decode cX8_give 18 = .ok (.aload_n 0, 1) := by decide +kernel
theorem dX8_give_19 : decode cX8_give 19 = .ok (.getfield 59, 3) := by decide +kernel
theorem dX8_give_22 : decode cX8_give 22 = .ok (.invokestatic 110, 3) := by decide +kernel
theorem dX8_give_25 : decode cX8_give 25 = .ok (.invokestatic 77, 3) := by decide +kernel
theorem dX8_give_28 : decode cX8_give 28 = .ok (.ifCond .eq 11, 3) := by decide +kernel
theorem dX8_give_31 : decode cX8_give 31 = .ok (.aload_n 0, 1) := by decide +kernel
theorem dX8_give_32 : decode cX8_give 32 = .ok (.iload_n 2, 1) := by decide +kernel
theorem dX8_give_33 : decode cX8_give 33 = .ok (.invokevirtual 366, 3) := by decide +kernel
theorem dX8_give_36 : decode cX8_give 36 = .ok (.ifCond .ne 7, 3) := by decide +kernel
theorem dX8_give_39 : decode cX8_give 39 = .ok (.iconst 1, 1) := by decide +kernel
theorem dX8_give_40 : decode cX8_give 40 = .ok (.goto 4, 3) := by decide +kernel
theorem dX8_give_43 : decode cX8_give 43 = .ok (.iconst 0, 1) := by decide +kernel
theorem dX8_give_44 : decode cX8_give 44 = .ok (.iconst 2, 1) := by decide +kernel
theorem dX8_give_45 : decode cX8_give 45 = .ok (.invokevirtual 198, 3) := by decide +kernel
theorem dX8_give_48 : decode cX8_give 48 = .ok (.ifCond .ne 38, 3) := by decide +kernel
theorem dX8_give_51 : decode cX8_give 51 = .ok (.aload_n 0, 1) := by decide +kernel
theorem dX8_give_52 : decode cX8_give 52 = .ok (.aload_n 0, 1) := by decide +kernel
theorem dX8_give_53 : decode cX8_give 53 = .ok (.iload_n 1, 1) := by decide +kernel
theorem dX8_give_54 : decode cX8_give 54 = .ok (.iconst 1, 1) := by decide +kernel
theorem dX8_give_55 : decode cX8_give 55 = .ok (.invokevirtual 266, 3) := by decide +kernel
theorem dX8_give_58 : decode cX8_give 58 = .ok (.bipush 8, 2) := by decide +kernel
theorem dX8_give_60 : decode cX8_give 60 = .ok (.if_icmp .eq 14, 3) := by decide +kernel
theorem dX8_give_63 : decode cX8_give 63 = .ok (.aload_n 0, 1) := by decide +kernel
theorem dX8_give_64 : decode cX8_give 64 = .ok (.getfield 17, 3) := by decide +kernel
theorem dX8_give_67 : decode cX8_give 67 = .ok (.bipush 6, 2) := by decide +kernel
theorem dX8_give_69 : decode cX8_give 69 = .ok (.iaload, 1) := by decide +kernel
theorem dX8_give_70 : decode cX8_give 70 = .ok (.iconst 1, 1) := by decide +kernel
theorem dX8_give_71 : decode cX8_give 71 = .ok (.if_icmp .ne 7, 3) := by decide +kernel
theorem dX8_give_74 : decode cX8_give 74 = .ok (.iconst 1, 1) := by decide +kernel
theorem dX8_give_75 : decode cX8_give 75 = .ok (.goto 4, 3) := by decide +kernel
theorem dX8_give_78 : decode cX8_give 78 = .ok (.iconst 0, 1) := by decide +kernel
theorem dX8_give_79 : decode cX8_give 79 = .ok (.iconst 3, 1) := by decide +kernel
theorem dX8_give_80 : decode cX8_give 80 = .ok (.invokevirtual 198, 3) := by decide +kernel
theorem dX8_give_83 : decode cX8_give 83 = .ok (.ifCond .eq 5, 3) := by decide +kernel
theorem dX8_give_86 : decode cX8_give 86 = .ok (.iconst 0, 1) := by decide +kernel
theorem dX8_give_87 : decode cX8_give 87 = .ok (.ireturn, 1) := by decide +kernel
theorem dX8_give_88 : decode cX8_give 88 = .ok (.aload_n 0, 1) := by decide +kernel
theorem dX8_give_89 : decode cX8_give 89 = .ok (.invokevirtual 208, 3) := by decide +kernel
theorem dX8_give_92 : decode cX8_give 92 = .ok (.aload_n 0, 1) := by decide +kernel
theorem dX8_give_93 : decode cX8_give 93 = .ok (.iconst 0, 1) := by decide +kernel
theorem dX8_give_94 : decode cX8_give 94 = .ok (.putfield 59, 3) := by decide +kernel
theorem dX8_give_97 : decode cX8_give 97 = .ok (.aload_n 0, 1) := by decide +kernel
theorem dX8_give_98 : decode cX8_give 98 = .ok (.iload_n 1, 1) := by decide +kernel
theorem dX8_give_99 : decode cX8_give 99 = .ok (.iconst 1, 1) := by decide +kernel
theorem dX8_give_100 : decode cX8_give 100 = .ok (.invokevirtual 266, 3) := by decide +kernel
theorem dX8_give_103 : decode cX8_give 103 = .ok (.istore_n 3, 1) := by decide +kernel
theorem dX8_give_104 : decode cX8_give 104 = .ok (.iload_n 1, 1) := by decide +kernel
theorem dX8_give_105 : decode cX8_give 105 = .ok (.iload_n 3, 1) := by decide +kernel
theorem dX8_give_106 : decode cX8_give 106 = .ok (.invokestatic 161, 3) := by decide +kernel
theorem dX8_give_109 : decode cX8_give 109 = .ok (.istore 4, 2) := by decide +kernel
theorem dX8_give_111 : decode cX8_give 111 = .ok (.aload_n 0, 1) := by decide +kernel
theorem dX8_give_112 : decode cX8_give 112 = .ok (.getfield 17, 3) := by decide +kernel
theorem dX8_give_115 : decode cX8_give 115 = .ok (.iload 4, 2) := by decide +kernel
theorem dX8_give_117 : decode cX8_give 117 = .ok (.iload_n 2, 1) := by decide +kernel
theorem dX8_give_118 : decode cX8_give 118 = .ok (.iastore, 1) := by decide +kernel
theorem dX8_give_119 : decode cX8_give 119 = .ok (.iconst 0, 1) := by decide +kernel
theorem dX8_give_120 : decode cX8_give 120 = .ok (.istore 5, 2) := by decide +kernel
theorem dX8_give_122 : decode cX8_give 122 = .ok (.iload 5, 2) := by decide +kernel
theorem dX8_give_124 : decode cX8_give 124 = .ok (.iload_n 2, 1) := by decide +kernel
theorem dX8_give_125 : decode cX8_give 125 = .ok (.if_icmp .ge 31, 3) := by decide +kernel
theorem dX8_give_128 : decode cX8_give 128 = .ok (.aload_n 0, 1) := by decide +kernel
theorem dX8_give_129 : decode cX8_give 129 = .ok (.getfield 17, 3) := by decide +kernel
theorem dX8_give_132 : decode cX8_give 132 = .ok (.iload 4, 2) := by decide +kernel
theorem dX8_give_134 : decode cX8_give 134 = .ok (.iconst 1, 1) := by decide +kernel
theorem dX8_give_135 : decode cX8_give 135 = .ok (.iadd, 1) := by decide +kernel
theorem dX8_give_136 : decode cX8_give 136 = .ok (.iload 5, 2) := by decide +kernel
theorem dX8_give_138 : decode cX8_give 138 = .ok (.iadd, 1) := by decide +kernel
theorem dX8_give_139 : decode cX8_give 139 = .ok (.aload_n 0, 1) := by decide +kernel
theorem dX8_give_140 : decode cX8_give 140 = .ok (.getfield 9, 3) := by decide +kernel
theorem dX8_give_143 : decode cX8_give 143 = .ok (.iload 5, 2) := by decide +kernel
theorem dX8_give_145 : decode cX8_give 145 = .ok (.iaload, 1) := by decide +kernel
theorem dX8_give_146 : decode cX8_give 146 = .ok (.bipush 97, 2) := by decide +kernel
theorem dX8_give_148 : decode cX8_give 148 = .ok (.isub, 1) := by decide +kernel
theorem dX8_give_149 : decode cX8_give 149 = .ok (.iastore, 1) := by decide +kernel
theorem dX8_give_150 : decode cX8_give 150 = .ok (.iinc 5 1, 3) := by decide +kernel
theorem dX8_give_153 : decode cX8_give 153 = .ok (.goto (-31), 3) := by decide +kernel
theorem dX8_give_156 : decode cX8_give 156 = .ok (.aload_n 0, 1) := by decide +kernel
theorem dX8_give_157 : decode cX8_give 157 = .ok (.getfield 17, 3) := by decide +kernel
theorem dX8_give_160 : decode cX8_give 160 = .ok (.iload_n 1, 1) := by decide +kernel
theorem dX8_give_161 : decode cX8_give 161 = .ok (.invokestatic 56, 3) := by decide +kernel
theorem dX8_give_164 : decode cX8_give 164 = .ok (.iconst 1, 1) := by decide +kernel
theorem dX8_give_165 : decode cX8_give 165 = .ok (.iadd, 1) := by decide +kernel
theorem dX8_give_166 : decode cX8_give 166 = .ok (.dup2, 1) := by decide +kernel
theorem dX8_give_167 : decode cX8_give 167 = .ok (.iaload, 1) := by decide +kernel
theorem dX8_give_168 : decode cX8_give 168 = .ok (.iconst 1, 1) := by decide +kernel
theorem dX8_give_169 : decode cX8_give 169 = .ok (.iadd, 1) := by decide +kernel
theorem dX8_give_170 : decode cX8_give 170 = .ok (.iastore, 1) := by decide +kernel
theorem dX8_give_171 : decode cX8_give 171 = .ok (.iload_n 3, 1) := by decide +kernel
theorem dX8_give_172 : decode cX8_give 172 = .ok (.ireturn, 1) := by decide +kernel
set_option maxRecDepth 20000 in
theorem ggX8_undo_X8_copy : GoodIn wsX8_undo wsX8_copy := goodIn_r _ [8] (by decide +kernel) (by decide +kernel)
set_option maxRecDepth 20000 in
theorem gX8_undo_X8_copy : GoodIn wsX8_undo (va_wsS RX8 211 yX8_copy wsX8_copy) := goodIn_app (goodIn_of _ (by decide +kernel)) ggX8_undo_X8_copy
theorem dX8_undo_0 : decode cX8_undo 0 = .ok (.aload_n 0, 1) := by decide +kernel
theorem dX8_undo_1 : decode cX8_undo 1 = .ok (.iconst 0, 1) := by decide +kernel
theorem dX8_undo_2 : decode cX8_undo 2 = .ok (.putfield 49, 3) := by decide +kernel
theorem dX8_undo_5 : decode cX8_undo 5 = .ok (.aload_n 0, 1) := by decide +kernel
theorem dX8_undo_6 : decode cX8_undo 6 = .ok (.getfield 363, 3) := by decide +kernel
theorem dX8_undo_9 : decode cX8_undo 9 = .ok (.ifCond .ne 5, 3) := by decide +kernel
theorem dX8_undo_12 : decode cX8_undo 12 = .ok (.iconst (-1), 1) := by decide +kernel
theorem dX8_undo_13 : decode cX8_undo 13 = .ok (.ireturn, 1) := by decide +kernel
theorem dX8_undo_14 : decode cX8_undo 14 = .ok (.aload_n 0, 1) := by decide +kernel
theorem dX8_undo_15 : decode cX8_undo 15 = .ok (.dup, 1) := by decide +kernel
theorem dX8_undo_16 : decode cX8_undo 16 = .ok (.getfield 363, 3) := by decide +kernel
theorem dX8_undo_19 : decode cX8_undo 19 = .ok (.iconst 1, 1) := by decide +kernel
theorem dX8_undo_20 : decode cX8_undo 20 = .ok (.isub, 1) := by decide +kernel
theorem dX8_undo_21 : decode cX8_undo 21 = .ok (.putfield 363, 3) := by decide +kernel
theorem dX8_undo_24 : decode cX8_undo 24 = .ok (.aload_n 0, 1) := by decide +kernel
theorem dX8_undo_25 : decode cX8_undo 25 = .ok (.getfield 28, 3) := by decide +kernel
theorem dX8_undo_28 : decode cX8_undo 28 = .ok (.aload_n 0, 1) := by decide +kernel
theorem dX8_undo_29 : decode cX8_undo 29 = .ok (.getfield 363, 3) := by decide +kernel
theorem dX8_undo_32 : decode cX8_undo 32 = .ok (.aaload, 1) := by decide +kernel
theorem dX8_undo_33 : decode cX8_undo 33 = .ok (.aload_n 0, 1) := by decide +kernel
theorem dX8_undo_34 : decode cX8_undo 34 = .ok (.getfield 17, 3) := by decide +kernel
theorem dX8_undo_37 : decode cX8_undo 37 = .ok (.sipush 1802, 3) := by decide +kernel
theorem dX8_undo_40 : decode cX8_undo 40 = .ok (.invokestatic 211, 3) := by decide +kernel
theorem dX8_undo_43 : decode cX8_undo 43 = .ok (.aload_n 0, 1) := by decide +kernel
theorem dX8_undo_44 : decode cX8_undo 44 = .ok (.getfield 363, 3) := by decide +kernel
theorem dX8_undo_47 : decode cX8_undo 47 = .ok (.ireturn, 1) := by decide +kernel
set_option maxRecDepth 20000 in
theorem ggX8_checksum_X8_told : GoodIn wsX8_checksum wsX8_told := goodIn_r _ [8, 3, 9, 10, 11, 7, 12, 13, 14, 15, 16, 17, 18, 19, 20, 21, 22, 23, 24, 25, 26, 27, 28, 29, 30, 31, 32, 33, 34, 35, 36, 37, 38, 39, 40, 41, 42, 43, 44, 45, 46, 47, 48, 49, 50, 51, 52, 53, 54, 55, 56, 57, 58, 59, 60, 61, 62, 63, 64, 65, 66, 67, 68, 69, 70, 71, 72, 73, 74, 75, 76, 77, 78, 79, 80, 81, 82, 83, 84, 85, 86, 87, 88, 109, 110, 111, 112, 113, 114, 115, 116, 117, 118, 119, 120, 121, 122, 123, 124, 125, 126, 127, 128, 129] (by decide +kernel) (by decide +kernel)
set_option maxRecDepth 20000 in
theorem gX8_checksum_X8_told : GoodIn wsX8_checksum (wsV RX8 327 RX8 yX8_told wsX8_told) := goodIn_app (goodIn_of _ (by decide +kernel)) ggX8_checksum_X8_told
set_option maxRecDepth 20000 in
theorem ggX8_checksum_X8_toldRow : GoodIn wsX8_checksum wsX8_toldRow := goodIn_r _ [92, 13, 14, 15, 7, 16, 3, 17, 18, 19, 24, 25, 26, 27, 109, 110, 111, 112, 113, 114, 115, 116, 117, 118, 119, 120, 121, 122, 123, 124, 125, 126, 127, 128, 129] (by decide +kernel) (by decide +kernel)
set_option maxRecDepth 20000 in
theorem gX8_checksum_X8_toldRow : GoodIn wsX8_checksum (wsV RX8 333 RX8 yX8_toldRow wsX8_toldRow) := goodIn_app (goodIn_of _ (by decide +kernel)) ggX8_checksum_X8_toldRow
set_option maxRecDepth 20000 in
theorem ggX8_checksum_X8_ofRow : GoodIn wsX8_checksum wsX8_ofRow := goodIn_r _ [16, 3, 17, 18, 7, 19, 109, 110, 111, 112, 113, 114, 115, 116, 117, 118, 119, 120, 121, 122, 123, 124, 125, 126, 127, 128, 129] (by decide +kernel) (by decide +kernel)
set_option maxRecDepth 20000 in
theorem gX8_checksum_X8_ofRow : GoodIn wsX8_checksum (wsV RX8 218 RX8 yX8_ofRow wsX8_ofRow) := goodIn_app (goodIn_of _ (by decide +kernel)) ggX8_checksum_X8_ofRow
set_option maxRecDepth 20000 in
theorem ggX8_checksum_X8_toldTile : GoodIn wsX8_checksum wsX8_toldTile := goodIn_r _ [96, 13, 14, 15, 7, 16, 3, 17, 18, 19, 109, 110, 111, 112, 113, 114, 115, 116, 117, 118, 119, 120, 121, 122, 123, 124, 125, 126, 127, 128, 129] (by decide +kernel) (by decide +kernel)
set_option maxRecDepth 20000 in
theorem gX8_checksum_X8_toldTile : GoodIn wsX8_checksum (wsV RX8 336 RX8 yX8_toldTile wsX8_toldTile) := goodIn_app (goodIn_of _ (by decide +kernel)) ggX8_checksum_X8_toldTile
set_option maxRecDepth 20000 in
theorem ggX8_checksum_X8_toldPlayer : GoodIn wsX8_checksum wsX8_toldPlayer := goodIn_r _ [100, 36, 37, 38, 7, 39, 3, 40, 41, 42, 101, 102, 103, 104, 51, 52, 53, 54, 55, 56, 57, 105, 106, 107, 108, 13, 14, 15, 16, 17, 18, 19, 109, 110, 111, 112, 113, 114, 115, 116, 117, 118, 119, 120, 121, 122, 123, 124, 125, 126, 127, 128, 129] (by decide +kernel) (by decide +kernel)
set_option maxRecDepth 20000 in
theorem gX8_checksum_X8_toldPlayer : GoodIn wsX8_checksum (wsV RX8 342 RX8 yX8_toldPlayer wsX8_toldPlayer) := goodIn_app (goodIn_of _ (by decide +kernel)) ggX8_checksum_X8_toldPlayer
set_option maxRecDepth 20000 in
theorem ggX8_checksum_X8_ofPlayer : GoodIn wsX8_checksum wsX8_ofPlayer := goodIn_r _ [39, 3, 40, 41, 7, 42, 109, 110, 111, 112, 113, 114, 115, 116, 117, 118, 119, 120, 121, 122, 123, 124, 125, 126, 127, 128, 129] (by decide +kernel) (by decide +kernel)
set_option maxRecDepth 20000 in
theorem gX8_checksum_X8_ofPlayer : GoodIn wsX8_checksum (wsV RX8 266 RX8 yX8_ofPlayer wsX8_ofPlayer) := goodIn_app (goodIn_of _ (by decide +kernel)) ggX8_checksum_X8_ofPlayer
set_option maxRecDepth 20000 in
theorem ggX8_checksum_X8_lengthOf : GoodIn wsX8_checksum wsX8_lengthOf := goodIn_r _ [54, 3, 55, 56, 7, 57, 40, 41, 42, 109, 110, 111, 112, 113, 114, 115, 116, 117, 118, 119, 120, 121, 122, 123, 124, 125, 126, 127, 128, 129] (by decide +kernel) (by decide +kernel)
set_option maxRecDepth 20000 in
theorem gX8_checksum_X8_lengthOf : GoodIn wsX8_checksum (wsV RX8 225 RX8 yX8_lengthOf wsX8_lengthOf) := goodIn_app (goodIn_of _ (by decide +kernel)) ggX8_checksum_X8_lengthOf
set_option maxRecDepth 20000 in
theorem ggX8_checksum_X8_wordAt : GoodIn wsX8_checksum wsX8_wordAt := goodIn_r _ [57, 40, 41, 7, 42] (by decide +kernel) (by decide +kernel)
set_option maxRecDepth 20000 in
theorem gX8_checksum_X8_wordAt : GoodIn wsX8_checksum (va_wsS RX8 161 yX8_wordAt wsX8_wordAt) := goodIn_app (goodIn_of _ (by decide +kernel)) ggX8_checksum_X8_wordAt
theorem dX8_checksum_0 : decode cX8_checksum 0 = .ok (.aload_n 0, 1) := by decide +kernel
theorem dX8_checksum_1 : decode cX8_checksum 1 = .ok (.iconst 0, 1) := by decide +kernel
theorem dX8_checksum_2 : decode cX8_checksum 2 = .ok (.putfield 49, 3) := by decide +kernel
theorem dX8_checksum_5 : decode cX8_checksum 5 = .ok (.lconst 0, 1) := by decide +kernel
theorem dX8_checksum_6 : decode cX8_checksum 6 = .ok (.lstore_n 1, 1) := by decide +kernel
theorem dX8_checksum_7 : decode cX8_checksum 7 = .ok (.iconst 0, 1) := by decide +kernel
theorem dX8_checksum_8 : decode cX8_checksum 8 = .ok (.istore_n 3, 1) := by decide +kernel
theorem dX8_checksum_9 : decode cX8_checksum 9 = .ok (.iload_n 3, 1) := by decide +kernel
theorem dX8_checksum_10 : decode cX8_checksum 10 = .ok (.bipush 12, 2) := by decide +kernel
theorem dX8_checksum_12 : decode cX8_checksum 12 = .ok (.if_icmp .ge 22, 3) := by decide +kernel
theorem dX8_checksum_15 : decode cX8_checksum 15 = .ok (.ldc2_w 369, 3) := by decide +kernel
theorem dX8_checksum_18 : decode cX8_checksum 18 = .ok (.lload_n 1, 1) := by decide +kernel
theorem dX8_checksum_19 : decode cX8_checksum 19 = .ok (.lmul, 1) := by decide +kernel
theorem dX8_checksum_20 : decode cX8_checksum 20 = .ok (.aload_n 0, 1) := by decide +kernel
theorem dX8_checksum_21 : decode cX8_checksum 21 = .ok (.iload_n 3, 1) := by decide +kernel
theorem dX8_checksum_22 : decode cX8_checksum 22 = .ok (.invokevirtual 327, 3) := by decide +kernel
theorem dX8_checksum_25 : decode cX8_checksum 25 = .ok (.i2l, 1) := by decide +kernel
theorem dX8_checksum_26 : decode cX8_checksum 26 = .ok (.ladd, 1) := by decide +kernel
theorem dX8_checksum_27 : decode cX8_checksum 27 = .ok (.lstore_n 1, 1) := by decide +kernel
theorem dX8_checksum_28 : decode cX8_checksum 28 = .ok (.iinc 3 1, 3) := by decide +kernel
theorem dX8_checksum_31 : decode cX8_checksum 31 = .ok (.goto (-22), 3) := by decide +kernel
theorem dX8_checksum_34 : decode cX8_checksum 34 = .ok (.iconst 0, 1) := by decide +kernel
theorem dX8_checksum_35 : decode cX8_checksum 35 = .ok (.istore_n 3, 1) := by decide +kernel
theorem dX8_checksum_36 : decode cX8_checksum 36 = .ok (.iload_n 3, 1) := by decide +kernel
theorem dX8_checksum_37 : decode cX8_checksum 37 = .ok (.aload_n 0, 1) := by decide +kernel
theorem dX8_checksum_38 : decode cX8_checksum 38 = .ok (.getfield 17, 3) := by decide +kernel
theorem dX8_checksum_41 : decode cX8_checksum 41 = .ok (.iconst 0, 1) := by decide +kernel
theorem dX8_checksum_42 : decode cX8_checksum 42 = .ok (.iaload, 1) := by decide +kernel
theorem dX8_checksum_43 : decode cX8_checksum 43 = .ok (.if_icmp .ge 74, 3) := by decide +kernel
theorem dX8_checksum_46 : decode cX8_checksum 46 = .ok (.iconst 0, 1) := by decide +kernel
theorem dX8_checksum_47 : decode cX8_checksum 47 = .ok (.istore 4, 2) := by decide +kernel
theorem dX8_checksum_49 : decode cX8_checksum 49 = .ok (.iload 4, 2) := by decide +kernel
theorem dX8_checksum_51 : decode cX8_checksum 51 = .ok (.iconst 4, 1) := by decide +kernel
theorem dX8_checksum_52 : decode cX8_checksum 52 = .ok (.if_icmp .ge 24, 3) := by decide +kernel
theorem dX8_checksum_55 : decode cX8_checksum 55 = .ok (.ldc2_w 369, 3) := by decide +kernel
theorem dX8_checksum_58 : decode cX8_checksum 58 = .ok (.lload_n 1, 1) := by decide +kernel
theorem dX8_checksum_59 : decode cX8_checksum 59 = .ok (.lmul, 1) := by decide +kernel
theorem dX8_checksum_60 : decode cX8_checksum 60 = .ok (.aload_n 0, 1) := by decide +kernel
theorem dX8_checksum_61 : decode cX8_checksum 61 = .ok (.iload_n 3, 1) := by decide +kernel
theorem dX8_checksum_62 : decode cX8_checksum 62 = .ok (.iload 4, 2) := by decide +kernel
theorem dX8_checksum_64 : decode cX8_checksum 64 = .ok (.invokevirtual 333, 3) := by decide +kernel
theorem dX8_checksum_67 : decode cX8_checksum 67 = .ok (.i2l, 1) := by decide +kernel
theorem dX8_checksum_68 : decode cX8_checksum 68 = .ok (.ladd, 1) := by decide +kernel
theorem dX8_checksum_69 : decode cX8_checksum 69 = .ok (.lstore_n 1, 1) := by decide +kernel
theorem dX8_checksum_70 : decode cX8_checksum 70 = .ok (.iinc 4 1, 3) := by decide +kernel
theorem dX8_checksum_73 : decode cX8_checksum 73 = .ok (.goto (-24), 3) := by decide +kernel
theorem dX8_checksum_76 : decode cX8_checksum 76 = .ok (.iconst 0, 1) := by decide +kernel
theorem dX8_checksum_77 : decode cX8_checksum 77 = .ok (.istore 4, 2) := by decide +kernel
theorem dX8_checksum_79 : decode cX8_checksum 79 = .ok (.iload 4, 2) := by decide +kernel
theorem dX8_checksum_81 : decode cX8_checksum 81 = .ok (.aload_n 0, 1) := by decide +kernel
theorem dX8_checksum_82 : decode cX8_checksum 82 = .ok (.iload_n 3, 1) := by decide +kernel
theorem dX8_checksum_83 : decode cX8_checksum 83 = .ok (.iconst 0, 1) := by decide +kernel
theorem dX8_checksum_84 : decode cX8_checksum 84 = .ok (.invokevirtual 218, 3) := by decide +kernel
theorem dX8_checksum_87 : decode cX8_checksum 87 = .ok (.if_icmp .ge 24, 3) := by decide +kernel
theorem dX8_checksum_90 : decode cX8_checksum 90 = .ok (.ldc2_w 369, 3) := by decide +kernel
theorem dX8_checksum_93 : decode cX8_checksum 93 = .ok (.lload_n 1, 1) := by decide +kernel
theorem dX8_checksum_94 : decode cX8_checksum 94 = .ok (.lmul, 1) := by decide +kernel
theorem dX8_checksum_95 : decode cX8_checksum 95 = .ok (.aload_n 0, 1) := by decide +kernel
theorem dX8_checksum_96 : decode cX8_checksum 96 = .ok (.iload_n 3, 1) := by decide +kernel
theorem dX8_checksum_97 : decode cX8_checksum 97 = .ok (.iload 4, 2) := by decide +kernel
theorem dX8_checksum_99 : decode cX8_checksum 99 = .ok (.invokevirtual 336, 3) := by decide +kernel
theorem dX8_checksum_102 : decode cX8_checksum 102 = .ok (.i2l, 1) := by decide +kernel
theorem dX8_checksum_103 : decode cX8_checksum 103 = .ok (.ladd, 1) := by decide +kernel
theorem dX8_checksum_104 : decode cX8_checksum 104 = .ok (.lstore_n 1, 1) := by decide +kernel
theorem dX8_checksum_105 : decode cX8_checksum 105 = .ok (.iinc 4 1, 3) := by decide +kernel
theorem dX8_checksum_108 : decode cX8_checksum 108 = .ok (.goto (-29), 3) := by decide +kernel
theorem dX8_checksum_111 : decode cX8_checksum 111 = .ok (.iinc 3 1, 3) := by decide +kernel
theorem dX8_checksum_114 : decode cX8_checksum 114 = .ok (.goto (-78), 3) := by decide +kernel
theorem dX8_checksum_117 : decode cX8_checksum 117 = .ok (.iconst 0, 1) := by decide +kernel
theorem dX8_checksum_118 : decode cX8_checksum 118 = .ok (.istore_n 3, 1) := by decide +kernel
theorem dX8_checksum_119 : decode cX8_checksum 119 = .ok (.iload_n 3, 1) := by decide +kernel
theorem dX8_checksum_120 : decode cX8_checksum 120 = .ok (.aload_n 0, 1) := by decide +kernel
theorem dX8_checksum_121 : decode cX8_checksum 121 = .ok (.getfield 17, 3) := by decide +kernel
theorem dX8_checksum_124 : decode cX8_checksum 124 = .ok (.iconst 1, 1) := by decide +kernel
theorem dX8_checksum_125 : decode cX8_checksum 125 = .ok (.iaload, 1) := by decide +kernel
theorem dX8_checksum_126 : decode cX8_checksum 126 = .ok (.if_icmp .ge 104, 3) := by decide +kernel
theorem dX8_checksum_129 : decode cX8_checksum 129 = .ok (.iconst 0, 1) := by decide +kernel
theorem dX8_checksum_130 : decode cX8_checksum 130 = .ok (.istore 4, 2) := by decide +kernel
theorem dX8_checksum_132 : decode cX8_checksum 132 = .ok (.iload 4, 2) := by decide +kernel
theorem dX8_checksum_134 : decode cX8_checksum 134 = .ok (.iconst 4, 1) := by decide +kernel
theorem dX8_checksum_135 : decode cX8_checksum 135 = .ok (.if_icmp .ge 24, 3) := by decide +kernel
theorem dX8_checksum_138 : decode cX8_checksum 138 = .ok (.ldc2_w 369, 3) := by decide +kernel
theorem dX8_checksum_141 : decode cX8_checksum 141 = .ok (.lload_n 1, 1) := by decide +kernel
theorem dX8_checksum_142 : decode cX8_checksum 142 = .ok (.lmul, 1) := by decide +kernel
theorem dX8_checksum_143 : decode cX8_checksum 143 = .ok (.aload_n 0, 1) := by decide +kernel
theorem dX8_checksum_144 : decode cX8_checksum 144 = .ok (.iload_n 3, 1) := by decide +kernel
theorem dX8_checksum_145 : decode cX8_checksum 145 = .ok (.iload 4, 2) := by decide +kernel
theorem dX8_checksum_147 : decode cX8_checksum 147 = .ok (.invokevirtual 342, 3) := by decide +kernel
theorem dX8_checksum_150 : decode cX8_checksum 150 = .ok (.i2l, 1) := by decide +kernel
theorem dX8_checksum_151 : decode cX8_checksum 151 = .ok (.ladd, 1) := by decide +kernel
theorem dX8_checksum_152 : decode cX8_checksum 152 = .ok (.lstore_n 1, 1) := by decide +kernel
theorem dX8_checksum_153 : decode cX8_checksum 153 = .ok (.iinc 4 1, 3) := by decide +kernel
theorem dX8_checksum_156 : decode cX8_checksum 156 = .ok (.goto (-24), 3) := by decide +kernel
theorem dX8_checksum_159 : decode cX8_checksum 159 = .ok (.iconst 0, 1) := by decide +kernel
theorem dX8_checksum_160 : decode cX8_checksum 160 = .ok (.istore 4, 2) := by decide +kernel
theorem dX8_checksum_162 : decode cX8_checksum 162 = .ok (.iload 4, 2) := by decide +kernel
theorem dX8_checksum_164 : decode cX8_checksum 164 = .ok (.aload_n 0, 1) := by decide +kernel
theorem dX8_checksum_165 : decode cX8_checksum 165 = .ok (.iload_n 3, 1) := by decide +kernel
theorem dX8_checksum_166 : decode cX8_checksum 166 = .ok (.iconst 1, 1) := by decide +kernel
theorem dX8_checksum_167 : decode cX8_checksum 167 = .ok (.invokevirtual 266, 3) := by decide +kernel
theorem dX8_checksum_170 : decode cX8_checksum 170 = .ok (.if_icmp .ge 54, 3) := by decide +kernel
theorem dX8_checksum_173 : decode cX8_checksum 173 = .ok (.iconst 0, 1) := by decide +kernel
theorem dX8_checksum_174 : decode cX8_checksum 174 = .ok (.istore 5, 2) := by decide +kernel
theorem dX8_checksum_176 : decode cX8_checksum 176 = .ok (.iload 5, 2) := by decide +kernel
theorem dX8_checksum_178 : decode cX8_checksum 178 = .ok (.aload_n 0, 1) := by decide +kernel
theorem dX8_checksum_179 : decode cX8_checksum 179 = .ok (.iload_n 3, 1) := by decide +kernel
theorem dX8_checksum_180 : decode cX8_checksum 180 = .ok (.iload 4, 2) := by decide +kernel
theorem dX8_checksum_182 : decode cX8_checksum 182 = .ok (.invokevirtual 225, 3) := by decide +kernel
theorem dX8_checksum_185 : decode cX8_checksum 185 = .ok (.if_icmp .ge 33, 3) := by decide +kernel
theorem dX8_checksum_188 : decode cX8_checksum 188 = .ok (.ldc2_w 369, 3) := by decide +kernel
theorem dX8_checksum_191 : decode cX8_checksum 191 = .ok (.lload_n 1, 1) := by decide +kernel
theorem dX8_checksum_192 : decode cX8_checksum 192 = .ok (.lmul, 1) := by decide +kernel
theorem dX8_checksum_193 : decode cX8_checksum 193 = .ok (.aload_n 0, 1) := by decide +kernel
theorem dX8_checksum_194 : decode cX8_checksum 194 = .ok (.getfield 17, 3) := by decide +kernel
theorem dX8_checksum_197 : decode cX8_checksum 197 = .ok (.iload_n 3, 1) := by decide +kernel
theorem dX8_checksum_198 : decode cX8_checksum 198 = .ok (.iload 4, 2) := by decide +kernel
theorem dX8_checksum_200 : decode cX8_checksum 200 = .ok (.invokestatic 161, 3) := by decide +kernel
theorem dX8_checksum_203 : decode cX8_checksum 203 = .ok (.iconst 1, 1) := by decide +kernel
theorem dX8_checksum_204 : decode cX8_checksum 204 = .ok (.iadd, 1) := by decide +kernel
theorem dX8_checksum_205 : decode cX8_checksum 205 = .ok (.iload 5, 2) := by decide +kernel
theorem dX8_checksum_207 : decode cX8_checksum 207 = .ok (.iadd, 1) := by decide +kernel
theorem dX8_checksum_208 : decode cX8_checksum 208 = .ok (.iaload, 1) := by decide +kernel
theorem dX8_checksum_209 : decode cX8_checksum 209 = .ok (.i2l, 1) := by decide +kernel
theorem dX8_checksum_210 : decode cX8_checksum 210 = .ok (.ladd, 1) := by decide +kernel
theorem dX8_checksum_211 : decode cX8_checksum 211 = .ok (.lstore_n 1, 1) := by decide +kernel
theorem dX8_checksum_212 : decode cX8_checksum 212 = .ok (.iinc 5 1, 3) := by decide +kernel
theorem dX8_checksum_215 : decode cX8_checksum 215 = .ok (.goto (-39), 3) := by decide +kernel
theorem dX8_checksum_218 : decode cX8_checksum 218 = .ok (.iinc 4 1, 3) := by decide +kernel
theorem dX8_checksum_221 : decode cX8_checksum 221 = .ok (.goto (-59), 3) := by decide +kernel
theorem dX8_checksum_224 : decode cX8_checksum 224 = .ok (.iinc 3 1, 3) := by decide +kernel
theorem dX8_checksum_227 : decode cX8_checksum 227 = .ok (.goto (-108), 3) := by decide +kernel
theorem dX8_checksum_230 : decode cX8_checksum 230 = .ok (.lload_n 1, 1) := by decide +kernel
theorem dX8_checksum_231 : decode cX8_checksum 231 = .ok (.lreturn, 1) := by decide +kernel
theorem dJ6_bitCount_0f7a4_0 : decode cJ6_bitCount_0f7a4 0 = .ok (.iload_n 0, 1) := by decide +kernel
theorem dJ6_bitCount_0f7a4_1 : decode cJ6_bitCount_0f7a4 1 = .ok (.iload_n 0, 1) := by decide +kernel
theorem dJ6_bitCount_0f7a4_2 : decode cJ6_bitCount_0f7a4 2 = .ok (.iconst 1, 1) := by decide +kernel
theorem dJ6_bitCount_0f7a4_3 : decode cJ6_bitCount_0f7a4 3 = .ok (.iushr, 1) := by decide +kernel
theorem dJ6_bitCount_0f7a4_4 : decode cJ6_bitCount_0f7a4 4 = .ok (.ldc_w 265, 3) := by decide +kernel
theorem dJ6_bitCount_0f7a4_7 : decode cJ6_bitCount_0f7a4 7 = .ok (.iand, 1) := by decide +kernel
theorem dJ6_bitCount_0f7a4_8 : decode cJ6_bitCount_0f7a4 8 = .ok (.isub, 1) := by decide +kernel
theorem dJ6_bitCount_0f7a4_9 : decode cJ6_bitCount_0f7a4 9 = .ok (.istore_n 0, 1) := by decide +kernel
theorem dJ6_bitCount_0f7a4_10 : decode cJ6_bitCount_0f7a4 10 = .ok (.iload_n 0, 1) := by decide +kernel
theorem dJ6_bitCount_0f7a4_11 : decode cJ6_bitCount_0f7a4 11 = .ok (.ldc_w 266, 3) := by decide +kernel
theorem dJ6_bitCount_0f7a4_14 : decode cJ6_bitCount_0f7a4 14 = .ok (.iand, 1) := by decide +kernel
theorem dJ6_bitCount_0f7a4_15 : decode cJ6_bitCount_0f7a4 15 = .ok (.iload_n 0, 1) := by decide +kernel
theorem dJ6_bitCount_0f7a4_16 : decode cJ6_bitCount_0f7a4 16 = .ok (.iconst 2, 1) := by decide +kernel
theorem dJ6_bitCount_0f7a4_17 : decode cJ6_bitCount_0f7a4 17 = .ok (.iushr, 1) := by decide +kernel
theorem dJ6_bitCount_0f7a4_18 : decode cJ6_bitCount_0f7a4 18 = .ok (.ldc_w 266, 3) := by decide +kernel
theorem dJ6_bitCount_0f7a4_21 : decode cJ6_bitCount_0f7a4 21 = .ok (.iand, 1) := by decide +kernel
theorem dJ6_bitCount_0f7a4_22 : decode cJ6_bitCount_0f7a4 22 = .ok (.iadd, 1) := by decide +kernel
theorem dJ6_bitCount_0f7a4_23 : decode cJ6_bitCount_0f7a4 23 = .ok (.istore_n 0, 1) := by decide +kernel
theorem dJ6_bitCount_0f7a4_24 : decode cJ6_bitCount_0f7a4 24 = .ok (.iload_n 0, 1) := by decide +kernel
theorem dJ6_bitCount_0f7a4_25 : decode cJ6_bitCount_0f7a4 25 = .ok (.iload_n 0, 1) := by decide +kernel
theorem dJ6_bitCount_0f7a4_26 : decode cJ6_bitCount_0f7a4 26 = .ok (.iconst 4, 1) := by decide +kernel
theorem dJ6_bitCount_0f7a4_27 : decode cJ6_bitCount_0f7a4 27 = .ok (.iushr, 1) := by decide +kernel
theorem dJ6_bitCount_0f7a4_28 : decode cJ6_bitCount_0f7a4 28 = .ok (.iadd, 1) := by decide +kernel
theorem dJ6_bitCount_0f7a4_29 : decode cJ6_bitCount_0f7a4 29 = .ok (.ldc_w 267, 3) := by decide +kernel
theorem dJ6_bitCount_0f7a4_32 : decode cJ6_bitCount_0f7a4 32 = .ok (.iand, 1) := by decide +kernel
theorem dJ6_bitCount_0f7a4_33 : decode cJ6_bitCount_0f7a4 33 = .ok (.istore_n 0, 1) := by decide +kernel
theorem dJ6_bitCount_0f7a4_34 : decode cJ6_bitCount_0f7a4 34 = .ok (.iload_n 0, 1) := by decide +kernel
theorem dJ6_bitCount_0f7a4_35 : decode cJ6_bitCount_0f7a4 35 = .ok (.iload_n 0, 1) := by decide +kernel
theorem dJ6_bitCount_0f7a4_36 : decode cJ6_bitCount_0f7a4 36 = .ok (.bipush 8, 2) := by decide +kernel
theorem dJ6_bitCount_0f7a4_38 : decode cJ6_bitCount_0f7a4 38 = .ok (.iushr, 1) := by decide +kernel
theorem dJ6_bitCount_0f7a4_39 : decode cJ6_bitCount_0f7a4 39 = .ok (.iadd, 1) := by decide +kernel
theorem dJ6_bitCount_0f7a4_40 : decode cJ6_bitCount_0f7a4 40 = .ok (.istore_n 0, 1) := by decide +kernel
theorem dJ6_bitCount_0f7a4_41 : decode cJ6_bitCount_0f7a4 41 = .ok (.iload_n 0, 1) := by decide +kernel
theorem dJ6_bitCount_0f7a4_42 : decode cJ6_bitCount_0f7a4 42 = .ok (.iload_n 0, 1) := by decide +kernel
theorem dJ6_bitCount_0f7a4_43 : decode cJ6_bitCount_0f7a4 43 = .ok (.bipush 16, 2) := by decide +kernel
theorem dJ6_bitCount_0f7a4_45 : decode cJ6_bitCount_0f7a4 45 = .ok (.iushr, 1) := by decide +kernel
theorem dJ6_bitCount_0f7a4_46 : decode cJ6_bitCount_0f7a4 46 = .ok (.iadd, 1) := by decide +kernel
theorem dJ6_bitCount_0f7a4_47 : decode cJ6_bitCount_0f7a4 47 = .ok (.istore_n 0, 1) := by decide +kernel
theorem dJ6_bitCount_0f7a4_48 : decode cJ6_bitCount_0f7a4 48 = .ok (.iload_n 0, 1) := by decide +kernel
theorem dJ6_bitCount_0f7a4_49 : decode cJ6_bitCount_0f7a4 49 = .ok (.bipush 63, 2) := by decide +kernel
theorem dJ6_bitCount_0f7a4_51 : decode cJ6_bitCount_0f7a4 51 = .ok (.iand, 1) := by decide +kernel
theorem dJ6_bitCount_0f7a4_52 : decode cJ6_bitCount_0f7a4 52 = .ok (.ireturn, 1) := by decide +kernel
theorem dJ9_max_7cf53_0 : decode cJ9_max_7cf53 0 = .ok (.iload_n 0, 1) := by decide +kernel
theorem dJ9_max_7cf53_1 : decode cJ9_max_7cf53 1 = .ok (.iload_n 1, 1) := by decide +kernel
theorem dJ9_max_7cf53_2 : decode cJ9_max_7cf53 2 = .ok (.if_icmp .lt 7, 3) := by decide +kernel
theorem dJ9_max_7cf53_5 : decode cJ9_max_7cf53 5 = .ok (.iload_n 0, 1) := by decide +kernel
theorem dJ9_max_7cf53_6 : decode cJ9_max_7cf53 6 = .ok (.goto 4, 3) := by decide +kernel
theorem dJ9_max_7cf53_9 : decode cJ9_max_7cf53 9 = .ok (.iload_n 1, 1) := by decide +kernel
theorem dJ9_max_7cf53_10 : decode cJ9_max_7cf53 10 = .ok (.ireturn, 1) := by decide +kernel
theorem dJ9_min_7cf53_0 : decode cJ9_min_7cf53 0 = .ok (.iload_n 0, 1) := by decide +kernel
theorem dJ9_min_7cf53_1 : decode cJ9_min_7cf53 1 = .ok (.iload_n 1, 1) := by decide +kernel
theorem dJ9_min_7cf53_2 : decode cJ9_min_7cf53 2 = .ok (.if_icmp .gt 7, 3) := by decide +kernel
theorem dJ9_min_7cf53_5 : decode cJ9_min_7cf53 5 = .ok (.iload_n 0, 1) := by decide +kernel
theorem dJ9_min_7cf53_6 : decode cJ9_min_7cf53 6 = .ok (.goto 4, 3) := by decide +kernel
theorem dJ9_min_7cf53_9 : decode cJ9_min_7cf53 9 = .ok (.iload_n 1, 1) := by decide +kernel
theorem dJ9_min_7cf53_10 : decode cJ9_min_7cf53 10 = .ok (.ireturn, 1) := by decide +kernel
set_option maxRecDepth 20000 in
theorem ggJ0_length_8abf5_J0_coder_7d493 : GoodIn wsJ0_length_8abf5 wsJ0_coder_7d493 := goodIn_r _ [6, 7, 8] (by decide +kernel) (by decide +kernel)
set_option maxRecDepth 20000 in
theorem gJ0_length_8abf5_J0_coder_7d493 : GoodIn wsJ0_length_8abf5 (wsV RJ0 335 RJ0 yJ0_coder_7d493 wsJ0_coder_7d493) := goodIn_app (goodIn_of _ (by decide +kernel)) ggJ0_length_8abf5_J0_coder_7d493
theorem dJ0_length_8abf5_0 : decode cJ0_length_8abf5 0 = .ok (.aload_n 0, 1) := by decide +kernel
theorem dJ0_length_8abf5_1 : decode cJ0_length_8abf5 1 = .ok (.getfield 9, 3) := by decide +kernel
theorem dJ0_length_8abf5_4 : decode cJ0_length_8abf5 4 = .ok (.arraylength, 1) := by decide +kernel
theorem dJ0_length_8abf5_5 : decode cJ0_length_8abf5 5 = .ok (.aload_n 0, 1) := by decide +kernel
theorem dJ0_length_8abf5_6 : decode cJ0_length_8abf5 6 = .ok (.invokevirtual 335, 3) := by decide +kernel
theorem dJ0_length_8abf5_9 : decode cJ0_length_8abf5 9 = .ok (.ishr, 1) := by decide +kernel
theorem dJ0_length_8abf5_10 : decode cJ0_length_8abf5 10 = .ok (.ireturn, 1) := by decide +kernel
set_option maxRecDepth 20000 in
theorem ggJ0_charAt_5068e_J0_isLatin1_aae02 : GoodIn wsJ0_charAt_5068e wsJ0_isLatin1_aae02 := goodIn_r _ [6, 7, 8] (by decide +kernel) (by decide +kernel)
set_option maxRecDepth 20000 in
theorem gJ0_charAt_5068e_J0_isLatin1_aae02 : GoodIn wsJ0_charAt_5068e (wsV RJ0 492 RJ0 yJ0_isLatin1_aae02 wsJ0_isLatin1_aae02) := goodIn_app (goodIn_of _ (by decide +kernel)) ggJ0_charAt_5068e_J0_isLatin1_aae02
set_option maxRecDepth 20000 in
theorem ggJ0_charAt_5068e_J1_charAt_3b067 : GoodIn wsJ0_charAt_5068e wsJ1_charAt_3b067 := goodIn_r _ [12, 13, 14, 5, 15, 16, 17, 18, 19, 20] (by decide +kernel) (by decide +kernel)
set_option maxRecDepth 20000 in
theorem gJ0_charAt_5068e_J1_charAt_3b067 : GoodIn wsJ0_charAt_5068e (va_wsS RJ0 495 yJ1_charAt_3b067 wsJ1_charAt_3b067) := goodIn_app (goodIn_of _ (by decide +kernel)) ggJ0_charAt_5068e_J1_charAt_3b067
set_option maxRecDepth 20000 in
theorem ggJ0_charAt_5068e_J2_charAt_3b067 : GoodIn wsJ0_charAt_5068e wsJ2_charAt_3b067 := goodIn_r _ [24, 25, 26, 23, 27, 28, 29, 30, 31, 14, 5, 15, 16, 17, 18, 19, 20, 32, 33, 34, 35, 36, 37] (by decide +kernel) (by decide +kernel)
set_option maxRecDepth 20000 in
theorem gJ0_charAt_5068e_J2_charAt_3b067 : GoodIn wsJ0_charAt_5068e (va_wsS RJ0 498 yJ2_charAt_3b067 wsJ2_charAt_3b067) := goodIn_app (goodIn_of _ (by decide +kernel)) ggJ0_charAt_5068e_J2_charAt_3b067
theorem dJ0_charAt_5068e_0 : decode cJ0_charAt_5068e 0 = .ok (.aload_n 0, 1) := by decide +kernel
theorem dJ0_charAt_5068e_1 : decode cJ0_charAt_5068e 1 = .ok (.invokevirtual 492, 3) := by decide +kernel
theorem dJ0_charAt_5068e_4 : decode cJ0_charAt_5068e 4 = .ok (.ifCond .eq 12, 3) := by decide +kernel
theorem dJ0_charAt_5068e_7 : decode cJ0_charAt_5068e 7 = .ok (.aload_n 0, 1) := by decide +kernel
theorem dJ0_charAt_5068e_8 : decode cJ0_charAt_5068e 8 = .ok (.getfield 9, 3) := by decide +kernel
theorem dJ0_charAt_5068e_11 : decode cJ0_charAt_5068e 11 = .ok (.iload_n 1, 1) := by decide +kernel
theorem dJ0_charAt_5068e_12 : decode cJ0_charAt_5068e 12 = .ok (.invokestatic 495, 3) := by decide +kernel
theorem dJ0_charAt_5068e_15 : decode cJ0_charAt_5068e 15 = .ok (.ireturn, 1) := by decide +kernel
theorem dJ0_charAt_5068e_16 : decode cJ0_charAt_5068e 16 = .ok (.aload_n 0, 1) := by decide +kernel
theorem dJ0_charAt_5068e_17 : decode cJ0_charAt_5068e 17 = .ok (.getfield 9, 3) := by decide +kernel
theorem dJ0_charAt_5068e_20 : decode cJ0_charAt_5068e 20 = .ok (.iload_n 1, 1) := by decide +kernel
theorem dJ0_charAt_5068e_21 : decode cJ0_charAt_5068e 21 = .ok (.invokestatic 498, 3) := by decide +kernel
theorem dJ0_charAt_5068e_24 : decode cJ0_charAt_5068e 24 = .ok (.ireturn, 1) := by decide +kernel
theorem dJ0_coder_7d493_0 : decode cJ0_coder_7d493 0 = .ok (.getstatic 38, 3) := by decide +kernel
theorem dJ0_coder_7d493_3 : decode cJ0_coder_7d493 3 = .ok (.ifCond .eq 10, 3) := by decide +kernel
theorem dJ0_coder_7d493_6 : decode cJ0_coder_7d493 6 = .ok (.aload_n 0, 1) := by decide +kernel
theorem dJ0_coder_7d493_7 : decode cJ0_coder_7d493 7 = .ok (.getfield 15, 3) := by decide +kernel
theorem dJ0_coder_7d493_10 : decode cJ0_coder_7d493 10 = .ok (.goto 4, 3) := by decide +kernel
theorem dJ0_coder_7d493_13 : decode cJ0_coder_7d493 13 = .ok (.iconst 1, 1) := by decide +kernel
theorem dJ0_coder_7d493_14 : decode cJ0_coder_7d493 14 = .ok (.ireturn, 1) := by decide +kernel
theorem dJ0_isLatin1_aae02_0 : decode cJ0_isLatin1_aae02 0 = .ok (.getstatic 38, 3) := by decide +kernel
theorem dJ0_isLatin1_aae02_3 : decode cJ0_isLatin1_aae02 3 = .ok (.ifCond .eq 14, 3) := by decide +kernel
theorem dJ0_isLatin1_aae02_6 : decode cJ0_isLatin1_aae02 6 = .ok (.aload_n 0, 1) := by decide +kernel
theorem dJ0_isLatin1_aae02_7 : decode cJ0_isLatin1_aae02 7 = .ok (.getfield 15, 3) := by decide +kernel
theorem dJ0_isLatin1_aae02_10 : decode cJ0_isLatin1_aae02 10 = .ok (.ifCond .ne 7, 3) := by decide +kernel
theorem dJ0_isLatin1_aae02_13 : decode cJ0_isLatin1_aae02 13 = .ok (.iconst 1, 1) := by decide +kernel
theorem dJ0_isLatin1_aae02_14 : decode cJ0_isLatin1_aae02 14 = .ok (.goto 4, 3) := by decide +kernel
theorem dJ0_isLatin1_aae02_17 : decode cJ0_isLatin1_aae02 17 = .ok (.iconst 0, 1) := by decide +kernel
theorem dJ0_isLatin1_aae02_18 : decode cJ0_isLatin1_aae02 18 = .ok (.ireturn, 1) := by decide +kernel
set_option maxRecDepth 20000 in
theorem ggJ0_checkIndex_df160_J3_checkIndex_8e157 : GoodIn wsJ0_checkIndex_df160 wsJ3_checkIndex_8e157 := goodIn_r _ [5] (by decide +kernel) (by decide +kernel)
set_option maxRecDepth 20000 in
theorem gJ0_checkIndex_df160_J3_checkIndex_8e157 : GoodIn wsJ0_checkIndex_df160 (va_wsS RJ0 1059 yJ3_checkIndex_8e157 wsJ3_checkIndex_8e157) := goodIn_app (goodIn_of _ (by decide +kernel)) ggJ0_checkIndex_df160_J3_checkIndex_8e157
theorem dJ0_checkIndex_df160_0 : decode cJ0_checkIndex_df160 0 = .ok (.iload_n 0, 1) := by decide +kernel
theorem dJ0_checkIndex_df160_1 : decode cJ0_checkIndex_df160 1 = .ok (.iload_n 1, 1) := by decide +kernel
theorem dJ0_checkIndex_df160_2 : decode cJ0_checkIndex_df160 2 = .ok (.getstatic 1053, 3) := by decide +kernel
theorem dJ0_checkIndex_df160_5 : decode cJ0_checkIndex_df160 5 = .ok (.invokestatic 1059, 3) := by decide +kernel
theorem dJ0_checkIndex_df160_8 : decode cJ0_checkIndex_df160 8 = .ok (.pop, 1) := by decide +kernel
theorem dJ0_checkIndex_df160_9 : decode cJ0_checkIndex_df160 9 = .ok (.return_, 1) := by decide +kernel
set_option maxRecDepth 20000 in
theorem ggJ1_charAt_3b067_J0_checkIndex_df160 : GoodIn wsJ1_charAt_3b067 wsJ0_checkIndex_df160 := goodIn_r _ [4, 5, 6, 7, 8, 9] (by decide +kernel) (by decide +kernel)
set_option maxRecDepth 20000 in
theorem gJ1_charAt_3b067_J0_checkIndex_df160 : GoodIn wsJ1_charAt_3b067 (va_wsS RJ1 9 yJ0_checkIndex_df160 wsJ0_checkIndex_df160) := goodIn_app (goodIn_of _ (by decide +kernel)) ggJ1_charAt_3b067_J0_checkIndex_df160
theorem dJ1_charAt_3b067_0 : decode cJ1_charAt_3b067 0 = .ok (.iload_n 1, 1) := by decide +kernel
theorem dJ1_charAt_3b067_1 : decode cJ1_charAt_3b067 1 = .ok (.aload_n 0, 1) := by decide +kernel
theorem dJ1_charAt_3b067_2 : decode cJ1_charAt_3b067 2 = .ok (.arraylength, 1) := by decide +kernel
theorem dJ1_charAt_3b067_3 : decode cJ1_charAt_3b067 3 = .ok (.invokestatic 9, 3) := by decide +kernel
theorem dJ1_charAt_3b067_6 : decode cJ1_charAt_3b067 6 = .ok (.aload_n 0, 1) := by decide +kernel
theorem dJ1_charAt_3b067_7 : decode cJ1_charAt_3b067 7 = .ok (.iload_n 1, 1) := by decide +kernel
theorem dJ1_charAt_3b067_8 : decode cJ1_charAt_3b067 8 = .ok (.baload, 1) := by decide +kernel
theorem dJ1_charAt_3b067_9 : decode cJ1_charAt_3b067 9 = .ok (.sipush 255, 3) := by decide +kernel
theorem dJ1_charAt_3b067_12 : decode cJ1_charAt_3b067 12 = .ok (.iand, 1) := by decide +kernel
theorem dJ1_charAt_3b067_13 : decode cJ1_charAt_3b067 13 = .ok (.i2c, 1) := by decide +kernel
theorem dJ1_charAt_3b067_14 : decode cJ1_charAt_3b067 14 = .ok (.ireturn, 1) := by decide +kernel
set_option maxRecDepth 20000 in
theorem ggJ2_getChar_3b067_J2_length_9d52b : GoodIn wsJ2_getChar_3b067 wsJ2_length_9d52b := goodIn_r _ [7] (by decide +kernel) (by decide +kernel)
set_option maxRecDepth 20000 in
theorem gJ2_getChar_3b067_J2_length_9d52b : GoodIn wsJ2_getChar_3b067 (va_wsS RJ2 48 yJ2_length_9d52b wsJ2_length_9d52b) := goodIn_app (goodIn_of _ (by decide +kernel)) ggJ2_getChar_3b067_J2_length_9d52b
theorem dJ2_getChar_3b067_0 : decode cJ2_getChar_3b067 0 = .ok (.getstatic 44, 3) := by decide +kernel
theorem dJ2_getChar_3b067_3 : decode cJ2_getChar_3b067 3 = .ok (.ifCond .ne 25, 3) := by decide +kernel
theorem dJ2_getChar_3b067_6 : decode cJ2_getChar_3b067 6 = .ok (.iload_n 1, 1) := by decide +kernel
theorem dJ2_getChar_3b067_7 : decode cJ2_getChar_3b067 7 = .ok (.ifCond .lt 11, 3) := by decide +kernel
theorem dJ2_getChar_3b067_10 : decode cJ2_getChar_3b067 10 = .ok (.iload_n 1, 1) := by decide +kernel
theorem dJ2_getChar_3b067_11 : decode cJ2_getChar_3b067 11 = .ok (.aload_n 0, 1) := by decide +kernel
theorem dJ2_getChar_3b067_12 : decode cJ2_getChar_3b067 12 = .ok (.invokestatic 48, 3) := by decide +kernel
theorem dJ2_getChar_3b067_15 : decode cJ2_getChar_3b067 15 = .ok (.if_icmp .lt 13, 3) := by decide +kernel
theorem dJ2_getChar_3b067_18 : decode cJ2_getChar_3b067 18 = .ok (.new 52, 3) := by decide +kernel
theorem dJ2_getChar_3b067_21 : decode cJ2_getChar_3b067 21 = .ok (.dup, 1) := by decide +kernel
theorem dJ2_getChar_3b067_22 : decode cJ2_getChar_3b067 22 = .ok (.ldc 54, 2) := by decide +kernel
theorem dJ2_getChar_3b067_24 : decode cJ2_getChar_3b067 24 = .ok (.invokespecial 56, 3) := by decide +kernel
theorem dJ2_getChar_3b067_27 : decode cJ2_getChar_3b067 27 = .ok (.athrow, 1) := by decide +kernel
theorem dJ2_getChar_3b067_28 : decode cJ2_getChar_3b067 28 = .ok (.iload_n 1, 1) := by decide +kernel
theorem dJ2_getChar_3b067_29 : decode cJ2_getChar_3b067 29 = .ok (.iconst 1, 1) := by decide +kernel
theorem dJ2_getChar_3b067_30 : decode cJ2_getChar_3b067 30 = .ok (.ishl, 1) := by decide +kernel
theorem dJ2_getChar_3b067_31 : decode cJ2_getChar_3b067 31 = .ok (.istore_n 1, 1) := by decide +kernel
theorem dJ2_getChar_3b067_32 : decode cJ2_getChar_3b067 32 = .ok (.aload_n 0, 1) := by decide +kernel
theorem dJ2_getChar_3b067_33 : decode cJ2_getChar_3b067 33 = .ok (.iload_n 1, 1) := by decide +kernel
theorem dJ2_getChar_3b067_34 : decode cJ2_getChar_3b067 34 = .ok (.iinc 1 1, 3) := by decide +kernel
theorem dJ2_getChar_3b067_37 : decode cJ2_getChar_3b067 37 = .ok (.baload, 1) := by decide +kernel
theorem dJ2_getChar_3b067_38 : decode cJ2_getChar_3b067 38 = .ok (.sipush 255, 3) := by decide +kernel
theorem dJ2_getChar_3b067_41 : decode cJ2_getChar_3b067 41 = .ok (.iand, 1) := by decide +kernel
theorem dJ2_getChar_3b067_42 : decode cJ2_getChar_3b067 42 = .ok (.getstatic 59, 3) := by decide +kernel
theorem dJ2_getChar_3b067_45 : decode cJ2_getChar_3b067 45 = .ok (.ishl, 1) := by decide +kernel
theorem dJ2_getChar_3b067_46 : decode cJ2_getChar_3b067 46 = .ok (.aload_n 0, 1) := by decide +kernel
theorem dJ2_getChar_3b067_47 : decode cJ2_getChar_3b067 47 = .ok (.iload_n 1, 1) := by decide +kernel
theorem dJ2_getChar_3b067_48 : decode cJ2_getChar_3b067 48 = .ok (.baload, 1) := by decide +kernel
theorem dJ2_getChar_3b067_49 : decode cJ2_getChar_3b067 49 = .ok (.sipush 255, 3) := by decide +kernel
theorem dJ2_getChar_3b067_52 : decode cJ2_getChar_3b067 52 = .ok (.iand, 1) := by decide +kernel
theorem dJ2_getChar_3b067_53 : decode cJ2_getChar_3b067 53 = .ok (.getstatic 63, 3) := by decide +kernel
theorem dJ2_getChar_3b067_56 : decode cJ2_getChar_3b067 56 = .ok (.ishl, 1) := by decide +kernel
theorem dJ2_getChar_3b067_57 : decode cJ2_getChar_3b067 57 = .ok (.ior, 1) := by decide +kernel
theorem dJ2_getChar_3b067_58 : decode cJ2_getChar_3b067 58 = .ok (.i2c, 1) := by decide +kernel
theorem dJ2_getChar_3b067_59 : decode cJ2_getChar_3b067 59 = .ok (.ireturn, 1) := by decide +kernel
theorem dJ2_length_9d52b_0 : decode cJ2_length_9d52b 0 = .ok (.aload_n 0, 1) := by decide +kernel
theorem dJ2_length_9d52b_1 : decode cJ2_length_9d52b 1 = .ok (.arraylength, 1) := by decide +kernel
theorem dJ2_length_9d52b_2 : decode cJ2_length_9d52b 2 = .ok (.iconst 1, 1) := by decide +kernel
theorem dJ2_length_9d52b_3 : decode cJ2_length_9d52b 3 = .ok (.ishr, 1) := by decide +kernel
theorem dJ2_length_9d52b_4 : decode cJ2_length_9d52b 4 = .ok (.ireturn, 1) := by decide +kernel
set_option maxRecDepth 20000 in
theorem ggJ2_charAt_3b067_J2_checkIndex_2214a : GoodIn wsJ2_charAt_3b067 wsJ2_checkIndex_2214a := goodIn_r _ [4, 5, 6, 3, 7, 8, 9, 10, 11, 12, 13, 14, 15, 16] (by decide +kernel) (by decide +kernel)
set_option maxRecDepth 20000 in
theorem gJ2_charAt_3b067_J2_checkIndex_2214a : GoodIn wsJ2_charAt_3b067 (va_wsS RJ2 67 yJ2_checkIndex_2214a wsJ2_checkIndex_2214a) := goodIn_app (goodIn_of _ (by decide +kernel)) ggJ2_charAt_3b067_J2_checkIndex_2214a
set_option maxRecDepth 20000 in
theorem ggJ2_charAt_3b067_J2_getChar_3b067 : GoodIn wsJ2_charAt_3b067 wsJ2_getChar_3b067 := goodIn_r _ [19, 20, 21, 22, 5, 6, 3, 7] (by decide +kernel) (by decide +kernel)
set_option maxRecDepth 20000 in
theorem gJ2_charAt_3b067_J2_getChar_3b067 : GoodIn wsJ2_charAt_3b067 (va_wsS RJ2 71 yJ2_getChar_3b067 wsJ2_getChar_3b067) := goodIn_app (goodIn_of _ (by decide +kernel)) ggJ2_charAt_3b067_J2_getChar_3b067
theorem dJ2_charAt_3b067_0 : decode cJ2_charAt_3b067 0 = .ok (.iload_n 1, 1) := by decide +kernel
theorem dJ2_charAt_3b067_1 : decode cJ2_charAt_3b067 1 = .ok (.aload_n 0, 1) := by decide +kernel
theorem dJ2_charAt_3b067_2 : decode cJ2_charAt_3b067 2 = .ok (.invokestatic 67, 3) := by decide +kernel
theorem dJ2_charAt_3b067_5 : decode cJ2_charAt_3b067 5 = .ok (.aload_n 0, 1) := by decide +kernel
theorem dJ2_charAt_3b067_6 : decode cJ2_charAt_3b067 6 = .ok (.iload_n 1, 1) := by decide +kernel
theorem dJ2_charAt_3b067_7 : decode cJ2_charAt_3b067 7 = .ok (.invokestatic 71, 3) := by decide +kernel
theorem dJ2_charAt_3b067_10 : decode cJ2_charAt_3b067 10 = .ok (.ireturn, 1) := by decide +kernel
set_option maxRecDepth 20000 in
theorem ggJ2_checkIndex_2214a_J2_length_9d52b : GoodIn wsJ2_checkIndex_2214a wsJ2_length_9d52b := goodIn_r _ [4] (by decide +kernel) (by decide +kernel)
set_option maxRecDepth 20000 in
theorem gJ2_checkIndex_2214a_J2_length_9d52b : GoodIn wsJ2_checkIndex_2214a (va_wsS RJ2 48 yJ2_length_9d52b wsJ2_length_9d52b) := goodIn_app (goodIn_of _ (by decide +kernel)) ggJ2_checkIndex_2214a_J2_length_9d52b
set_option maxRecDepth 20000 in
theorem ggJ2_checkIndex_2214a_J0_checkIndex_df160 : GoodIn wsJ2_checkIndex_2214a wsJ0_checkIndex_df160 := goodIn_r _ [8, 9, 10, 11, 12, 13] (by decide +kernel) (by decide +kernel)
set_option maxRecDepth 20000 in
theorem gJ2_checkIndex_2214a_J0_checkIndex_df160 : GoodIn wsJ2_checkIndex_2214a (va_wsS RJ2 414 yJ0_checkIndex_df160 wsJ0_checkIndex_df160) := goodIn_app (goodIn_of _ (by decide +kernel)) ggJ2_checkIndex_2214a_J0_checkIndex_df160
theorem dJ2_checkIndex_2214a_0 : decode cJ2_checkIndex_2214a 0 = .ok (.iload_n 0, 1) := by decide +kernel
theorem dJ2_checkIndex_2214a_1 : decode cJ2_checkIndex_2214a 1 = .ok (.aload_n 1, 1) := by decide +kernel
theorem dJ2_checkIndex_2214a_2 : decode cJ2_checkIndex_2214a 2 = .ok (.invokestatic 48, 3) := by decide +kernel
theorem dJ2_checkIndex_2214a_5 : decode cJ2_checkIndex_2214a 5 = .ok (.invokestatic 414, 3) := by decide +kernel
theorem dJ2_checkIndex_2214a_8 : decode cJ2_checkIndex_2214a 8 = .ok (.return_, 1) := by decide +kernel
theorem dJ7_fill_d0a16_0 : decode cJ7_fill_d0a16 0 = .ok (.iconst 0, 1) := by decide +kernel
theorem dJ7_fill_d0a16_1 : decode cJ7_fill_d0a16 1 = .ok (.istore_n 3, 1) := by decide +kernel
theorem dJ7_fill_d0a16_2 : decode cJ7_fill_d0a16 2 = .ok (.aload_n 0, 1) := by decide +kernel
theorem dJ7_fill_d0a16_3 : decode cJ7_fill_d0a16 3 = .ok (.arraylength, 1) := by decide +kernel
theorem dJ7_fill_d0a16_4 : decode cJ7_fill_d0a16 4 = .ok (.istore 4, 2) := by decide +kernel
theorem dJ7_fill_d0a16_6 : decode cJ7_fill_d0a16 6 = .ok (.iload_n 3, 1) := by decide +kernel
theorem dJ7_fill_d0a16_7 : decode cJ7_fill_d0a16 7 = .ok (.iload 4, 2) := by decide +kernel
theorem dJ7_fill_d0a16_9 : decode cJ7_fill_d0a16 9 = .ok (.if_icmp .ge 13, 3) := by decide +kernel
theorem dJ7_fill_d0a16_12 : decode cJ7_fill_d0a16 12 = .ok (.aload_n 0, 1) := by decide +kernel
theorem dJ7_fill_d0a16_13 : decode cJ7_fill_d0a16 13 = .ok (.iload_n 3, 1) := by decide +kernel
theorem dJ7_fill_d0a16_14 : decode cJ7_fill_d0a16 14 = .ok (.lload_n 1, 1) := by decide +kernel
theorem dJ7_fill_d0a16_15 : decode cJ7_fill_d0a16 15 = .ok (.lastore, 1) := by decide +kernel
theorem dJ7_fill_d0a16_16 : decode cJ7_fill_d0a16 16 = .ok (.iinc 3 1, 3) := by decide +kernel
theorem dJ7_fill_d0a16_19 : decode cJ7_fill_d0a16 19 = .ok (.goto (-13), 3) := by decide +kernel
theorem dJ7_fill_d0a16_22 : decode cJ7_fill_d0a16 22 = .ok (.return_, 1) := by decide +kernel
theorem dJ7_fill_53178_0 : decode cJ7_fill_53178 0 = .ok (.iconst 0, 1) := by decide +kernel
theorem dJ7_fill_53178_1 : decode cJ7_fill_53178 1 = .ok (.istore_n 2, 1) := by decide +kernel
theorem dJ7_fill_53178_2 : decode cJ7_fill_53178 2 = .ok (.aload_n 0, 1) := by decide +kernel
theorem dJ7_fill_53178_3 : decode cJ7_fill_53178 3 = .ok (.arraylength, 1) := by decide +kernel
theorem dJ7_fill_53178_4 : decode cJ7_fill_53178 4 = .ok (.istore_n 3, 1) := by decide +kernel
theorem dJ7_fill_53178_5 : decode cJ7_fill_53178 5 = .ok (.iload_n 2, 1) := by decide +kernel
theorem dJ7_fill_53178_6 : decode cJ7_fill_53178 6 = .ok (.iload_n 3, 1) := by decide +kernel
theorem dJ7_fill_53178_7 : decode cJ7_fill_53178 7 = .ok (.if_icmp .ge 13, 3) := by decide +kernel
theorem dJ7_fill_53178_10 : decode cJ7_fill_53178 10 = .ok (.aload_n 0, 1) := by decide +kernel
theorem dJ7_fill_53178_11 : decode cJ7_fill_53178 11 = .ok (.iload_n 2, 1) := by decide +kernel
theorem dJ7_fill_53178_12 : decode cJ7_fill_53178 12 = .ok (.iload_n 1, 1) := by decide +kernel
theorem dJ7_fill_53178_13 : decode cJ7_fill_53178 13 = .ok (.iastore, 1) := by decide +kernel
theorem dJ7_fill_53178_14 : decode cJ7_fill_53178 14 = .ok (.iinc 2 1, 3) := by decide +kernel
theorem dJ7_fill_53178_17 : decode cJ7_fill_53178 17 = .ok (.goto (-12), 3) := by decide +kernel
theorem dJ7_fill_53178_20 : decode cJ7_fill_53178 20 = .ok (.return_, 1) := by decide +kernel
theorem dJ3_checkIndex_8e157_0 : decode cJ3_checkIndex_8e157 0 = .ok (.iload_n 0, 1) := by decide +kernel
theorem dJ3_checkIndex_8e157_1 : decode cJ3_checkIndex_8e157 1 = .ok (.ifCond .lt 8, 3) := by decide +kernel
theorem dJ3_checkIndex_8e157_4 : decode cJ3_checkIndex_8e157 4 = .ok (.iload_n 0, 1) := by decide +kernel
theorem dJ3_checkIndex_8e157_5 : decode cJ3_checkIndex_8e157 5 = .ok (.iload_n 1, 1) := by decide +kernel
theorem dJ3_checkIndex_8e157_6 : decode cJ3_checkIndex_8e157 6 = .ok (.if_icmp .lt 10, 3) := by decide +kernel
theorem dJ3_checkIndex_8e157_9 : decode cJ3_checkIndex_8e157 9 = .ok (.aload_n 2, 1) := by decide +kernel
theorem dJ3_checkIndex_8e157_10 : decode cJ3_checkIndex_8e157 10 = .ok (.iload_n 0, 1) := by decide +kernel
theorem dJ3_checkIndex_8e157_11 : decode cJ3_checkIndex_8e157 11 = .ok (.iload_n 1, 1) := by decide +kernel
theorem dJ3_checkIndex_8e157_12 : decode cJ3_checkIndex_8e157 12 = .ok (.invokestatic 95, 3) := by decide +kernel
theorem dJ3_checkIndex_8e157_15 : decode cJ3_checkIndex_8e157 15 = .ok (.athrow, 1) := by decide +kernel
theorem dJ3_checkIndex_8e157_16 : decode cJ3_checkIndex_8e157 16 = .ok (.iload_n 0, 1) := by decide +kernel
theorem dJ3_checkIndex_8e157_17 : decode cJ3_checkIndex_8e157 17 = .ok (.ireturn, 1) := by decide +kernel
set_option maxRecDepth 20000 in
theorem ggL_load_X7_load : GoodIn wsL_load wsX7_load := goodIn_ca (goodIn_r _ [6, 7, 8, 9, 10, 11, 12, 13, 14, 15, 16, 17, 18, 19, 20, 21, 22, 23, 24, 25, 26, 27, 28, 29, 30, 31, 32, 33, 34, 35, 36, 37, 38, 39, 40, 41, 42, 43, 44, 45, 46, 47, 48, 49, 50, 51, 52, 53, 54, 55, 56, 57, 58, 59, 60, 61, 62, 63, 64, 65, 66, 67, 68, 69, 70, 71, 72, 73, 74, 75, 76, 77, 78, 79, 80, 81, 82, 83, 84, 85, 86, 87, 88, 89, 90, 91, 92, 93, 94, 95, 96, 97, 98, 99, 100, 101, 102, 103, 104, 105, 106, 107, 108, 109, 110, 111, 112, 113, 114, 115, 116, 117, 118, 119, 120, 121, 122, 123, 124, 125, 126, 127, 128, 129, 130, 131, 132, 133, 134, 135, 136, 137, 138, 139, 140, 141, 142, 143, 144, 145, 146, 147, 148, 149, 150, 151, 152, 153, 154, 155, 156, 157, 158, 159, 160, 161, 162, 163, 164, 165, 166, 167, 168, 169, 170, 171, 172, 173, 174, 175, 176, 177, 178, 179, 180, 181, 182, 183, 184, 185, 186, 187, 188, 189, 190, 191, 192, 193, 194, 195, 196, 197, 198, 199, 200, 201, 202, 203, 204, 205, 206, 207, 208, 209, 210, 211, 212, 213, 214, 215, 216, 217, 218, 219, 220, 221, 222, 223, 224, 225, 226, 227, 228, 229, 230, 231, 232, 233, 234, 235, 236, 237, 238, 239, 240, 241, 242, 243, 244, 245, 246, 247, 248, 249, 250, 251, 252, 253, 254, 255, 256, 257, 258, 259, 260, 261, 262, 263, 264, 265, 266, 267, 268, 269, 270, 271, 272, 273, 274, 275, 276, 277, 278, 279, 280, 281, 282, 283, 284, 285, 286, 287, 288, 289, 290, 291, 292, 293, 294, 295, 296, 297, 298, 299, 300, 301, 302, 303, 304, 305, 306, 307, 308, 309, 310, 311, 312, 313, 314, 315, 316, 317, 318, 319, 320, 321, 322, 323] (by decide +kernel) (by decide +kernel)) (goodIn_sub (fun _ h => List.mem_cons_of_mem _ (List.mem_append_right _ h)) (by decide +kernel))
set_option maxRecDepth 20000 in
theorem gL_load_X7_load : GoodIn wsL_load (wsV RL 7 RX7 yX7_load wsX7_load) := goodIn_app (goodIn_of _ (by decide +kernel)) ggL_load_X7_load
theorem dL_load_0 : decode cL_load 0 = .ok (.aload_n 2, 1) := by decide +kernel
theorem dL_load_1 : decode cL_load 1 = .ok (.iconst 0, 1) := by decide +kernel
theorem dL_load_2 : decode cL_load 2 = .ok (.aload_n 0, 1) := by decide +kernel
theorem dL_load_3 : decode cL_load 3 = .ok (.iload_n 1, 1) := by decide +kernel
theorem dL_load_4 : decode cL_load 4 = .ok (.invokevirtual 7, 3) := by decide +kernel
theorem dL_load_7 : decode cL_load 7 = .ok (.i2l, 1) := by decide +kernel
theorem dL_load_8 : decode cL_load 8 = .ok (.lastore, 1) := by decide +kernel
theorem dL_load_9 : decode cL_load 9 = .ok (.goto 6, 3) := by decide +kernel
theorem dL_load_12 : decode cL_load 12 = .ok (.astore_n 3, 1) := by decide +kernel
theorem dL_load_13 : decode cL_load 13 = .ok (.iconst 1, 1) := by decide +kernel
theorem dL_load_14 : decode cL_load 14 = .ok (.ireturn, 1) := by decide +kernel
theorem dL_load_15 : decode cL_load 15 = .ok (.iconst 0, 1) := by decide +kernel
theorem dL_load_16 : decode cL_load 16 = .ok (.ireturn, 1) := by decide +kernel
set_option maxRecDepth 20000 in
theorem ggL_state_X7_state : GoodIn wsL_state wsX7_state := goodIn_ca (goodIn_r _ [6, 7, 8, 9, 10, 11, 12, 13, 14, 15, 16, 17, 18, 19, 20, 21, 22, 23, 24, 25, 26, 27, 28, 29, 30, 31, 32, 33, 34, 35, 36, 37, 38, 39, 40, 41, 42, 43, 44, 45, 46, 47, 48, 49, 50, 51, 52, 53, 54, 55, 56, 57, 58, 59, 60, 61, 62, 63, 64, 65, 66, 67, 68, 69, 70, 71, 72, 73, 74, 75, 76, 77, 78, 79, 80, 81, 82, 83, 84, 85, 86, 87, 88, 89, 90, 91, 92, 93, 94, 95, 96, 97, 98, 99, 100, 101] (by decide +kernel) (by decide +kernel)) (goodIn_sub (fun _ h => List.mem_cons_of_mem _ (List.mem_append_right _ h)) (by decide +kernel))
set_option maxRecDepth 20000 in
theorem gL_state_X7_state : GoodIn wsL_state (wsV RL 15 RX7 yX7_state wsX7_state) := goodIn_app (goodIn_of _ (by decide +kernel)) ggL_state_X7_state
theorem dL_state_0 : decode cL_state 0 = .ok (.aload_n 2, 1) := by decide +kernel
theorem dL_state_1 : decode cL_state 1 = .ok (.iconst 0, 1) := by decide +kernel
theorem dL_state_2 : decode cL_state 2 = .ok (.aload_n 0, 1) := by decide +kernel
theorem dL_state_3 : decode cL_state 3 = .ok (.iload_n 1, 1) := by decide +kernel
theorem dL_state_4 : decode cL_state 4 = .ok (.invokevirtual 15, 3) := by decide +kernel
theorem dL_state_7 : decode cL_state 7 = .ok (.i2l, 1) := by decide +kernel
theorem dL_state_8 : decode cL_state 8 = .ok (.lastore, 1) := by decide +kernel
theorem dL_state_9 : decode cL_state 9 = .ok (.goto 6, 3) := by decide +kernel
theorem dL_state_12 : decode cL_state 12 = .ok (.astore_n 3, 1) := by decide +kernel
theorem dL_state_13 : decode cL_state 13 = .ok (.iconst 1, 1) := by decide +kernel
theorem dL_state_14 : decode cL_state 14 = .ok (.ireturn, 1) := by decide +kernel
theorem dL_state_15 : decode cL_state 15 = .ok (.iconst 0, 1) := by decide +kernel
theorem dL_state_16 : decode cL_state 16 = .ok (.ireturn, 1) := by decide +kernel
set_option maxRecDepth 20000 in
theorem ggL_row_X7_row : GoodIn wsL_row wsX7_row := goodIn_ca (goodIn_ca (goodIn_r _ [7, 8, 9, 10, 11, 12, 13, 6, 14, 15, 16, 17, 18, 19, 20, 21, 22, 23, 24, 25, 26, 27, 28, 29, 30, 31, 32, 33, 34, 35, 36, 37, 38, 39, 40, 41, 42, 43, 44, 45, 46, 47, 48, 49, 50, 51, 52, 53, 54, 55, 56, 57, 58, 59, 60, 61] (by decide +kernel) (by decide +kernel)) (goodIn_sub (fun _ h => List.mem_cons_of_mem _ (List.mem_append_left _ (List.mem_append_right _ h))) (by decide +kernel))) (goodIn_sub (fun _ h => List.mem_cons_of_mem _ (List.mem_append_right _ h)) (by decide +kernel))
set_option maxRecDepth 20000 in
theorem gL_row_X7_row : GoodIn wsL_row (wsV RL 18 RX7 yX7_row wsX7_row) := goodIn_app (goodIn_of _ (by decide +kernel)) ggL_row_X7_row
theorem dL_row_0 : decode cL_row 0 = .ok (.aload_n 3, 1) := by decide +kernel
theorem dL_row_1 : decode cL_row 1 = .ok (.iconst 0, 1) := by decide +kernel
theorem dL_row_2 : decode cL_row 2 = .ok (.aload_n 0, 1) := by decide +kernel
theorem dL_row_3 : decode cL_row 3 = .ok (.iload_n 1, 1) := by decide +kernel
theorem dL_row_4 : decode cL_row 4 = .ok (.iload_n 2, 1) := by decide +kernel
theorem dL_row_5 : decode cL_row 5 = .ok (.invokevirtual 18, 3) := by decide +kernel
theorem dL_row_8 : decode cL_row 8 = .ok (.i2l, 1) := by decide +kernel
theorem dL_row_9 : decode cL_row 9 = .ok (.lastore, 1) := by decide +kernel
theorem dL_row_10 : decode cL_row 10 = .ok (.goto 11, 3) := by decide +kernel
theorem dL_row_13 : decode cL_row 13 = .ok (.astore 4, 2) := by decide +kernel
theorem dL_row_15 : decode cL_row 15 = .ok (.iconst 1, 1) := by decide +kernel
theorem dL_row_16 : decode cL_row 16 = .ok (.ireturn, 1) := by decide +kernel
theorem dL_row_17 : decode cL_row 17 = .ok (.astore 4, 2) := by decide +kernel
theorem dL_row_19 : decode cL_row 19 = .ok (.iconst 2, 1) := by decide +kernel
theorem dL_row_20 : decode cL_row 20 = .ok (.ireturn, 1) := by decide +kernel
theorem dL_row_21 : decode cL_row 21 = .ok (.iconst 0, 1) := by decide +kernel
theorem dL_row_22 : decode cL_row 22 = .ok (.ireturn, 1) := by decide +kernel
set_option maxRecDepth 20000 in
theorem ggL_tile_X7_tile : GoodIn wsL_tile wsX7_tile := goodIn_ca (goodIn_ca (goodIn_r _ [7, 8, 9, 10, 11, 12, 13, 14, 15, 6, 16, 17, 18, 19, 20, 21, 22, 23, 24, 25, 26, 27, 28, 29, 30, 31, 32, 33, 34, 35, 36, 37, 38, 39, 40, 41, 42, 43, 44, 45, 46, 47, 48, 49, 50, 51, 52, 53, 54, 55] (by decide +kernel) (by decide +kernel)) (goodIn_sub (fun _ h => List.mem_cons_of_mem _ (List.mem_append_left _ (List.mem_append_right _ h))) (by decide +kernel))) (goodIn_sub (fun _ h => List.mem_cons_of_mem _ (List.mem_append_right _ h)) (by decide +kernel))
set_option maxRecDepth 20000 in
theorem gL_tile_X7_tile : GoodIn wsL_tile (wsV RL 24 RX7 yX7_tile wsX7_tile) := goodIn_app (goodIn_of _ (by decide +kernel)) ggL_tile_X7_tile
theorem dL_tile_0 : decode cL_tile 0 = .ok (.aload_n 3, 1) := by decide +kernel
theorem dL_tile_1 : decode cL_tile 1 = .ok (.iconst 0, 1) := by decide +kernel
theorem dL_tile_2 : decode cL_tile 2 = .ok (.aload_n 0, 1) := by decide +kernel
theorem dL_tile_3 : decode cL_tile 3 = .ok (.iload_n 1, 1) := by decide +kernel
theorem dL_tile_4 : decode cL_tile 4 = .ok (.iload_n 2, 1) := by decide +kernel
theorem dL_tile_5 : decode cL_tile 5 = .ok (.invokevirtual 24, 3) := by decide +kernel
theorem dL_tile_8 : decode cL_tile 8 = .ok (.i2l, 1) := by decide +kernel
theorem dL_tile_9 : decode cL_tile 9 = .ok (.lastore, 1) := by decide +kernel
theorem dL_tile_10 : decode cL_tile 10 = .ok (.goto 11, 3) := by decide +kernel
theorem dL_tile_13 : decode cL_tile 13 = .ok (.astore 4, 2) := by decide +kernel
theorem dL_tile_15 : decode cL_tile 15 = .ok (.iconst 1, 1) := by decide +kernel
theorem dL_tile_16 : decode cL_tile 16 = .ok (.ireturn, 1) := by decide +kernel
theorem dL_tile_17 : decode cL_tile 17 = .ok (.astore 4, 2) := by decide +kernel
theorem dL_tile_19 : decode cL_tile 19 = .ok (.iconst 2, 1) := by decide +kernel
theorem dL_tile_20 : decode cL_tile 20 = .ok (.ireturn, 1) := by decide +kernel
theorem dL_tile_21 : decode cL_tile 21 = .ok (.iconst 0, 1) := by decide +kernel
theorem dL_tile_22 : decode cL_tile 22 = .ok (.ireturn, 1) := by decide +kernel
set_option maxRecDepth 20000 in
theorem ggL_player_X7_player : GoodIn wsL_player wsX7_player := goodIn_ca (goodIn_ca (goodIn_r _ [7, 8, 9, 10, 11, 12, 13, 6, 14, 15, 16, 17, 18, 19, 20, 21, 22, 23, 24, 25, 26, 27, 28, 29, 30, 31, 32, 33, 34, 35, 36, 37, 38, 39, 40, 41, 42, 43, 44, 45, 46, 47, 48, 49, 50, 51, 52, 53, 54, 55, 56, 57, 58, 59, 60, 61, 62, 63, 64, 65, 66, 67, 68, 69, 70, 71, 72, 73, 74] (by decide +kernel) (by decide +kernel)) (goodIn_sub (fun _ h => List.mem_cons_of_mem _ (List.mem_append_left _ (List.mem_append_right _ h))) (by decide +kernel))) (goodIn_sub (fun _ h => List.mem_cons_of_mem _ (List.mem_append_right _ h)) (by decide +kernel))
set_option maxRecDepth 20000 in
theorem gL_player_X7_player : GoodIn wsL_player (wsV RL 29 RX7 yX7_player wsX7_player) := goodIn_app (goodIn_of _ (by decide +kernel)) ggL_player_X7_player
theorem dL_player_0 : decode cL_player 0 = .ok (.aload_n 3, 1) := by decide +kernel
theorem dL_player_1 : decode cL_player 1 = .ok (.iconst 0, 1) := by decide +kernel
theorem dL_player_2 : decode cL_player 2 = .ok (.aload_n 0, 1) := by decide +kernel
theorem dL_player_3 : decode cL_player 3 = .ok (.iload_n 1, 1) := by decide +kernel
theorem dL_player_4 : decode cL_player 4 = .ok (.iload_n 2, 1) := by decide +kernel
theorem dL_player_5 : decode cL_player 5 = .ok (.invokevirtual 29, 3) := by decide +kernel
theorem dL_player_8 : decode cL_player 8 = .ok (.i2l, 1) := by decide +kernel
theorem dL_player_9 : decode cL_player 9 = .ok (.lastore, 1) := by decide +kernel
theorem dL_player_10 : decode cL_player 10 = .ok (.goto 11, 3) := by decide +kernel
theorem dL_player_13 : decode cL_player 13 = .ok (.astore 4, 2) := by decide +kernel
theorem dL_player_15 : decode cL_player 15 = .ok (.iconst 1, 1) := by decide +kernel
theorem dL_player_16 : decode cL_player 16 = .ok (.ireturn, 1) := by decide +kernel
theorem dL_player_17 : decode cL_player 17 = .ok (.astore 4, 2) := by decide +kernel
theorem dL_player_19 : decode cL_player 19 = .ok (.iconst 2, 1) := by decide +kernel
theorem dL_player_20 : decode cL_player 20 = .ok (.ireturn, 1) := by decide +kernel
theorem dL_player_21 : decode cL_player 21 = .ok (.iconst 0, 1) := by decide +kernel
theorem dL_player_22 : decode cL_player 22 = .ok (.ireturn, 1) := by decide +kernel
set_option maxRecDepth 20000 in
theorem ggL_letter_X7_letter : GoodIn wsL_letter wsX7_letter := goodIn_ca (goodIn_ca (goodIn_r _ [7, 8, 9, 10, 11, 12, 13, 6, 14, 15, 16, 17, 18, 19, 20, 21, 22, 23, 24, 25, 26, 27, 28, 29, 30, 31, 32, 33, 34, 35, 36, 37, 38, 39, 40, 41, 42, 43, 44, 45, 46, 47, 48, 49, 50, 51, 52, 53, 54, 55, 56, 57, 58, 59, 60, 61, 62, 63, 64, 65, 66, 67] (by decide +kernel) (by decide +kernel)) (goodIn_sub (fun _ h => List.mem_cons_of_mem _ (List.mem_append_left _ (List.mem_append_right _ h))) (by decide +kernel))) (goodIn_sub (fun _ h => List.mem_cons_of_mem _ (List.mem_append_right _ h)) (by decide +kernel))
set_option maxRecDepth 20000 in
theorem gL_letter_X7_letter : GoodIn wsL_letter (wsV RL 32 RX7 yX7_letter wsX7_letter) := goodIn_app (goodIn_of _ (by decide +kernel)) ggL_letter_X7_letter
theorem dL_letter_0 : decode cL_letter 0 = .ok (.aload 4, 2) := by decide +kernel
theorem dL_letter_2 : decode cL_letter 2 = .ok (.iconst 0, 1) := by decide +kernel
theorem dL_letter_3 : decode cL_letter 3 = .ok (.aload_n 0, 1) := by decide +kernel
theorem dL_letter_4 : decode cL_letter 4 = .ok (.iload_n 1, 1) := by decide +kernel
theorem dL_letter_5 : decode cL_letter 5 = .ok (.iload_n 2, 1) := by decide +kernel
theorem dL_letter_6 : decode cL_letter 6 = .ok (.iload_n 3, 1) := by decide +kernel
theorem dL_letter_7 : decode cL_letter 7 = .ok (.invokevirtual 32, 3) := by decide +kernel
theorem dL_letter_10 : decode cL_letter 10 = .ok (.i2l, 1) := by decide +kernel
theorem dL_letter_11 : decode cL_letter 11 = .ok (.lastore, 1) := by decide +kernel
theorem dL_letter_12 : decode cL_letter 12 = .ok (.goto 11, 3) := by decide +kernel
theorem dL_letter_15 : decode cL_letter 15 = .ok (.astore 5, 2) := by decide +kernel
theorem dL_letter_17 : decode cL_letter 17 = .ok (.iconst 1, 1) := by decide +kernel
theorem dL_letter_18 : decode cL_letter 18 = .ok (.ireturn, 1) := by decide +kernel
theorem dL_letter_19 : decode cL_letter 19 = .ok (.astore 5, 2) := by decide +kernel
theorem dL_letter_21 : decode cL_letter 21 = .ok (.iconst 2, 1) := by decide +kernel
theorem dL_letter_22 : decode cL_letter 22 = .ok (.ireturn, 1) := by decide +kernel
theorem dL_letter_23 : decode cL_letter 23 = .ok (.iconst 0, 1) := by decide +kernel
theorem dL_letter_24 : decode cL_letter 24 = .ok (.ireturn, 1) := by decide +kernel
set_option maxRecDepth 20000 in
theorem ggL_alike_X7_alike : GoodIn wsL_alike wsX7_alike := goodIn_ca (goodIn_r _ [6, 7, 8, 9, 10, 11, 12, 13, 14, 15, 16, 17, 18, 19, 20, 21, 22, 23, 24, 25, 26, 27, 28, 29, 30, 31, 32, 33, 34, 35, 36, 37, 38, 39, 40] (by decide +kernel) (by decide +kernel)) (goodIn_sub (fun _ h => List.mem_cons_of_mem _ (List.mem_append_right _ h)) (by decide +kernel))
set_option maxRecDepth 20000 in
theorem gL_alike_X7_alike : GoodIn wsL_alike (wsV RL 36 RX7 yX7_alike wsX7_alike) := goodIn_app (goodIn_of _ (by decide +kernel)) ggL_alike_X7_alike
theorem dL_alike_0 : decode cL_alike 0 = .ok (.aload_n 3, 1) := by decide +kernel
theorem dL_alike_1 : decode cL_alike 1 = .ok (.iconst 0, 1) := by decide +kernel
theorem dL_alike_2 : decode cL_alike 2 = .ok (.aload_n 0, 1) := by decide +kernel
theorem dL_alike_3 : decode cL_alike 3 = .ok (.iload_n 1, 1) := by decide +kernel
theorem dL_alike_4 : decode cL_alike 4 = .ok (.iload_n 2, 1) := by decide +kernel
theorem dL_alike_5 : decode cL_alike 5 = .ok (.invokevirtual 36, 3) := by decide +kernel
theorem dL_alike_8 : decode cL_alike 8 = .ok (.ifCond .eq 7, 3) := by decide +kernel
theorem dL_alike_11 : decode cL_alike 11 = .ok (.lconst 1, 1) := by decide +kernel
theorem dL_alike_12 : decode cL_alike 12 = .ok (.goto 4, 3) := by decide +kernel
theorem dL_alike_15 : decode cL_alike 15 = .ok (.lconst 0, 1) := by decide +kernel
theorem dL_alike_16 : decode cL_alike 16 = .ok (.lastore, 1) := by decide +kernel
theorem dL_alike_17 : decode cL_alike 17 = .ok (.goto 7, 3) := by decide +kernel
theorem dL_alike_20 : decode cL_alike 20 = .ok (.astore 4, 2) := by decide +kernel
theorem dL_alike_22 : decode cL_alike 22 = .ok (.iconst 1, 1) := by decide +kernel
theorem dL_alike_23 : decode cL_alike 23 = .ok (.ireturn, 1) := by decide +kernel
theorem dL_alike_24 : decode cL_alike 24 = .ok (.iconst 0, 1) := by decide +kernel
theorem dL_alike_25 : decode cL_alike 25 = .ok (.ireturn, 1) := by decide +kernel
set_option maxRecDepth 20000 in
theorem ggL_rhyme_X7_rhyme : GoodIn wsL_rhyme wsX7_rhyme := goodIn_ca (goodIn_r _ [6, 7, 8, 9, 10, 11, 12, 13, 5, 14, 15, 16, 17, 18, 19, 20, 21, 22, 23, 24, 25, 26, 27, 28, 29, 30, 31, 32, 33, 34, 35, 36, 37, 38, 39, 40, 41, 42, 43, 44, 45, 46, 47, 48, 49, 50, 51, 52, 53, 54, 55, 56, 57, 58, 59, 60, 61, 62, 63, 64, 65, 66, 67, 68, 69] (by decide +kernel) (by decide +kernel)) (goodIn_sub (fun _ h => List.mem_cons_of_mem _ (List.mem_append_right _ h)) (by decide +kernel))
set_option maxRecDepth 20000 in
theorem gL_rhyme_X7_rhyme : GoodIn wsL_rhyme (wsV RL 40 RX7 yX7_rhyme wsX7_rhyme) := goodIn_app (goodIn_of _ (by decide +kernel)) ggL_rhyme_X7_rhyme
theorem dL_rhyme_0 : decode cL_rhyme 0 = .ok (.aload 4, 2) := by decide +kernel
theorem dL_rhyme_2 : decode cL_rhyme 2 = .ok (.iconst 0, 1) := by decide +kernel
theorem dL_rhyme_3 : decode cL_rhyme 3 = .ok (.aload_n 0, 1) := by decide +kernel
theorem dL_rhyme_4 : decode cL_rhyme 4 = .ok (.iload_n 1, 1) := by decide +kernel
theorem dL_rhyme_5 : decode cL_rhyme 5 = .ok (.iload_n 2, 1) := by decide +kernel
theorem dL_rhyme_6 : decode cL_rhyme 6 = .ok (.iload_n 3, 1) := by decide +kernel
theorem dL_rhyme_7 : decode cL_rhyme 7 = .ok (.invokevirtual 40, 3) := by decide +kernel
theorem dL_rhyme_10 : decode cL_rhyme 10 = .ok (.i2l, 1) := by decide +kernel
theorem dL_rhyme_11 : decode cL_rhyme 11 = .ok (.lastore, 1) := by decide +kernel
theorem dL_rhyme_12 : decode cL_rhyme 12 = .ok (.goto 7, 3) := by decide +kernel
theorem dL_rhyme_15 : decode cL_rhyme 15 = .ok (.astore 5, 2) := by decide +kernel
theorem dL_rhyme_17 : decode cL_rhyme 17 = .ok (.iconst 1, 1) := by decide +kernel
theorem dL_rhyme_18 : decode cL_rhyme 18 = .ok (.ireturn, 1) := by decide +kernel
theorem dL_rhyme_19 : decode cL_rhyme 19 = .ok (.iconst 0, 1) := by decide +kernel
theorem dL_rhyme_20 : decode cL_rhyme 20 = .ok (.ireturn, 1) := by decide +kernel
set_option maxRecDepth 20000 in
theorem ggL_why_X7_why : GoodIn wsL_why wsX7_why := goodIn_ca (goodIn_r _ [6, 7, 8, 9, 10, 11, 5, 12, 13, 14, 15, 16, 17, 18, 19, 20, 21, 22, 23, 24, 25, 26, 27, 28, 29, 30, 31, 32, 33, 34, 35, 36, 37, 38, 39, 40, 41, 42, 43, 44, 45, 46, 47, 48, 49, 50, 51, 52, 53, 54, 55, 56, 57, 58, 59, 60, 61, 62, 63, 64, 65, 66, 67, 68, 69, 70, 71, 72, 73, 74, 75, 76, 77, 78, 79, 80, 81, 82, 83, 84, 85, 86, 87] (by decide +kernel) (by decide +kernel)) (goodIn_sub (fun _ h => List.mem_cons_of_mem _ (List.mem_append_right _ h)) (by decide +kernel))
set_option maxRecDepth 20000 in
theorem gL_why_X7_why : GoodIn wsL_why (wsV RL 43 RX7 yX7_why wsX7_why) := goodIn_app (goodIn_of _ (by decide +kernel)) ggL_why_X7_why
theorem dL_why_0 : decode cL_why 0 = .ok (.aload_n 3, 1) := by decide +kernel
theorem dL_why_1 : decode cL_why 1 = .ok (.iconst 0, 1) := by decide +kernel
theorem dL_why_2 : decode cL_why 2 = .ok (.aload_n 0, 1) := by decide +kernel
theorem dL_why_3 : decode cL_why 3 = .ok (.iload_n 1, 1) := by decide +kernel
theorem dL_why_4 : decode cL_why 4 = .ok (.iload_n 2, 1) := by decide +kernel
theorem dL_why_5 : decode cL_why 5 = .ok (.invokevirtual 43, 3) := by decide +kernel
theorem dL_why_8 : decode cL_why 8 = .ok (.i2l, 1) := by decide +kernel
theorem dL_why_9 : decode cL_why 9 = .ok (.lastore, 1) := by decide +kernel
theorem dL_why_10 : decode cL_why 10 = .ok (.goto 7, 3) := by decide +kernel
theorem dL_why_13 : decode cL_why 13 = .ok (.astore 4, 2) := by decide +kernel
theorem dL_why_15 : decode cL_why 15 = .ok (.iconst 1, 1) := by decide +kernel
theorem dL_why_16 : decode cL_why 16 = .ok (.ireturn, 1) := by decide +kernel
theorem dL_why_17 : decode cL_why 17 = .ok (.iconst 0, 1) := by decide +kernel
theorem dL_why_18 : decode cL_why 18 = .ok (.ireturn, 1) := by decide +kernel
set_option maxRecDepth 20000 in
theorem ggL_play_X7_play : GoodIn wsL_play wsX7_play := goodIn_ca (goodIn_ca (goodIn_ca (goodIn_r _ [8, 9, 10, 11, 12, 13, 14, 15, 16, 17, 7, 18, 19, 20, 21, 22, 23, 24, 25, 26, 27, 28, 29, 30, 31, 32, 33, 34, 35, 36, 37, 38, 39, 40, 41, 42, 43, 44, 45, 46, 47, 48, 49, 50, 51, 52, 53, 54, 55, 56, 57, 58, 59, 60, 61, 62, 63, 64, 65, 66, 67, 68, 69, 70, 71, 72, 73, 74, 75, 76, 77, 78, 79, 80, 81, 82, 83, 84, 85, 86, 87, 88, 89, 90, 91, 92, 93, 94, 95, 96, 97, 98, 99, 100, 101, 102, 103, 104, 105, 106, 107, 108, 109, 110, 111, 112, 113, 114, 115, 116, 117, 118, 119, 120, 121, 122, 123, 124, 125, 126, 127, 128] (by decide +kernel) (by decide +kernel)) (goodIn_sub (fun _ h => List.mem_cons_of_mem _ (List.mem_append_left _ (List.mem_append_left _ (List.mem_append_right _ h)))) (by decide +kernel))) (goodIn_sub (fun _ h => List.mem_cons_of_mem _ (List.mem_append_left _ (List.mem_append_right _ h))) (by decide +kernel))) (goodIn_sub (fun _ h => List.mem_cons_of_mem _ (List.mem_append_right _ h)) (by decide +kernel))
set_option maxRecDepth 20000 in
theorem gL_play_X7_play : GoodIn wsL_play (wsV RL 46 RX7 yX7_play wsX7_play) := goodIn_app (goodIn_of _ (by decide +kernel)) ggL_play_X7_play
theorem dL_play_0 : decode cL_play 0 = .ok (.aload 4, 2) := by decide +kernel
theorem dL_play_2 : decode cL_play 2 = .ok (.iconst 0, 1) := by decide +kernel
theorem dL_play_3 : decode cL_play 3 = .ok (.aload_n 0, 1) := by decide +kernel
theorem dL_play_4 : decode cL_play 4 = .ok (.iload_n 1, 1) := by decide +kernel
theorem dL_play_5 : decode cL_play 5 = .ok (.iload_n 2, 1) := by decide +kernel
theorem dL_play_6 : decode cL_play 6 = .ok (.iload_n 3, 1) := by decide +kernel
theorem dL_play_7 : decode cL_play 7 = .ok (.invokevirtual 46, 3) := by decide +kernel
theorem dL_play_10 : decode cL_play 10 = .ok (.i2l, 1) := by decide +kernel
theorem dL_play_11 : decode cL_play 11 = .ok (.lastore, 1) := by decide +kernel
theorem dL_play_12 : decode cL_play 12 = .ok (.goto 15, 3) := by decide +kernel
theorem dL_play_15 : decode cL_play 15 = .ok (.astore 5, 2) := by decide +kernel
theorem dL_play_17 : decode cL_play 17 = .ok (.iconst 1, 1) := by decide +kernel
theorem dL_play_18 : decode cL_play 18 = .ok (.ireturn, 1) := by decide +kernel
theorem dL_play_19 : decode cL_play 19 = .ok (.astore 5, 2) := by decide +kernel
theorem dL_play_21 : decode cL_play 21 = .ok (.iconst 2, 1) := by decide +kernel
theorem dL_play_22 : decode cL_play 22 = .ok (.ireturn, 1) := by decide +kernel
theorem dL_play_23 : decode cL_play 23 = .ok (.astore 5, 2) := by decide +kernel
theorem dL_play_25 : decode cL_play 25 = .ok (.iconst 3, 1) := by decide +kernel
theorem dL_play_26 : decode cL_play 26 = .ok (.ireturn, 1) := by decide +kernel
theorem dL_play_27 : decode cL_play 27 = .ok (.iconst 0, 1) := by decide +kernel
theorem dL_play_28 : decode cL_play 28 = .ok (.ireturn, 1) := by decide +kernel
set_option maxRecDepth 20000 in
theorem ggL_chain_X7_chain : GoodIn wsL_chain wsX7_chain := goodIn_ca (goodIn_r _ [6, 7, 8, 9, 10, 11, 12, 5, 13, 14, 15, 16, 17, 18, 19, 20, 21, 22, 23, 24, 25, 26, 27, 28, 29, 30, 31, 32, 33, 34, 35, 36, 37, 38, 39, 40, 41, 42, 43, 44, 45, 46, 47, 48, 49, 50, 51, 52, 53, 54, 55, 56, 57, 58, 59, 60, 61, 62, 63, 64, 65, 66, 67, 68, 69, 70, 71, 72, 73, 74, 75, 76, 77, 78, 79, 80, 81, 82, 83, 84, 85, 86, 87, 88, 89, 90, 91, 92, 93, 94, 95, 96, 97, 98, 99, 100, 101, 102, 103, 104, 105, 106, 107, 108, 109, 110, 111, 112, 113, 114, 115, 116, 117, 118, 119, 120, 121, 122, 123, 124, 125, 126, 127, 128, 129, 130, 131, 132, 133, 134, 135, 136, 137, 138, 139, 140, 141, 142, 143, 144, 145, 146, 147, 148, 149, 150, 151, 152, 153, 154, 155, 156, 157] (by decide +kernel) (by decide +kernel)) (goodIn_sub (fun _ h => List.mem_cons_of_mem _ (List.mem_append_right _ h)) (by decide +kernel))
set_option maxRecDepth 20000 in
theorem gL_chain_X7_chain : GoodIn wsL_chain (wsV RL 49 RX7 yX7_chain wsX7_chain) := goodIn_app (goodIn_of _ (by decide +kernel)) ggL_chain_X7_chain
theorem dL_chain_0 : decode cL_chain 0 = .ok (.aload_n 3, 1) := by decide +kernel
theorem dL_chain_1 : decode cL_chain 1 = .ok (.iconst 0, 1) := by decide +kernel
theorem dL_chain_2 : decode cL_chain 2 = .ok (.aload_n 0, 1) := by decide +kernel
theorem dL_chain_3 : decode cL_chain 3 = .ok (.iload_n 1, 1) := by decide +kernel
theorem dL_chain_4 : decode cL_chain 4 = .ok (.iload_n 2, 1) := by decide +kernel
theorem dL_chain_5 : decode cL_chain 5 = .ok (.invokevirtual 49, 3) := by decide +kernel
theorem dL_chain_8 : decode cL_chain 8 = .ok (.i2l, 1) := by decide +kernel
theorem dL_chain_9 : decode cL_chain 9 = .ok (.lastore, 1) := by decide +kernel
theorem dL_chain_10 : decode cL_chain 10 = .ok (.goto 7, 3) := by decide +kernel
theorem dL_chain_13 : decode cL_chain 13 = .ok (.astore 4, 2) := by decide +kernel
theorem dL_chain_15 : decode cL_chain 15 = .ok (.iconst 1, 1) := by decide +kernel
theorem dL_chain_16 : decode cL_chain 16 = .ok (.ireturn, 1) := by decide +kernel
theorem dL_chain_17 : decode cL_chain 17 = .ok (.iconst 0, 1) := by decide +kernel
theorem dL_chain_18 : decode cL_chain 18 = .ok (.ireturn, 1) := by decide +kernel
set_option maxRecDepth 20000 in
theorem ggL_worth_X7_worth : GoodIn wsL_worth wsX7_worth := goodIn_ca (goodIn_r _ [6, 7, 8, 9, 10, 11, 12, 5, 13, 14, 15, 16, 17, 18, 19, 20, 21, 22, 23, 24, 25, 26, 27, 28, 29, 30, 31, 32, 33, 34, 35, 36, 37, 38, 39, 40, 41, 42, 43, 44, 45, 46, 47, 48, 49, 50, 51, 52, 53, 54, 55, 56, 57, 58, 59, 60, 61, 62, 63, 64, 65, 66, 67, 68, 69, 70, 71, 72, 73, 74, 75, 76, 77, 78, 79, 80, 81, 82, 83, 84, 85, 86, 87, 88, 89, 90, 91, 92, 93, 94, 95, 96, 97, 98, 99, 100, 101, 102, 103, 104, 105, 106, 107, 108, 109, 110, 111, 112, 113, 114, 115, 116, 117, 118, 119, 120, 121, 122, 123, 124, 125, 126, 127, 128, 129, 130, 131, 132, 133, 134, 135, 136, 137, 138, 139, 140, 141, 142, 143, 144, 145, 146, 147, 148, 149, 150, 151, 152, 153, 154, 155, 156, 157] (by decide +kernel) (by decide +kernel)) (goodIn_sub (fun _ h => List.mem_cons_of_mem _ (List.mem_append_right _ h)) (by decide +kernel))
set_option maxRecDepth 20000 in
theorem gL_worth_X7_worth : GoodIn wsL_worth (wsV RL 52 RX7 yX7_worth wsX7_worth) := goodIn_app (goodIn_of _ (by decide +kernel)) ggL_worth_X7_worth
theorem dL_worth_0 : decode cL_worth 0 = .ok (.aload_n 3, 1) := by decide +kernel
theorem dL_worth_1 : decode cL_worth 1 = .ok (.iconst 0, 1) := by decide +kernel
theorem dL_worth_2 : decode cL_worth 2 = .ok (.aload_n 0, 1) := by decide +kernel
theorem dL_worth_3 : decode cL_worth 3 = .ok (.iload_n 1, 1) := by decide +kernel
theorem dL_worth_4 : decode cL_worth 4 = .ok (.iload_n 2, 1) := by decide +kernel
theorem dL_worth_5 : decode cL_worth 5 = .ok (.invokevirtual 52, 3) := by decide +kernel
theorem dL_worth_8 : decode cL_worth 8 = .ok (.i2l, 1) := by decide +kernel
theorem dL_worth_9 : decode cL_worth 9 = .ok (.lastore, 1) := by decide +kernel
theorem dL_worth_10 : decode cL_worth 10 = .ok (.goto 7, 3) := by decide +kernel
theorem dL_worth_13 : decode cL_worth 13 = .ok (.astore 4, 2) := by decide +kernel
theorem dL_worth_15 : decode cL_worth 15 = .ok (.iconst 1, 1) := by decide +kernel
theorem dL_worth_16 : decode cL_worth 16 = .ok (.ireturn, 1) := by decide +kernel
theorem dL_worth_17 : decode cL_worth 17 = .ok (.iconst 0, 1) := by decide +kernel
theorem dL_worth_18 : decode cL_worth 18 = .ok (.ireturn, 1) := by decide +kernel
set_option maxRecDepth 20000 in
theorem ggL_fillings_X7_fillings : GoodIn wsL_fillings wsX7_fillings := goodIn_ca (goodIn_r _ [6, 7, 8, 9, 10, 11, 12, 5, 13, 14, 15, 16, 17, 18, 19, 20, 21, 22, 23, 24, 25, 26, 27, 28, 29, 30, 31, 32, 33, 34, 35, 36, 37, 38, 39, 40, 41, 42, 43, 44, 45, 46, 47, 48, 49, 50, 51, 52, 53, 54, 55, 56, 57, 58, 59, 60, 61, 62, 63, 64, 65, 66, 67, 68, 69, 70, 71, 72, 73, 74, 75, 76, 77, 78, 79, 80, 81, 82, 83, 84, 85, 86, 87, 88, 89, 90, 91, 92, 93, 94, 95, 96, 97, 98, 99, 100, 101, 102, 103, 104, 105, 106, 107, 108, 109, 110, 111, 112, 113, 114, 115, 116, 117, 118, 119, 120, 121, 122, 123, 124, 125, 126, 127, 128, 129, 130, 131, 132, 133, 134, 135, 136, 137, 138, 139, 140, 141, 142, 143, 144, 145, 146, 147, 148, 149, 150, 151, 152, 153, 154, 155, 156, 157, 158] (by decide +kernel) (by decide +kernel)) (goodIn_sub (fun _ h => List.mem_cons_of_mem _ (List.mem_append_right _ h)) (by decide +kernel))
set_option maxRecDepth 20000 in
theorem gL_fillings_X7_fillings : GoodIn wsL_fillings (wsV RL 55 RX7 yX7_fillings wsX7_fillings) := goodIn_app (goodIn_of _ (by decide +kernel)) ggL_fillings_X7_fillings
theorem dL_fillings_0 : decode cL_fillings 0 = .ok (.aload_n 3, 1) := by decide +kernel
theorem dL_fillings_1 : decode cL_fillings 1 = .ok (.iconst 0, 1) := by decide +kernel
theorem dL_fillings_2 : decode cL_fillings 2 = .ok (.aload_n 0, 1) := by decide +kernel
theorem dL_fillings_3 : decode cL_fillings 3 = .ok (.iload_n 1, 1) := by decide +kernel
theorem dL_fillings_4 : decode cL_fillings 4 = .ok (.iload_n 2, 1) := by decide +kernel
theorem dL_fillings_5 : decode cL_fillings 5 = .ok (.invokevirtual 55, 3) := by decide +kernel
theorem dL_fillings_8 : decode cL_fillings 8 = .ok (.i2l, 1) := by decide +kernel
theorem dL_fillings_9 : decode cL_fillings 9 = .ok (.lastore, 1) := by decide +kernel
theorem dL_fillings_10 : decode cL_fillings 10 = .ok (.goto 7, 3) := by decide +kernel
theorem dL_fillings_13 : decode cL_fillings 13 = .ok (.astore 4, 2) := by decide +kernel
theorem dL_fillings_15 : decode cL_fillings 15 = .ok (.iconst 1, 1) := by decide +kernel
theorem dL_fillings_16 : decode cL_fillings 16 = .ok (.ireturn, 1) := by decide +kernel
theorem dL_fillings_17 : decode cL_fillings 17 = .ok (.iconst 0, 1) := by decide +kernel
theorem dL_fillings_18 : decode cL_fillings 18 = .ok (.ireturn, 1) := by decide +kernel
set_option maxRecDepth 20000 in
theorem ggL_threats_X7_threats : GoodIn wsL_threats wsX7_threats := goodIn_ca (goodIn_r _ [6, 7, 8, 9, 10, 11, 12, 5, 13, 14, 15, 16, 17, 18, 19, 20, 21, 22, 23, 24, 25, 26, 27, 28, 29, 30, 31, 32, 33, 34, 35, 36, 37, 38, 39, 40, 41, 42, 43, 44, 45, 46, 47, 48, 49, 50, 51, 52, 53, 54, 55, 56, 57, 58, 59, 60, 61, 62, 63, 64, 65, 66, 67, 68, 69, 70, 71, 72, 73, 74, 75, 76, 77, 78, 79, 80, 81] (by decide +kernel) (by decide +kernel)) (goodIn_sub (fun _ h => List.mem_cons_of_mem _ (List.mem_append_right _ h)) (by decide +kernel))
set_option maxRecDepth 20000 in
theorem gL_threats_X7_threats : GoodIn wsL_threats (wsV RL 58 RX7 yX7_threats wsX7_threats) := goodIn_app (goodIn_of _ (by decide +kernel)) ggL_threats_X7_threats
theorem dL_threats_0 : decode cL_threats 0 = .ok (.aload_n 2, 1) := by decide +kernel
theorem dL_threats_1 : decode cL_threats 1 = .ok (.iconst 0, 1) := by decide +kernel
theorem dL_threats_2 : decode cL_threats 2 = .ok (.aload_n 0, 1) := by decide +kernel
theorem dL_threats_3 : decode cL_threats 3 = .ok (.iload_n 1, 1) := by decide +kernel
theorem dL_threats_4 : decode cL_threats 4 = .ok (.invokevirtual 58, 3) := by decide +kernel
theorem dL_threats_7 : decode cL_threats 7 = .ok (.i2l, 1) := by decide +kernel
theorem dL_threats_8 : decode cL_threats 8 = .ok (.lastore, 1) := by decide +kernel
theorem dL_threats_9 : decode cL_threats 9 = .ok (.goto 6, 3) := by decide +kernel
theorem dL_threats_12 : decode cL_threats 12 = .ok (.astore_n 3, 1) := by decide +kernel
theorem dL_threats_13 : decode cL_threats 13 = .ok (.iconst 1, 1) := by decide +kernel
theorem dL_threats_14 : decode cL_threats 14 = .ok (.ireturn, 1) := by decide +kernel
theorem dL_threats_15 : decode cL_threats 15 = .ok (.iconst 0, 1) := by decide +kernel
theorem dL_threats_16 : decode cL_threats 16 = .ok (.ireturn, 1) := by decide +kernel
set_option maxRecDepth 20000 in
theorem ggL_lay_X7_lay : GoodIn wsL_lay wsX7_lay := goodIn_ca (goodIn_ca (goodIn_r _ [7, 8, 9, 10, 11, 12, 13, 14, 15, 6, 16, 17, 18, 19, 20, 21, 22, 23, 24, 25, 26, 27, 28, 29, 30, 31, 32, 33, 34, 35, 36, 37, 38, 39, 40, 41, 42, 43, 44, 45, 46, 47, 48, 49, 50, 51, 52, 53, 54, 55, 56, 57, 58, 59, 60, 61, 62, 63, 64, 65, 66, 67, 68, 69, 70, 71, 72, 73, 74, 75, 76, 77, 78, 79, 80, 81, 82, 83, 84, 85, 86, 87, 88, 89, 90, 91, 92, 93, 94, 95, 96, 97, 98, 99, 100, 101, 102, 103, 104, 105, 106, 107, 108, 109, 110, 111, 112, 113, 114, 115, 116, 117, 118, 119, 120, 121, 122, 123, 124, 125, 126, 127, 128, 129, 130, 131, 132, 133, 134, 135, 136, 137, 138, 139, 140, 141, 142, 143, 144, 145, 146, 147, 148, 149, 150, 151, 152, 153, 154, 155, 156, 157, 158, 159, 160, 161, 162, 163, 164, 165, 166, 167, 168, 169, 170, 171, 172, 173, 174, 175] (by decide +kernel) (by decide +kernel)) (goodIn_sub (fun _ h => List.mem_cons_of_mem _ (List.mem_append_left _ (List.mem_append_right _ h))) (by decide +kernel))) (goodIn_sub (fun _ h => List.mem_cons_of_mem _ (List.mem_append_right _ h)) (by decide +kernel))
set_option maxRecDepth 20000 in
theorem gL_lay_X7_lay : GoodIn wsL_lay (wsV RL 61 RX7 yX7_lay wsX7_lay) := goodIn_app (goodIn_of _ (by decide +kernel)) ggL_lay_X7_lay
theorem dL_lay_0 : decode cL_lay 0 = .ok (.aload_n 3, 1) := by decide +kernel
theorem dL_lay_1 : decode cL_lay 1 = .ok (.iconst 0, 1) := by decide +kernel
theorem dL_lay_2 : decode cL_lay 2 = .ok (.aload_n 0, 1) := by decide +kernel
theorem dL_lay_3 : decode cL_lay 3 = .ok (.iload_n 1, 1) := by decide +kernel
theorem dL_lay_4 : decode cL_lay 4 = .ok (.iload_n 2, 1) := by decide +kernel
theorem dL_lay_5 : decode cL_lay 5 = .ok (.invokevirtual 61, 3) := by decide +kernel
theorem dL_lay_8 : decode cL_lay 8 = .ok (.i2l, 1) := by decide +kernel
theorem dL_lay_9 : decode cL_lay 9 = .ok (.lastore, 1) := by decide +kernel
theorem dL_lay_10 : decode cL_lay 10 = .ok (.goto 11, 3) := by decide +kernel
theorem dL_lay_13 : decode cL_lay 13 = .ok (.astore 4, 2) := by decide +kernel
theorem dL_lay_15 : decode cL_lay 15 = .ok (.iconst 1, 1) := by decide +kernel
theorem dL_lay_16 : decode cL_lay 16 = .ok (.ireturn, 1) := by decide +kernel
theorem dL_lay_17 : decode cL_lay 17 = .ok (.astore 4, 2) := by decide +kernel
theorem dL_lay_19 : decode cL_lay 19 = .ok (.iconst 2, 1) := by decide +kernel
theorem dL_lay_20 : decode cL_lay 20 = .ok (.ireturn, 1) := by decide +kernel
theorem dL_lay_21 : decode cL_lay 21 = .ok (.iconst 0, 1) := by decide +kernel
theorem dL_lay_22 : decode cL_lay 22 = .ok (.ireturn, 1) := by decide +kernel
set_option maxRecDepth 20000 in
theorem ggL_pass_X7_pass : GoodIn wsL_pass wsX7_pass := goodIn_ca (goodIn_r _ [6, 7, 8, 9, 10, 11, 12, 13, 14, 15, 16, 17, 18, 19, 20, 21, 22, 23, 24, 25, 26, 27, 28, 29, 30, 31, 32, 33, 34, 35, 36, 37, 38, 39, 40, 41, 42, 43, 44, 45, 46, 47, 48, 49, 50, 51, 52, 53, 54, 55, 56, 57, 58, 59, 60, 61, 62, 63, 64, 65, 66, 67, 68, 69, 70, 71, 72, 73, 74, 75, 76, 77, 78, 79, 80, 81, 82, 83, 84, 85, 86, 87, 88, 89, 90, 91, 92, 93, 94, 95, 96, 97, 98, 99, 100, 101, 102, 103, 104, 105, 106, 107, 108, 109, 110, 111, 112, 113, 114, 115, 116, 117] (by decide +kernel) (by decide +kernel)) (goodIn_sub (fun _ h => List.mem_cons_of_mem _ (List.mem_append_right _ h)) (by decide +kernel))
set_option maxRecDepth 20000 in
theorem gL_pass_X7_pass : GoodIn wsL_pass (wsV RL 66 RX7 yX7_pass wsX7_pass) := goodIn_app (goodIn_of _ (by decide +kernel)) ggL_pass_X7_pass
theorem dL_pass_0 : decode cL_pass 0 = .ok (.aload_n 1, 1) := by decide +kernel
theorem dL_pass_1 : decode cL_pass 1 = .ok (.iconst 0, 1) := by decide +kernel
theorem dL_pass_2 : decode cL_pass 2 = .ok (.aload_n 0, 1) := by decide +kernel
theorem dL_pass_3 : decode cL_pass 3 = .ok (.invokevirtual 66, 3) := by decide +kernel
theorem dL_pass_6 : decode cL_pass 6 = .ok (.i2l, 1) := by decide +kernel
theorem dL_pass_7 : decode cL_pass 7 = .ok (.lastore, 1) := by decide +kernel
theorem dL_pass_8 : decode cL_pass 8 = .ok (.goto 6, 3) := by decide +kernel
theorem dL_pass_11 : decode cL_pass 11 = .ok (.astore_n 2, 1) := by decide +kernel
theorem dL_pass_12 : decode cL_pass 12 = .ok (.iconst 1, 1) := by decide +kernel
theorem dL_pass_13 : decode cL_pass 13 = .ok (.ireturn, 1) := by decide +kernel
theorem dL_pass_14 : decode cL_pass 14 = .ok (.iconst 0, 1) := by decide +kernel
theorem dL_pass_15 : decode cL_pass 15 = .ok (.ireturn, 1) := by decide +kernel
set_option maxRecDepth 20000 in
theorem ggL_auto_X7_auto : GoodIn wsL_auto wsX7_auto := goodIn_ca (goodIn_r _ [6, 7, 8, 9, 10, 11, 12, 13, 14, 15, 16, 17, 18, 19, 20, 21, 22, 23, 24, 25, 26, 27, 28, 29, 30, 31, 32, 33, 34, 35, 36, 37, 38, 39, 40, 41, 42, 43, 44, 45, 46, 47, 48, 49, 50, 51, 52, 53, 54, 55, 56, 57, 58, 59, 60, 61, 62, 63, 64, 65, 66, 67, 68, 69, 70, 71, 72, 73, 74, 75, 76, 77, 78, 79, 80, 81, 82, 83, 84, 85, 86, 87, 88, 89, 90, 91, 92, 93, 94, 95, 96, 97, 98, 99, 100, 101, 102, 103, 104, 105, 106, 107, 108, 109, 110, 111, 112, 113, 114, 115, 116, 117, 118, 119, 120, 121, 122, 123, 124, 125, 126, 127, 128, 129, 130, 131, 132, 133, 134, 135, 136, 137, 138, 139, 140, 141, 142, 143, 144, 145, 146, 147, 148, 149, 150, 151, 152, 153, 154, 155, 156, 157, 158, 159, 160, 161, 162, 163, 164, 165, 166, 167, 168, 169, 170, 171, 172, 173, 174, 175, 176, 177, 178, 179, 180, 181, 182, 183, 184, 185, 186, 187, 188, 189, 190, 191, 192, 193, 194, 195, 196] (by decide +kernel) (by decide +kernel)) (goodIn_sub (fun _ h => List.mem_cons_of_mem _ (List.mem_append_right _ h)) (by decide +kernel))
set_option maxRecDepth 20000 in
theorem gL_auto_X7_auto : GoodIn wsL_auto (wsV RL 70 RX7 yX7_auto wsX7_auto) := goodIn_app (goodIn_of _ (by decide +kernel)) ggL_auto_X7_auto
theorem dL_auto_0 : decode cL_auto 0 = .ok (.aload_n 2, 1) := by decide +kernel
theorem dL_auto_1 : decode cL_auto 1 = .ok (.iconst 0, 1) := by decide +kernel
theorem dL_auto_2 : decode cL_auto 2 = .ok (.aload_n 0, 1) := by decide +kernel
theorem dL_auto_3 : decode cL_auto 3 = .ok (.iload_n 1, 1) := by decide +kernel
theorem dL_auto_4 : decode cL_auto 4 = .ok (.invokevirtual 70, 3) := by decide +kernel
theorem dL_auto_7 : decode cL_auto 7 = .ok (.i2l, 1) := by decide +kernel
theorem dL_auto_8 : decode cL_auto 8 = .ok (.lastore, 1) := by decide +kernel
theorem dL_auto_9 : decode cL_auto 9 = .ok (.goto 6, 3) := by decide +kernel
theorem dL_auto_12 : decode cL_auto 12 = .ok (.astore_n 3, 1) := by decide +kernel
theorem dL_auto_13 : decode cL_auto 13 = .ok (.iconst 1, 1) := by decide +kernel
theorem dL_auto_14 : decode cL_auto 14 = .ok (.ireturn, 1) := by decide +kernel
theorem dL_auto_15 : decode cL_auto 15 = .ok (.iconst 0, 1) := by decide +kernel
theorem dL_auto_16 : decode cL_auto 16 = .ok (.ireturn, 1) := by decide +kernel
set_option maxRecDepth 20000 in
theorem ggL_give_X7_give : GoodIn wsL_give wsX7_give := goodIn_ca (goodIn_ca (goodIn_ca (goodIn_r _ [8, 9, 10, 11, 12, 13, 14, 15, 16, 17, 18, 19, 20, 21, 7, 22, 23, 24, 25, 26, 27, 28, 29, 30, 31, 32, 33, 34, 35, 36, 37, 38, 39, 40, 41, 42, 43, 44, 45, 46, 47, 48, 49, 50, 51, 52, 53, 54, 55, 56, 57, 58, 59, 60, 61, 62, 63, 64, 65, 66, 67, 68, 69, 70, 71, 72, 73, 74, 75, 76, 77, 78, 79, 80, 81, 82, 83, 84, 85, 86, 87, 88, 89, 90, 91, 92, 93, 94, 95, 96, 97, 98, 99, 100, 101, 102, 103, 104, 105, 106, 107, 108, 109, 110, 111, 112, 113, 114, 115, 116, 117, 118, 119, 120, 121, 122, 123, 124, 125, 126, 127] (by decide +kernel) (by decide +kernel)) (goodIn_sub (fun _ h => List.mem_cons_of_mem _ (List.mem_append_left _ (List.mem_append_left _ (List.mem_append_right _ h)))) (by decide +kernel))) (goodIn_sub (fun _ h => List.mem_cons_of_mem _ (List.mem_append_left _ (List.mem_append_right _ h))) (by decide +kernel))) (goodIn_sub (fun _ h => List.mem_cons_of_mem _ (List.mem_append_right _ h)) (by decide +kernel))
set_option maxRecDepth 20000 in
theorem gL_give_X7_give : GoodIn wsL_give (wsV RL 73 RX7 yX7_give wsX7_give) := goodIn_app (goodIn_of _ (by decide +kernel)) ggL_give_X7_give
theorem dL_give_0 : decode cL_give 0 = .ok (.aload_n 3, 1) := by decide +kernel
theorem dL_give_1 : decode cL_give 1 = .ok (.iconst 0, 1) := by decide +kernel
theorem dL_give_2 : decode cL_give 2 = .ok (.aload_n 0, 1) := by decide +kernel
theorem dL_give_3 : decode cL_give 3 = .ok (.iload_n 1, 1) := by decide +kernel
theorem dL_give_4 : decode cL_give 4 = .ok (.iload_n 2, 1) := by decide +kernel
theorem dL_give_5 : decode cL_give 5 = .ok (.invokevirtual 73, 3) := by decide +kernel
theorem dL_give_8 : decode cL_give 8 = .ok (.i2l, 1) := by decide +kernel
theorem dL_give_9 : decode cL_give 9 = .ok (.lastore, 1) := by decide +kernel
theorem dL_give_10 : decode cL_give 10 = .ok (.goto 15, 3) := by decide +kernel
theorem dL_give_13 : decode cL_give 13 = .ok (.astore 4, 2) := by decide +kernel
theorem dL_give_15 : decode cL_give 15 = .ok (.iconst 1, 1) := by decide +kernel
theorem dL_give_16 : decode cL_give 16 = .ok (.ireturn, 1) := by decide +kernel
theorem dL_give_17 : decode cL_give 17 = .ok (.astore 4, 2) := by decide +kernel
theorem dL_give_19 : decode cL_give 19 = .ok (.iconst 2, 1) := by decide +kernel
theorem dL_give_20 : decode cL_give 20 = .ok (.ireturn, 1) := by decide +kernel
theorem dL_give_21 : decode cL_give 21 = .ok (.astore 4, 2) := by decide +kernel
theorem dL_give_23 : decode cL_give 23 = .ok (.iconst 3, 1) := by decide +kernel
theorem dL_give_24 : decode cL_give 24 = .ok (.ireturn, 1) := by decide +kernel
theorem dL_give_25 : decode cL_give 25 = .ok (.iconst 0, 1) := by decide +kernel
theorem dL_give_26 : decode cL_give 26 = .ok (.ireturn, 1) := by decide +kernel


