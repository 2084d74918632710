theorem dX8_readText_169 : decode cX8_readText 169 = .ok (.getfield 20, 3) := by decide +kernel
theorem dX8_readText_172 : decode cX8_readText 172 = .ok (.iload_n 1, 1) := by decide +kernel
theorem dX8_readText_173 : decode cX8_readText 173 = .ok (.invokestatic 56, 3) := by decide +kernel
theorem dX8_readText_176 : decode cX8_readText 176 = .ok (.iconst 1, 1) := by decide +kernel
theorem dX8_readText_177 : decode cX8_readText 177 = .ok (.iadd, 1) := by decide +kernel
theorem dX8_readText_178 : decode cX8_readText 178 = .ok (.dup2, 1) := by decide +kernel
theorem dX8_readText_179 : decode cX8_readText 179 = .ok (.iaload, 1) := by decide +kernel
theorem dX8_readText_180 : decode cX8_readText 180 = .ok (.iconst 1, 1) := by decide +kernel
theorem dX8_readText_181 : decode cX8_readText 181 = .ok (.iadd, 1) := by decide +kernel
theorem dX8_readText_182 : decode cX8_readText 182 = .ok (.iastore, 1) := by decide +kernel
theorem dX8_readText_183 : decode cX8_readText 183 = .ok (.aload_n 0, 1) := by decide +kernel
theorem dX8_readText_184 : decode cX8_readText 184 = .ok (.dup, 1) := by decide +kernel
theorem dX8_readText_185 : decode cX8_readText 185 = .ok (.getfield 65, 3) := by decide +kernel
theorem dX8_readText_188 : decode cX8_readText 188 = .ok (.iload_n 3, 1) := by decide +kernel
theorem dX8_readText_189 : decode cX8_readText 189 = .ok (.iadd, 1) := by decide +kernel
theorem dX8_readText_190 : decode cX8_readText 190 = .ok (.putfield 65, 3) := by decide +kernel
theorem dX8_readText_193 : decode cX8_readText 193 = .ok (.return_, 1) := by decide +kernel
set_option maxRecDepth 20000 in
theorem ggX8_readHand_X8_number : GoodIn wsX8_readHand wsX8_number := goodIn_r _ [7, 8, 9, 10, 11, 12, 13, 6, 14, 15, 16, 17, 18, 19, 20, 21, 22, 23, 24, 25, 26, 27, 28, 29, 30, 31, 32, 33, 34, 35, 36, 37, 38, 39, 53, 54, 55, 56, 57, 58, 59, 60, 61, 62, 63, 64, 65, 66, 67, 68, 69, 70, 71, 72, 73] (by decide +kernel) (by decide +kernel)
set_option maxRecDepth 20000 in
theorem gX8_readHand_X8_number : GoodIn wsX8_readHand (wsV RX8 140 RX8 yX8_number wsX8_number) := goodIn_app (goodIn_of _ (by decide +kernel)) ggX8_readHand_X8_number
set_option maxRecDepth 20000 in
theorem ggX8_readHand_X8_readText : GoodIn wsX8_readHand wsX8_readText := goodIn_r _ [43, 8, 1, 11, 12, 13, 6, 14, 15, 16, 17, 18, 19, 20, 21, 22, 23, 24, 25, 44, 45, 46, 29, 30, 31, 32, 33, 34, 35, 36, 47, 48, 49, 37, 38, 39, 50, 51, 52, 53, 54, 55, 56, 57, 58, 59, 60, 61, 62, 63, 64, 65, 66, 67, 68, 69, 70, 71, 72, 73] (by decide +kernel) (by decide +kernel)
set_option maxRecDepth 20000 in
theorem gX8_readHand_X8_readText : GoodIn wsX8_readHand (wsV RX8 168 RX8 yX8_readText wsX8_readText) := goodIn_app (goodIn_of _ (by decide +kernel)) ggX8_readHand_X8_readText
set_option maxRecDepth 20000 in
theorem ggX8_readHand_X8_isGood : GoodIn wsX8_readHand wsX8_isGood := goodIn_r _ [14, 15, 53, 54, 55, 56, 57, 58, 59, 60, 61, 62, 63, 64, 65, 66, 67, 68, 69, 70, 71, 72, 73] (by decide +kernel) (by decide +kernel)
set_option maxRecDepth 20000 in
theorem gX8_readHand_X8_isGood : GoodIn wsX8_readHand (wsV RX8 81 RX8 yX8_isGood wsX8_isGood) := goodIn_app (goodIn_of _ (by decide +kernel)) ggX8_readHand_X8_isGood
set_option maxRecDepth 20000 in
theorem ggX8_readHand_X8_ahead : GoodIn wsX8_readHand wsX8_ahead := goodIn_r _ [19, 8, 20, 21, 22, 6, 23, 24, 25, 53, 54, 55, 56, 57, 58, 59, 60, 61, 62, 63, 64, 65, 66, 67, 68, 69, 70, 71, 72, 73] (by decide +kernel) (by decide +kernel)
set_option maxRecDepth 20000 in
theorem gX8_readHand_X8_ahead : GoodIn wsX8_readHand (wsV RX8 85 RX8 yX8_ahead wsX8_ahead) := goodIn_app (goodIn_of _ (by decide +kernel)) ggX8_readHand_X8_ahead
set_option maxRecDepth 20000 in
theorem ggX8_readHand_X8_isLetter : GoodIn wsX8_readHand wsX8_isLetter := goodIn_r _ [46, 29, 30, 6, 31] (by decide +kernel) (by decide +kernel)
set_option maxRecDepth 20000 in
theorem gX8_readHand_X8_isLetter : GoodIn wsX8_readHand (va_wsS RX8 155 yX8_isLetter wsX8_isLetter) := goodIn_app (goodIn_of _ (by decide +kernel)) ggX8_readHand_X8_isLetter
theorem dX8_readHand_0 : decode cX8_readHand 0 = .ok (.aload_n 0, 1) := by decide +kernel
theorem dX8_readHand_1 : decode cX8_readHand 1 = .ok (.iconst 0, 1) := by decide +kernel
theorem dX8_readHand_2 : decode cX8_readHand 2 = .ok (.aload_n 0, 1) := by decide +kernel
theorem dX8_readHand_3 : decode cX8_readHand 3 = .ok (.getfield 20, 3) := by decide +kernel
theorem dX8_readHand_6 : decode cX8_readHand 6 = .ok (.iconst 1, 1) := by decide +kernel
theorem dX8_readHand_7 : decode cX8_readHand 7 = .ok (.iaload, 1) := by decide +kernel
theorem dX8_readHand_8 : decode cX8_readHand 8 = .ok (.iconst 1, 1) := by decide +kernel
theorem dX8_readHand_9 : decode cX8_readHand 9 = .ok (.isub, 1) := by decide +kernel
theorem dX8_readHand_10 : decode cX8_readHand 10 = .ok (.invokevirtual 140, 3) := by decide +kernel
theorem dX8_readHand_13 : decode cX8_readHand 13 = .ok (.istore_n 1, 1) := by decide +kernel
theorem dX8_readHand_14 : decode cX8_readHand 14 = .ok (.aload_n 0, 1) := by decide +kernel
theorem dX8_readHand_15 : decode cX8_readHand 15 = .ok (.iconst 1, 1) := by decide +kernel
theorem dX8_readHand_16 : decode cX8_readHand 16 = .ok (.putfield 164, 3) := by decide +kernel
theorem dX8_readHand_19 : decode cX8_readHand 19 = .ok (.aload_n 0, 1) := by decide +kernel
theorem dX8_readHand_20 : decode cX8_readHand 20 = .ok (.iload_n 1, 1) := by decide +kernel
theorem dX8_readHand_21 : decode cX8_readHand 21 = .ok (.invokevirtual 168, 3) := by decide +kernel
theorem dX8_readHand_24 : decode cX8_readHand 24 = .ok (.aload_n 0, 1) := by decide +kernel
theorem dX8_readHand_25 : decode cX8_readHand 25 = .ok (.invokevirtual 81, 3) := by decide +kernel
theorem dX8_readHand_28 : decode cX8_readHand 28 = .ok (.ifCond .eq 13, 3) := by decide +kernel
theorem dX8_readHand_31 : decode cX8_readHand 31 = .ok (.aload_n 0, 1) := by decide +kernel
theorem dX8_readHand_32 : decode cX8_readHand 32 = .ok (.invokevirtual 85, 3) := by decide +kernel
theorem dX8_readHand_35 : decode cX8_readHand 35 = .ok (.invokestatic 155, 3) := by decide +kernel
theorem dX8_readHand_38 : decode cX8_readHand 38 = .ok (.ifCond .ne (-19), 3) := by decide +kernel
theorem dX8_readHand_41 : decode cX8_readHand 41 = .ok (.return_, 1) := by decide +kernel
set_option maxRecDepth 20000 in
theorem ggX8_readValue_X8_once : GoodIn wsX8_readValue wsX8_once := goodIn_r _ [6, 7, 8, 9, 10, 5, 11, 12, 13, 44, 45, 46, 47, 48, 49, 50, 51, 52, 53, 54, 55, 56, 57, 58, 59, 60, 61, 62, 63, 64] (by decide +kernel) (by decide +kernel)
set_option maxRecDepth 20000 in
theorem gX8_readValue_X8_once : GoodIn wsX8_readValue (wsV RX8 171 RX8 yX8_once wsX8_once) := goodIn_app (goodIn_of _ (by decide +kernel)) ggX8_readValue_X8_once
set_option maxRecDepth 20000 in
theorem ggX8_readValue_X8_number : GoodIn wsX8_readValue wsX8_number := goodIn_r _ [17, 18, 19, 20, 21, 22, 23, 5, 24, 12, 25, 26, 27, 28, 29, 30, 31, 32, 33, 34, 35, 36, 37, 38, 39, 40, 8, 9, 10, 11, 13, 41, 42, 43, 44, 45, 46, 47, 48, 49, 50, 51, 52, 53, 54, 55, 56, 57, 58, 59, 60, 61, 62, 63, 64] (by decide +kernel) (by decide +kernel)
set_option maxRecDepth 20000 in
theorem gX8_readValue_X8_number : GoodIn wsX8_readValue (wsV RX8 140 RX8 yX8_number wsX8_number) := goodIn_app (goodIn_of _ (by decide +kernel)) ggX8_readValue_X8_number
theorem dX8_readValue_0 : decode cX8_readValue 0 = .ok (.aload_n 0, 1) := by decide +kernel
theorem dX8_readValue_1 : decode cX8_readValue 1 = .ok (.iload_n 1, 1) := by decide +kernel
theorem dX8_readValue_2 : decode cX8_readValue 2 = .ok (.iload_n 3, 1) := by decide +kernel
theorem dX8_readValue_3 : decode cX8_readValue 3 = .ok (.invokevirtual 171, 3) := by decide +kernel
theorem dX8_readValue_6 : decode cX8_readValue 6 = .ok (.aload_n 0, 1) := by decide +kernel
theorem dX8_readValue_7 : decode cX8_readValue 7 = .ok (.getfield 20, 3) := by decide +kernel
theorem dX8_readValue_10 : decode cX8_readValue 10 = .ok (.iload_n 2, 1) := by decide +kernel
theorem dX8_readValue_11 : decode cX8_readValue 11 = .ok (.aload_n 0, 1) := by decide +kernel
theorem dX8_readValue_12 : decode cX8_readValue 12 = .ok (.iload 4, 2) := by decide +kernel
theorem dX8_readValue_14 : decode cX8_readValue 14 = .ok (.iload 5, 2) := by decide +kernel
theorem dX8_readValue_16 : decode cX8_readValue 16 = .ok (.invokevirtual 140, 3) := by decide +kernel
theorem dX8_readValue_19 : decode cX8_readValue 19 = .ok (.iastore, 1) := by decide +kernel
theorem dX8_readValue_20 : decode cX8_readValue 20 = .ok (.return_, 1) := by decide +kernel
set_option maxRecDepth 20000 in
theorem ggX8_statement_X8_ahead : GoodIn wsX8_statement wsX8_ahead := goodIn_r _ [8, 1, 9, 10, 11, 7, 12, 13, 14, 145, 146, 147, 148, 149, 150, 151, 152, 153, 154, 155, 156, 157, 158, 159, 160, 161, 162, 163, 164, 165] (by decide +kernel) (by decide +kernel)
set_option maxRecDepth 20000 in
theorem gX8_statement_X8_ahead : GoodIn wsX8_statement (wsV RX8 85 RX8 yX8_ahead wsX8_ahead) := goodIn_app (goodIn_of _ (by decide +kernel)) ggX8_statement_X8_ahead
set_option maxRecDepth 20000 in
theorem ggX8_statement_X8_takeWord : GoodIn wsX8_statement wsX8_takeWord := goodIn_r _ [18, 1, 19, 20, 21, 7, 22, 23, 4, 5, 6, 8, 9, 10, 11, 12, 13, 14, 24, 25, 26, 27, 28, 29, 30, 31, 32, 33, 34, 35, 36, 37, 38, 39, 40, 41, 42, 43, 44, 45, 46, 47, 48, 49, 50, 51, 52, 53, 54, 55, 56, 57, 58, 59, 60, 61, 62, 63, 64, 65, 66, 67, 68, 69, 70, 71, 72, 73, 74, 75, 145, 146, 147, 148, 149, 150, 151, 152, 153, 154, 155, 156, 157, 158, 159, 160, 161, 162, 163, 164, 165] (by decide +kernel) (by decide +kernel)
set_option maxRecDepth 20000 in
theorem gX8_statement_X8_takeWord : GoodIn wsX8_statement (wsV RX8 126 RX8 yX8_takeWord wsX8_takeWord) := goodIn_app (goodIn_of _ (by decide +kernel)) ggX8_statement_X8_takeWord
set_option maxRecDepth 20000 in
theorem ggX8_statement_X8_report : GoodIn wsX8_statement wsX8_report := goodIn_r _ [79, 23, 80, 145, 146, 147, 148, 149, 150, 151, 152, 153, 154, 155, 156, 157, 158, 159, 160, 161, 162, 163, 164, 165] (by decide +kernel) (by decide +kernel)
set_option maxRecDepth 20000 in
theorem gX8_statement_X8_report : GoodIn wsX8_statement (wsV RX8 98 RX8 yX8_report wsX8_report) := goodIn_app (goodIn_of _ (by decide +kernel)) ggX8_statement_X8_report
set_option maxRecDepth 20000 in
theorem ggX8_statement_X8_readValue : GoodIn wsX8_statement wsX8_readValue := goodIn_r _ [84, 3, 85, 86, 87, 7, 88, 89, 76, 77, 78, 79, 23, 80, 90, 91, 92, 93, 1, 94, 95, 19, 20, 21, 22, 4, 5, 6, 8, 9, 10, 11, 12, 13, 14, 96, 97, 98, 73, 74, 75, 99, 100, 101, 145, 146, 147, 148, 149, 150, 151, 152, 153, 154, 155, 156, 157, 158, 159, 160, 161, 162, 163, 164, 165] (by decide +kernel) (by decide +kernel)
set_option maxRecDepth 20000 in
theorem gX8_statement_X8_readValue : GoodIn wsX8_statement (wsV RX8 176 RX8 yX8_readValue wsX8_readValue) := goodIn_app (goodIn_of _ (by decide +kernel)) ggX8_statement_X8_readValue
set_option maxRecDepth 20000 in
theorem ggX8_statement_X8_readAlike : GoodIn wsX8_statement wsX8_readAlike := goodIn_r _ [105, 1, 106, 3, 19, 20, 21, 7, 22, 23, 4, 5, 6, 8, 9, 10, 11, 12, 13, 14, 107, 108, 109, 73, 74, 75, 76, 77, 78, 79, 80, 145, 146, 147, 148, 149, 150, 151, 152, 153, 154, 155, 156, 157, 158, 159, 160, 161, 162, 163, 164, 165] (by decide +kernel) (by decide +kernel)
set_option maxRecDepth 20000 in
theorem gX8_statement_X8_readAlike : GoodIn wsX8_statement (wsV RX8 188 RX8 yX8_readAlike wsX8_readAlike) := goodIn_app (goodIn_of _ (by decide +kernel)) ggX8_statement_X8_readAlike
set_option maxRecDepth 20000 in
theorem ggX8_statement_X8_readHand : GoodIn wsX8_statement wsX8_readHand := goodIn_r _ [113, 3, 2, 90, 91, 92, 7, 93, 1, 94, 95, 19, 20, 21, 22, 23, 4, 5, 6, 8, 9, 10, 11, 12, 13, 14, 96, 97, 98, 73, 74, 75, 76, 77, 78, 79, 80, 99, 100, 101, 114, 115, 116, 117, 107, 108, 109, 118, 119, 120, 121, 122, 123, 145, 146, 147, 148, 149, 150, 151, 152, 153, 154, 155, 156, 157, 158, 159, 160, 161, 162, 163, 164, 165] (by decide +kernel) (by decide +kernel)
set_option maxRecDepth 20000 in
theorem gX8_statement_X8_readHand : GoodIn wsX8_statement (wsV RX8 191 RX8 yX8_readHand wsX8_readHand) := goodIn_app (goodIn_of _ (by decide +kernel)) ggX8_statement_X8_readHand
set_option maxRecDepth 20000 in
theorem ggX8_statement_X8_once : GoodIn wsX8_statement wsX8_once := goodIn_r _ [88, 89, 76, 77, 78, 7, 79, 23, 80, 145, 146, 147, 148, 149, 150, 151, 152, 153, 154, 155, 156, 157, 158, 159, 160, 161, 162, 163, 164, 165] (by decide +kernel) (by decide +kernel)
set_option maxRecDepth 20000 in
theorem gX8_statement_X8_once : GoodIn wsX8_statement (wsV RX8 171 RX8 yX8_once wsX8_once) := goodIn_app (goodIn_of _ (by decide +kernel)) ggX8_statement_X8_once
set_option maxRecDepth 20000 in
theorem ggX8_statement_X8_readSum : GoodIn wsX8_statement wsX8_readSum := goodIn_r _ [127, 1, 128, 129, 130, 7, 19, 20, 21, 22, 23, 4, 5, 6, 8, 9, 10, 11, 12, 13, 14, 131, 132, 133, 134, 3, 135, 136, 76, 77, 78, 79, 80, 124, 125, 126, 137, 138, 139, 140, 96, 97, 98, 73, 74, 75, 15, 16, 17, 18, 24, 25, 26, 27, 28, 29, 30, 31, 32, 33, 34, 35, 36, 37, 38, 39, 40, 41, 42, 43, 44, 45, 46, 47, 48, 49, 50, 51, 52, 53, 54, 55, 56, 57, 58, 59, 60, 61, 62, 63, 64, 65, 66, 67, 68, 69, 70, 71, 72, 90, 91, 92, 93, 94, 95, 99, 100, 101, 141, 142, 143, 144, 145, 146, 147, 148, 149, 150, 151, 152, 153, 154, 155, 156, 157, 158, 159, 160, 161, 162, 163, 164, 165] (by decide +kernel) (by decide +kernel)
set_option maxRecDepth 20000 in
theorem gX8_statement_X8_readSum : GoodIn wsX8_statement (wsV RX8 117 RX8 yX8_readSum wsX8_readSum) := goodIn_app (goodIn_of _ (by decide +kernel)) ggX8_statement_X8_readSum
set_option maxRecDepth 20000 in
theorem ggX8_statement_X8_expect : GoodIn wsX8_statement wsX8_expect := goodIn_r _ [140, 1, 19, 20, 21, 7, 22, 23, 4, 5, 6, 8, 9, 10, 11, 12, 13, 14, 76, 77, 78, 79, 80, 145, 146, 147, 148, 149, 150, 151, 152, 153, 154, 155, 156, 157, 158, 159, 160, 161, 162, 163, 164, 165] (by decide +kernel) (by decide +kernel)
set_option maxRecDepth 20000 in
theorem gX8_statement_X8_expect : GoodIn wsX8_statement (wsV RX8 120 RX8 yX8_expect wsX8_expect) := goodIn_app (goodIn_of _ (by decide +kernel)) ggX8_statement_X8_expect
theorem dX8_statement_0 : decode cX8_statement 0 = .ok (.aload_n 0, 1) := by decide +kernel
theorem dX8_statement_1 : decode cX8_statement 1 = .ok (.invokevirtual 85, 3) := by decide +kernel
theorem dX8_statement_4 : decode cX8_statement 4 = .ok (.pop, 1) := by decide +kernel
theorem dX8_statement_5 : decode cX8_statement 5 = .ok (.aload_n 0, 1) := by decide +kernel
theorem dX8_statement_6 : decode cX8_statement 6 = .ok (.getfield 65, 3) := by decide +kernel
theorem dX8_statement_9 : decode cX8_statement 9 = .ok (.istore_n 1, 1) := by decide +kernel
theorem dX8_statement_10 : decode cX8_statement 10 = .ok (.aload_n 0, 1) := by decide +kernel
theorem dX8_statement_11 : decode cX8_statement 11 = .ok (.ldc 174, 2) := by decide +kernel
theorem dX8_statement_13 : decode cX8_statement 13 = .ok (.invokevirtual 126, 3) := by decide +kernel
theorem dX8_statement_16 : decode cX8_statement 16 = .ok (.ifCond .eq 29, 3) := by decide +kernel
theorem dX8_statement_19 : decode cX8_statement 19 = .ok (.aload_n 0, 1) := by decide +kernel
theorem dX8_statement_20 : decode cX8_statement 20 = .ok (.getfield 164, 3) := by decide +kernel
theorem dX8_statement_23 : decode cX8_statement 23 = .ok (.ifCond .eq 10, 3) := by decide +kernel
theorem dX8_statement_26 : decode cX8_statement 26 = .ok (.aload_n 0, 1) := by decide +kernel
theorem dX8_statement_27 : decode cX8_statement 27 = .ok (.bipush (-2), 2) := by decide +kernel
theorem dX8_statement_29 : decode cX8_statement 29 = .ok (.iload_n 1, 1) := by decide +kernel
theorem dX8_statement_30 : decode cX8_statement 30 = .ok (.invokevirtual 98, 3) := by decide +kernel
theorem dX8_statement_33 : decode cX8_statement 33 = .ok (.aload_n 0, 1) := by decide +kernel
theorem dX8_statement_34 : decode cX8_statement 34 = .ok (.iconst 0, 1) := by decide +kernel
theorem dX8_statement_35 : decode cX8_statement 35 = .ok (.iconst 1, 1) := by decide +kernel
theorem dX8_statement_36 : decode cX8_statement 36 = .ok (.iload_n 1, 1) := by decide +kernel
theorem dX8_statement_37 : decode cX8_statement 37 = .ok (.iconst 2, 1) := by decide +kernel
theorem dX8_statement_38 : decode cX8_statement 38 = .ok (.iconst 4, 1) := by decide +kernel
theorem dX8_statement_39 : decode cX8_statement 39 = .ok (.invokevirtual 176, 3) := by decide +kernel
theorem dX8_statement_42 : decode cX8_statement 42 = .ok (.goto 137, 3) := by decide +kernel
theorem dX8_statement_45 : decode cX8_statement 45 = .ok (.aload_n 0, 1) := by decide +kernel
theorem dX8_statement_46 : decode cX8_statement 46 = .ok (.ldc 180, 2) := by decide +kernel
theorem dX8_statement_48 : decode cX8_statement 48 = .ok (.invokevirtual 126, 3) := by decide +kernel
theorem dX8_statement_51 : decode cX8_statement 51 = .ok (.ifCond .eq 15, 3) := by decide +kernel
theorem dX8_statement_54 : decode cX8_statement 54 = .ok (.aload_n 0, 1) := by decide +kernel
theorem dX8_statement_55 : decode cX8_statement 55 = .ok (.iconst 1, 1) := by decide +kernel
theorem dX8_statement_56 : decode cX8_statement 56 = .ok (.iconst 2, 1) := by decide +kernel
theorem dX8_statement_57 : decode cX8_statement 57 = .ok (.iload_n 1, 1) := by decide +kernel
theorem dX8_statement_58 : decode cX8_statement 58 = .ok (.iconst 1, 1) := by decide +kernel
theorem dX8_statement_59 : decode cX8_statement 59 = .ok (.iconst 4, 1) := by decide +kernel
theorem dX8_statement_60 : decode cX8_statement 60 = .ok (.invokevirtual 176, 3) := by decide +kernel
theorem dX8_statement_63 : decode cX8_statement 63 = .ok (.goto 116, 3) := by decide +kernel
theorem dX8_statement_66 : decode cX8_statement 66 = .ok (.aload_n 0, 1) := by decide +kernel
theorem dX8_statement_67 : decode cX8_statement 67 = .ok (.ldc 182, 2) := by decide +kernel
theorem dX8_statement_69 : decode cX8_statement 69 = .ok (.invokevirtual 126, 3) := by decide +kernel
theorem dX8_statement_72 : decode cX8_statement 72 = .ok (.ifCond .eq 16, 3) := by decide +kernel
theorem dX8_statement_75 : decode cX8_statement 75 = .ok (.aload_n 0, 1) := by decide +kernel
theorem dX8_statement_76 : decode cX8_statement 76 = .ok (.iconst 2, 1) := by decide +kernel
theorem dX8_statement_77 : decode cX8_statement 77 = .ok (.iconst 3, 1) := by decide +kernel
theorem dX8_statement_78 : decode cX8_statement 78 = .ok (.iload_n 1, 1) := by decide +kernel
theorem dX8_statement_79 : decode cX8_statement 79 = .ok (.iconst 0, 1) := by decide +kernel
theorem dX8_statement_80 : decode cX8_statement 80 = .ok (.bipush 9, 2) := by decide +kernel
theorem dX8_statement_82 : decode cX8_statement 82 = .ok (.invokevirtual 176, 3) := by decide +kernel
theorem dX8_statement_85 : decode cX8_statement 85 = .ok (.goto 94, 3) := by decide +kernel
theorem dX8_statement_88 : decode cX8_statement 88 = .ok (.aload_n 0, 1) := by decide +kernel
theorem dX8_statement_89 : decode cX8_statement 89 = .ok (.ldc 184, 2) := by decide +kernel
theorem dX8_statement_91 : decode cX8_statement 91 = .ok (.invokevirtual 126, 3) := by decide +kernel
theorem dX8_statement_94 : decode cX8_statement 94 = .ok (.ifCond .eq 16, 3) := by decide +kernel
theorem dX8_statement_97 : decode cX8_statement 97 = .ok (.aload_n 0, 1) := by decide +kernel
theorem dX8_statement_98 : decode cX8_statement 98 = .ok (.iconst 3, 1) := by decide +kernel
theorem dX8_statement_99 : decode cX8_statement 99 = .ok (.iconst 4, 1) := by decide +kernel
theorem dX8_statement_100 : decode cX8_statement 100 = .ok (.iload_n 1, 1) := by decide +kernel
theorem dX8_statement_101 : decode cX8_statement 101 = .ok (.iconst 0, 1) := by decide +kernel
theorem dX8_statement_102 : decode cX8_statement 102 = .ok (.bipush 99, 2) := by decide +kernel
theorem dX8_statement_104 : decode cX8_statement 104 = .ok (.invokevirtual 176, 3) := by decide +kernel
theorem dX8_statement_107 : decode cX8_statement 107 = .ok (.goto 72, 3) := by decide +kernel
theorem dX8_statement_110 : decode cX8_statement 110 = .ok (.aload_n 0, 1) := by decide +kernel
theorem dX8_statement_111 : decode cX8_statement 111 = .ok (.ldc 186, 2) := by decide +kernel
theorem dX8_statement_113 : decode cX8_statement 113 = .ok (.invokevirtual 126, 3) := by decide +kernel
theorem dX8_statement_116 : decode cX8_statement 116 = .ok (.ifCond .eq 10, 3) := by decide +kernel
theorem dX8_statement_119 : decode cX8_statement 119 = .ok (.aload_n 0, 1) := by decide +kernel
theorem dX8_statement_120 : decode cX8_statement 120 = .ok (.invokevirtual 188, 3) := by decide +kernel
theorem dX8_statement_123 : decode cX8_statement 123 = .ok (.goto 56, 3) := by decide +kernel
theorem dX8_statement_126 : decode cX8_statement 126 = .ok (.aload_n 0, 1) := by decide +kernel
theorem dX8_statement_127 : decode cX8_statement 127 = .ok (.ldc 138, 2) := by decide +kernel
theorem dX8_statement_129 : decode cX8_statement 129 = .ok (.invokevirtual 126, 3) := by decide +kernel
theorem dX8_statement_132 : decode cX8_statement 132 = .ok (.ifCond .eq 10, 3) := by decide +kernel
theorem dX8_statement_135 : decode cX8_statement 135 = .ok (.aload_n 0, 1) := by decide +kernel
theorem dX8_statement_136 : decode cX8_statement 136 = .ok (.invokevirtual 191, 3) := by decide +kernel
theorem dX8_statement_139 : decode cX8_statement 139 = .ok (.goto 40, 3) := by decide +kernel
theorem dX8_statement_142 : decode cX8_statement 142 = .ok (.aload_n 0, 1) := by decide +kernel
theorem dX8_statement_143 : decode cX8_statement 143 = .ok (.ldc 194, 2) := by decide +kernel
theorem dX8_statement_145 : decode cX8_statement 145 = .ok (.invokevirtual 126, 3) := by decide +kernel
theorem dX8_statement_148 : decode cX8_statement 148 = .ok (.ifCond .eq 24, 3) := by decide +kernel
theorem dX8_statement_151 : decode cX8_statement 151 = .ok (.aload_n 0, 1) := by decide +kernel
theorem dX8_statement_152 : decode cX8_statement 152 = .ok (.iconst 4, 1) := by decide +kernel
theorem dX8_statement_153 : decode cX8_statement 153 = .ok (.iload_n 1, 1) := by decide +kernel
theorem dX8_statement_154 : decode cX8_statement 154 = .ok (.invokevirtual 171, 3) := by decide +kernel
theorem dX8_statement_157 : decode cX8_statement 157 = .ok (.aload_n 0, 1) := by decide +kernel
theorem dX8_statement_158 : decode cX8_statement 158 = .ok (.getfield 20, 3) := by decide +kernel
theorem dX8_statement_161 : decode cX8_statement 161 = .ok (.bipush 8, 2) := by decide +kernel
theorem dX8_statement_163 : decode cX8_statement 163 = .ok (.iconst 1, 1) := by decide +kernel
theorem dX8_statement_164 : decode cX8_statement 164 = .ok (.iastore, 1) := by decide +kernel
theorem dX8_statement_165 : decode cX8_statement 165 = .ok (.aload_n 0, 1) := by decide +kernel
theorem dX8_statement_166 : decode cX8_statement 166 = .ok (.invokevirtual 117, 3) := by decide +kernel
theorem dX8_statement_169 : decode cX8_statement 169 = .ok (.goto 10, 3) := by decide +kernel
theorem dX8_statement_172 : decode cX8_statement 172 = .ok (.aload_n 0, 1) := by decide +kernel
theorem dX8_statement_173 : decode cX8_statement 173 = .ok (.bipush (-2), 2) := by decide +kernel
theorem dX8_statement_175 : decode cX8_statement 175 = .ok (.iload_n 1, 1) := by decide +kernel
theorem dX8_statement_176 : decode cX8_statement 176 = .ok (.invokevirtual 98, 3) := by decide +kernel
theorem dX8_statement_179 : decode cX8_statement 179 = .ok (.aload_n 0, 1) := by decide +kernel
theorem dX8_statement_180 : decode cX8_statement 180 = .ok (.bipush 59, 2) := by decide +kernel
theorem dX8_statement_182 : decode cX8_statement 182 = .ok (.invokevirtual 120, 3) := by decide +kernel
theorem dX8_statement_185 : decode cX8_statement 185 = .ok (.return_, 1) := by decide +kernel
set_option maxRecDepth 20000 in
theorem ggX8_readRoof_X8_takeWord : GoodIn wsX8_readRoof wsX8_takeWord := goodIn_r _ [8, 1, 9, 10, 11, 7, 12, 13, 14, 15, 16, 17, 18, 19, 20, 21, 22, 23, 24, 25, 26, 27, 28, 29, 30, 31, 32, 33, 34, 35, 36, 37, 38, 39, 40, 41, 42, 43, 44, 45, 46, 47, 48, 49, 50, 51, 52, 53, 54, 55, 56, 57, 58, 59, 60, 61, 62, 63, 64, 65, 66, 67, 68, 69, 70, 71, 72, 73, 74, 75, 102, 103, 104, 105, 106, 107, 108, 109, 110, 111, 112, 113, 114, 115, 116, 117, 118, 119, 120, 121, 122] (by decide +kernel) (by decide +kernel)
set_option maxRecDepth 20000 in
theorem gX8_readRoof_X8_takeWord : GoodIn wsX8_readRoof (wsV RX8 126 RX8 yX8_takeWord wsX8_takeWord) := goodIn_app (goodIn_of _ (by decide +kernel)) ggX8_readRoof_X8_takeWord
set_option maxRecDepth 20000 in
theorem ggX8_readRoof_X8_report : GoodIn wsX8_readRoof wsX8_report := goodIn_r _ [79, 13, 80, 102, 103, 104, 105, 106, 107, 108, 109, 110, 111, 112, 113, 114, 115, 116, 117, 118, 119, 120, 121, 122] (by decide +kernel) (by decide +kernel)
set_option maxRecDepth 20000 in
theorem gX8_readRoof_X8_report : GoodIn wsX8_readRoof (wsV RX8 98 RX8 yX8_report wsX8_report) := goodIn_app (goodIn_of _ (by decide +kernel)) ggX8_readRoof_X8_report
set_option maxRecDepth 20000 in
theorem ggX8_readRoof_X8_number : GoodIn wsX8_readRoof wsX8_number := goodIn_r _ [84, 1, 3, 85, 9, 10, 11, 7, 12, 13, 14, 15, 16, 17, 18, 19, 20, 21, 22, 23, 86, 87, 88, 73, 74, 75, 76, 77, 78, 79, 80, 89, 90, 91, 102, 103, 104, 105, 106, 107, 108, 109, 110, 111, 112, 113, 114, 115, 116, 117, 118, 119, 120, 121, 122] (by decide +kernel) (by decide +kernel)
set_option maxRecDepth 20000 in
theorem gX8_readRoof_X8_number : GoodIn wsX8_readRoof (wsV RX8 140 RX8 yX8_number wsX8_number) := goodIn_app (goodIn_of _ (by decide +kernel)) ggX8_readRoof_X8_number
set_option maxRecDepth 20000 in
theorem ggX8_readRoof_X8_isGood : GoodIn wsX8_readRoof wsX8_isGood := goodIn_r _ [12, 13, 102, 103, 104, 105, 106, 107, 108, 109, 110, 111, 112, 113, 114, 115, 116, 117, 118, 119, 120, 121, 122] (by decide +kernel) (by decide +kernel)
set_option maxRecDepth 20000 in
theorem gX8_readRoof_X8_isGood : GoodIn wsX8_readRoof (wsV RX8 81 RX8 yX8_isGood wsX8_isGood) := goodIn_app (goodIn_of _ (by decide +kernel)) ggX8_readRoof_X8_isGood
set_option maxRecDepth 20000 in
theorem ggX8_readRoof_X8_layRow : GoodIn wsX8_readRoof wsX8_layRow := goodIn_r _ [94, 95, 96, 7, 97] (by decide +kernel) (by decide +kernel)
set_option maxRecDepth 20000 in
theorem gX8_readRoof_X8_layRow : GoodIn wsX8_readRoof (va_wsS RX8 45 yX8_layRow wsX8_layRow) := goodIn_app (goodIn_of _ (by decide +kernel)) ggX8_readRoof_X8_layRow
set_option maxRecDepth 20000 in
theorem ggX8_readRoof_X8_ahead : GoodIn wsX8_readRoof wsX8_ahead := goodIn_r _ [17, 1, 18, 19, 20, 7, 21, 22, 23, 102, 103, 104, 105, 106, 107, 108, 109, 110, 111, 112, 113, 114, 115, 116, 117, 118, 119, 120, 121, 122] (by decide +kernel) (by decide +kernel)
set_option maxRecDepth 20000 in
theorem gX8_readRoof_X8_ahead : GoodIn wsX8_readRoof (wsV RX8 85 RX8 yX8_ahead wsX8_ahead) := goodIn_app (goodIn_of _ (by decide +kernel)) ggX8_readRoof_X8_ahead
set_option maxRecDepth 20000 in
theorem ggX8_readRoof_X8_isDigit : GoodIn wsX8_readRoof wsX8_isDigit := goodIn_r _ [88, 73, 74, 7, 75] (by decide +kernel) (by decide +kernel)
set_option maxRecDepth 20000 in
theorem gX8_readRoof_X8_isDigit : GoodIn wsX8_readRoof (va_wsS RX8 102 yX8_isDigit wsX8_isDigit) := goodIn_app (goodIn_of _ (by decide +kernel)) ggX8_readRoof_X8_isDigit
set_option maxRecDepth 20000 in
theorem ggX8_readRoof_X8_expect : GoodIn wsX8_readRoof wsX8_expect := goodIn_r _ [101, 1, 9, 10, 11, 7, 12, 13, 14, 15, 16, 17, 18, 19, 20, 21, 22, 23, 76, 77, 78, 79, 80, 102, 103, 104, 105, 106, 107, 108, 109, 110, 111, 112, 113, 114, 115, 116, 117, 118, 119, 120, 121, 122] (by decide +kernel) (by decide +kernel)
set_option maxRecDepth 20000 in
theorem gX8_readRoof_X8_expect : GoodIn wsX8_readRoof (wsV RX8 120 RX8 yX8_expect wsX8_expect) := goodIn_app (goodIn_of _ (by decide +kernel)) ggX8_readRoof_X8_expect
theorem dX8_readRoof_0 : decode cX8_readRoof 0 = .ok (.aload_n 0, 1) := by decide +kernel
theorem dX8_readRoof_1 : decode cX8_readRoof 1 = .ok (.ldc 196, 2) := by decide +kernel
theorem dX8_readRoof_3 : decode cX8_readRoof 3 = .ok (.invokevirtual 126, 3) := by decide +kernel
theorem dX8_readRoof_6 : decode cX8_readRoof 6 = .ok (.ifCond .ne 13, 3) := by decide +kernel
theorem dX8_readRoof_9 : decode cX8_readRoof 9 = .ok (.aload_n 0, 1) := by decide +kernel
theorem dX8_readRoof_10 : decode cX8_readRoof 10 = .ok (.bipush (-2), 2) := by decide +kernel
theorem dX8_readRoof_12 : decode cX8_readRoof 12 = .ok (.aload_n 0, 1) := by decide +kernel
theorem dX8_readRoof_13 : decode cX8_readRoof 13 = .ok (.getfield 65, 3) := by decide +kernel
theorem dX8_readRoof_16 : decode cX8_readRoof 16 = .ok (.invokevirtual 98, 3) := by decide +kernel
theorem dX8_readRoof_19 : decode cX8_readRoof 19 = .ok (.aload_n 0, 1) := by decide +kernel
theorem dX8_readRoof_20 : decode cX8_readRoof 20 = .ok (.iconst 1, 1) := by decide +kernel
theorem dX8_readRoof_21 : decode cX8_readRoof 21 = .ok (.bipush 40, 2) := by decide +kernel
theorem dX8_readRoof_23 : decode cX8_readRoof 23 = .ok (.invokevirtual 140, 3) := by decide +kernel
theorem dX8_readRoof_26 : decode cX8_readRoof 26 = .ok (.istore_n 1, 1) := by decide +kernel
theorem dX8_readRoof_27 : decode cX8_readRoof 27 = .ok (.aload_n 0, 1) := by decide +kernel
theorem dX8_readRoof_28 : decode cX8_readRoof 28 = .ok (.invokevirtual 81, 3) := by decide +kernel
theorem dX8_readRoof_31 : decode cX8_readRoof 31 = .ok (.ifCond .eq 24, 3) := by decide +kernel
theorem dX8_readRoof_34 : decode cX8_readRoof 34 = .ok (.aload_n 0, 1) := by decide +kernel
theorem dX8_readRoof_35 : decode cX8_readRoof 35 = .ok (.getfield 20, 3) := by decide +kernel
theorem dX8_readRoof_38 : decode cX8_readRoof 38 = .ok (.iconst 0, 1) := by decide +kernel
theorem dX8_readRoof_39 : decode cX8_readRoof 39 = .ok (.iaload, 1) := by decide +kernel
theorem dX8_readRoof_40 : decode cX8_readRoof 40 = .ok (.bipush 6, 2) := by decide +kernel
theorem dX8_readRoof_42 : decode cX8_readRoof 42 = .ok (.if_icmp .ne 13, 3) := by decide +kernel
theorem dX8_readRoof_45 : decode cX8_readRoof 45 = .ok (.aload_n 0, 1) := by decide +kernel
theorem dX8_readRoof_46 : decode cX8_readRoof 46 = .ok (.bipush (-5), 2) := by decide +kernel
theorem dX8_readRoof_48 : decode cX8_readRoof 48 = .ok (.aload_n 0, 1) := by decide +kernel
theorem dX8_readRoof_49 : decode cX8_readRoof 49 = .ok (.getfield 106, 3) := by decide +kernel
theorem dX8_readRoof_52 : decode cX8_readRoof 52 = .ok (.invokevirtual 98, 3) := by decide +kernel
theorem dX8_readRoof_55 : decode cX8_readRoof 55 = .ok (.aload_n 0, 1) := by decide +kernel
theorem dX8_readRoof_56 : decode cX8_readRoof 56 = .ok (.invokevirtual 81, 3) := by decide +kernel
theorem dX8_readRoof_59 : decode cX8_readRoof 59 = .ok (.ifCond .ne 4, 3) := by decide +kernel
theorem dX8_readRoof_62 : decode cX8_readRoof 62 = .ok (.return_, 1) := by decide +kernel
theorem dX8_readRoof_63 : decode cX8_readRoof 63 = .ok (.aload_n 0, 1) := by decide +kernel
theorem dX8_readRoof_64 : decode cX8_readRoof 64 = .ok (.getfield 20, 3) := by decide +kernel
theorem dX8_readRoof_67 : decode cX8_readRoof 67 = .ok (.aload_n 0, 1) := by decide +kernel
theorem dX8_readRoof_68 : decode cX8_readRoof 68 = .ok (.getfield 20, 3) := by decide +kernel
theorem dX8_readRoof_71 : decode cX8_readRoof 71 = .ok (.iconst 0, 1) := by decide +kernel
theorem dX8_readRoof_72 : decode cX8_readRoof 72 = .ok (.iaload, 1) := by decide +kernel
theorem dX8_readRoof_73 : decode cX8_readRoof 73 = .ok (.iload_n 1, 1) := by decide +kernel
theorem dX8_readRoof_74 : decode cX8_readRoof 74 = .ok (.invokestatic 45, 3) := by decide +kernel
theorem dX8_readRoof_77 : decode cX8_readRoof 77 = .ok (.aload_n 0, 1) := by decide +kernel
theorem dX8_readRoof_78 : decode cX8_readRoof 78 = .ok (.getfield 20, 3) := by decide +kernel
theorem dX8_readRoof_81 : decode cX8_readRoof 81 = .ok (.iconst 0, 1) := by decide +kernel
theorem dX8_readRoof_82 : decode cX8_readRoof 82 = .ok (.dup2, 1) := by decide +kernel
theorem dX8_readRoof_83 : decode cX8_readRoof 83 = .ok (.iaload, 1) := by decide +kernel
theorem dX8_readRoof_84 : decode cX8_readRoof 84 = .ok (.iconst 1, 1) := by decide +kernel
theorem dX8_readRoof_85 : decode cX8_readRoof 85 = .ok (.iadd, 1) := by decide +kernel
theorem dX8_readRoof_86 : decode cX8_readRoof 86 = .ok (.iastore, 1) := by decide +kernel
theorem dX8_readRoof_87 : decode cX8_readRoof 87 = .ok (.aload_n 0, 1) := by decide +kernel
theorem dX8_readRoof_88 : decode cX8_readRoof 88 = .ok (.invokevirtual 85, 3) := by decide +kernel
theorem dX8_readRoof_91 : decode cX8_readRoof 91 = .ok (.invokestatic 102, 3) := by decide +kernel
theorem dX8_readRoof_94 : decode cX8_readRoof 94 = .ok (.ifCond .ne (-75), 3) := by decide +kernel
theorem dX8_readRoof_97 : decode cX8_readRoof 97 = .ok (.aload_n 0, 1) := by decide +kernel
theorem dX8_readRoof_98 : decode cX8_readRoof 98 = .ok (.bipush 59, 2) := by decide +kernel
theorem dX8_readRoof_100 : decode cX8_readRoof 100 = .ok (.invokevirtual 120, 3) := by decide +kernel
theorem dX8_readRoof_103 : decode cX8_readRoof 103 = .ok (.return_, 1) := by decide +kernel
set_option maxRecDepth 20000 in
theorem ggX8_load_X8_in : GoodIn wsX8_load wsX8_in := goodIn_r _ [17] (by decide +kernel) (by decide +kernel)
set_option maxRecDepth 20000 in
theorem gX8_load_X8_in : GoodIn wsX8_load (va_wsS RX8 77 yX8_in wsX8_in) := goodIn_app (goodIn_of _ (by decide +kernel)) ggX8_load_X8_in
set_option maxRecDepth 20000 in
theorem ggX8_load_X8_fails : GoodIn wsX8_load wsX8_fails := goodIn_r _ [21, 1, 187, 188, 189, 190, 191, 192, 193, 194, 195, 196, 197, 198, 199, 200, 201, 202, 203, 204, 205, 206, 207] (by decide +kernel) (by decide +kernel)
set_option maxRecDepth 20000 in
theorem gX8_load_X8_fails : GoodIn wsX8_load (wsV RX8 198 RX8 yX8_fails wsX8_fails) := goodIn_app (goodIn_of _ (by decide +kernel)) ggX8_load_X8_fails
set_option maxRecDepth 20000 in
theorem ggX8_load_X8_layGame : GoodIn wsX8_load wsX8_layGame := goodIn_r _ [24] (by decide +kernel) (by decide +kernel)
set_option maxRecDepth 20000 in
theorem gX8_load_X8_layGame : GoodIn wsX8_load (va_wsS RX8 41 yX8_layGame wsX8_layGame) := goodIn_app (goodIn_of _ (by decide +kernel)) ggX8_load_X8_layGame
set_option maxRecDepth 20000 in
theorem ggX8_load_X8_readRoof : GoodIn wsX8_load wsX8_readRoof := goodIn_r _ [28, 4, 11, 29, 30, 31, 32, 16, 33, 34, 35, 36, 37, 5, 38, 39, 40, 41, 42, 43, 44, 45, 3, 46, 47, 48, 49, 50, 51, 52, 53, 54, 55, 56, 57, 58, 59, 60, 61, 62, 63, 64, 65, 66, 67, 68, 69, 70, 71, 72, 73, 74, 75, 76, 77, 78, 79, 80, 81, 82, 83, 84, 85, 86, 87, 88, 89, 90, 91, 92, 93, 94, 95, 14, 15, 17, 96, 97, 98, 99, 6, 100, 101, 102, 103, 104, 105, 106, 107, 108, 109, 110, 111, 112, 113, 114, 115, 116, 117, 118, 119, 120, 187, 188, 189, 190, 191, 192, 193, 194, 195, 196, 197, 198, 199, 200, 201, 202, 203, 204, 205, 206, 207] (by decide +kernel) (by decide +kernel)
set_option maxRecDepth 20000 in
theorem gX8_load_X8_readRoof : GoodIn wsX8_load (wsV RX8 202 RX8 yX8_readRoof wsX8_readRoof) := goodIn_app (goodIn_of _ (by decide +kernel)) ggX8_load_X8_readRoof
set_option maxRecDepth 20000 in
theorem ggX8_load_X8_isGood : GoodIn wsX8_load wsX8_isGood := goodIn_r _ [37, 5, 187, 188, 189, 190, 191, 192, 193, 194, 195, 196, 197, 198, 199, 200, 201, 202, 203, 204, 205, 206, 207] (by decide +kernel) (by decide +kernel)
set_option maxRecDepth 20000 in
theorem gX8_load_X8_isGood : GoodIn wsX8_load (wsV RX8 81 RX8 yX8_isGood wsX8_isGood) := goodIn_app (goodIn_of _ (by decide +kernel)) ggX8_load_X8_isGood
set_option maxRecDepth 20000 in
theorem ggX8_load_X8_ahead : GoodIn wsX8_load wsX8_ahead := goodIn_r _ [41, 4, 42, 43, 44, 16, 45, 3, 46, 187, 188, 189, 190, 191, 192, 193, 194, 195, 196, 197, 198, 199, 200, 201, 202, 203, 204, 205, 206, 207] (by decide +kernel) (by decide +kernel)
set_option maxRecDepth 20000 in
theorem gX8_load_X8_ahead : GoodIn wsX8_load (wsV RX8 85 RX8 yX8_ahead wsX8_ahead) := goodIn_app (goodIn_of _ (by decide +kernel)) ggX8_load_X8_ahead
set_option maxRecDepth 20000 in
theorem ggX8_load_X8_statement : GoodIn wsX8_load wsX8_statement := goodIn_r _ [124, 4, 9, 11, 38, 39, 40, 16, 41, 42, 43, 44, 45, 3, 46, 30, 31, 32, 33, 34, 35, 36, 37, 5, 47, 48, 49, 50, 51, 52, 53, 54, 55, 56, 57, 58, 59, 60, 61, 62, 63, 64, 65, 66, 67, 68, 69, 70, 71, 72, 73, 74, 75, 76, 77, 78, 79, 80, 81, 82, 83, 84, 85, 86, 87, 88, 89, 90, 91, 92, 93, 94, 95, 14, 15, 17, 96, 97, 98, 99, 6, 125, 126, 127, 128, 129, 130, 131, 132, 8, 100, 101, 102, 103, 29, 104, 105, 106, 107, 108, 109, 110, 133, 134, 135, 136, 10, 137, 138, 139, 140, 141, 142, 143, 144, 145, 146, 147, 148, 149, 150, 151, 152, 153, 154, 155, 156, 157, 158, 159, 160, 161, 162, 163, 164, 165, 7, 117, 118, 119, 120, 166, 167, 168, 169, 187, 188, 189, 190, 191, 192, 193, 194, 195, 196, 197, 198, 199, 200, 201, 202, 203, 204, 205, 206, 207] (by decide +kernel) (by decide +kernel)
set_option maxRecDepth 20000 in
theorem gX8_load_X8_statement : GoodIn wsX8_load (wsV RX8 205 RX8 yX8_statement wsX8_statement) := goodIn_app (goodIn_of _ (by decide +kernel)) ggX8_load_X8_statement
set_option maxRecDepth 20000 in
theorem ggX8_load_X8_remember : GoodIn wsX8_load wsX8_remember := goodIn_r _ [173, 174, 175, 13, 176, 177, 16, 178, 187, 188, 189, 190, 191, 192, 193, 194, 195, 196, 197, 198, 199, 200, 201, 202, 203, 204, 205, 206, 207] (by decide +kernel) (by decide +kernel)
set_option maxRecDepth 20000 in
theorem gX8_load_X8_remember : GoodIn wsX8_load (wsV RX8 208 RX8 yX8_remember wsX8_remember) := goodIn_app (goodIn_of _ (by decide +kernel)) ggX8_load_X8_remember
set_option maxRecDepth 20000 in
theorem ggX8_load_X8_copy : GoodIn wsX8_load wsX8_copy := goodIn_r _ [178] (by decide +kernel) (by decide +kernel)
set_option maxRecDepth 20000 in
theorem gX8_load_X8_copy : GoodIn wsX8_load (va_wsS RX8 211 yX8_copy wsX8_copy) := goodIn_app (goodIn_of _ (by decide +kernel)) ggX8_load_X8_copy
set_option maxRecDepth 20000 in
theorem ggX8_load_X8_wordsOfAll : GoodIn wsX8_load wsX8_wordsOfAll := goodIn_r _ [182, 13, 183, 184, 185, 16, 186, 148, 149, 150, 187, 188, 189, 190, 191, 192, 193, 194, 195, 196, 197, 198, 199, 200, 201, 202, 203, 204, 205, 206, 207] (by decide +kernel) (by decide +kernel)
set_option maxRecDepth 20000 in
theorem gX8_load_X8_wordsOfAll : GoodIn wsX8_load (wsV RX8 215 RX8 yX8_wordsOfAll wsX8_wordsOfAll) := goodIn_app (goodIn_of _ (by decide +kernel)) ggX8_load_X8_wordsOfAll
theorem dX8_load_0 : decode cX8_load 0 = .ok (.aload_n 0, 1) := by decide +kernel
theorem dX8_load_1 : decode cX8_load 1 = .ok (.iconst 0, 1) := by decide +kernel
theorem dX8_load_2 : decode cX8_load 2 = .ok (.putfield 49, 3) := by decide +kernel
theorem dX8_load_5 : decode cX8_load 5 = .ok (.aload_n 0, 1) := by decide +kernel
theorem dX8_load_6 : decode cX8_load 6 = .ok (.iload_n 1, 1) := by decide +kernel
theorem dX8_load_7 : decode cX8_load 7 = .ok (.iconst 0, 1) := by decide +kernel
theorem dX8_load_8 : decode cX8_load 8 = .ok (.aload_n 0, 1) := by decide +kernel
theorem dX8_load_9 : decode cX8_load 9 = .ok (.getfield 59, 3) := by decide +kernel
theorem dX8_load_12 : decode cX8_load 12 = .ok (.invokestatic 77, 3) := by decide +kernel
theorem dX8_load_15 : decode cX8_load 15 = .ok (.ifCond .ne 7, 3) := by decide +kernel
theorem dX8_load_18 : decode cX8_load 18 = .ok (.iconst 1, 1) := by decide +kernel
theorem dX8_load_19 : decode cX8_load 19 = .ok (.goto 4, 3) := by decide +kernel
theorem dX8_load_22 : decode cX8_load 22 = .ok (.iconst 0, 1) := by decide +kernel
theorem dX8_load_23 : decode cX8_load 23 = .ok (.iconst 1, 1) := by decide +kernel
theorem dX8_load_24 : decode cX8_load 24 = .ok (.invokevirtual 198, 3) := by decide +kernel
theorem dX8_load_27 : decode cX8_load 27 = .ok (.ifCond .eq 5, 3) := by decide +kernel
theorem dX8_load_30 : decode cX8_load 30 = .ok (.iconst 0, 1) := by decide +kernel
theorem dX8_load_31 : decode cX8_load 31 = .ok (.ireturn, 1) := by decide +kernel
theorem dX8_load_32 : decode cX8_load 32 = .ok (.aload_n 0, 1) := by decide +kernel
theorem dX8_load_33 : decode cX8_load 33 = .ok (.iconst 0, 1) := by decide +kernel
theorem dX8_load_34 : decode cX8_load 34 = .ok (.putfield 59, 3) := by decide +kernel
theorem dX8_load_37 : decode cX8_load 37 = .ok (.aload_n 0, 1) := by decide +kernel
theorem dX8_load_38 : decode cX8_load 38 = .ok (.iload_n 1, 1) := by decide +kernel
theorem dX8_load_39 : decode cX8_load 39 = .ok (.putfield 62, 3) := by decide +kernel
theorem dX8_load_42 : decode cX8_load 42 = .ok (.aload_n 0, 1) := by decide +kernel
theorem dX8_load_43 : decode cX8_load 43 = .ok (.iconst 0, 1) := by decide +kernel
theorem dX8_load_44 : decode cX8_load 44 = .ok (.putfield 65, 3) := by decide +kernel
theorem dX8_load_47 : decode cX8_load 47 = .ok (.aload_n 0, 1) := by decide +kernel
theorem dX8_load_48 : decode cX8_load 48 = .ok (.iconst 0, 1) := by decide +kernel
theorem dX8_load_49 : decode cX8_load 49 = .ok (.putfield 71, 3) := by decide +kernel
theorem dX8_load_52 : decode cX8_load 52 = .ok (.aload_n 0, 1) := by decide +kernel
theorem dX8_load_53 : decode cX8_load 53 = .ok (.iconst (-1), 1) := by decide +kernel
theorem dX8_load_54 : decode cX8_load 54 = .ok (.putfield 74, 3) := by decide +kernel
theorem dX8_load_57 : decode cX8_load 57 = .ok (.aload_n 0, 1) := by decide +kernel
theorem dX8_load_58 : decode cX8_load 58 = .ok (.iconst 0, 1) := by decide +kernel
theorem dX8_load_59 : decode cX8_load 59 = .ok (.putfield 114, 3) := by decide +kernel
theorem dX8_load_62 : decode cX8_load 62 = .ok (.aload_n 0, 1) := by decide +kernel
theorem dX8_load_63 : decode cX8_load 63 = .ok (.iconst 0, 1) := by decide +kernel
theorem dX8_load_64 : decode cX8_load 64 = .ok (.putfield 152, 3) := by decide +kernel
theorem dX8_load_67 : decode cX8_load 67 = .ok (.aload_n 0, 1) := by decide +kernel
theorem dX8_load_68 : decode cX8_load 68 = .ok (.iconst 0, 1) := by decide +kernel
theorem dX8_load_69 : decode cX8_load 69 = .ok (.putfield 164, 3) := by decide +kernel
theorem dX8_load_72 : decode cX8_load 72 = .ok (.aload_n 0, 1) := by decide +kernel
theorem dX8_load_73 : decode cX8_load 73 = .ok (.iconst 0, 1) := by decide +kernel
theorem dX8_load_74 : decode cX8_load 74 = .ok (.putfield 158, 3) := by decide +kernel
theorem dX8_load_77 : decode cX8_load 77 = .ok (.aload_n 0, 1) := by decide +kernel
theorem dX8_load_78 : decode cX8_load 78 = .ok (.getfield 20, 3) := by decide +kernel
theorem dX8_load_81 : decode cX8_load 81 = .ok (.invokestatic 41, 3) := by decide +kernel
theorem dX8_load_84 : decode cX8_load 84 = .ok (.aload_n 0, 1) := by decide +kernel
theorem dX8_load_85 : decode cX8_load 85 = .ok (.invokevirtual 202, 3) := by decide +kernel
theorem dX8_load_88 : decode cX8_load 88 = .ok (.aload_n 0, 1) := by decide +kernel
theorem dX8_load_89 : decode cX8_load 89 = .ok (.invokevirtual 81, 3) := by decide +kernel
theorem dX8_load_92 : decode cX8_load 92 = .ok (.ifCond .eq 18, 3) := by decide +kernel
theorem dX8_load_95 : decode cX8_load 95 = .ok (.aload_n 0, 1) := by decide +kernel
theorem dX8_load_96 : decode cX8_load 96 = .ok (.invokevirtual 85, 3) := by decide +kernel
theorem dX8_load_99 : decode cX8_load 99 = .ok (.iconst (-1), 1) := by decide +kernel
theorem dX8_load_100 : decode cX8_load 100 = .ok (.if_icmp .eq 10, 3) := by decide +kernel
theorem dX8_load_103 : decode cX8_load 103 = .ok (.aload_n 0, 1) := by decide +kernel
theorem dX8_load_104 : decode cX8_load 104 = .ok (.invokevirtual 205, 3) := by decide +kernel
theorem dX8_load_107 : decode cX8_load 107 = .ok (.goto (-19), 3) := by decide +kernel
theorem dX8_load_110 : decode cX8_load 110 = .ok (.aload_n 0, 1) := by decide +kernel
theorem dX8_load_111 : decode cX8_load 111 = .ok (.aload_n 0, 1) := by decide +kernel
theorem dX8_load_112 : decode cX8_load 112 = .ok (.getfield 74, 3) := by decide +kernel
theorem dX8_load_115 : decode cX8_load 115 = .ok (.putfield 13, 3) := by decide +kernel
theorem dX8_load_118 : decode cX8_load 118 = .ok (.aload_n 0, 1) := by decide +kernel
theorem dX8_load_119 : decode cX8_load 119 = .ok (.invokevirtual 81, 3) := by decide +kernel
theorem dX8_load_122 : decode cX8_load 122 = .ok (.ifCond .ne 8, 3) := by decide +kernel
theorem dX8_load_125 : decode cX8_load 125 = .ok (.aload_n 0, 1) := by decide +kernel
theorem dX8_load_126 : decode cX8_load 126 = .ok (.getfield 71, 3) := by decide +kernel
theorem dX8_load_129 : decode cX8_load 129 = .ok (.ireturn, 1) := by decide +kernel
theorem dX8_load_130 : decode cX8_load 130 = .ok (.aload_n 0, 1) := by decide +kernel
theorem dX8_load_131 : decode cX8_load 131 = .ok (.invokevirtual 208, 3) := by decide +kernel
theorem dX8_load_134 : decode cX8_load 134 = .ok (.aload_n 0, 1) := by decide +kernel
theorem dX8_load_135 : decode cX8_load 135 = .ok (.getfield 20, 3) := by decide +kernel
theorem dX8_load_138 : decode cX8_load 138 = .ok (.aload_n 0, 1) := by decide +kernel
theorem dX8_load_139 : decode cX8_load 139 = .ok (.getfield 17, 3) := by decide +kernel
theorem dX8_load_142 : decode cX8_load 142 = .ok (.sipush 1802, 3) := by decide +kernel
theorem dX8_load_145 : decode cX8_load 145 = .ok (.invokestatic 211, 3) := by decide +kernel
theorem dX8_load_148 : decode cX8_load 148 = .ok (.aload_n 0, 1) := by decide +kernel
theorem dX8_load_149 : decode cX8_load 149 = .ok (.invokevirtual 215, 3) := by decide +kernel
theorem dX8_load_152 : decode cX8_load 152 = .ok (.ireturn, 1) := by decide +kernel
theorem dX8_errorOffset_0 : decode cX8_errorOffset 0 = .ok (.aload_n 0, 1) := by decide +kernel
theorem dX8_errorOffset_1 : decode cX8_errorOffset 1 = .ok (.iconst 0, 1) := by decide +kernel
theorem dX8_errorOffset_2 : decode cX8_errorOffset 2 = .ok (.putfield 49, 3) := by decide +kernel
theorem dX8_errorOffset_5 : decode cX8_errorOffset 5 = .ok (.aload_n 0, 1) := by decide +kernel
theorem dX8_errorOffset_6 : decode cX8_errorOffset 6 = .ok (.getfield 13, 3) := by decide +kernel
theorem dX8_errorOffset_9 : decode cX8_errorOffset 9 = .ok (.ireturn, 1) := by decide +kernel
set_option maxRecDepth 20000 in
theorem ggX8_ofRow_X8_rowAt : GoodIn wsX8_ofRow wsX8_rowAt := goodIn_r _ [5] (by decide +kernel) (by decide +kernel)
set_option maxRecDepth 20000 in
theorem gX8_ofRow_X8_rowAt : GoodIn wsX8_ofRow (va_wsS RX8 52 yX8_rowAt wsX8_rowAt) := goodIn_app (goodIn_of _ (by decide +kernel)) ggX8_ofRow_X8_rowAt
theorem dX8_ofRow_0 : decode cX8_ofRow 0 = .ok (.aload_n 0, 1) := by decide +kernel
theorem dX8_ofRow_1 : decode cX8_ofRow 1 = .ok (.getfield 17, 3) := by decide +kernel
theorem dX8_ofRow_4 : decode cX8_ofRow 4 = .ok (.iload_n 1, 1) := by decide +kernel
theorem dX8_ofRow_5 : decode cX8_ofRow 5 = .ok (.invokestatic 52, 3) := by decide +kernel
theorem dX8_ofRow_8 : decode cX8_ofRow 8 = .ok (.iload_n 2, 1) := by decide +kernel
theorem dX8_ofRow_9 : decode cX8_ofRow 9 = .ok (.iadd, 1) := by decide +kernel
theorem dX8_ofRow_10 : decode cX8_ofRow 10 = .ok (.iaload, 1) := by decide +kernel
theorem dX8_ofRow_11 : decode cX8_ofRow 11 = .ok (.ireturn, 1) := by decide +kernel
set_option maxRecDepth 20000 in
theorem ggX8_ofPlayer_X8_playerAt : GoodIn wsX8_ofPlayer wsX8_playerAt := goodIn_r _ [5] (by decide +kernel) (by decide +kernel)
set_option maxRecDepth 20000 in
theorem gX8_ofPlayer_X8_playerAt : GoodIn wsX8_ofPlayer (va_wsS RX8 56 yX8_playerAt wsX8_playerAt) := goodIn_app (goodIn_of _ (by decide +kernel)) ggX8_ofPlayer_X8_playerAt
theorem dX8_ofPlayer_0 : decode cX8_ofPlayer 0 = .ok (.aload_n 0, 1) := by decide +kernel
theorem dX8_ofPlayer_1 : decode cX8_ofPlayer 1 = .ok (.getfield 17, 3) := by decide +kernel
theorem dX8_ofPlayer_4 : decode cX8_ofPlayer 4 = .ok (.iload_n 1, 1) := by decide +kernel
theorem dX8_ofPlayer_5 : decode cX8_ofPlayer 5 = .ok (.invokestatic 56, 3) := by decide +kernel
theorem dX8_ofPlayer_8 : decode cX8_ofPlayer 8 = .ok (.iload_n 2, 1) := by decide +kernel
theorem dX8_ofPlayer_9 : decode cX8_ofPlayer 9 = .ok (.iadd, 1) := by decide +kernel
theorem dX8_ofPlayer_10 : decode cX8_ofPlayer 10 = .ok (.iaload, 1) := by decide +kernel
theorem dX8_ofPlayer_11 : decode cX8_ofPlayer 11 = .ok (.ireturn, 1) := by decide +kernel
set_option maxRecDepth 20000 in
theorem ggX8_lengthOf_X8_wordAt : GoodIn wsX8_lengthOf wsX8_wordAt := goodIn_r _ [5, 6, 7, 4, 8] (by decide +kernel) (by decide +kernel)
set_option maxRecDepth 20000 in
theorem gX8_lengthOf_X8_wordAt : GoodIn wsX8_lengthOf (va_wsS RX8 161 yX8_wordAt wsX8_wordAt) := goodIn_app (goodIn_of _ (by decide +kernel)) ggX8_lengthOf_X8_wordAt
theorem dX8_lengthOf_0 : decode cX8_lengthOf 0 = .ok (.aload_n 0, 1) := by decide +kernel
theorem dX8_lengthOf_1 : decode cX8_lengthOf 1 = .ok (.getfield 17, 3) := by decide +kernel
theorem dX8_lengthOf_4 : decode cX8_lengthOf 4 = .ok (.iload_n 1, 1) := by decide +kernel
theorem dX8_lengthOf_5 : decode cX8_lengthOf 5 = .ok (.iload_n 2, 1) := by decide +kernel
theorem dX8_lengthOf_6 : decode cX8_lengthOf 6 = .ok (.invokestatic 161, 3) := by decide +kernel
theorem dX8_lengthOf_9 : decode cX8_lengthOf 9 = .ok (.iaload, 1) := by decide +kernel
theorem dX8_lengthOf_10 : decode cX8_lengthOf 10 = .ok (.ireturn, 1) := by decide +kernel
set_option maxRecDepth 20000 in
theorem ggX8_free_X8_ofRow : GoodIn wsX8_free wsX8_ofRow := goodIn_r _ [5, 6, 7, 8, 4, 9, 10, 11, 12, 13, 14, 15, 16, 17, 18, 19, 20, 21, 22, 23, 24, 25, 26, 27, 28, 29, 30] (by decide +kernel) (by decide +kernel)
set_option maxRecDepth 20000 in
theorem gX8_free_X8_ofRow : GoodIn wsX8_free (wsV RX8 218 RX8 yX8_ofRow wsX8_ofRow) := goodIn_app (goodIn_of _ (by decide +kernel)) ggX8_free_X8_ofRow
theorem dX8_free_0 : decode cX8_free 0 = .ok (.aload_n 0, 1) := by decide +kernel
theorem dX8_free_1 : decode cX8_free 1 = .ok (.iload_n 1, 1) := by decide +kernel
theorem dX8_free_2 : decode cX8_free 2 = .ok (.iconst 0, 1) := by decide +kernel
theorem dX8_free_3 : decode cX8_free 3 = .ok (.invokevirtual 218, 3) := by decide +kernel
theorem dX8_free_6 : decode cX8_free 6 = .ok (.aload_n 0, 1) := by decide +kernel
theorem dX8_free_7 : decode cX8_free 7 = .ok (.iload_n 1, 1) := by decide +kernel
theorem dX8_free_8 : decode cX8_free 8 = .ok (.iconst 1, 1) := by decide +kernel
theorem dX8_free_9 : decode cX8_free 9 = .ok (.invokevirtual 218, 3) := by decide +kernel
theorem dX8_free_12 : decode cX8_free 12 = .ok (.isub, 1) := by decide +kernel
theorem dX8_free_13 : decode cX8_free 13 = .ok (.ireturn, 1) := by decide +kernel
theorem dX8_areAlike_0 : decode cX8_areAlike 0 = .ok (.iload_n 1, 1) := by decide +kernel
theorem dX8_areAlike_1 : decode cX8_areAlike 1 = .ok (.iload_n 2, 1) := by decide +kernel
theorem dX8_areAlike_2 : decode cX8_areAlike 2 = .ok (.if_icmp .eq 36, 3) := by decide +kernel
theorem dX8_areAlike_5 : decode cX8_areAlike 5 = .ok (.aload_n 0, 1) := by decide +kernel
theorem dX8_areAlike_6 : decode cX8_areAlike 6 = .ok (.getfield 17, 3) := by decide +kernel
theorem dX8_areAlike_9 : decode cX8_areAlike 9 = .ok (.bipush 10, 2) := by decide +kernel
theorem dX8_areAlike_11 : decode cX8_areAlike 11 = .ok (.iload_n 1, 1) := by decide +kernel
theorem dX8_areAlike_12 : decode cX8_areAlike 12 = .ok (.iadd, 1) := by decide +kernel
theorem dX8_areAlike_13 : decode cX8_areAlike 13 = .ok (.iaload, 1) := by decide +kernel
theorem dX8_areAlike_14 : decode cX8_areAlike 14 = .ok (.ifCond .eq 28, 3) := by decide +kernel
theorem dX8_areAlike_17 : decode cX8_areAlike 17 = .ok (.aload_n 0, 1) := by decide +kernel
theorem dX8_areAlike_18 : decode cX8_areAlike 18 = .ok (.getfield 17, 3) := by decide +kernel
theorem dX8_areAlike_21 : decode cX8_areAlike 21 = .ok (.bipush 10, 2) := by decide +kernel
theorem dX8_areAlike_23 : decode cX8_areAlike 23 = .ok (.iload_n 1, 1) := by decide +kernel
theorem dX8_areAlike_24 : decode cX8_areAlike 24 = .ok (.iadd, 1) := by decide +kernel
theorem dX8_areAlike_25 : decode cX8_areAlike 25 = .ok (.iaload, 1) := by decide +kernel
theorem dX8_areAlike_26 : decode cX8_areAlike 26 = .ok (.aload_n 0, 1) := by decide +kernel
theorem dX8_areAlike_27 : decode cX8_areAlike 27 = .ok (.getfield 17, 3) := by decide +kernel
theorem dX8_areAlike_30 : decode cX8_areAlike 30 = .ok (.bipush 10, 2) := by decide +kernel
theorem dX8_areAlike_32 : decode cX8_areAlike 32 = .ok (.iload_n 2, 1) := by decide +kernel
theorem dX8_areAlike_33 : decode cX8_areAlike 33 = .ok (.iadd, 1) := by decide +kernel
theorem dX8_areAlike_34 : decode cX8_areAlike 34 = .ok (.iaload, 1) := by decide +kernel
theorem dX8_areAlike_35 : decode cX8_areAlike 35 = .ok (.if_icmp .ne 7, 3) := by decide +kernel
theorem dX8_areAlike_38 : decode cX8_areAlike 38 = .ok (.iconst 1, 1) := by decide +kernel
theorem dX8_areAlike_39 : decode cX8_areAlike 39 = .ok (.goto 4, 3) := by decide +kernel
theorem dX8_areAlike_42 : decode cX8_areAlike 42 = .ok (.iconst 0, 1) := by decide +kernel
theorem dX8_areAlike_43 : decode cX8_areAlike 43 = .ok (.ireturn, 1) := by decide +kernel
set_option maxRecDepth 20000 in
theorem ggX8_rhymeOf_X8_min : GoodIn wsX8_rhymeOf wsX8_min := goodIn_r _ [5] (by decide +kernel) (by decide +kernel)
set_option maxRecDepth 20000 in
theorem gX8_rhymeOf_X8_min : GoodIn wsX8_rhymeOf (va_wsS RX8 110 yX8_min wsX8_min) := goodIn_app (goodIn_of _ (by decide +kernel)) ggX8_rhymeOf_X8_min
set_option maxRecDepth 20000 in
theorem ggX8_rhymeOf_X8_areAlike : GoodIn wsX8_rhymeOf wsX8_areAlike := goodIn_r _ [9, 1, 10, 11, 12, 13, 14, 15, 16, 17, 18, 19, 20, 21, 22, 23, 24, 25, 26, 27, 28, 29, 30] (by decide +kernel) (by decide +kernel)
set_option maxRecDepth 20000 in
theorem gX8_rhymeOf_X8_areAlike : GoodIn wsX8_rhymeOf (wsV RX8 221 RX8 yX8_areAlike wsX8_areAlike) := goodIn_app (goodIn_of _ (by decide +kernel)) ggX8_rhymeOf_X8_areAlike
theorem dX8_rhymeOf_0 : decode cX8_rhymeOf 0 = .ok (.iconst 0, 1) := by decide +kernel
theorem dX8_rhymeOf_1 : decode cX8_rhymeOf 1 = .ok (.istore 5, 2) := by decide +kernel
theorem dX8_rhymeOf_3 : decode cX8_rhymeOf 3 = .ok (.iload 5, 2) := by decide +kernel
theorem dX8_rhymeOf_5 : decode cX8_rhymeOf 5 = .ok (.iload_n 2, 1) := by decide +kernel
theorem dX8_rhymeOf_6 : decode cX8_rhymeOf 6 = .ok (.iload 4, 2) := by decide +kernel
theorem dX8_rhymeOf_8 : decode cX8_rhymeOf 8 = .ok (.invokestatic 110, 3) := by decide +kernel
theorem dX8_rhymeOf_11 : decode cX8_rhymeOf 11 = .ok (.if_icmp .ge 43, 3) := by decide +kernel
theorem dX8_rhymeOf_14 : decode cX8_rhymeOf 14 = .ok (.aload_n 0, 1) := by decide +kernel
theorem dX8_rhymeOf_15 : decode cX8_rhymeOf 15 = .ok (.aload_n 0, 1) := by decide +kernel
theorem dX8_rhymeOf_16 : decode cX8_rhymeOf 16 = .ok (.getfield 17, 3) := by decide +kernel
theorem dX8_rhymeOf_19 : decode cX8_rhymeOf 19 = .ok (.iload_n 1, 1) := by decide +kernel
theorem dX8_rhymeOf_20 : decode cX8_rhymeOf 20 = .ok (.iload_n 2, 1) := by decide +kernel
theorem dX8_rhymeOf_21 : decode cX8_rhymeOf 21 = .ok (.iadd, 1) := by decide +kernel
theorem dX8_rhymeOf_22 : decode cX8_rhymeOf 22 = .ok (.iconst 1, 1) := by decide +kernel
theorem dX8_rhymeOf_23 : decode cX8_rhymeOf 23 = .ok (.isub, 1) := by decide +kernel
theorem dX8_rhymeOf_24 : decode cX8_rhymeOf 24 = .ok (.iload 5, 2) := by decide +kernel
theorem dX8_rhymeOf_26 : decode cX8_rhymeOf 26 = .ok (.isub, 1) := by decide +kernel
theorem dX8_rhymeOf_27 : decode cX8_rhymeOf 27 = .ok (.iaload, 1) := by decide +kernel
theorem dX8_rhymeOf_28 : decode cX8_rhymeOf 28 = .ok (.aload_n 0, 1) := by decide +kernel
theorem dX8_rhymeOf_29 : decode cX8_rhymeOf 29 = .ok (.getfield 17, 3) := by decide +kernel
theorem dX8_rhymeOf_32 : decode cX8_rhymeOf 32 = .ok (.iload_n 3, 1) := by decide +kernel
theorem dX8_rhymeOf_33 : decode cX8_rhymeOf 33 = .ok (.iload 4, 2) := by decide +kernel
theorem dX8_rhymeOf_35 : decode cX8_rhymeOf 35 = .ok (.iadd, 1) := by decide +kernel
theorem dX8_rhymeOf_36 : decode cX8_rhymeOf 36 = .ok (.iconst 1, 1) := by decide +kernel
theorem dX8_rhymeOf_37 : decode cX8_rhymeOf 37 = .ok (.isub, 1) := by decide +kernel
theorem dX8_rhymeOf_38 : decode cX8_rhymeOf 38 = .ok (.iload 5, 2) := by decide +kernel
theorem dX8_rhymeOf_40 : decode cX8_rhymeOf 40 = .ok (.isub, 1) := by decide +kernel
theorem dX8_rhymeOf_41 : decode cX8_rhymeOf 41 = .ok (.iaload, 1) := by decide +kernel
theorem dX8_rhymeOf_42 : decode cX8_rhymeOf 42 = .ok (.invokevirtual 221, 3) := by decide +kernel
theorem dX8_rhymeOf_45 : decode cX8_rhymeOf 45 = .ok (.ifCond .eq 9, 3) := by decide +kernel
theorem dX8_rhymeOf_48 : decode cX8_rhymeOf 48 = .ok (.iinc 5 1, 3) := by decide +kernel
theorem dX8_rhymeOf_51 : decode cX8_rhymeOf 51 = .ok (.goto (-48), 3) := by decide +kernel
theorem dX8_rhymeOf_54 : decode cX8_rhymeOf 54 = .ok (.iload 5, 2) := by decide +kernel
theorem dX8_rhymeOf_56 : decode cX8_rhymeOf 56 = .ok (.ireturn, 1) := by decide +kernel
theorem dX8_areSame_0 : decode cX8_areSame 0 = .ok (.iload_n 2, 1) := by decide +kernel
theorem dX8_areSame_1 : decode cX8_areSame 1 = .ok (.iload 4, 2) := by decide +kernel
theorem dX8_areSame_3 : decode cX8_areSame 3 = .ok (.if_icmp .ne 7, 3) := by decide +kernel
theorem dX8_areSame_6 : decode cX8_areSame 6 = .ok (.iconst 1, 1) := by decide +kernel
theorem dX8_areSame_7 : decode cX8_areSame 7 = .ok (.goto 4, 3) := by decide +kernel
theorem dX8_areSame_10 : decode cX8_areSame 10 = .ok (.iconst 0, 1) := by decide +kernel
theorem dX8_areSame_11 : decode cX8_areSame 11 = .ok (.istore 5, 2) := by decide +kernel
theorem dX8_areSame_13 : decode cX8_areSame 13 = .ok (.iconst 0, 1) := by decide +kernel
theorem dX8_areSame_14 : decode cX8_areSame 14 = .ok (.istore 6, 2) := by decide +kernel
theorem dX8_areSame_16 : decode cX8_areSame 16 = .ok (.iload 6, 2) := by decide +kernel
theorem dX8_areSame_18 : decode cX8_areSame 18 = .ok (.iload_n 2, 1) := by decide +kernel
theorem dX8_areSame_19 : decode cX8_areSame 19 = .ok (.if_icmp .ge 42, 3) := by decide +kernel
theorem dX8_areSame_22 : decode cX8_areSame 22 = .ok (.iload 5, 2) := by decide +kernel
theorem dX8_areSame_24 : decode cX8_areSame 24 = .ok (.ifCond .eq 37, 3) := by decide +kernel
theorem dX8_areSame_27 : decode cX8_areSame 27 = .ok (.aload_n 0, 1) := by decide +kernel
theorem dX8_areSame_28 : decode cX8_areSame 28 = .ok (.getfield 17, 3) := by decide +kernel
theorem dX8_areSame_31 : decode cX8_areSame 31 = .ok (.iload_n 1, 1) := by decide +kernel
theorem dX8_areSame_32 : decode cX8_areSame 32 = .ok (.iload 6, 2) := by decide +kernel
theorem dX8_areSame_34 : decode cX8_areSame 34 = .ok (.iadd, 1) := by decide +kernel
theorem dX8_areSame_35 : decode cX8_areSame 35 = .ok (.iaload, 1) := by decide +kernel
theorem dX8_areSame_36 : decode cX8_areSame 36 = .ok (.aload_n 0, 1) := by decide +kernel
theorem dX8_areSame_37 : decode cX8_areSame 37 = .ok (.getfield 17, 3) := by decide +kernel
theorem dX8_areSame_40 : decode cX8_areSame 40 = .ok (.iload_n 3, 1) := by decide +kernel
theorem dX8_areSame_41 : decode cX8_areSame 41 = .ok (.iload 6, 2) := by decide +kernel
theorem dX8_areSame_43 : decode cX8_areSame 43 = .ok (.iadd, 1) := by decide +kernel
theorem dX8_areSame_44 : decode cX8_areSame 44 = .ok (.iaload, 1) := by decide +kernel
theorem dX8_areSame_45 : decode cX8_areSame 45 = .ok (.if_icmp .ne 7, 3) := by decide +kernel
theorem dX8_areSame_48 : decode cX8_areSame 48 = .ok (.iconst 1, 1) := by decide +kernel
theorem dX8_areSame_49 : decode cX8_areSame 49 = .ok (.goto 4, 3) := by decide +kernel
theorem dX8_areSame_52 : decode cX8_areSame 52 = .ok (.iconst 0, 1) := by decide +kernel
theorem dX8_areSame_53 : decode cX8_areSame 53 = .ok (.istore 5, 2) := by decide +kernel
theorem dX8_areSame_55 : decode cX8_areSame 55 = .ok (.iinc 6 1, 3) := by decide +kernel
theorem dX8_areSame_58 : decode cX8_areSame 58 = .ok (.goto (-42), 3) := by decide +kernel
theorem dX8_areSame_61 : decode cX8_areSame 61 = .ok (.iload 5, 2) := by decide +kernel
theorem dX8_areSame_63 : decode cX8_areSame 63 = .ok (.ireturn, 1) := by decide +kernel
set_option maxRecDepth 20000 in
theorem ggX8_lastAt_X8_rowAt : GoodIn wsX8_lastAt wsX8_rowAt := goodIn_r _ [4] (by decide +kernel) (by decide +kernel)
set_option maxRecDepth 20000 in
theorem gX8_lastAt_X8_rowAt : GoodIn wsX8_lastAt (va_wsS RX8 52 yX8_rowAt wsX8_rowAt) := goodIn_app (goodIn_of _ (by decide +kernel)) ggX8_lastAt_X8_rowAt
set_option maxRecDepth 20000 in
theorem ggX8_lastAt_X8_ofRow : GoodIn wsX8_lastAt wsX8_ofRow := goodIn_r _ [8, 9, 1, 2, 3, 4, 10, 11, 12, 13, 14, 15, 16, 17, 18, 19, 20, 21, 22, 23, 24, 25, 26, 27, 28, 29, 30] (by decide +kernel) (by decide +kernel)
set_option maxRecDepth 20000 in
theorem gX8_lastAt_X8_ofRow : GoodIn wsX8_lastAt (wsV RX8 218 RX8 yX8_ofRow wsX8_ofRow) := goodIn_app (goodIn_of _ (by decide +kernel)) ggX8_lastAt_X8_ofRow
theorem dX8_lastAt_0 : decode cX8_lastAt 0 = .ok (.iload_n 1, 1) := by decide +kernel
theorem dX8_lastAt_1 : decode cX8_lastAt 1 = .ok (.invokestatic 52, 3) := by decide +kernel
theorem dX8_lastAt_4 : decode cX8_lastAt 4 = .ok (.iconst 5, 1) := by decide +kernel
theorem dX8_lastAt_5 : decode cX8_lastAt 5 = .ok (.iadd, 1) := by decide +kernel
theorem dX8_lastAt_6 : decode cX8_lastAt 6 = .ok (.aload_n 0, 1) := by decide +kernel
theorem dX8_lastAt_7 : decode cX8_lastAt 7 = .ok (.iload_n 1, 1) := by decide +kernel
theorem dX8_lastAt_8 : decode cX8_lastAt 8 = .ok (.iconst 1, 1) := by decide +kernel
theorem dX8_lastAt_9 : decode cX8_lastAt 9 = .ok (.invokevirtual 218, 3) := by decide +kernel
theorem dX8_lastAt_12 : decode cX8_lastAt 12 = .ok (.iadd, 1) := by decide +kernel
theorem dX8_lastAt_13 : decode cX8_lastAt 13 = .ok (.aload_n 0, 1) := by decide +kernel
theorem dX8_lastAt_14 : decode cX8_lastAt 14 = .ok (.iload_n 1, 1) := by decide +kernel
theorem dX8_lastAt_15 : decode cX8_lastAt 15 = .ok (.iconst 4, 1) := by decide +kernel
theorem dX8_lastAt_16 : decode cX8_lastAt 16 = .ok (.invokevirtual 218, 3) := by decide +kernel
theorem dX8_lastAt_19 : decode cX8_lastAt 19 = .ok (.isub, 1) := by decide +kernel
theorem dX8_lastAt_20 : decode cX8_lastAt 20 = .ok (.ireturn, 1) := by decide +kernel
set_option maxRecDepth 20000 in
theorem ggX8_rhymeWith_X8_wordAt : GoodIn wsX8_rhymeWith wsX8_wordAt := goodIn_r _ [4, 5, 6, 3, 7] (by decide +kernel) (by decide +kernel)
set_option maxRecDepth 20000 in
theorem gX8_rhymeWith_X8_wordAt : GoodIn wsX8_rhymeWith (va_wsS RX8 161 yX8_wordAt wsX8_wordAt) := goodIn_app (goodIn_of _ (by decide +kernel)) ggX8_rhymeWith_X8_wordAt
set_option maxRecDepth 20000 in
theorem ggX8_rhymeWith_X8_lengthOf : GoodIn wsX8_rhymeWith wsX8_lengthOf := goodIn_r _ [11, 12, 1, 2, 3, 4, 5, 6, 7, 35, 36, 37, 38, 39, 40, 41, 42, 43, 44, 45, 46, 47, 48, 49, 50, 51, 52, 53, 54, 55] (by decide +kernel) (by decide +kernel)
set_option maxRecDepth 20000 in
theorem gX8_rhymeWith_X8_lengthOf : GoodIn wsX8_rhymeWith (wsV RX8 225 RX8 yX8_lengthOf wsX8_lengthOf) := goodIn_app (goodIn_of _ (by decide +kernel)) ggX8_rhymeWith_X8_lengthOf
set_option maxRecDepth 20000 in
theorem ggX8_rhymeWith_X8_lastAt : GoodIn wsX8_rhymeWith wsX8_lastAt := goodIn_r _ [16, 17, 18, 3, 19, 20, 21, 22, 23, 12, 35, 36, 37, 38, 39, 40, 41, 42, 43, 44, 45, 46, 47, 48, 49, 50, 51, 52, 53, 54, 55] (by decide +kernel) (by decide +kernel)
set_option maxRecDepth 20000 in
theorem gX8_rhymeWith_X8_lastAt : GoodIn wsX8_rhymeWith (wsV RX8 228 RX8 yX8_lastAt wsX8_lastAt) := goodIn_app (goodIn_of _ (by decide +kernel)) ggX8_rhymeWith_X8_lastAt
set_option maxRecDepth 20000 in
theorem ggX8_rhymeWith_X8_ofRow : GoodIn wsX8_rhymeWith wsX8_ofRow := goodIn_r _ [23, 12, 17, 18, 3, 19, 35, 36, 37, 38, 39, 40, 41, 42, 43, 44, 45, 46, 47, 48, 49, 50, 51, 52, 53, 54, 55] (by decide +kernel) (by decide +kernel)
set_option maxRecDepth 20000 in
theorem gX8_rhymeWith_X8_ofRow : GoodIn wsX8_rhymeWith (wsV RX8 218 RX8 yX8_ofRow wsX8_ofRow) := goodIn_app (goodIn_of _ (by decide +kernel)) ggX8_rhymeWith_X8_ofRow
set_option maxRecDepth 20000 in
theorem ggX8_rhymeWith_X8_rhymeOf : GoodIn wsX8_rhymeWith wsX8_rhymeOf := goodIn_r _ [27, 12, 28, 29, 3, 30, 31, 32, 33, 34, 35, 36, 37, 38, 39, 40, 41, 42, 43, 44, 45, 46, 47, 48, 49, 50, 51, 52, 53, 54, 55] (by decide +kernel) (by decide +kernel)
set_option maxRecDepth 20000 in
theorem gX8_rhymeWith_X8_rhymeOf : GoodIn wsX8_rhymeWith (wsV RX8 231 RX8 yX8_rhymeOf wsX8_rhymeOf) := goodIn_app (goodIn_of _ (by decide +kernel)) ggX8_rhymeWith_X8_rhymeOf
theorem dX8_rhymeWith_0 : decode cX8_rhymeWith 0 = .ok (.aload_n 0, 1) := by decide +kernel
theorem dX8_rhymeWith_1 : decode cX8_rhymeWith 1 = .ok (.iload_n 1, 1) := by decide +kernel
theorem dX8_rhymeWith_2 : decode cX8_rhymeWith 2 = .ok (.iload_n 2, 1) := by decide +kernel
theorem dX8_rhymeWith_3 : decode cX8_rhymeWith 3 = .ok (.invokestatic 161, 3) := by decide +kernel
theorem dX8_rhymeWith_6 : decode cX8_rhymeWith 6 = .ok (.iconst 1, 1) := by decide +kernel
theorem dX8_rhymeWith_7 : decode cX8_rhymeWith 7 = .ok (.iadd, 1) := by decide +kernel
theorem dX8_rhymeWith_8 : decode cX8_rhymeWith 8 = .ok (.aload_n 0, 1) := by decide +kernel
theorem dX8_rhymeWith_9 : decode cX8_rhymeWith 9 = .ok (.iload_n 1, 1) := by decide +kernel
theorem dX8_rhymeWith_10 : decode cX8_rhymeWith 10 = .ok (.iload_n 2, 1) := by decide +kernel
theorem dX8_rhymeWith_11 : decode cX8_rhymeWith 11 = .ok (.invokevirtual 225, 3) := by decide +kernel
theorem dX8_rhymeWith_14 : decode cX8_rhymeWith 14 = .ok (.aload_n 0, 1) := by decide +kernel
theorem dX8_rhymeWith_15 : decode cX8_rhymeWith 15 = .ok (.iload_n 3, 1) := by decide +kernel
theorem dX8_rhymeWith_16 : decode cX8_rhymeWith 16 = .ok (.invokevirtual 228, 3) := by decide +kernel
theorem dX8_rhymeWith_19 : decode cX8_rhymeWith 19 = .ok (.aload_n 0, 1) := by decide +kernel
theorem dX8_rhymeWith_20 : decode cX8_rhymeWith 20 = .ok (.iload_n 3, 1) := by decide +kernel
theorem dX8_rhymeWith_21 : decode cX8_rhymeWith 21 = .ok (.iconst 4, 1) := by decide +kernel
theorem dX8_rhymeWith_22 : decode cX8_rhymeWith 22 = .ok (.invokevirtual 218, 3) := by decide +kernel
theorem dX8_rhymeWith_25 : decode cX8_rhymeWith 25 = .ok (.invokevirtual 231, 3) := by decide +kernel
theorem dX8_rhymeWith_28 : decode cX8_rhymeWith 28 = .ok (.ireturn, 1) := by decide +kernel
set_option maxRecDepth 20000 in
theorem ggX8_isSameAs_X8_wordAt : GoodIn wsX8_isSameAs wsX8_wordAt := goodIn_r _ [4, 5, 6, 3, 7] (by decide +kernel) (by decide +kernel)
set_option maxRecDepth 20000 in
theorem gX8_isSameAs_X8_wordAt : GoodIn wsX8_isSameAs (va_wsS RX8 161 yX8_wordAt wsX8_wordAt) := goodIn_app (goodIn_of _ (by decide +kernel)) ggX8_isSameAs_X8_wordAt
set_option maxRecDepth 20000 in
theorem ggX8_isSameAs_X8_lengthOf : GoodIn wsX8_isSameAs wsX8_lengthOf := goodIn_r _ [11, 12, 1, 2, 3, 4, 5, 6, 7, 28, 29, 30, 31, 32, 33, 34, 35, 36, 37, 38, 39, 40, 41, 42, 43, 44, 45, 46, 47, 48] (by decide +kernel) (by decide +kernel)
set_option maxRecDepth 20000 in
theorem gX8_isSameAs_X8_lengthOf : GoodIn wsX8_isSameAs (wsV RX8 225 RX8 yX8_lengthOf wsX8_lengthOf) := goodIn_app (goodIn_of _ (by decide +kernel)) ggX8_isSameAs_X8_lengthOf
set_option maxRecDepth 20000 in
theorem ggX8_isSameAs_X8_lastAt : GoodIn wsX8_isSameAs wsX8_lastAt := goodIn_r _ [16, 17, 18, 3, 19, 20, 21, 22, 23, 12, 28, 29, 30, 31, 32, 33, 34, 35, 36, 37, 38, 39, 40, 41, 42, 43, 44, 45, 46, 47, 48] (by decide +kernel) (by decide +kernel)
set_option maxRecDepth 20000 in
theorem gX8_isSameAs_X8_lastAt : GoodIn wsX8_isSameAs (wsV RX8 228 RX8 yX8_lastAt wsX8_lastAt) := goodIn_app (goodIn_of _ (by decide +kernel)) ggX8_isSameAs_X8_lastAt
set_option maxRecDepth 20000 in
theorem ggX8_isSameAs_X8_ofRow : GoodIn wsX8_isSameAs wsX8_ofRow := goodIn_r _ [23, 12, 17, 18, 3, 19, 28, 29, 30, 31, 32, 33, 34, 35, 36, 37, 38, 39, 40, 41, 42, 43, 44, 45, 46, 47, 48] (by decide +kernel) (by decide +kernel)
set_option maxRecDepth 20000 in
theorem gX8_isSameAs_X8_ofRow : GoodIn wsX8_isSameAs (wsV RX8 218 RX8 yX8_ofRow wsX8_ofRow) := goodIn_app (goodIn_of _ (by decide +kernel)) ggX8_isSameAs_X8_ofRow
set_option maxRecDepth 20000 in
theorem ggX8_isSameAs_X8_areSame : GoodIn wsX8_isSameAs wsX8_areSame := goodIn_r _ [27, 12, 28, 29, 30, 31, 32, 33, 34, 35, 36, 37, 38, 39, 40, 41, 42, 43, 44, 45, 46, 47, 48] (by decide +kernel) (by decide +kernel)
set_option maxRecDepth 20000 in
theorem gX8_isSameAs_X8_areSame : GoodIn wsX8_isSameAs (wsV RX8 235 RX8 yX8_areSame wsX8_areSame) := goodIn_app (goodIn_of _ (by decide +kernel)) ggX8_isSameAs_X8_areSame
theorem dX8_isSameAs_0 : decode cX8_isSameAs 0 = .ok (.aload_n 0, 1) := by decide +kernel
theorem dX8_isSameAs_1 : decode cX8_isSameAs 1 = .ok (.iload_n 1, 1) := by decide +kernel
theorem dX8_isSameAs_2 : decode cX8_isSameAs 2 = .ok (.iload_n 2, 1) := by decide +kernel
theorem dX8_isSameAs_3 : decode cX8_isSameAs 3 = .ok (.invokestatic 161, 3) := by decide +kernel
theorem dX8_isSameAs_6 : decode cX8_isSameAs 6 = .ok (.iconst 1, 1) := by decide +kernel
theorem dX8_isSameAs_7 : decode cX8_isSameAs 7 = .ok (.iadd, 1) := by decide +kernel
theorem dX8_isSameAs_8 : decode cX8_isSameAs 8 = .ok (.aload_n 0, 1) := by decide +kernel
theorem dX8_isSameAs_9 : decode cX8_isSameAs 9 = .ok (.iload_n 1, 1) := by decide +kernel
theorem dX8_isSameAs_10 : decode cX8_isSameAs 10 = .ok (.iload_n 2, 1) := by decide +kernel
theorem dX8_isSameAs_11 : decode cX8_isSameAs 11 = .ok (.invokevirtual 225, 3) := by decide +kernel
theorem dX8_isSameAs_14 : decode cX8_isSameAs 14 = .ok (.aload_n 0, 1) := by decide +kernel
theorem dX8_isSameAs_15 : decode cX8_isSameAs 15 = .ok (.iload_n 3, 1) := by decide +kernel
theorem dX8_isSameAs_16 : decode cX8_isSameAs 16 = .ok (.invokevirtual 228, 3) := by decide +kernel
theorem dX8_isSameAs_19 : decode cX8_isSameAs 19 = .ok (.aload_n 0, 1) := by decide +kernel
theorem dX8_isSameAs_20 : decode cX8_isSameAs 20 = .ok (.iload_n 3, 1) := by decide +kernel
theorem dX8_isSameAs_21 : decode cX8_isSameAs 21 = .ok (.iconst 4, 1) := by decide +kernel
theorem dX8_isSameAs_22 : decode cX8_isSameAs 22 = .ok (.invokevirtual 218, 3) := by decide +kernel
theorem dX8_isSameAs_25 : decode cX8_isSameAs 25 = .ok (.invokevirtual 235, 3) := by decide +kernel
theorem dX8_isSameAs_28 : decode cX8_isSameAs 28 = .ok (.ireturn, 1) := by decide +kernel
set_option maxRecDepth 20000 in
theorem ggX8_hinders_X8_lengthOf : GoodIn wsX8_hinders wsX8_lengthOf := goodIn_r _ [6, 1, 7, 8, 5, 9, 10, 11, 12, 51, 52, 53, 54, 55, 56, 57, 58, 59, 60, 61, 62, 63, 64, 65, 66, 67, 68, 69, 70, 71] (by decide +kernel) (by decide +kernel)
set_option maxRecDepth 20000 in
theorem gX8_hinders_X8_lengthOf : GoodIn wsX8_hinders (wsV RX8 225 RX8 yX8_lengthOf wsX8_lengthOf) := goodIn_app (goodIn_of _ (by decide +kernel)) ggX8_hinders_X8_lengthOf
set_option maxRecDepth 20000 in
theorem ggX8_hinders_X8_free : GoodIn wsX8_hinders wsX8_free := goodIn_r _ [16, 17, 18, 19, 5, 20, 1, 21, 22, 23, 51, 52, 53, 54, 55, 56, 57, 58, 59, 60, 61, 62, 63, 64, 65, 66, 67, 68, 69, 70, 71] (by decide +kernel) (by decide +kernel)
set_option maxRecDepth 20000 in
theorem gX8_hinders_X8_free : GoodIn wsX8_hinders (wsV RX8 239 RX8 yX8_free wsX8_free) := goodIn_app (goodIn_of _ (by decide +kernel)) ggX8_hinders_X8_free
set_option maxRecDepth 20000 in
theorem ggX8_hinders_X8_ofRow : GoodIn wsX8_hinders wsX8_ofRow := goodIn_r _ [20, 1, 21, 22, 5, 23, 51, 52, 53, 54, 55, 56, 57, 58, 59, 60, 61, 62, 63, 64, 65, 66, 67, 68, 69, 70, 71] (by decide +kernel) (by decide +kernel)
set_option maxRecDepth 20000 in
theorem gX8_hinders_X8_ofRow : GoodIn wsX8_hinders (wsV RX8 218 RX8 yX8_ofRow wsX8_ofRow) := goodIn_app (goodIn_of _ (by decide +kernel)) ggX8_hinders_X8_ofRow
set_option maxRecDepth 20000 in
theorem ggX8_hinders_X8_isSameAs : GoodIn wsX8_hinders wsX8_isSameAs := goodIn_r _ [27, 7, 8, 5, 9, 10, 11, 12, 2, 3, 4, 6, 1, 28, 29, 30, 31, 21, 22, 23, 17, 18, 19, 20, 32, 33, 34, 35, 51, 52, 53, 54, 55, 56, 57, 58, 59, 60, 61, 62, 63, 64, 65, 66, 67, 68, 69, 70, 71] (by decide +kernel) (by decide +kernel)
set_option maxRecDepth 20000 in
theorem gX8_hinders_X8_isSameAs : GoodIn wsX8_hinders (wsV RX8 242 RX8 yX8_isSameAs wsX8_isSameAs) := goodIn_app (goodIn_of _ (by decide +kernel)) ggX8_hinders_X8_isSameAs
set_option maxRecDepth 20000 in
theorem ggX8_hinders_X8_rhymeWith : GoodIn wsX8_hinders wsX8_rhymeWith := goodIn_r _ [39, 7, 8, 5, 9, 10, 11, 12, 2, 3, 4, 6, 1, 28, 29, 30, 31, 21, 22, 23, 17, 18, 19, 20, 40, 41, 42, 43, 44, 45, 46, 47, 48, 49, 50, 51, 52, 53, 54, 55, 56, 57, 58, 59, 60, 61, 62, 63, 64, 65, 66, 67, 68, 69, 70, 71] (by decide +kernel) (by decide +kernel)
set_option maxRecDepth 20000 in
theorem gX8_hinders_X8_rhymeWith : GoodIn wsX8_hinders (wsV RX8 245 RX8 yX8_rhymeWith wsX8_rhymeWith) := goodIn_app (goodIn_of _ (by decide +kernel)) ggX8_hinders_X8_rhymeWith
theorem dX8_hinders_0 : decode cX8_hinders 0 = .ok (.aload_n 0, 1) := by decide +kernel
theorem dX8_hinders_1 : decode cX8_hinders 1 = .ok (.iload_n 1, 1) := by decide +kernel
theorem dX8_hinders_2 : decode cX8_hinders 2 = .ok (.iload_n 2, 1) := by decide +kernel
theorem dX8_hinders_3 : decode cX8_hinders 3 = .ok (.invokevirtual 225, 3) := by decide +kernel
theorem dX8_hinders_6 : decode cX8_hinders 6 = .ok (.aload_n 0, 1) := by decide +kernel
theorem dX8_hinders_7 : decode cX8_hinders 7 = .ok (.iload_n 3, 1) := by decide +kernel
theorem dX8_hinders_8 : decode cX8_hinders 8 = .ok (.invokevirtual 239, 3) := by decide +kernel
theorem dX8_hinders_11 : decode cX8_hinders 11 = .ok (.if_icmp .le 5, 3) := by decide +kernel
theorem dX8_hinders_14 : decode cX8_hinders 14 = .ok (.iconst 2, 1) := by decide +kernel
theorem dX8_hinders_15 : decode cX8_hinders 15 = .ok (.ireturn, 1) := by decide +kernel
theorem dX8_hinders_16 : decode cX8_hinders 16 = .ok (.aload_n 0, 1) := by decide +kernel
theorem dX8_hinders_17 : decode cX8_hinders 17 = .ok (.iload_n 3, 1) := by decide +kernel
theorem dX8_hinders_18 : decode cX8_hinders 18 = .ok (.iconst 2, 1) := by decide +kernel
theorem dX8_hinders_19 : decode cX8_hinders 19 = .ok (.invokevirtual 218, 3) := by decide +kernel
theorem dX8_hinders_22 : decode cX8_hinders 22 = .ok (.ifCond .ne 5, 3) := by decide +kernel
theorem dX8_hinders_25 : decode cX8_hinders 25 = .ok (.iconst 0, 1) := by decide +kernel
theorem dX8_hinders_26 : decode cX8_hinders 26 = .ok (.ireturn, 1) := by decide +kernel
theorem dX8_hinders_27 : decode cX8_hinders 27 = .ok (.aload_n 0, 1) := by decide +kernel
theorem dX8_hinders_28 : decode cX8_hinders 28 = .ok (.iload_n 1, 1) := by decide +kernel
theorem dX8_hinders_29 : decode cX8_hinders 29 = .ok (.iload_n 2, 1) := by decide +kernel
theorem dX8_hinders_30 : decode cX8_hinders 30 = .ok (.iload_n 3, 1) := by decide +kernel
theorem dX8_hinders_31 : decode cX8_hinders 31 = .ok (.invokevirtual 242, 3) := by decide +kernel
theorem dX8_hinders_34 : decode cX8_hinders 34 = .ok (.ifCond .eq 5, 3) := by decide +kernel
theorem dX8_hinders_37 : decode cX8_hinders 37 = .ok (.iconst 3, 1) := by decide +kernel
theorem dX8_hinders_38 : decode cX8_hinders 38 = .ok (.ireturn, 1) := by decide +kernel
theorem dX8_hinders_39 : decode cX8_hinders 39 = .ok (.aload_n 0, 1) := by decide +kernel
theorem dX8_hinders_40 : decode cX8_hinders 40 = .ok (.iload_n 1, 1) := by decide +kernel
theorem dX8_hinders_41 : decode cX8_hinders 41 = .ok (.iload_n 2, 1) := by decide +kernel
theorem dX8_hinders_42 : decode cX8_hinders 42 = .ok (.iload_n 3, 1) := by decide +kernel
theorem dX8_hinders_43 : decode cX8_hinders 43 = .ok (.invokevirtual 245, 3) := by decide +kernel
theorem dX8_hinders_46 : decode cX8_hinders 46 = .ok (.aload_n 0, 1) := by decide +kernel
theorem dX8_hinders_47 : decode cX8_hinders 47 = .ok (.getfield 17, 3) := by decide +kernel
theorem dX8_hinders_50 : decode cX8_hinders 50 = .ok (.iconst 2, 1) := by decide +kernel
theorem dX8_hinders_51 : decode cX8_hinders 51 = .ok (.iaload, 1) := by decide +kernel
theorem dX8_hinders_52 : decode cX8_hinders 52 = .ok (.if_icmp .ge 7, 3) := by decide +kernel
theorem dX8_hinders_55 : decode cX8_hinders 55 = .ok (.iconst 4, 1) := by decide +kernel
theorem dX8_hinders_56 : decode cX8_hinders 56 = .ok (.goto 4, 3) := by decide +kernel
theorem dX8_hinders_59 : decode cX8_hinders 59 = .ok (.iconst 0, 1) := by decide +kernel
theorem dX8_hinders_60 : decode cX8_hinders 60 = .ok (.ireturn, 1) := by decide +kernel
set_option maxRecDepth 20000 in
theorem ggX8_refusal_X8_hinders : GoodIn wsX8_refusal wsX8_hinders := goodIn_r _ [6, 1, 7, 8, 9, 5, 10, 11, 12, 13, 14, 15, 16, 17, 18, 19, 20, 21, 22, 23, 24, 25, 26, 27, 28, 29, 30, 31, 32, 33, 34, 35, 36, 37, 38, 39, 40, 41, 42, 43, 44, 45, 46, 47, 48, 49, 50, 51, 52, 53, 54, 55, 56, 57, 58, 59, 60, 61, 62, 63, 64, 65, 66, 67, 68, 69, 70, 71, 72, 73, 74, 75] (by decide +kernel) (by decide +kernel)
set_option maxRecDepth 20000 in
theorem gX8_refusal_X8_hinders : GoodIn wsX8_refusal (wsV RX8 249 RX8 yX8_hinders wsX8_hinders) := goodIn_app (goodIn_of _ (by decide +kernel)) ggX8_refusal_X8_hinders
theorem dX8_refusal_0 : decode cX8_refusal 0 = .ok (.aload_n 0, 1) := by decide +kernel
theorem dX8_refusal_1 : decode cX8_refusal 1 = .ok (.getfield 17, 3) := by decide +kernel
theorem dX8_refusal_4 : decode cX8_refusal 4 = .ok (.bipush 6, 2) := by decide +kernel
theorem dX8_refusal_6 : decode cX8_refusal 6 = .ok (.iaload, 1) := by decide +kernel
theorem dX8_refusal_7 : decode cX8_refusal 7 = .ok (.iconst 1, 1) := by decide +kernel
theorem dX8_refusal_8 : decode cX8_refusal 8 = .ok (.if_icmp .ne 7, 3) := by decide +kernel
theorem dX8_refusal_11 : decode cX8_refusal 11 = .ok (.iconst 1, 1) := by decide +kernel
theorem dX8_refusal_12 : decode cX8_refusal 12 = .ok (.goto 15, 3) := by decide +kernel
theorem dX8_refusal_15 : decode cX8_refusal 15 = .ok (.aload_n 0, 1) := by decide +kernel
theorem dX8_refusal_16 : decode cX8_refusal 16 = .ok (.aload_n 0, 1) := by decide +kernel
theorem dX8_refusal_17 : decode cX8_refusal 17 = .ok (.getfield 17, 3) := by decide +kernel
theorem dX8_refusal_20 : decode cX8_refusal 20 = .ok (.iconst 5, 1) := by decide +kernel
theorem dX8_refusal_21 : decode cX8_refusal 21 = .ok (.iaload, 1) := by decide +kernel
theorem dX8_refusal_22 : decode cX8_refusal 22 = .ok (.iload_n 1, 1) := by decide +kernel
theorem dX8_refusal_23 : decode cX8_refusal 23 = .ok (.iload_n 2, 1) := by decide +kernel
theorem dX8_refusal_24 : decode cX8_refusal 24 = .ok (.invokevirtual 249, 3) := by decide +kernel
theorem dX8_refusal_27 : decode cX8_refusal 27 = .ok (.ireturn, 1) := by decide +kernel
set_option maxRecDepth 20000 in
theorem ggX8_rhymeThere_X8_ofRow : GoodIn wsX8_rhymeThere wsX8_ofRow := goodIn_r _ [5, 6, 7, 8, 4, 9, 39, 40, 41, 42, 43, 44, 45, 46, 47, 48, 49, 50, 51, 52, 53, 54, 55, 56, 57, 58, 59] (by decide +kernel) (by decide +kernel)
set_option maxRecDepth 20000 in
theorem gX8_rhymeThere_X8_ofRow : GoodIn wsX8_rhymeThere (wsV RX8 218 RX8 yX8_ofRow wsX8_ofRow) := goodIn_app (goodIn_of _ (by decide +kernel)) ggX8_rhymeThere_X8_ofRow
set_option maxRecDepth 20000 in
theorem ggX8_rhymeThere_X8_rhymeWith : GoodIn wsX8_rhymeThere wsX8_rhymeWith := goodIn_r _ [13, 14, 15, 4, 16, 17, 18, 19, 20, 21, 22, 23, 6, 24, 25, 26, 27, 7, 8, 9, 1, 2, 3, 5, 28, 29, 30, 31, 32, 33, 34, 35, 36, 37, 38, 39, 40, 41, 42, 43, 44, 45, 46, 47, 48, 49, 50, 51, 52, 53, 54, 55, 56, 57, 58, 59] (by decide +kernel) (by decide +kernel)
set_option maxRecDepth 20000 in
theorem gX8_rhymeThere_X8_rhymeWith : GoodIn wsX8_rhymeThere (wsV RX8 245 RX8 yX8_rhymeWith wsX8_rhymeWith) := goodIn_app (goodIn_of _ (by decide +kernel)) ggX8_rhymeThere_X8_rhymeWith
theorem dX8_rhymeThere_0 : decode cX8_rhymeThere 0 = .ok (.aload_n 0, 1) := by decide +kernel
theorem dX8_rhymeThere_1 : decode cX8_rhymeThere 1 = .ok (.iload_n 3, 1) := by decide +kernel
theorem dX8_rhymeThere_2 : decode cX8_rhymeThere 2 = .ok (.iconst 2, 1) := by decide +kernel
theorem dX8_rhymeThere_3 : decode cX8_rhymeThere 3 = .ok (.invokevirtual 218, 3) := by decide +kernel
theorem dX8_rhymeThere_6 : decode cX8_rhymeThere 6 = .ok (.ifCond .ne 7, 3) := by decide +kernel
theorem dX8_rhymeThere_9 : decode cX8_rhymeThere 9 = .ok (.iconst 0, 1) := by decide +kernel
theorem dX8_rhymeThere_10 : decode cX8_rhymeThere 10 = .ok (.goto 10, 3) := by decide +kernel
theorem dX8_rhymeThere_13 : decode cX8_rhymeThere 13 = .ok (.aload_n 0, 1) := by decide +kernel
theorem dX8_rhymeThere_14 : decode cX8_rhymeThere 14 = .ok (.iload_n 1, 1) := by decide +kernel
theorem dX8_rhymeThere_15 : decode cX8_rhymeThere 15 = .ok (.iload_n 2, 1) := by decide +kernel
theorem dX8_rhymeThere_16 : decode cX8_rhymeThere 16 = .ok (.iload_n 3, 1) := by decide +kernel
theorem dX8_rhymeThere_17 : decode cX8_rhymeThere 17 = .ok (.invokevirtual 245, 3) := by decide +kernel
theorem dX8_rhymeThere_20 : decode cX8_rhymeThere 20 = .ok (.ireturn, 1) := by decide +kernel
set_option maxRecDepth 20000 in
theorem ggX8_pointsFor_X8_lengthOf : GoodIn wsX8_pointsFor wsX8_lengthOf := goodIn_r _ [6, 1, 7, 8, 5, 9, 10, 11, 12, 47, 48, 49, 50, 51, 52, 53, 54, 55, 56, 57, 58, 59, 60, 61, 62, 63, 64, 65, 66, 67] (by decide +kernel) (by decide +kernel)
set_option maxRecDepth 20000 in
theorem gX8_pointsFor_X8_lengthOf : GoodIn wsX8_pointsFor (wsV RX8 225 RX8 yX8_lengthOf wsX8_lengthOf) := goodIn_app (goodIn_of _ (by decide +kernel)) ggX8_pointsFor_X8_lengthOf
set_option maxRecDepth 20000 in
theorem ggX8_pointsFor_X8_rhymeThere : GoodIn wsX8_pointsFor wsX8_rhymeThere := goodIn_r _ [16, 17, 18, 19, 5, 20, 1, 21, 22, 23, 24, 25, 26, 27, 7, 8, 9, 10, 11, 12, 2, 3, 4, 6, 28, 29, 30, 31, 32, 33, 34, 35, 36, 37, 38, 39, 40, 41, 42, 47, 48, 49, 50, 51, 52, 53, 54, 55, 56, 57, 58, 59, 60, 61, 62, 63, 64, 65, 66, 67] (by decide +kernel) (by decide +kernel)
set_option maxRecDepth 20000 in
theorem gX8_pointsFor_X8_rhymeThere : GoodIn wsX8_pointsFor (wsV RX8 252 RX8 yX8_rhymeThere wsX8_rhymeThere) := goodIn_app (goodIn_of _ (by decide +kernel)) ggX8_pointsFor_X8_rhymeThere
set_option maxRecDepth 20000 in
theorem ggX8_pointsFor_X8_free : GoodIn wsX8_pointsFor wsX8_free := goodIn_r _ [46, 17, 18, 19, 5, 20, 1, 21, 22, 23, 47, 48, 49, 50, 51, 52, 53, 54, 55, 56, 57, 58, 59, 60, 61, 62, 63, 64, 65, 66, 67] (by decide +kernel) (by decide +kernel)
set_option maxRecDepth 20000 in
theorem gX8_pointsFor_X8_free : GoodIn wsX8_pointsFor (wsV RX8 239 RX8 yX8_free wsX8_free) := goodIn_app (goodIn_of _ (by decide +kernel)) ggX8_pointsFor_X8_free
set_option maxRecDepth 20000 in
theorem ggX8_pointsFor_X8_ofRow : GoodIn wsX8_pointsFor wsX8_ofRow := goodIn_r _ [20, 1, 21, 22, 5, 23, 47, 48, 49, 50, 51, 52, 53, 54, 55, 56, 57, 58, 59, 60, 61, 62, 63, 64, 65, 66, 67] (by decide +kernel) (by decide +kernel)
set_option maxRecDepth 20000 in
theorem gX8_pointsFor_X8_ofRow : GoodIn wsX8_pointsFor (wsV RX8 218 RX8 yX8_ofRow wsX8_ofRow) := goodIn_app (goodIn_of _ (by decide +kernel)) ggX8_pointsFor_X8_ofRow
theorem dX8_pointsFor_0 : decode cX8_pointsFor 0 = .ok (.aload_n 0, 1) := by decide +kernel
theorem dX8_pointsFor_1 : decode cX8_pointsFor 1 = .ok (.iload_n 1, 1) := by decide +kernel
theorem dX8_pointsFor_2 : decode cX8_pointsFor 2 = .ok (.iload_n 2, 1) := by decide +kernel
theorem dX8_pointsFor_3 : decode cX8_pointsFor 3 = .ok (.invokevirtual 225, 3) := by decide +kernel
theorem dX8_pointsFor_6 : decode cX8_pointsFor 6 = .ok (.istore 4, 2) := by decide +kernel
theorem dX8_pointsFor_8 : decode cX8_pointsFor 8 = .ok (.iload 4, 2) := by decide +kernel
theorem dX8_pointsFor_10 : decode cX8_pointsFor 10 = .ok (.aload_n 0, 1) := by decide +kernel
theorem dX8_pointsFor_11 : decode cX8_pointsFor 11 = .ok (.getfield 17, 3) := by decide +kernel
theorem dX8_pointsFor_14 : decode cX8_pointsFor 14 = .ok (.iconst 3, 1) := by decide +kernel
theorem dX8_pointsFor_15 : decode cX8_pointsFor 15 = .ok (.iaload, 1) := by decide +kernel
theorem dX8_pointsFor_16 : decode cX8_pointsFor 16 = .ok (.aload_n 0, 1) := by decide +kernel
theorem dX8_pointsFor_17 : decode cX8_pointsFor 17 = .ok (.iload_n 1, 1) := by decide +kernel
theorem dX8_pointsFor_18 : decode cX8_pointsFor 18 = .ok (.iload_n 2, 1) := by decide +kernel
theorem dX8_pointsFor_19 : decode cX8_pointsFor 19 = .ok (.iload_n 3, 1) := by decide +kernel
theorem dX8_pointsFor_20 : decode cX8_pointsFor 20 = .ok (.invokevirtual 252, 3) := by decide +kernel
theorem dX8_pointsFor_23 : decode cX8_pointsFor 23 = .ok (.imul, 1) := by decide +kernel
theorem dX8_pointsFor_24 : decode cX8_pointsFor 24 = .ok (.iadd, 1) := by decide +kernel
theorem dX8_pointsFor_25 : decode cX8_pointsFor 25 = .ok (.iload 4, 2) := by decide +kernel
theorem dX8_pointsFor_27 : decode cX8_pointsFor 27 = .ok (.aload_n 0, 1) := by decide +kernel
theorem dX8_pointsFor_28 : decode cX8_pointsFor 28 = .ok (.iload_n 3, 1) := by decide +kernel
theorem dX8_pointsFor_29 : decode cX8_pointsFor 29 = .ok (.invokevirtual 239, 3) := by decide +kernel
theorem dX8_pointsFor_32 : decode cX8_pointsFor 32 = .ok (.if_icmp .ne 21, 3) := by decide +kernel
theorem dX8_pointsFor_35 : decode cX8_pointsFor 35 = .ok (.aload_n 0, 1) := by decide +kernel
theorem dX8_pointsFor_36 : decode cX8_pointsFor 36 = .ok (.getfield 17, 3) := by decide +kernel
theorem dX8_pointsFor_39 : decode cX8_pointsFor 39 = .ok (.iconst 4, 1) := by decide +kernel
theorem dX8_pointsFor_40 : decode cX8_pointsFor 40 = .ok (.iaload, 1) := by decide +kernel
theorem dX8_pointsFor_41 : decode cX8_pointsFor 41 = .ok (.aload_n 0, 1) := by decide +kernel
theorem dX8_pointsFor_42 : decode cX8_pointsFor 42 = .ok (.iload_n 3, 1) := by decide +kernel
theorem dX8_pointsFor_43 : decode cX8_pointsFor 43 = .ok (.iconst 2, 1) := by decide +kernel
theorem dX8_pointsFor_44 : decode cX8_pointsFor 44 = .ok (.invokevirtual 218, 3) := by decide +kernel
theorem dX8_pointsFor_47 : decode cX8_pointsFor 47 = .ok (.iconst 1, 1) := by decide +kernel
theorem dX8_pointsFor_48 : decode cX8_pointsFor 48 = .ok (.iadd, 1) := by decide +kernel
theorem dX8_pointsFor_49 : decode cX8_pointsFor 49 = .ok (.imul, 1) := by decide +kernel
theorem dX8_pointsFor_50 : decode cX8_pointsFor 50 = .ok (.goto 4, 3) := by decide +kernel
theorem dX8_pointsFor_53 : decode cX8_pointsFor 53 = .ok (.iconst 0, 1) := by decide +kernel
theorem dX8_pointsFor_54 : decode cX8_pointsFor 54 = .ok (.iadd, 1) := by decide +kernel
theorem dX8_pointsFor_55 : decode cX8_pointsFor 55 = .ok (.ireturn, 1) := by decide +kernel
theorem dX8_limited_0 : decode cX8_limited 0 = .ok (.lload_n 0, 1) := by decide +kernel
theorem dX8_limited_1 : decode cX8_limited 1 = .ok (.ldc2_w 255, 3) := by decide +kernel
theorem dX8_limited_4 : decode cX8_limited 4 = .ok (.lcmp, 1) := by decide +kernel
theorem dX8_limited_5 : decode cX8_limited 5 = .ok (.ifCond .le 9, 3) := by decide +kernel
theorem dX8_limited_8 : decode cX8_limited 8 = .ok (.ldc2_w 255, 3) := by decide +kernel
theorem dX8_limited_11 : decode cX8_limited 11 = .ok (.goto 18, 3) := by decide +kernel
theorem dX8_limited_14 : decode cX8_limited 14 = .ok (.lload_n 0, 1) := by decide +kernel
theorem dX8_limited_15 : decode cX8_limited 15 = .ok (.ldc2_w 257, 3) := by decide +kernel
theorem dX8_limited_18 : decode cX8_limited 18 = .ok (.lcmp, 1) := by decide +kernel
theorem dX8_limited_19 : decode cX8_limited 19 = .ok (.ifCond .ge 9, 3) := by decide +kernel
theorem dX8_limited_22 : decode cX8_limited 22 = .ok (.ldc2_w 257, 3) := by decide +kernel
theorem dX8_limited_25 : decode cX8_limited 25 = .ok (.goto 4, 3) := by decide +kernel
theorem dX8_limited_28 : decode cX8_limited 28 = .ok (.lload_n 0, 1) := by decide +kernel
theorem dX8_limited_29 : decode cX8_limited 29 = .ok (.lreturn, 1) := by decide +kernel
set_option maxRecDepth 20000 in
theorem ggX8_operate_X8_limited : GoodIn wsX8_operate wsX8_limited := goodIn_r _ [4, 5, 6] (by decide +kernel) (by decide +kernel)
set_option maxRecDepth 20000 in
theorem gX8_operate_X8_limited : GoodIn wsX8_operate (va_wsS RX8 259 yX8_limited wsX8_limited) := goodIn_app (goodIn_of _ (by decide +kernel)) ggX8_operate_X8_limited
theorem dX8_operate_0 : decode cX8_operate 0 = .ok (.iload_n 0, 1) := by decide +kernel
theorem dX8_operate_1 : decode cX8_operate 1 = .ok (.iconst 5, 1) := by decide +kernel
theorem dX8_operate_2 : decode cX8_operate 2 = .ok (.if_icmp .ne 20, 3) := by decide +kernel
theorem dX8_operate_5 : decode cX8_operate 5 = .ok (.lload_n 3, 1) := by decide +kernel
theorem dX8_operate_6 : decode cX8_operate 6 = .ok (.lconst 0, 1) := by decide +kernel
theorem dX8_operate_7 : decode cX8_operate 7 = .ok (.lcmp, 1) := by decide +kernel
theorem dX8_operate_8 : decode cX8_operate 8 = .ok (.ifCond .ne 7, 3) := by decide +kernel
theorem dX8_operate_11 : decode cX8_operate 11 = .ok (.lconst 0, 1) := by decide +kernel
theorem dX8_operate_12 : decode cX8_operate 12 = .ok (.goto 9, 3) := by decide +kernel
theorem dX8_operate_15 : decode cX8_operate 15 = .ok (.lload_n 1, 1) := by decide +kernel
theorem dX8_operate_16 : decode cX8_operate 16 = .ok (.lload_n 3, 1) := by decide +kernel
theorem dX8_operate_17 : decode cX8_operate 17 = .ok (.ldiv, 1) := by decide +kernel
theorem dX8_operate_18 : decode cX8_operate 18 = .ok (.invokestatic 259, 3) := by decide +kernel
theorem dX8_operate_21 : decode cX8_operate 21 = .ok (.lreturn, 1) := by decide +kernel
theorem dX8_operate_22 : decode cX8_operate 22 = .ok (.iload_n 0, 1) := by decide +kernel
theorem dX8_operate_23 : decode cX8_operate 23 = .ok (.iconst 2, 1) := by decide +kernel
theorem dX8_operate_24 : decode cX8_operate 24 = .ok (.if_icmp .ne 9, 3) := by decide +kernel
theorem dX8_operate_27 : decode cX8_operate 27 = .ok (.lload_n 1, 1) := by decide +kernel
theorem dX8_operate_28 : decode cX8_operate 28 = .ok (.lload_n 3, 1) := by decide +kernel
theorem dX8_operate_29 : decode cX8_operate 29 = .ok (.ladd, 1) := by decide +kernel
theorem dX8_operate_30 : decode cX8_operate 30 = .ok (.goto 17, 3) := by decide +kernel
theorem dX8_operate_33 : decode cX8_operate 33 = .ok (.iload_n 0, 1) := by decide +kernel
theorem dX8_operate_34 : decode cX8_operate 34 = .ok (.iconst 3, 1) := by decide +kernel
theorem dX8_operate_35 : decode cX8_operate 35 = .ok (.if_icmp .ne 9, 3) := by decide +kernel
theorem dX8_operate_38 : decode cX8_operate 38 = .ok (.lload_n 1, 1) := by decide +kernel
theorem dX8_operate_39 : decode cX8_operate 39 = .ok (.lload_n 3, 1) := by decide +kernel
theorem dX8_operate_40 : decode cX8_operate 40 = .ok (.lsub, 1) := by decide +kernel
theorem dX8_operate_41 : decode cX8_operate 41 = .ok (.goto 6, 3) := by decide +kernel
theorem dX8_operate_44 : decode cX8_operate 44 = .ok (.lload_n 1, 1) := by decide +kernel
theorem dX8_operate_45 : decode cX8_operate 45 = .ok (.lload_n 3, 1) := by decide +kernel
theorem dX8_operate_46 : decode cX8_operate 46 = .ok (.lmul, 1) := by decide +kernel
theorem dX8_operate_47 : decode cX8_operate 47 = .ok (.invokestatic 259, 3) := by decide +kernel
theorem dX8_operate_50 : decode cX8_operate 50 = .ok (.lreturn, 1) := by decide +kernel
set_option maxRecDepth 20000 in
theorem ggX8_fact_X8_free : GoodIn wsX8_fact wsX8_free := goodIn_r _ [6, 7, 8, 9, 5, 10, 1, 11, 12, 13, 55, 56, 57, 58, 59, 60, 61, 62, 63, 64, 65, 66, 67, 68, 69, 70, 71, 72, 73, 74, 75] (by decide +kernel) (by decide +kernel)
set_option maxRecDepth 20000 in
theorem gX8_fact_X8_free : GoodIn wsX8_fact (wsV RX8 239 RX8 yX8_free wsX8_free) := goodIn_app (goodIn_of _ (by decide +kernel)) ggX8_fact_X8_free
set_option maxRecDepth 20000 in
theorem ggX8_fact_X8_lengthOf : GoodIn wsX8_fact wsX8_lengthOf := goodIn_r _ [17, 1, 18, 19, 5, 20, 21, 22, 23, 55, 56, 57, 58, 59, 60, 61, 62, 63, 64, 65, 66, 67, 68, 69, 70, 71, 72, 73, 74, 75] (by decide +kernel) (by decide +kernel)
set_option maxRecDepth 20000 in
theorem gX8_fact_X8_lengthOf : GoodIn wsX8_fact (wsV RX8 225 RX8 yX8_lengthOf wsX8_lengthOf) := goodIn_app (goodIn_of _ (by decide +kernel)) ggX8_fact_X8_lengthOf
set_option maxRecDepth 20000 in
theorem ggX8_fact_X8_pointsFor : GoodIn wsX8_fact wsX8_pointsFor := goodIn_r _ [27, 1, 14, 15, 16, 5, 17, 18, 19, 20, 21, 22, 23, 28, 29, 30, 31, 7, 8, 9, 10, 11, 12, 13, 32, 33, 34, 35, 36, 37, 38, 39, 40, 41, 42, 43, 44, 45, 46, 47, 48, 49, 50, 2, 3, 4, 6, 55, 56, 57, 58, 59, 60, 61, 62, 63, 64, 65, 66, 67, 68, 69, 70, 71, 72, 73, 74, 75] (by decide +kernel) (by decide +kernel)
set_option maxRecDepth 20000 in
theorem gX8_fact_X8_pointsFor : GoodIn wsX8_fact (wsV RX8 263 RX8 yX8_pointsFor wsX8_pointsFor) := goodIn_app (goodIn_of _ (by decide +kernel)) ggX8_fact_X8_pointsFor
set_option maxRecDepth 20000 in
theorem ggX8_fact_X8_rhymeThere : GoodIn wsX8_fact wsX8_rhymeThere := goodIn_r _ [31, 7, 8, 9, 5, 10, 1, 11, 12, 13, 32, 33, 34, 35, 18, 19, 20, 21, 22, 23, 14, 15, 16, 17, 36, 37, 38, 39, 40, 41, 42, 43, 44, 45, 46, 47, 48, 49, 50, 55, 56, 57, 58, 59, 60, 61, 62, 63, 64, 65, 66, 67, 68, 69, 70, 71, 72, 73, 74, 75] (by decide +kernel) (by decide +kernel)
set_option maxRecDepth 20000 in
theorem gX8_fact_X8_rhymeThere : GoodIn wsX8_fact (wsV RX8 252 RX8 yX8_rhymeThere wsX8_rhymeThere) := goodIn_app (goodIn_of _ (by decide +kernel)) ggX8_fact_X8_rhymeThere
set_option maxRecDepth 20000 in
theorem ggX8_fact_X8_ofPlayer : GoodIn wsX8_fact wsX8_ofPlayer := goodIn_r _ [54, 1, 21, 22, 5, 23, 55, 56, 57, 58, 59, 60, 61, 62, 63, 64, 65, 66, 67, 68, 69, 70, 71, 72, 73, 74, 75] (by decide +kernel) (by decide +kernel)
set_option maxRecDepth 20000 in
theorem gX8_fact_X8_ofPlayer : GoodIn wsX8_fact (wsV RX8 266 RX8 yX8_ofPlayer wsX8_ofPlayer) := goodIn_app (goodIn_of _ (by decide +kernel)) ggX8_fact_X8_ofPlayer
theorem dX8_fact_0 : decode cX8_fact 0 = .ok (.aload_n 0, 1) := by decide +kernel
theorem dX8_fact_1 : decode cX8_fact 1 = .ok (.getfield 17, 3) := by decide +kernel
theorem dX8_fact_4 : decode cX8_fact 4 = .ok (.iconst 5, 1) := by decide +kernel
theorem dX8_fact_5 : decode cX8_fact 5 = .ok (.iaload, 1) := by decide +kernel
theorem dX8_fact_6 : decode cX8_fact 6 = .ok (.istore 4, 2) := by decide +kernel
theorem dX8_fact_8 : decode cX8_fact 8 = .ok (.aload_n 0, 1) := by decide +kernel
theorem dX8_fact_9 : decode cX8_fact 9 = .ok (.iload_n 3, 1) := by decide +kernel
theorem dX8_fact_10 : decode cX8_fact 10 = .ok (.invokevirtual 239, 3) := by decide +kernel
theorem dX8_fact_13 : decode cX8_fact 13 = .ok (.aload_n 0, 1) := by decide +kernel
theorem dX8_fact_14 : decode cX8_fact 14 = .ok (.iload 4, 2) := by decide +kernel
theorem dX8_fact_16 : decode cX8_fact 16 = .ok (.iload_n 2, 1) := by decide +kernel
theorem dX8_fact_17 : decode cX8_fact 17 = .ok (.invokevirtual 225, 3) := by decide +kernel
theorem dX8_fact_20 : decode cX8_fact 20 = .ok (.isub, 1) := by decide +kernel
theorem dX8_fact_21 : decode cX8_fact 21 = .ok (.istore 5, 2) := by decide +kernel
theorem dX8_fact_23 : decode cX8_fact 23 = .ok (.iload_n 1, 1) := by decide +kernel
theorem dX8_fact_24 : decode cX8_fact 24 = .ok (.tableswitch 76 0 4 #[36, 45, 53, 62, 65], 36) := by decide +kernel
theorem dX8_fact_60 : decode cX8_fact 60 = .ok (.aload_n 0, 1) := by decide +kernel
theorem dX8_fact_61 : decode cX8_fact 61 = .ok (.iload 4, 2) := by decide +kernel
theorem dX8_fact_63 : decode cX8_fact 63 = .ok (.iload_n 2, 1) := by decide +kernel
theorem dX8_fact_64 : decode cX8_fact 64 = .ok (.iload_n 3, 1) := by decide +kernel
theorem dX8_fact_65 : decode cX8_fact 65 = .ok (.invokevirtual 263, 3) := by decide +kernel
theorem dX8_fact_68 : decode cX8_fact 68 = .ok (.ireturn, 1) := by decide +kernel
theorem dX8_fact_69 : decode cX8_fact 69 = .ok (.aload_n 0, 1) := by decide +kernel
theorem dX8_fact_70 : decode cX8_fact 70 = .ok (.iload 4, 2) := by decide +kernel
theorem dX8_fact_72 : decode cX8_fact 72 = .ok (.iload_n 2, 1) := by decide +kernel
theorem dX8_fact_73 : decode cX8_fact 73 = .ok (.invokevirtual 225, 3) := by decide +kernel
theorem dX8_fact_76 : decode cX8_fact 76 = .ok (.ireturn, 1) := by decide +kernel
theorem dX8_fact_77 : decode cX8_fact 77 = .ok (.aload_n 0, 1) := by decide +kernel
theorem dX8_fact_78 : decode cX8_fact 78 = .ok (.iload 4, 2) := by decide +kernel
theorem dX8_fact_80 : decode cX8_fact 80 = .ok (.iload_n 2, 1) := by decide +kernel
theorem dX8_fact_81 : decode cX8_fact 81 = .ok (.iload_n 3, 1) := by decide +kernel
theorem dX8_fact_82 : decode cX8_fact 82 = .ok (.invokevirtual 252, 3) := by decide +kernel
theorem dX8_fact_85 : decode cX8_fact 85 = .ok (.ireturn, 1) := by decide +kernel
theorem dX8_fact_86 : decode cX8_fact 86 = .ok (.iload 5, 2) := by decide +kernel
theorem dX8_fact_88 : decode cX8_fact 88 = .ok (.ireturn, 1) := by decide +kernel
theorem dX8_fact_89 : decode cX8_fact 89 = .ok (.iload 5, 2) := by decide +kernel
theorem dX8_fact_91 : decode cX8_fact 91 = .ok (.ifCond .ne 7, 3) := by decide +kernel
theorem dX8_fact_94 : decode cX8_fact 94 = .ok (.iconst 1, 1) := by decide +kernel
theorem dX8_fact_95 : decode cX8_fact 95 = .ok (.goto 4, 3) := by decide +kernel
theorem dX8_fact_98 : decode cX8_fact 98 = .ok (.iconst 0, 1) := by decide +kernel
theorem dX8_fact_99 : decode cX8_fact 99 = .ok (.ireturn, 1) := by decide +kernel
theorem dX8_fact_100 : decode cX8_fact 100 = .ok (.aload_n 0, 1) := by decide +kernel
theorem dX8_fact_101 : decode cX8_fact 101 = .ok (.iload 4, 2) := by decide +kernel
theorem dX8_fact_103 : decode cX8_fact 103 = .ok (.iconst 1, 1) := by decide +kernel
theorem dX8_fact_104 : decode cX8_fact 104 = .ok (.invokevirtual 266, 3) := by decide +kernel
theorem dX8_fact_107 : decode cX8_fact 107 = .ok (.iconst 1, 1) := by decide +kernel
theorem dX8_fact_108 : decode cX8_fact 108 = .ok (.isub, 1) := by decide +kernel
theorem dX8_fact_109 : decode cX8_fact 109 = .ok (.ireturn, 1) := by decide +kernel
set_option maxRecDepth 20000 in
theorem ggX8_rankOf_X8_pointsFor : GoodIn wsX8_rankOf wsX8_pointsFor := goodIn_r _ [7, 1, 8, 9, 10, 6, 11, 12, 13, 14, 15, 16, 17, 18, 19, 20, 21, 22, 23, 24, 25, 26, 27, 28, 29, 30, 31, 32, 33, 34, 35, 36, 37, 38, 39, 40, 41, 42, 43, 44, 45, 46, 47, 48, 49, 50, 51, 68, 69, 70, 71, 72, 73, 74, 75, 76, 77, 78, 79, 80, 81, 82, 83, 84, 85, 86, 87, 88] (by decide +kernel) (by decide +kernel)
set_option maxRecDepth 20000 in
theorem gX8_rankOf_X8_pointsFor : GoodIn wsX8_rankOf (wsV RX8 263 RX8 yX8_pointsFor wsX8_pointsFor) := goodIn_app (goodIn_of _ (by decide +kernel)) ggX8_rankOf_X8_pointsFor
set_option maxRecDepth 20000 in
theorem ggX8_rankOf_X8_fact : GoodIn wsX8_rankOf wsX8_fact := goodIn_r _ [55, 1, 48, 49, 50, 6, 51, 22, 23, 24, 25, 26, 27, 28, 8, 9, 10, 11, 12, 13, 14, 15, 16, 17, 3, 4, 5, 7, 18, 19, 20, 21, 29, 30, 31, 32, 33, 34, 35, 36, 37, 38, 39, 40, 41, 42, 43, 44, 45, 46, 47, 56, 57, 58, 59, 68, 69, 70, 71, 72, 73, 74, 75, 76, 77, 78, 79, 80, 81, 82, 83, 84, 85, 86, 87, 88] (by decide +kernel) (by decide +kernel)
set_option maxRecDepth 20000 in
theorem gX8_rankOf_X8_fact : GoodIn wsX8_rankOf (wsV RX8 269 RX8 yX8_fact wsX8_fact) := goodIn_app (goodIn_of _ (by decide +kernel)) ggX8_rankOf_X8_fact
set_option maxRecDepth 20000 in
theorem ggX8_rankOf_X8_operate : GoodIn wsX8_rankOf wsX8_operate := goodIn_r _ [62, 63, 64, 6, 65, 66, 67] (by decide +kernel) (by decide +kernel)
set_option maxRecDepth 20000 in
theorem gX8_rankOf_X8_operate : GoodIn wsX8_rankOf (va_wsS RX8 272 yX8_operate wsX8_operate) := goodIn_app (goodIn_of _ (by decide +kernel)) ggX8_rankOf_X8_operate
theorem dX8_rankOf_0 : decode cX8_rankOf 0 = .ok (.aload_n 0, 1) := by decide +kernel
theorem dX8_rankOf_1 : decode cX8_rankOf 1 = .ok (.getfield 17, 3) := by decide +kernel
theorem dX8_rankOf_4 : decode cX8_rankOf 4 = .ok (.bipush 8, 2) := by decide +kernel
theorem dX8_rankOf_6 : decode cX8_rankOf 6 = .ok (.iaload, 1) := by decide +kernel
theorem dX8_rankOf_7 : decode cX8_rankOf 7 = .ok (.ifCond .ne 16, 3) := by decide +kernel
theorem dX8_rankOf_10 : decode cX8_rankOf 10 = .ok (.aload_n 0, 1) := by decide +kernel
theorem dX8_rankOf_11 : decode cX8_rankOf 11 = .ok (.aload_n 0, 1) := by decide +kernel
theorem dX8_rankOf_12 : decode cX8_rankOf 12 = .ok (.getfield 17, 3) := by decide +kernel
theorem dX8_rankOf_15 : decode cX8_rankOf 15 = .ok (.iconst 5, 1) := by decide +kernel
theorem dX8_rankOf_16 : decode cX8_rankOf 16 = .ok (.iaload, 1) := by decide +kernel
theorem dX8_rankOf_17 : decode cX8_rankOf 17 = .ok (.iload_n 1, 1) := by decide +kernel
theorem dX8_rankOf_18 : decode cX8_rankOf 18 = .ok (.iload_n 2, 1) := by decide +kernel
theorem dX8_rankOf_19 : decode cX8_rankOf 19 = .ok (.invokevirtual 263, 3) := by decide +kernel
theorem dX8_rankOf_22 : decode cX8_rankOf 22 = .ok (.ireturn, 1) := by decide +kernel
theorem dX8_rankOf_23 : decode cX8_rankOf 23 = .ok (.iconst 0, 1) := by decide +kernel
theorem dX8_rankOf_24 : decode cX8_rankOf 24 = .ok (.istore_n 3, 1) := by decide +kernel
theorem dX8_rankOf_25 : decode cX8_rankOf 25 = .ok (.aload_n 0, 1) := by decide +kernel
theorem dX8_rankOf_26 : decode cX8_rankOf 26 = .ok (.getfield 31, 3) := by decide +kernel
theorem dX8_rankOf_29 : decode cX8_rankOf 29 = .ok (.iconst 0, 1) := by decide +kernel
theorem dX8_rankOf_30 : decode cX8_rankOf 30 = .ok (.lconst 0, 1) := by decide +kernel
theorem dX8_rankOf_31 : decode cX8_rankOf 31 = .ok (.lastore, 1) := by decide +kernel
theorem dX8_rankOf_32 : decode cX8_rankOf 32 = .ok (.iconst 0, 1) := by decide +kernel
theorem dX8_rankOf_33 : decode cX8_rankOf 33 = .ok (.istore 4, 2) := by decide +kernel
theorem dX8_rankOf_35 : decode cX8_rankOf 35 = .ok (.iload 4, 2) := by decide +kernel
theorem dX8_rankOf_37 : decode cX8_rankOf 37 = .ok (.aload_n 0, 1) := by decide +kernel
theorem dX8_rankOf_38 : decode cX8_rankOf 38 = .ok (.getfield 17, 3) := by decide +kernel
theorem dX8_rankOf_41 : decode cX8_rankOf 41 = .ok (.bipush 9, 2) := by decide +kernel
theorem dX8_rankOf_43 : decode cX8_rankOf 43 = .ok (.iaload, 1) := by decide +kernel
theorem dX8_rankOf_44 : decode cX8_rankOf 44 = .ok (.if_icmp .ge 111, 3) := by decide +kernel
theorem dX8_rankOf_47 : decode cX8_rankOf 47 = .ok (.aload_n 0, 1) := by decide +kernel
theorem dX8_rankOf_48 : decode cX8_rankOf 48 = .ok (.getfield 17, 3) := by decide +kernel
theorem dX8_rankOf_51 : decode cX8_rankOf 51 = .ok (.sipush 602, 3) := by decide +kernel
theorem dX8_rankOf_54 : decode cX8_rankOf 54 = .ok (.iload 4, 2) := by decide +kernel
theorem dX8_rankOf_56 : decode cX8_rankOf 56 = .ok (.iadd, 1) := by decide +kernel
theorem dX8_rankOf_57 : decode cX8_rankOf 57 = .ok (.iaload, 1) := by decide +kernel
theorem dX8_rankOf_58 : decode cX8_rankOf 58 = .ok (.istore 5, 2) := by decide +kernel
theorem dX8_rankOf_60 : decode cX8_rankOf 60 = .ok (.iload 5, 2) := by decide +kernel
theorem dX8_rankOf_62 : decode cX8_rankOf 62 = .ok (.iconst 1, 1) := by decide +kernel
theorem dX8_rankOf_63 : decode cX8_rankOf 63 = .ok (.if_icmp .gt 56, 3) := by decide +kernel
theorem dX8_rankOf_66 : decode cX8_rankOf 66 = .ok (.iinc 4 1, 3) := by decide +kernel
theorem dX8_rankOf_69 : decode cX8_rankOf 69 = .ok (.aload_n 0, 1) := by decide +kernel
theorem dX8_rankOf_70 : decode cX8_rankOf 70 = .ok (.getfield 31, 3) := by decide +kernel
theorem dX8_rankOf_73 : decode cX8_rankOf 73 = .ok (.iload_n 3, 1) := by decide +kernel
theorem dX8_rankOf_74 : decode cX8_rankOf 74 = .ok (.iload 5, 2) := by decide +kernel
theorem dX8_rankOf_76 : decode cX8_rankOf 76 = .ok (.ifCond .ne 18, 3) := by decide +kernel
theorem dX8_rankOf_79 : decode cX8_rankOf 79 = .ok (.aload_n 0, 1) := by decide +kernel
theorem dX8_rankOf_80 : decode cX8_rankOf 80 = .ok (.getfield 17, 3) := by decide +kernel
theorem dX8_rankOf_83 : decode cX8_rankOf 83 = .ok (.sipush 602, 3) := by decide +kernel
theorem dX8_rankOf_86 : decode cX8_rankOf 86 = .ok (.iload 4, 2) := by decide +kernel
theorem dX8_rankOf_88 : decode cX8_rankOf 88 = .ok (.iadd, 1) := by decide +kernel
theorem dX8_rankOf_89 : decode cX8_rankOf 89 = .ok (.iaload, 1) := by decide +kernel
theorem dX8_rankOf_90 : decode cX8_rankOf 90 = .ok (.i2l, 1) := by decide +kernel
theorem dX8_rankOf_91 : decode cX8_rankOf 91 = .ok (.goto 21, 3) := by decide +kernel
theorem dX8_rankOf_94 : decode cX8_rankOf 94 = .ok (.aload_n 0, 1) := by decide +kernel
theorem dX8_rankOf_95 : decode cX8_rankOf 95 = .ok (.aload_n 0, 1) := by decide +kernel
theorem dX8_rankOf_96 : decode cX8_rankOf 96 = .ok (.getfield 17, 3) := by decide +kernel
theorem dX8_rankOf_99 : decode cX8_rankOf 99 = .ok (.sipush 602, 3) := by decide +kernel
theorem dX8_rankOf_102 : decode cX8_rankOf 102 = .ok (.iload 4, 2) := by decide +kernel
theorem dX8_rankOf_104 : decode cX8_rankOf 104 = .ok (.iadd, 1) := by decide +kernel
theorem dX8_rankOf_105 : decode cX8_rankOf 105 = .ok (.iaload, 1) := by decide +kernel
theorem dX8_rankOf_106 : decode cX8_rankOf 106 = .ok (.iload_n 1, 1) := by decide +kernel
theorem dX8_rankOf_107 : decode cX8_rankOf 107 = .ok (.iload_n 2, 1) := by decide +kernel
theorem dX8_rankOf_108 : decode cX8_rankOf 108 = .ok (.invokevirtual 269, 3) := by decide +kernel
theorem dX8_rankOf_111 : decode cX8_rankOf 111 = .ok (.i2l, 1) := by decide +kernel
theorem dX8_rankOf_112 : decode cX8_rankOf 112 = .ok (.lastore, 1) := by decide +kernel
theorem dX8_rankOf_113 : decode cX8_rankOf 113 = .ok (.iinc 3 1, 3) := by decide +kernel
theorem dX8_rankOf_116 : decode cX8_rankOf 116 = .ok (.goto 33, 3) := by decide +kernel
theorem dX8_rankOf_119 : decode cX8_rankOf 119 = .ok (.iinc 3 (-1), 3) := by decide +kernel
theorem dX8_rankOf_122 : decode cX8_rankOf 122 = .ok (.aload_n 0, 1) := by decide +kernel
theorem dX8_rankOf_123 : decode cX8_rankOf 123 = .ok (.getfield 31, 3) := by decide +kernel
theorem dX8_rankOf_126 : decode cX8_rankOf 126 = .ok (.iload_n 3, 1) := by decide +kernel
theorem dX8_rankOf_127 : decode cX8_rankOf 127 = .ok (.iconst 1, 1) := by decide +kernel
theorem dX8_rankOf_128 : decode cX8_rankOf 128 = .ok (.isub, 1) := by decide +kernel
theorem dX8_rankOf_129 : decode cX8_rankOf 129 = .ok (.iload 5, 2) := by decide +kernel
theorem dX8_rankOf_131 : decode cX8_rankOf 131 = .ok (.aload_n 0, 1) := by decide +kernel
theorem dX8_rankOf_132 : decode cX8_rankOf 132 = .ok (.getfield 31, 3) := by decide +kernel
theorem dX8_rankOf_135 : decode cX8_rankOf 135 = .ok (.iload_n 3, 1) := by decide +kernel
theorem dX8_rankOf_136 : decode cX8_rankOf 136 = .ok (.iconst 1, 1) := by decide +kernel
theorem dX8_rankOf_137 : decode cX8_rankOf 137 = .ok (.isub, 1) := by decide +kernel
theorem dX8_rankOf_138 : decode cX8_rankOf 138 = .ok (.laload, 1) := by decide +kernel
theorem dX8_rankOf_139 : decode cX8_rankOf 139 = .ok (.aload_n 0, 1) := by decide +kernel
theorem dX8_rankOf_140 : decode cX8_rankOf 140 = .ok (.getfield 31, 3) := by decide +kernel
theorem dX8_rankOf_143 : decode cX8_rankOf 143 = .ok (.iload_n 3, 1) := by decide +kernel
theorem dX8_rankOf_144 : decode cX8_rankOf 144 = .ok (.laload, 1) := by decide +kernel
theorem dX8_rankOf_145 : decode cX8_rankOf 145 = .ok (.invokestatic 272, 3) := by decide +kernel
theorem dX8_rankOf_148 : decode cX8_rankOf 148 = .ok (.lastore, 1) := by decide +kernel
theorem dX8_rankOf_149 : decode cX8_rankOf 149 = .ok (.iinc 4 1, 3) := by decide +kernel
theorem dX8_rankOf_152 : decode cX8_rankOf 152 = .ok (.goto (-117), 3) := by decide +kernel
theorem dX8_rankOf_155 : decode cX8_rankOf 155 = .ok (.aload_n 0, 1) := by decide +kernel
theorem dX8_rankOf_156 : decode cX8_rankOf 156 = .ok (.getfield 31, 3) := by decide +kernel
theorem dX8_rankOf_159 : decode cX8_rankOf 159 = .ok (.iconst 0, 1) := by decide +kernel
theorem dX8_rankOf_160 : decode cX8_rankOf 160 = .ok (.laload, 1) := by decide +kernel
theorem dX8_rankOf_161 : decode cX8_rankOf 161 = .ok (.l2i, 1) := by decide +kernel
theorem dX8_rankOf_162 : decode cX8_rankOf 162 = .ok (.ireturn, 1) := by decide +kernel
set_option maxRecDepth 20000 in
theorem ggX8_handNow_X8_ofPlayer : GoodIn wsX8_handNow wsX8_ofPlayer := goodIn_r _ [6, 1, 7, 8, 5, 9, 10, 11, 12, 13, 14, 15, 16, 17, 18, 19, 20, 21, 22, 23, 24, 25, 26, 27, 28, 29, 30] (by decide +kernel) (by decide +kernel)
set_option maxRecDepth 20000 in
theorem gX8_handNow_X8_ofPlayer : GoodIn wsX8_handNow (wsV RX8 266 RX8 yX8_ofPlayer wsX8_ofPlayer) := goodIn_app (goodIn_of _ (by decide +kernel)) ggX8_handNow_X8_ofPlayer
theorem dX8_handNow_0 : decode cX8_handNow 0 = .ok (.aload_n 0, 1) := by decide +kernel
theorem dX8_handNow_1 : decode cX8_handNow 1 = .ok (.aload_n 0, 1) := by decide +kernel
theorem dX8_handNow_2 : decode cX8_handNow 2 = .ok (.getfield 17, 3) := by decide +kernel
theorem dX8_handNow_5 : decode cX8_handNow 5 = .ok (.iconst 5, 1) := by decide +kernel
theorem dX8_handNow_6 : decode cX8_handNow 6 = .ok (.iaload, 1) := by decide +kernel
theorem dX8_handNow_7 : decode cX8_handNow 7 = .ok (.iconst 1, 1) := by decide +kernel
theorem dX8_handNow_8 : decode cX8_handNow 8 = .ok (.invokevirtual 266, 3) := by decide +kernel
theorem dX8_handNow_11 : decode cX8_handNow 11 = .ok (.ireturn, 1) := by decide +kernel
set_option maxRecDepth 20000 in
theorem ggX8_plays_X8_handNow : GoodIn wsX8_plays wsX8_handNow := goodIn_r _ [6, 1, 7, 8, 9, 5, 10, 11, 12, 13, 67, 68, 69, 70, 71, 72, 73, 74, 75, 76, 77, 78, 79, 80, 81, 82, 83, 84, 85, 86, 87] (by decide +kernel) (by decide +kernel)
set_option maxRecDepth 20000 in
theorem gX8_plays_X8_handNow : GoodIn wsX8_plays (wsV RX8 276 RX8 yX8_handNow wsX8_handNow) := goodIn_app (goodIn_of _ (by decide +kernel)) ggX8_plays_X8_handNow
set_option maxRecDepth 20000 in
theorem ggX8_plays_X8_refusal : GoodIn wsX8_plays wsX8_refusal := goodIn_r _ [17, 1, 18, 19, 20, 5, 21, 22, 23, 24, 25, 26, 27, 28, 11, 12, 13, 29, 30, 31, 32, 33, 34, 35, 36, 37, 38, 39, 40, 41, 42, 43, 44, 45, 46, 47, 48, 49, 50, 51, 52, 53, 54, 55, 56, 57, 58, 59, 60, 61, 62, 63, 64, 65, 66, 67, 68, 69, 70, 71, 72, 73, 74, 75, 76, 77, 78, 79, 80, 81, 82, 83, 84, 85, 86, 87] (by decide +kernel) (by decide +kernel)
set_option maxRecDepth 20000 in
theorem gX8_plays_X8_refusal : GoodIn wsX8_plays (wsV RX8 279 RX8 yX8_refusal wsX8_refusal) := goodIn_app (goodIn_of _ (by decide +kernel)) ggX8_plays_X8_refusal
theorem dX8_plays_0 : decode cX8_plays 0 = .ok (.iconst 0, 1) := by decide +kernel
theorem dX8_plays_1 : decode cX8_plays 1 = .ok (.istore_n 1, 1) := by decide +kernel
theorem dX8_plays_2 : decode cX8_plays 2 = .ok (.iconst 0, 1) := by decide +kernel
theorem dX8_plays_3 : decode cX8_plays 3 = .ok (.istore_n 2, 1) := by decide +kernel
theorem dX8_plays_4 : decode cX8_plays 4 = .ok (.iload_n 2, 1) := by decide +kernel
theorem dX8_plays_5 : decode cX8_plays 5 = .ok (.aload_n 0, 1) := by decide +kernel
theorem dX8_plays_6 : decode cX8_plays 6 = .ok (.invokevirtual 276, 3) := by decide +kernel
theorem dX8_plays_9 : decode cX8_plays 9 = .ok (.if_icmp .ge 44, 3) := by decide +kernel
theorem dX8_plays_12 : decode cX8_plays 12 = .ok (.iconst 0, 1) := by decide +kernel
theorem dX8_plays_13 : decode cX8_plays 13 = .ok (.istore_n 3, 1) := by decide +kernel
theorem dX8_plays_14 : decode cX8_plays 14 = .ok (.iload_n 3, 1) := by decide +kernel
theorem dX8_plays_15 : decode cX8_plays 15 = .ok (.aload_n 0, 1) := by decide +kernel
theorem dX8_plays_16 : decode cX8_plays 16 = .ok (.getfield 17, 3) := by decide +kernel
theorem dX8_plays_19 : decode cX8_plays 19 = .ok (.iconst 0, 1) := by decide +kernel
theorem dX8_plays_20 : decode cX8_plays 20 = .ok (.iaload, 1) := by decide +kernel
theorem dX8_plays_21 : decode cX8_plays 21 = .ok (.if_icmp .ge 26, 3) := by decide +kernel
theorem dX8_plays_24 : decode cX8_plays 24 = .ok (.iload_n 1, 1) := by decide +kernel
theorem dX8_plays_25 : decode cX8_plays 25 = .ok (.aload_n 0, 1) := by decide +kernel
theorem dX8_plays_26 : decode cX8_plays 26 = .ok (.iload_n 2, 1) := by decide +kernel
theorem dX8_plays_27 : decode cX8_plays 27 = .ok (.iload_n 3, 1) := by decide +kernel
theorem dX8_plays_28 : decode cX8_plays 28 = .ok (.invokevirtual 279, 3) := by decide +kernel
theorem dX8_plays_31 : decode cX8_plays 31 = .ok (.ifCond .ne 7, 3) := by decide +kernel
theorem dX8_plays_34 : decode cX8_plays 34 = .ok (.iconst 1, 1) := by decide +kernel
theorem dX8_plays_35 : decode cX8_plays 35 = .ok (.goto 4, 3) := by decide +kernel
theorem dX8_plays_38 : decode cX8_plays 38 = .ok (.iconst 0, 1) := by decide +kernel
theorem dX8_plays_39 : decode cX8_plays 39 = .ok (.iadd, 1) := by decide +kernel
theorem dX8_plays_40 : decode cX8_plays 40 = .ok (.istore_n 1, 1) := by decide +kernel
theorem dX8_plays_41 : decode cX8_plays 41 = .ok (.iinc 3 1, 3) := by decide +kernel
theorem dX8_plays_44 : decode cX8_plays 44 = .ok (.goto (-30), 3) := by decide +kernel
theorem dX8_plays_47 : decode cX8_plays 47 = .ok (.iinc 2 1, 3) := by decide +kernel
theorem dX8_plays_50 : decode cX8_plays 50 = .ok (.goto (-46), 3) := by decide +kernel
theorem dX8_plays_53 : decode cX8_plays 53 = .ok (.iload_n 1, 1) := by decide +kernel
theorem dX8_plays_54 : decode cX8_plays 54 = .ok (.ireturn, 1) := by decide +kernel
set_option maxRecDepth 20000 in
theorem ggX8_bestPlay_X8_handNow : GoodIn wsX8_bestPlay wsX8_handNow := goodIn_r _ [6, 1, 7, 8, 9, 5, 10, 11, 12, 13, 92, 93, 94, 95, 96, 97, 98, 99, 100, 101, 102, 103, 104, 105, 106, 107, 108, 109, 110, 111, 112] (by decide +kernel) (by decide +kernel)
set_option maxRecDepth 20000 in
theorem gX8_bestPlay_X8_handNow : GoodIn wsX8_bestPlay (wsV RX8 276 RX8 yX8_handNow wsX8_handNow) := goodIn_app (goodIn_of _ (by decide +kernel)) ggX8_bestPlay_X8_handNow
set_option maxRecDepth 20000 in
theorem ggX8_bestPlay_X8_refusal : GoodIn wsX8_bestPlay wsX8_refusal := goodIn_r _ [17, 1, 18, 19, 20, 5, 21, 22, 23, 24, 25, 26, 27, 28, 11, 12, 13, 29, 30, 31, 32, 33, 34, 35, 36, 37, 38, 39, 40, 41, 42, 43, 44, 45, 46, 47, 48, 49, 50, 51, 52, 53, 54, 55, 56, 57, 58, 59, 60, 61, 62, 63, 64, 65, 66, 92, 93, 94, 95, 96, 97, 98, 99, 100, 101, 102, 103, 104, 105, 106, 107, 108, 109, 110, 111, 112] (by decide +kernel) (by decide +kernel)
set_option maxRecDepth 20000 in
theorem gX8_bestPlay_X8_refusal : GoodIn wsX8_bestPlay (wsV RX8 279 RX8 yX8_refusal wsX8_refusal) := goodIn_app (goodIn_of _ (by decide +kernel)) ggX8_bestPlay_X8_refusal
set_option maxRecDepth 20000 in
theorem ggX8_bestPlay_X8_rankOf : GoodIn wsX8_bestPlay wsX8_rankOf := goodIn_r _ [70, 1, 71, 72, 73, 74, 5, 75, 22, 23, 24, 25, 26, 27, 28, 11, 12, 13, 76, 77, 78, 79, 33, 34, 35, 36, 37, 38, 39, 52, 53, 54, 55, 44, 45, 46, 47, 56, 57, 58, 59, 60, 61, 62, 63, 64, 65, 66, 29, 30, 31, 32, 80, 81, 82, 83, 7, 8, 9, 10, 84, 85, 86, 87, 88, 89, 90, 91, 92, 93, 94, 95, 96, 97, 98, 99, 100, 101, 102, 103, 104, 105, 106, 107, 108, 109, 110, 111, 112] (by decide +kernel) (by decide +kernel)
set_option maxRecDepth 20000 in
theorem gX8_bestPlay_X8_rankOf : GoodIn wsX8_bestPlay (wsV RX8 282 RX8 yX8_rankOf wsX8_rankOf) := goodIn_app (goodIn_of _ (by decide +kernel)) ggX8_bestPlay_X8_rankOf
theorem dX8_bestPlay_0 : decode cX8_bestPlay 0 = .ok (.iconst (-1), 1) := by decide +kernel
theorem dX8_bestPlay_1 : decode cX8_bestPlay 1 = .ok (.istore_n 1, 1) := by decide +kernel
theorem dX8_bestPlay_2 : decode cX8_bestPlay 2 = .ok (.iconst 0, 1) := by decide +kernel
theorem dX8_bestPlay_3 : decode cX8_bestPlay 3 = .ok (.istore_n 2, 1) := by decide +kernel
theorem dX8_bestPlay_4 : decode cX8_bestPlay 4 = .ok (.iconst 0, 1) := by decide +kernel
theorem dX8_bestPlay_5 : decode cX8_bestPlay 5 = .ok (.istore_n 3, 1) := by decide +kernel
theorem dX8_bestPlay_6 : decode cX8_bestPlay 6 = .ok (.iload_n 3, 1) := by decide +kernel
theorem dX8_bestPlay_7 : decode cX8_bestPlay 7 = .ok (.aload_n 0, 1) := by decide +kernel
theorem dX8_bestPlay_8 : decode cX8_bestPlay 8 = .ok (.invokevirtual 276, 3) := by decide +kernel
theorem dX8_bestPlay_11 : decode cX8_bestPlay 11 = .ok (.if_icmp .ge 76, 3) := by decide +kernel
theorem dX8_bestPlay_14 : decode cX8_bestPlay 14 = .ok (.iconst 0, 1) := by decide +kernel
theorem dX8_bestPlay_15 : decode cX8_bestPlay 15 = .ok (.istore 4, 2) := by decide +kernel
theorem dX8_bestPlay_17 : decode cX8_bestPlay 17 = .ok (.iload 4, 2) := by decide +kernel
theorem dX8_bestPlay_19 : decode cX8_bestPlay 19 = .ok (.aload_n 0, 1) := by decide +kernel
theorem dX8_bestPlay_20 : decode cX8_bestPlay 20 = .ok (.getfield 17, 3) := by decide +kernel
theorem dX8_bestPlay_23 : decode cX8_bestPlay 23 = .ok (.iconst 0, 1) := by decide +kernel
theorem dX8_bestPlay_24 : decode cX8_bestPlay 24 = .ok (.iaload, 1) := by decide +kernel
theorem dX8_bestPlay_25 : decode cX8_bestPlay 25 = .ok (.if_icmp .ge 56, 3) := by decide +kernel
theorem dX8_bestPlay_28 : decode cX8_bestPlay 28 = .ok (.aload_n 0, 1) := by decide +kernel
theorem dX8_bestPlay_29 : decode cX8_bestPlay 29 = .ok (.iload_n 3, 1) := by decide +kernel
theorem dX8_bestPlay_30 : decode cX8_bestPlay 30 = .ok (.iload 4, 2) := by decide +kernel
theorem dX8_bestPlay_32 : decode cX8_bestPlay 32 = .ok (.invokevirtual 279, 3) := by decide +kernel
theorem dX8_bestPlay_35 : decode cX8_bestPlay 35 = .ok (.ifCond .eq 6, 3) := by decide +kernel
theorem dX8_bestPlay_38 : decode cX8_bestPlay 38 = .ok (.goto 37, 3) := by decide +kernel
theorem dX8_bestPlay_41 : decode cX8_bestPlay 41 = .ok (.aload_n 0, 1) := by decide +kernel
theorem dX8_bestPlay_42 : decode cX8_bestPlay 42 = .ok (.iload_n 3, 1) := by decide +kernel
theorem dX8_bestPlay_43 : decode cX8_bestPlay 43 = .ok (.iload 4, 2) := by decide +kernel
theorem dX8_bestPlay_45 : decode cX8_bestPlay 45 = .ok (.invokevirtual 282, 3) := by decide +kernel
theorem dX8_bestPlay_48 : decode cX8_bestPlay 48 = .ok (.istore 5, 2) := by decide +kernel
theorem dX8_bestPlay_50 : decode cX8_bestPlay 50 = .ok (.iload_n 1, 1) := by decide +kernel
theorem dX8_bestPlay_51 : decode cX8_bestPlay 51 = .ok (.iconst (-1), 1) := by decide +kernel
theorem dX8_bestPlay_52 : decode cX8_bestPlay 52 = .ok (.if_icmp .eq 12, 3) := by decide +kernel
theorem dX8_bestPlay_55 : decode cX8_bestPlay 55 = .ok (.iload 5, 2) := by decide +kernel
theorem dX8_bestPlay_57 : decode cX8_bestPlay 57 = .ok (.iload_n 2, 1) := by decide +kernel
theorem dX8_bestPlay_58 : decode cX8_bestPlay 58 = .ok (.if_icmp .gt 6, 3) := by decide +kernel
theorem dX8_bestPlay_61 : decode cX8_bestPlay 61 = .ok (.goto 14, 3) := by decide +kernel
theorem dX8_bestPlay_64 : decode cX8_bestPlay 64 = .ok (.bipush 10, 2) := by decide +kernel
theorem dX8_bestPlay_66 : decode cX8_bestPlay 66 = .ok (.iload_n 3, 1) := by decide +kernel
theorem dX8_bestPlay_67 : decode cX8_bestPlay 67 = .ok (.imul, 1) := by decide +kernel
theorem dX8_bestPlay_68 : decode cX8_bestPlay 68 = .ok (.iload 4, 2) := by decide +kernel
theorem dX8_bestPlay_70 : decode cX8_bestPlay 70 = .ok (.iadd, 1) := by decide +kernel
theorem dX8_bestPlay_71 : decode cX8_bestPlay 71 = .ok (.istore_n 1, 1) := by decide +kernel
theorem dX8_bestPlay_72 : decode cX8_bestPlay 72 = .ok (.iload 5, 2) := by decide +kernel
theorem dX8_bestPlay_74 : decode cX8_bestPlay 74 = .ok (.istore_n 2, 1) := by decide +kernel
theorem dX8_bestPlay_75 : decode cX8_bestPlay 75 = .ok (.iinc 4 1, 3) := by decide +kernel
theorem dX8_bestPlay_78 : decode cX8_bestPlay 78 = .ok (.goto (-61), 3) := by decide +kernel
theorem dX8_bestPlay_81 : decode cX8_bestPlay 81 = .ok (.iinc 3 1, 3) := by decide +kernel
theorem dX8_bestPlay_84 : decode cX8_bestPlay 84 = .ok (.goto (-78), 3) := by decide +kernel
theorem dX8_bestPlay_87 : decode cX8_bestPlay 87 = .ok (.iload_n 1, 1) := by decide +kernel
theorem dX8_bestPlay_88 : decode cX8_bestPlay 88 = .ok (.ireturn, 1) := by decide +kernel
set_option maxRecDepth 20000 in
theorem ggX8_wordsOfAll_X8_ofPlayer : GoodIn wsX8_wordsOfAll wsX8_ofPlayer := goodIn_r _ [6, 1, 7, 8, 5, 9, 10, 11, 12, 13, 14, 15, 16, 17, 18, 19, 20, 21, 22, 23, 24, 25, 26, 27, 28, 29, 30] (by decide +kernel) (by decide +kernel)
set_option maxRecDepth 20000 in
theorem gX8_wordsOfAll_X8_ofPlayer : GoodIn wsX8_wordsOfAll (wsV RX8 266 RX8 yX8_ofPlayer wsX8_ofPlayer) := goodIn_app (goodIn_of _ (by decide +kernel)) ggX8_wordsOfAll_X8_ofPlayer
theorem dX8_wordsOfAll_0 : decode cX8_wordsOfAll 0 = .ok (.iconst 0, 1) := by decide +kernel
theorem dX8_wordsOfAll_1 : decode cX8_wordsOfAll 1 = .ok (.istore_n 1, 1) := by decide +kernel
theorem dX8_wordsOfAll_2 : decode cX8_wordsOfAll 2 = .ok (.iconst 0, 1) := by decide +kernel
theorem dX8_wordsOfAll_3 : decode cX8_wordsOfAll 3 = .ok (.istore_n 2, 1) := by decide +kernel
theorem dX8_wordsOfAll_4 : decode cX8_wordsOfAll 4 = .ok (.iload_n 2, 1) := by decide +kernel
theorem dX8_wordsOfAll_5 : decode cX8_wordsOfAll 5 = .ok (.aload_n 0, 1) := by decide +kernel
theorem dX8_wordsOfAll_6 : decode cX8_wordsOfAll 6 = .ok (.getfield 17, 3) := by decide +kernel
theorem dX8_wordsOfAll_9 : decode cX8_wordsOfAll 9 = .ok (.iconst 1, 1) := by decide +kernel
theorem dX8_wordsOfAll_10 : decode cX8_wordsOfAll 10 = .ok (.iaload, 1) := by decide +kernel
theorem dX8_wordsOfAll_11 : decode cX8_wordsOfAll 11 = .ok (.if_icmp .ge 18, 3) := by decide +kernel
theorem dX8_wordsOfAll_14 : decode cX8_wordsOfAll 14 = .ok (.iload_n 1, 1) := by decide +kernel
theorem dX8_wordsOfAll_15 : decode cX8_wordsOfAll 15 = .ok (.aload_n 0, 1) := by decide +kernel
theorem dX8_wordsOfAll_16 : decode cX8_wordsOfAll 16 = .ok (.iload_n 2, 1) := by decide +kernel
theorem dX8_wordsOfAll_17 : decode cX8_wordsOfAll 17 = .ok (.iconst 1, 1) := by decide +kernel
theorem dX8_wordsOfAll_18 : decode cX8_wordsOfAll 18 = .ok (.invokevirtual 266, 3) := by decide +kernel
theorem dX8_wordsOfAll_21 : decode cX8_wordsOfAll 21 = .ok (.iadd, 1) := by decide +kernel
theorem dX8_wordsOfAll_22 : decode cX8_wordsOfAll 22 = .ok (.istore_n 1, 1) := by decide +kernel
theorem dX8_wordsOfAll_23 : decode cX8_wordsOfAll 23 = .ok (.iinc 2 1, 3) := by decide +kernel
theorem dX8_wordsOfAll_26 : decode cX8_wordsOfAll 26 = .ok (.goto (-22), 3) := by decide +kernel
theorem dX8_wordsOfAll_29 : decode cX8_wordsOfAll 29 = .ok (.iload_n 1, 1) := by decide +kernel
theorem dX8_wordsOfAll_30 : decode cX8_wordsOfAll 30 = .ok (.ireturn, 1) := by decide +kernel
theorem dX8_nextTurn_0 : decode cX8_nextTurn 0 = .ok (.aload_n 0, 1) := by decide +kernel
theorem dX8_nextTurn_1 : decode cX8_nextTurn 1 = .ok (.getfield 17, 3) := by decide +kernel
theorem dX8_nextTurn_4 : decode cX8_nextTurn 4 = .ok (.iconst 5, 1) := by decide +kernel
theorem dX8_nextTurn_5 : decode cX8_nextTurn 5 = .ok (.aload_n 0, 1) := by decide +kernel
theorem dX8_nextTurn_6 : decode cX8_nextTurn 6 = .ok (.getfield 17, 3) := by decide +kernel
theorem dX8_nextTurn_9 : decode cX8_nextTurn 9 = .ok (.iconst 5, 1) := by decide +kernel
theorem dX8_nextTurn_10 : decode cX8_nextTurn 10 = .ok (.iaload, 1) := by decide +kernel
theorem dX8_nextTurn_11 : decode cX8_nextTurn 11 = .ok (.iconst 1, 1) := by decide +kernel
theorem dX8_nextTurn_12 : decode cX8_nextTurn 12 = .ok (.iadd, 1) := by decide +kernel
theorem dX8_nextTurn_13 : decode cX8_nextTurn 13 = .ok (.aload_n 0, 1) := by decide +kernel
theorem dX8_nextTurn_14 : decode cX8_nextTurn 14 = .ok (.getfield 17, 3) := by decide +kernel
theorem dX8_nextTurn_17 : decode cX8_nextTurn 17 = .ok (.iconst 1, 1) := by decide +kernel
theorem dX8_nextTurn_18 : decode cX8_nextTurn 18 = .ok (.iaload, 1) := by decide +kernel
theorem dX8_nextTurn_19 : decode cX8_nextTurn 19 = .ok (.irem, 1) := by decide +kernel
theorem dX8_nextTurn_20 : decode cX8_nextTurn 20 = .ok (.iastore, 1) := by decide +kernel
theorem dX8_nextTurn_21 : decode cX8_nextTurn 21 = .ok (.return_, 1) := by decide +kernel
set_option maxRecDepth 20000 in
theorem ggX8_endGame_X8_ofRow : GoodIn wsX8_endGame wsX8_ofRow := goodIn_r _ [6, 1, 7, 8, 5, 9, 17, 18, 19, 20, 21, 22, 23, 24, 25, 26, 27, 28, 29, 30, 31, 32, 33, 34, 35, 36, 37] (by decide +kernel) (by decide +kernel)
set_option maxRecDepth 20000 in
theorem gX8_endGame_X8_ofRow : GoodIn wsX8_endGame (wsV RX8 218 RX8 yX8_ofRow wsX8_ofRow) := goodIn_app (goodIn_of _ (by decide +kernel)) ggX8_endGame_X8_ofRow
set_option maxRecDepth 20000 in
theorem ggX8_endGame_X8_free : GoodIn wsX8_endGame wsX8_free := goodIn_r _ [13, 2, 3, 4, 5, 6, 1, 7, 8, 9, 17, 18, 19, 20, 21, 22, 23, 24, 25, 26, 27, 28, 29, 30, 31, 32, 33, 34, 35, 36, 37] (by decide +kernel) (by decide +kernel)
set_option maxRecDepth 20000 in
theorem gX8_endGame_X8_free : GoodIn wsX8_endGame (wsV RX8 239 RX8 yX8_free wsX8_free) := goodIn_app (goodIn_of _ (by decide +kernel)) ggX8_endGame_X8_free
set_option maxRecDepth 20000 in
theorem ggX8_endGame_X8_playerAt : GoodIn wsX8_endGame wsX8_playerAt := goodIn_r _ [16] (by decide +kernel) (by decide +kernel)
set_option maxRecDepth 20000 in
theorem gX8_endGame_X8_playerAt : GoodIn wsX8_endGame (va_wsS RX8 56 yX8_playerAt wsX8_playerAt) := goodIn_app (goodIn_of _ (by decide +kernel)) ggX8_endGame_X8_playerAt
theorem dX8_endGame_0 : decode cX8_endGame 0 = .ok (.aload_n 0, 1) := by decide +kernel
theorem dX8_endGame_1 : decode cX8_endGame 1 = .ok (.getfield 17, 3) := by decide +kernel
theorem dX8_endGame_4 : decode cX8_endGame 4 = .ok (.bipush 6, 2) := by decide +kernel
theorem dX8_endGame_6 : decode cX8_endGame 6 = .ok (.iconst 1, 1) := by decide +kernel
theorem dX8_endGame_7 : decode cX8_endGame 7 = .ok (.iastore, 1) := by decide +kernel
theorem dX8_endGame_8 : decode cX8_endGame 8 = .ok (.iconst 0, 1) := by decide +kernel
theorem dX8_endGame_9 : decode cX8_endGame 9 = .ok (.istore_n 1, 1) := by decide +kernel
theorem dX8_endGame_10 : decode cX8_endGame 10 = .ok (.iload_n 1, 1) := by decide +kernel
theorem dX8_endGame_11 : decode cX8_endGame 11 = .ok (.aload_n 0, 1) := by decide +kernel
theorem dX8_endGame_12 : decode cX8_endGame 12 = .ok (.getfield 17, 3) := by decide +kernel
theorem dX8_endGame_15 : decode cX8_endGame 15 = .ok (.iconst 0, 1) := by decide +kernel
theorem dX8_endGame_16 : decode cX8_endGame 16 = .ok (.iaload, 1) := by decide +kernel
theorem dX8_endGame_17 : decode cX8_endGame 17 = .ok (.if_icmp .ge 54, 3) := by decide +kernel
theorem dX8_endGame_20 : decode cX8_endGame 20 = .ok (.aload_n 0, 1) := by decide +kernel
theorem dX8_endGame_21 : decode cX8_endGame 21 = .ok (.iload_n 1, 1) := by decide +kernel
theorem dX8_endGame_22 : decode cX8_endGame 22 = .ok (.iconst 3, 1) := by decide +kernel
theorem dX8_endGame_23 : decode cX8_endGame 23 = .ok (.invokevirtual 218, 3) := by decide +kernel
theorem dX8_endGame_26 : decode cX8_endGame 26 = .ok (.iconst (-1), 1) := by decide +kernel
theorem dX8_endGame_27 : decode cX8_endGame 27 = .ok (.if_icmp .eq 38, 3) := by decide +kernel
theorem dX8_endGame_30 : decode cX8_endGame 30 = .ok (.aload_n 0, 1) := by decide +kernel
theorem dX8_endGame_31 : decode cX8_endGame 31 = .ok (.iload_n 1, 1) := by decide +kernel
theorem dX8_endGame_32 : decode cX8_endGame 32 = .ok (.invokevirtual 239, 3) := by decide +kernel
theorem dX8_endGame_35 : decode cX8_endGame 35 = .ok (.ifCond .le 30, 3) := by decide +kernel
theorem dX8_endGame_38 : decode cX8_endGame 38 = .ok (.aload_n 0, 1) := by decide +kernel
theorem dX8_endGame_39 : decode cX8_endGame 39 = .ok (.getfield 17, 3) := by decide +kernel
theorem dX8_endGame_42 : decode cX8_endGame 42 = .ok (.aload_n 0, 1) := by decide +kernel
theorem dX8_endGame_43 : decode cX8_endGame 43 = .ok (.iload_n 1, 1) := by decide +kernel
theorem dX8_endGame_44 : decode cX8_endGame 44 = .ok (.iconst 3, 1) := by decide +kernel
theorem dX8_endGame_45 : decode cX8_endGame 45 = .ok (.invokevirtual 218, 3) := by decide +kernel
theorem dX8_endGame_48 : decode cX8_endGame 48 = .ok (.invokestatic 56, 3) := by decide +kernel
theorem dX8_endGame_51 : decode cX8_endGame 51 = .ok (.iconst 0, 1) := by decide +kernel
theorem dX8_endGame_52 : decode cX8_endGame 52 = .ok (.iadd, 1) := by decide +kernel
theorem dX8_endGame_53 : decode cX8_endGame 53 = .ok (.dup2, 1) := by decide +kernel
theorem dX8_endGame_54 : decode cX8_endGame 54 = .ok (.iaload, 1) := by decide +kernel
theorem dX8_endGame_55 : decode cX8_endGame 55 = .ok (.aload_n 0, 1) := by decide +kernel
theorem dX8_endGame_56 : decode cX8_endGame 56 = .ok (.iload_n 1, 1) := by decide +kernel
theorem dX8_endGame_57 : decode cX8_endGame 57 = .ok (.iconst 1, 1) := by decide +kernel
theorem dX8_endGame_58 : decode cX8_endGame 58 = .ok (.invokevirtual 218, 3) := by decide +kernel
theorem dX8_endGame_61 : decode cX8_endGame 61 = .ok (.iconst 2, 1) := by decide +kernel
theorem dX8_endGame_62 : decode cX8_endGame 62 = .ok (.idiv, 1) := by decide +kernel
theorem dX8_endGame_63 : decode cX8_endGame 63 = .ok (.iadd, 1) := by decide +kernel
theorem dX8_endGame_64 : decode cX8_endGame 64 = .ok (.iastore, 1) := by decide +kernel
theorem dX8_endGame_65 : decode cX8_endGame 65 = .ok (.iinc 1 1, 3) := by decide +kernel
theorem dX8_endGame_68 : decode cX8_endGame 68 = .ok (.goto (-58), 3) := by decide +kernel
theorem dX8_endGame_71 : decode cX8_endGame 71 = .ok (.return_, 1) := by decide +kernel
set_option maxRecDepth 20000 in
theorem ggX8_layNow_X8_pointsFor : GoodIn wsX8_layNow wsX8_pointsFor := goodIn_r _ [6, 1, 7, 8, 9, 5, 10, 11, 12, 13, 14, 15, 16, 17, 18, 19, 20, 21, 22, 23, 24, 25, 26, 27, 28, 29, 30, 31, 32, 33, 34, 35, 36, 37, 38, 39, 40, 41, 42, 43, 44, 45, 46, 47, 48, 49, 50, 67, 68, 69, 70, 71, 72, 73, 74, 75, 76, 77, 78, 79, 80, 81, 82, 83, 84, 85, 86, 87] (by decide +kernel) (by decide +kernel)
set_option maxRecDepth 20000 in
theorem gX8_layNow_X8_pointsFor : GoodIn wsX8_layNow (wsV RX8 263 RX8 yX8_pointsFor wsX8_pointsFor) := goodIn_app (goodIn_of _ (by decide +kernel)) ggX8_layNow_X8_pointsFor
set_option maxRecDepth 20000 in
theorem ggX8_layNow_X8_lengthOf : GoodIn wsX8_layNow wsX8_lengthOf := goodIn_r _ [10, 1, 11, 12, 5, 13, 14, 15, 16, 67, 68, 69, 70, 71, 72, 73, 74, 75, 76, 77, 78, 79, 80, 81, 82, 83, 84, 85, 86, 87] (by decide +kernel) (by decide +kernel)
set_option maxRecDepth 20000 in
theorem gX8_layNow_X8_lengthOf : GoodIn wsX8_layNow (wsV RX8 225 RX8 yX8_lengthOf wsX8_lengthOf) := goodIn_app (goodIn_of _ (by decide +kernel)) ggX8_layNow_X8_lengthOf
set_option maxRecDepth 20000 in
theorem ggX8_layNow_X8_rowAt : GoodIn wsX8_layNow wsX8_rowAt := goodIn_r _ [27] (by decide +kernel) (by decide +kernel)
set_option maxRecDepth 20000 in
theorem gX8_layNow_X8_rowAt : GoodIn wsX8_layNow (va_wsS RX8 52 yX8_rowAt wsX8_rowAt) := goodIn_app (goodIn_of _ (by decide +kernel)) ggX8_layNow_X8_rowAt
set_option maxRecDepth 20000 in
theorem ggX8_layNow_X8_wordAt : GoodIn wsX8_layNow wsX8_wordAt := goodIn_r _ [13, 14, 15, 5, 16] (by decide +kernel) (by decide +kernel)
set_option maxRecDepth 20000 in
theorem gX8_layNow_X8_wordAt : GoodIn wsX8_layNow (va_wsS RX8 161 yX8_wordAt wsX8_wordAt) := goodIn_app (goodIn_of _ (by decide +kernel)) ggX8_layNow_X8_wordAt
set_option maxRecDepth 20000 in
theorem ggX8_layNow_X8_playerAt : GoodIn wsX8_layNow wsX8_playerAt := goodIn_r _ [16] (by decide +kernel) (by decide +kernel)
set_option maxRecDepth 20000 in
theorem gX8_layNow_X8_playerAt : GoodIn wsX8_layNow (va_wsS RX8 56 yX8_playerAt wsX8_playerAt) := goodIn_app (goodIn_of _ (by decide +kernel)) ggX8_layNow_X8_playerAt
set_option maxRecDepth 20000 in
theorem ggX8_layNow_X8_ofPlayer : GoodIn wsX8_layNow wsX8_ofPlayer := goodIn_r _ [54, 1, 14, 15, 5, 16, 67, 68, 69, 70, 71, 72, 73, 74, 75, 76, 77, 78, 79, 80, 81, 82, 83, 84, 85, 86, 87] (by decide +kernel) (by decide +kernel)
set_option maxRecDepth 20000 in
theorem gX8_layNow_X8_ofPlayer : GoodIn wsX8_layNow (wsV RX8 266 RX8 yX8_ofPlayer wsX8_ofPlayer) := goodIn_app (goodIn_of _ (by decide +kernel)) ggX8_layNow_X8_ofPlayer
set_option maxRecDepth 20000 in
theorem ggX8_layNow_X8_wordsOfAll : GoodIn wsX8_layNow wsX8_wordsOfAll := goodIn_r _ [58, 1, 51, 52, 53, 5, 54, 14, 15, 16, 67, 68, 69, 70, 71, 72, 73, 74, 75, 76, 77, 78, 79, 80, 81, 82, 83, 84, 85, 86, 87] (by decide +kernel) (by decide +kernel)
set_option maxRecDepth 20000 in
theorem gX8_layNow_X8_wordsOfAll : GoodIn wsX8_layNow (wsV RX8 215 RX8 yX8_wordsOfAll wsX8_wordsOfAll) := goodIn_app (goodIn_of _ (by decide +kernel)) ggX8_layNow_X8_wordsOfAll
set_option maxRecDepth 20000 in
theorem ggX8_layNow_X8_endGame : GoodIn wsX8_layNow wsX8_endGame := goodIn_r _ [62, 1, 21, 22, 23, 5, 24, 25, 26, 27, 47, 48, 49, 50, 14, 15, 16, 67, 68, 69, 70, 71, 72, 73, 74, 75, 76, 77, 78, 79, 80, 81, 82, 83, 84, 85, 86, 87] (by decide +kernel) (by decide +kernel)
set_option maxRecDepth 20000 in
theorem gX8_layNow_X8_endGame : GoodIn wsX8_layNow (wsV RX8 285 RX8 yX8_endGame wsX8_endGame) := goodIn_app (goodIn_of _ (by decide +kernel)) ggX8_layNow_X8_endGame
set_option maxRecDepth 20000 in
theorem ggX8_layNow_X8_nextTurn : GoodIn wsX8_layNow wsX8_nextTurn := goodIn_r _ [66, 1, 67, 68, 69, 70, 71, 72, 73, 74, 75, 76, 77, 78, 79, 80, 81, 82, 83, 84, 85, 86, 87] (by decide +kernel) (by decide +kernel)
set_option maxRecDepth 20000 in
theorem gX8_layNow_X8_nextTurn : GoodIn wsX8_layNow (wsV RX8 288 RX8 yX8_nextTurn wsX8_nextTurn) := goodIn_app (goodIn_of _ (by decide +kernel)) ggX8_layNow_X8_nextTurn
theorem dX8_layNow_0 : decode cX8_layNow 0 = .ok (.aload_n 0, 1) := by decide +kernel
theorem dX8_layNow_1 : decode cX8_layNow 1 = .ok (.getfield 17, 3) := by decide +kernel
theorem dX8_layNow_4 : decode cX8_layNow 4 = .ok (.iconst 5, 1) := by decide +kernel
theorem dX8_layNow_5 : decode cX8_layNow 5 = .ok (.iaload, 1) := by decide +kernel
theorem dX8_layNow_6 : decode cX8_layNow 6 = .ok (.istore_n 3, 1) := by decide +kernel
theorem dX8_layNow_7 : decode cX8_layNow 7 = .ok (.aload_n 0, 1) := by decide +kernel
theorem dX8_layNow_8 : decode cX8_layNow 8 = .ok (.iload_n 3, 1) := by decide +kernel
theorem dX8_layNow_9 : decode cX8_layNow 9 = .ok (.iload_n 1, 1) := by decide +kernel
theorem dX8_layNow_10 : decode cX8_layNow 10 = .ok (.iload_n 2, 1) := by decide +kernel
theorem dX8_layNow_11 : decode cX8_layNow 11 = .ok (.invokevirtual 263, 3) := by decide +kernel
theorem dX8_layNow_14 : decode cX8_layNow 14 = .ok (.istore 4, 2) := by decide +kernel
theorem dX8_layNow_16 : decode cX8_layNow 16 = .ok (.aload_n 0, 1) := by decide +kernel
theorem dX8_layNow_17 : decode cX8_layNow 17 = .ok (.iload_n 3, 1) := by decide +kernel
theorem dX8_layNow_18 : decode cX8_layNow 18 = .ok (.iload_n 1, 1) := by decide +kernel
theorem dX8_layNow_19 : decode cX8_layNow 19 = .ok (.invokevirtual 225, 3) := by decide +kernel
theorem dX8_layNow_22 : decode cX8_layNow 22 = .ok (.istore 5, 2) := by decide +kernel
theorem dX8_layNow_24 : decode cX8_layNow 24 = .ok (.iload_n 2, 1) := by decide +kernel
theorem dX8_layNow_25 : decode cX8_layNow 25 = .ok (.invokestatic 52, 3) := by decide +kernel
theorem dX8_layNow_28 : decode cX8_layNow 28 = .ok (.istore 6, 2) := by decide +kernel
theorem dX8_layNow_30 : decode cX8_layNow 30 = .ok (.iconst 0, 1) := by decide +kernel
theorem dX8_layNow_31 : decode cX8_layNow 31 = .ok (.istore 7, 2) := by decide +kernel
theorem dX8_layNow_33 : decode cX8_layNow 33 = .ok (.iload 7, 2) := by decide +kernel
theorem dX8_layNow_35 : decode cX8_layNow 35 = .ok (.iload 5, 2) := by decide +kernel
theorem dX8_layNow_37 : decode cX8_layNow 37 = .ok (.if_icmp .ge 46, 3) := by decide +kernel
theorem dX8_layNow_40 : decode cX8_layNow 40 = .ok (.aload_n 0, 1) := by decide +kernel
theorem dX8_layNow_41 : decode cX8_layNow 41 = .ok (.getfield 17, 3) := by decide +kernel
theorem dX8_layNow_44 : decode cX8_layNow 44 = .ok (.iload 6, 2) := by decide +kernel
theorem dX8_layNow_46 : decode cX8_layNow 46 = .ok (.iconst 5, 1) := by decide +kernel
theorem dX8_layNow_47 : decode cX8_layNow 47 = .ok (.iadd, 1) := by decide +kernel
theorem dX8_layNow_48 : decode cX8_layNow 48 = .ok (.aload_n 0, 1) := by decide +kernel
theorem dX8_layNow_49 : decode cX8_layNow 49 = .ok (.getfield 17, 3) := by decide +kernel
theorem dX8_layNow_52 : decode cX8_layNow 52 = .ok (.iload 6, 2) := by decide +kernel
theorem dX8_layNow_54 : decode cX8_layNow 54 = .ok (.iconst 1, 1) := by decide +kernel
theorem dX8_layNow_55 : decode cX8_layNow 55 = .ok (.iadd, 1) := by decide +kernel
theorem dX8_layNow_56 : decode cX8_layNow 56 = .ok (.iaload, 1) := by decide +kernel
theorem dX8_layNow_57 : decode cX8_layNow 57 = .ok (.iadd, 1) := by decide +kernel
theorem dX8_layNow_58 : decode cX8_layNow 58 = .ok (.iload 7, 2) := by decide +kernel
theorem dX8_layNow_60 : decode cX8_layNow 60 = .ok (.iadd, 1) := by decide +kernel
theorem dX8_layNow_61 : decode cX8_layNow 61 = .ok (.aload_n 0, 1) := by decide +kernel
theorem dX8_layNow_62 : decode cX8_layNow 62 = .ok (.getfield 17, 3) := by decide +kernel
theorem dX8_layNow_65 : decode cX8_layNow 65 = .ok (.iload_n 3, 1) := by decide +kernel
theorem dX8_layNow_66 : decode cX8_layNow 66 = .ok (.iload_n 1, 1) := by decide +kernel
theorem dX8_layNow_67 : decode cX8_layNow 67 = .ok (.invokestatic 161, 3) := by decide +kernel
theorem dX8_layNow_70 : decode cX8_layNow 70 = .ok (.iconst 1, 1) := by decide +kernel
theorem dX8_layNow_71 : decode cX8_layNow 71 = .ok (.iadd, 1) := by decide +kernel
theorem dX8_layNow_72 : decode cX8_layNow 72 = .ok (.iload 7, 2) := by decide +kernel
theorem dX8_layNow_74 : decode cX8_layNow 74 = .ok (.iadd, 1) := by decide +kernel
theorem dX8_layNow_75 : decode cX8_layNow 75 = .ok (.iaload, 1) := by decide +kernel
theorem dX8_layNow_76 : decode cX8_layNow 76 = .ok (.iastore, 1) := by decide +kernel
theorem dX8_layNow_77 : decode cX8_layNow 77 = .ok (.iinc 7 1, 3) := by decide +kernel
theorem dX8_layNow_80 : decode cX8_layNow 80 = .ok (.goto (-47), 3) := by decide +kernel
theorem dX8_layNow_83 : decode cX8_layNow 83 = .ok (.aload_n 0, 1) := by decide +kernel
theorem dX8_layNow_84 : decode cX8_layNow 84 = .ok (.getfield 17, 3) := by decide +kernel
theorem dX8_layNow_87 : decode cX8_layNow 87 = .ok (.iload 6, 2) := by decide +kernel
theorem dX8_layNow_89 : decode cX8_layNow 89 = .ok (.iconst 1, 1) := by decide +kernel
theorem dX8_layNow_90 : decode cX8_layNow 90 = .ok (.iadd, 1) := by decide +kernel
theorem dX8_layNow_91 : decode cX8_layNow 91 = .ok (.dup2, 1) := by decide +kernel
theorem dX8_layNow_92 : decode cX8_layNow 92 = .ok (.iaload, 1) := by decide +kernel
theorem dX8_layNow_93 : decode cX8_layNow 93 = .ok (.iload 5, 2) := by decide +kernel
theorem dX8_layNow_95 : decode cX8_layNow 95 = .ok (.iadd, 1) := by decide +kernel
theorem dX8_layNow_96 : decode cX8_layNow 96 = .ok (.iastore, 1) := by decide +kernel
theorem dX8_layNow_97 : decode cX8_layNow 97 = .ok (.aload_n 0, 1) := by decide +kernel
theorem dX8_layNow_98 : decode cX8_layNow 98 = .ok (.getfield 17, 3) := by decide +kernel
theorem dX8_layNow_101 : decode cX8_layNow 101 = .ok (.iload 6, 2) := by decide +kernel
theorem dX8_layNow_103 : decode cX8_layNow 103 = .ok (.iconst 2, 1) := by decide +kernel
theorem dX8_layNow_104 : decode cX8_layNow 104 = .ok (.iadd, 1) := by decide +kernel
theorem dX8_layNow_105 : decode cX8_layNow 105 = .ok (.dup2, 1) := by decide +kernel
theorem dX8_layNow_106 : decode cX8_layNow 106 = .ok (.iaload, 1) := by decide +kernel
theorem dX8_layNow_107 : decode cX8_layNow 107 = .ok (.iconst 1, 1) := by decide +kernel
theorem dX8_layNow_108 : decode cX8_layNow 108 = .ok (.iadd, 1) := by decide +kernel
theorem dX8_layNow_109 : decode cX8_layNow 109 = .ok (.iastore, 1) := by decide +kernel
theorem dX8_layNow_110 : decode cX8_layNow 110 = .ok (.aload_n 0, 1) := by decide +kernel
theorem dX8_layNow_111 : decode cX8_layNow 111 = .ok (.getfield 17, 3) := by decide +kernel
theorem dX8_layNow_114 : decode cX8_layNow 114 = .ok (.iload 6, 2) := by decide +kernel
theorem dX8_layNow_116 : decode cX8_layNow 116 = .ok (.iconst 3, 1) := by decide +kernel
theorem dX8_layNow_117 : decode cX8_layNow 117 = .ok (.iadd, 1) := by decide +kernel
theorem dX8_layNow_118 : decode cX8_layNow 118 = .ok (.iload_n 3, 1) := by decide +kernel
theorem dX8_layNow_119 : decode cX8_layNow 119 = .ok (.iastore, 1) := by decide +kernel
theorem dX8_layNow_120 : decode cX8_layNow 120 = .ok (.aload_n 0, 1) := by decide +kernel
theorem dX8_layNow_121 : decode cX8_layNow 121 = .ok (.getfield 17, 3) := by decide +kernel
theorem dX8_layNow_124 : decode cX8_layNow 124 = .ok (.iload 6, 2) := by decide +kernel
theorem dX8_layNow_126 : decode cX8_layNow 126 = .ok (.iconst 4, 1) := by decide +kernel
theorem dX8_layNow_127 : decode cX8_layNow 127 = .ok (.iadd, 1) := by decide +kernel
theorem dX8_layNow_128 : decode cX8_layNow 128 = .ok (.iload 5, 2) := by decide +kernel
theorem dX8_layNow_130 : decode cX8_layNow 130 = .ok (.iastore, 1) := by decide +kernel
theorem dX8_layNow_131 : decode cX8_layNow 131 = .ok (.aload_n 0, 1) := by decide +kernel
theorem dX8_layNow_132 : decode cX8_layNow 132 = .ok (.getfield 17, 3) := by decide +kernel
theorem dX8_layNow_135 : decode cX8_layNow 135 = .ok (.iload_n 3, 1) := by decide +kernel
theorem dX8_layNow_136 : decode cX8_layNow 136 = .ok (.invokestatic 56, 3) := by decide +kernel
theorem dX8_layNow_139 : decode cX8_layNow 139 = .ok (.iconst 0, 1) := by decide +kernel
theorem dX8_layNow_140 : decode cX8_layNow 140 = .ok (.iadd, 1) := by decide +kernel
theorem dX8_layNow_141 : decode cX8_layNow 141 = .ok (.dup2, 1) := by decide +kernel
theorem dX8_layNow_142 : decode cX8_layNow 142 = .ok (.iaload, 1) := by decide +kernel
theorem dX8_layNow_143 : decode cX8_layNow 143 = .ok (.iload 4, 2) := by decide +kernel
theorem dX8_layNow_145 : decode cX8_layNow 145 = .ok (.iadd, 1) := by decide +kernel
theorem dX8_layNow_146 : decode cX8_layNow 146 = .ok (.iastore, 1) := by decide +kernel
theorem dX8_layNow_147 : decode cX8_layNow 147 = .ok (.aload_n 0, 1) := by decide +kernel
theorem dX8_layNow_148 : decode cX8_layNow 148 = .ok (.getfield 17, 3) := by decide +kernel
theorem dX8_layNow_151 : decode cX8_layNow 151 = .ok (.iload_n 3, 1) := by decide +kernel
theorem dX8_layNow_152 : decode cX8_layNow 152 = .ok (.invokestatic 56, 3) := by decide +kernel
theorem dX8_layNow_155 : decode cX8_layNow 155 = .ok (.iconst 1, 1) := by decide +kernel
theorem dX8_layNow_156 : decode cX8_layNow 156 = .ok (.iadd, 1) := by decide +kernel
theorem dX8_layNow_157 : decode cX8_layNow 157 = .ok (.dup2, 1) := by decide +kernel
theorem dX8_layNow_158 : decode cX8_layNow 158 = .ok (.iaload, 1) := by decide +kernel
theorem dX8_layNow_159 : decode cX8_layNow 159 = .ok (.iconst 1, 1) := by decide +kernel
theorem dX8_layNow_160 : decode cX8_layNow 160 = .ok (.isub, 1) := by decide +kernel
theorem dX8_layNow_161 : decode cX8_layNow 161 = .ok (.iastore, 1) := by decide +kernel
theorem dX8_layNow_162 : decode cX8_layNow 162 = .ok (.iload_n 3, 1) := by decide +kernel
theorem dX8_layNow_163 : decode cX8_layNow 163 = .ok (.iload_n 1, 1) := by decide +kernel
theorem dX8_layNow_164 : decode cX8_layNow 164 = .ok (.invokestatic 161, 3) := by decide +kernel
theorem dX8_layNow_167 : decode cX8_layNow 167 = .ok (.istore 7, 2) := by decide +kernel
theorem dX8_layNow_169 : decode cX8_layNow 169 = .ok (.iload 7, 2) := by decide +kernel
theorem dX8_layNow_171 : decode cX8_layNow 171 = .ok (.iload_n 3, 1) := by decide +kernel
theorem dX8_layNow_172 : decode cX8_layNow 172 = .ok (.aload_n 0, 1) := by decide +kernel
theorem dX8_layNow_173 : decode cX8_layNow 173 = .ok (.iload_n 3, 1) := by decide +kernel
theorem dX8_layNow_174 : decode cX8_layNow 174 = .ok (.iconst 1, 1) := by decide +kernel
theorem dX8_layNow_175 : decode cX8_layNow 175 = .ok (.invokevirtual 266, 3) := by decide +kernel
theorem dX8_layNow_178 : decode cX8_layNow 178 = .ok (.invokestatic 161, 3) := by decide +kernel
theorem dX8_layNow_181 : decode cX8_layNow 181 = .ok (.if_icmp .ge 26, 3) := by decide +kernel
theorem dX8_layNow_184 : decode cX8_layNow 184 = .ok (.aload_n 0, 1) := by decide +kernel
theorem dX8_layNow_185 : decode cX8_layNow 185 = .ok (.getfield 17, 3) := by decide +kernel
theorem dX8_layNow_188 : decode cX8_layNow 188 = .ok (.iload 7, 2) := by decide +kernel
theorem dX8_layNow_190 : decode cX8_layNow 190 = .ok (.aload_n 0, 1) := by decide +kernel
theorem dX8_layNow_191 : decode cX8_layNow 191 = .ok (.getfield 17, 3) := by decide +kernel
theorem dX8_layNow_194 : decode cX8_layNow 194 = .ok (.iload 7, 2) := by decide +kernel
theorem dX8_layNow_196 : decode cX8_layNow 196 = .ok (.bipush 9, 2) := by decide +kernel
theorem dX8_layNow_198 : decode cX8_layNow 198 = .ok (.iadd, 1) := by decide +kernel
theorem dX8_layNow_199 : decode cX8_layNow 199 = .ok (.iaload, 1) := by decide +kernel
theorem dX8_layNow_200 : decode cX8_layNow 200 = .ok (.iastore, 1) := by decide +kernel
theorem dX8_layNow_201 : decode cX8_layNow 201 = .ok (.iinc 7 1, 3) := by decide +kernel
theorem dX8_layNow_204 : decode cX8_layNow 204 = .ok (.goto (-35), 3) := by decide +kernel
theorem dX8_layNow_207 : decode cX8_layNow 207 = .ok (.aload_n 0, 1) := by decide +kernel
theorem dX8_layNow_208 : decode cX8_layNow 208 = .ok (.getfield 17, 3) := by decide +kernel
theorem dX8_layNow_211 : decode cX8_layNow 211 = .ok (.bipush 7, 2) := by decide +kernel
theorem dX8_layNow_213 : decode cX8_layNow 213 = .ok (.iconst 0, 1) := by decide +kernel
theorem dX8_layNow_214 : decode cX8_layNow 214 = .ok (.iastore, 1) := by decide +kernel
theorem dX8_layNow_215 : decode cX8_layNow 215 = .ok (.aload_n 0, 1) := by decide +kernel
theorem dX8_layNow_216 : decode cX8_layNow 216 = .ok (.invokevirtual 215, 3) := by decide +kernel
theorem dX8_layNow_219 : decode cX8_layNow 219 = .ok (.ifCond .ne 10, 3) := by decide +kernel
theorem dX8_layNow_222 : decode cX8_layNow 222 = .ok (.aload_n 0, 1) := by decide +kernel
theorem dX8_layNow_223 : decode cX8_layNow 223 = .ok (.invokevirtual 285, 3) := by decide +kernel
theorem dX8_layNow_226 : decode cX8_layNow 226 = .ok (.goto 7, 3) := by decide +kernel
theorem dX8_layNow_229 : decode cX8_layNow 229 = .ok (.aload_n 0, 1) := by decide +kernel
theorem dX8_layNow_230 : decode cX8_layNow 230 = .ok (.invokevirtual 288, 3) := by decide +kernel
theorem dX8_layNow_233 : decode cX8_layNow 233 = .ok (.iload 4, 2) := by decide +kernel
theorem dX8_layNow_235 : decode cX8_layNow 235 = .ok (.ireturn, 1) := by decide +kernel
set_option maxRecDepth 20000 in
theorem ggX8_passNow_X8_endGame : GoodIn wsX8_passNow wsX8_endGame := goodIn_r _ [6, 1, 7, 8, 9, 5, 10, 11, 12, 13, 14, 15, 16, 17, 18, 19, 20, 25, 26, 27, 28, 29, 30, 31, 32, 33, 34, 35, 36, 37, 38, 39, 40, 41, 42, 43, 44, 45] (by decide +kernel) (by decide +kernel)
set_option maxRecDepth 20000 in
theorem gX8_passNow_X8_endGame : GoodIn wsX8_passNow (wsV RX8 285 RX8 yX8_endGame wsX8_endGame) := goodIn_app (goodIn_of _ (by decide +kernel)) ggX8_passNow_X8_endGame
set_option maxRecDepth 20000 in
theorem ggX8_passNow_X8_nextTurn : GoodIn wsX8_passNow wsX8_nextTurn := goodIn_r _ [24, 1, 25, 26, 27, 28, 29, 30, 31, 32, 33, 34, 35, 36, 37, 38, 39, 40, 41, 42, 43, 44, 45] (by decide +kernel) (by decide +kernel)
set_option maxRecDepth 20000 in
theorem gX8_passNow_X8_nextTurn : GoodIn wsX8_passNow (wsV RX8 288 RX8 yX8_nextTurn wsX8_nextTurn) := goodIn_app (goodIn_of _ (by decide +kernel)) ggX8_passNow_X8_nextTurn
theorem dX8_passNow_0 : decode cX8_passNow 0 = .ok (.aload_n 0, 1) := by decide +kernel
theorem dX8_passNow_1 : decode cX8_passNow 1 = .ok (.getfield 17, 3) := by decide +kernel
theorem dX8_passNow_4 : decode cX8_passNow 4 = .ok (.bipush 7, 2) := by decide +kernel
theorem dX8_passNow_6 : decode cX8_passNow 6 = .ok (.dup2, 1) := by decide +kernel
theorem dX8_passNow_7 : decode cX8_passNow 7 = .ok (.iaload, 1) := by decide +kernel
theorem dX8_passNow_8 : decode cX8_passNow 8 = .ok (.iconst 1, 1) := by decide +kernel
theorem dX8_passNow_9 : decode cX8_passNow 9 = .ok (.iadd, 1) := by decide +kernel
theorem dX8_passNow_10 : decode cX8_passNow 10 = .ok (.iastore, 1) := by decide +kernel
theorem dX8_passNow_11 : decode cX8_passNow 11 = .ok (.aload_n 0, 1) := by decide +kernel
theorem dX8_passNow_12 : decode cX8_passNow 12 = .ok (.getfield 17, 3) := by decide +kernel
theorem dX8_passNow_15 : decode cX8_passNow 15 = .ok (.bipush 7, 2) := by decide +kernel
theorem dX8_passNow_17 : decode cX8_passNow 17 = .ok (.iaload, 1) := by decide +kernel
theorem dX8_passNow_18 : decode cX8_passNow 18 = .ok (.aload_n 0, 1) := by decide +kernel
theorem dX8_passNow_19 : decode cX8_passNow 19 = .ok (.getfield 17, 3) := by decide +kernel
theorem dX8_passNow_22 : decode cX8_passNow 22 = .ok (.iconst 1, 1) := by decide +kernel
theorem dX8_passNow_23 : decode cX8_passNow 23 = .ok (.iaload, 1) := by decide +kernel
theorem dX8_passNow_24 : decode cX8_passNow 24 = .ok (.if_icmp .ne 10, 3) := by decide +kernel
theorem dX8_passNow_27 : decode cX8_passNow 27 = .ok (.aload_n 0, 1) := by decide +kernel
theorem dX8_passNow_28 : decode cX8_passNow 28 = .ok (.invokevirtual 285, 3) := by decide +kernel
theorem dX8_passNow_31 : decode cX8_passNow 31 = .ok (.goto 7, 3) := by decide +kernel
theorem dX8_passNow_34 : decode cX8_passNow 34 = .ok (.aload_n 0, 1) := by decide +kernel
theorem dX8_passNow_35 : decode cX8_passNow 35 = .ok (.invokevirtual 288, 3) := by decide +kernel
theorem dX8_passNow_38 : decode cX8_passNow 38 = .ok (.return_, 1) := by decide +kernel
set_option maxRecDepth 20000 in
theorem ggX8_goOn_X8_bestPlay : GoodIn wsX8_goOn wsX8_bestPlay := goodIn_r _ [6, 1, 7, 8, 9, 5, 10, 11, 12, 13, 14, 15, 16, 17, 18, 19, 20, 21, 22, 23, 24, 25, 26, 27, 28, 29, 30, 31, 32, 33, 34, 35, 36, 37, 38, 39, 40, 41, 42, 43, 44, 45, 46, 47, 48, 49, 50, 51, 52, 53, 54, 55, 56, 57, 58, 59, 60, 61, 62, 63, 64, 65, 66, 67, 68, 69, 70, 71, 72, 73, 74, 75, 76, 77, 78, 79, 80, 81, 82, 83, 84, 85, 86, 87, 88, 89, 90, 91, 92, 93, 94, 95, 116, 117, 118, 119, 120, 121, 122, 123, 124, 125, 126, 127, 128, 129, 130, 131, 132, 133, 134, 135, 136] (by decide +kernel) (by decide +kernel)
set_option maxRecDepth 20000 in
theorem gX8_goOn_X8_bestPlay : GoodIn wsX8_goOn (wsV RX8 291 RX8 yX8_bestPlay wsX8_bestPlay) := goodIn_app (goodIn_of _ (by decide +kernel)) ggX8_goOn_X8_bestPlay
set_option maxRecDepth 20000 in
theorem ggX8_goOn_X8_passNow : GoodIn wsX8_goOn wsX8_passNow := goodIn_r _ [99, 1, 100, 101, 102, 5, 103, 37, 38, 39, 40, 41, 42, 43, 33, 34, 35, 36, 15, 16, 17, 104, 105, 106, 107, 116, 117, 118, 119, 120, 121, 122, 123, 124, 125, 126, 127, 128, 129, 130, 131, 132, 133, 134, 135, 136] (by decide +kernel) (by decide +kernel)
set_option maxRecDepth 20000 in
theorem gX8_goOn_X8_passNow : GoodIn wsX8_goOn (wsV RX8 294 RX8 yX8_passNow wsX8_passNow) := goodIn_app (goodIn_of _ (by decide +kernel)) ggX8_goOn_X8_passNow
set_option maxRecDepth 20000 in
theorem ggX8_goOn_X8_layNow : GoodIn wsX8_goOn wsX8_layNow := goodIn_r _ [111, 1, 76, 77, 78, 5, 79, 26, 27, 28, 29, 30, 31, 32, 15, 16, 17, 80, 81, 82, 83, 37, 38, 39, 40, 41, 42, 43, 56, 57, 58, 59, 48, 49, 50, 51, 60, 61, 62, 63, 64, 65, 66, 67, 68, 69, 70, 33, 34, 35, 36, 11, 12, 13, 14, 112, 113, 114, 115, 100, 101, 102, 103, 104, 105, 106, 107, 116, 117, 118, 119, 120, 121, 122, 123, 124, 125, 126, 127, 128, 129, 130, 131, 132, 133, 134, 135, 136] (by decide +kernel) (by decide +kernel)
set_option maxRecDepth 20000 in
theorem gX8_goOn_X8_layNow : GoodIn wsX8_goOn (wsV RX8 297 RX8 yX8_layNow wsX8_layNow) := goodIn_app (goodIn_of _ (by decide +kernel)) ggX8_goOn_X8_layNow
theorem dX8_goOn_0 : decode cX8_goOn 0 = .ok (.iconst 0, 1) := by decide +kernel
theorem dX8_goOn_1 : decode cX8_goOn 1 = .ok (.istore_n 2, 1) := by decide +kernel
theorem dX8_goOn_2 : decode cX8_goOn 2 = .ok (.iload_n 2, 1) := by decide +kernel
theorem dX8_goOn_3 : decode cX8_goOn 3 = .ok (.iload_n 1, 1) := by decide +kernel
theorem dX8_goOn_4 : decode cX8_goOn 4 = .ok (.if_icmp .ge 50, 3) := by decide +kernel
theorem dX8_goOn_7 : decode cX8_goOn 7 = .ok (.aload_n 0, 1) := by decide +kernel
theorem dX8_goOn_8 : decode cX8_goOn 8 = .ok (.getfield 17, 3) := by decide +kernel
theorem dX8_goOn_11 : decode cX8_goOn 11 = .ok (.bipush 6, 2) := by decide +kernel
theorem dX8_goOn_13 : decode cX8_goOn 13 = .ok (.iaload, 1) := by decide +kernel
theorem dX8_goOn_14 : decode cX8_goOn 14 = .ok (.ifCond .ne 40, 3) := by decide +kernel
theorem dX8_goOn_17 : decode cX8_goOn 17 = .ok (.aload_n 0, 1) := by decide +kernel
theorem dX8_goOn_18 : decode cX8_goOn 18 = .ok (.invokevirtual 291, 3) := by decide +kernel
theorem dX8_goOn_21 : decode cX8_goOn 21 = .ok (.istore_n 3, 1) := by decide +kernel
theorem dX8_goOn_22 : decode cX8_goOn 22 = .ok (.iload_n 3, 1) := by decide +kernel
theorem dX8_goOn_23 : decode cX8_goOn 23 = .ok (.iconst (-1), 1) := by decide +kernel
theorem dX8_goOn_24 : decode cX8_goOn 24 = .ok (.if_icmp .ne 10, 3) := by decide +kernel
theorem dX8_goOn_27 : decode cX8_goOn 27 = .ok (.aload_n 0, 1) := by decide +kernel
theorem dX8_goOn_28 : decode cX8_goOn 28 = .ok (.invokevirtual 294, 3) := by decide +kernel
theorem dX8_goOn_31 : decode cX8_goOn 31 = .ok (.goto 17, 3) := by decide +kernel
theorem dX8_goOn_34 : decode cX8_goOn 34 = .ok (.aload_n 0, 1) := by decide +kernel
theorem dX8_goOn_35 : decode cX8_goOn 35 = .ok (.iload_n 3, 1) := by decide +kernel
theorem dX8_goOn_36 : decode cX8_goOn 36 = .ok (.bipush 10, 2) := by decide +kernel
theorem dX8_goOn_38 : decode cX8_goOn 38 = .ok (.idiv, 1) := by decide +kernel
theorem dX8_goOn_39 : decode cX8_goOn 39 = .ok (.iload_n 3, 1) := by decide +kernel
theorem dX8_goOn_40 : decode cX8_goOn 40 = .ok (.bipush 10, 2) := by decide +kernel
theorem dX8_goOn_42 : decode cX8_goOn 42 = .ok (.irem, 1) := by decide +kernel
theorem dX8_goOn_43 : decode cX8_goOn 43 = .ok (.invokevirtual 297, 3) := by decide +kernel
theorem dX8_goOn_46 : decode cX8_goOn 46 = .ok (.istore 4, 2) := by decide +kernel
theorem dX8_goOn_48 : decode cX8_goOn 48 = .ok (.iinc 2 1, 3) := by decide +kernel
theorem dX8_goOn_51 : decode cX8_goOn 51 = .ok (.goto (-49), 3) := by decide +kernel
theorem dX8_goOn_54 : decode cX8_goOn 54 = .ok (.iload_n 2, 1) := by decide +kernel
theorem dX8_goOn_55 : decode cX8_goOn 55 = .ok (.ireturn, 1) := by decide +kernel
set_option maxRecDepth 20000 in
theorem ggX8_lettersOf_X8_lengthOf : GoodIn wsX8_lettersOf wsX8_lengthOf := goodIn_r _ [5, 6, 7, 8, 4, 9, 10, 11, 12, 13, 14, 15, 16, 17, 18, 19, 20, 21, 22, 23, 24, 25, 26, 27, 28, 29, 30, 31, 32, 33] (by decide +kernel) (by decide +kernel)
set_option maxRecDepth 20000 in
theorem gX8_lettersOf_X8_lengthOf : GoodIn wsX8_lettersOf (wsV RX8 225 RX8 yX8_lengthOf wsX8_lengthOf) := goodIn_app (goodIn_of _ (by decide +kernel)) ggX8_lettersOf_X8_lengthOf
theorem dX8_lettersOf_0 : decode cX8_lettersOf 0 = .ok (.iconst 0, 1) := by decide +kernel
theorem dX8_lettersOf_1 : decode cX8_lettersOf 1 = .ok (.istore_n 3, 1) := by decide +kernel
theorem dX8_lettersOf_2 : decode cX8_lettersOf 2 = .ok (.iconst 0, 1) := by decide +kernel
theorem dX8_lettersOf_3 : decode cX8_lettersOf 3 = .ok (.istore 4, 2) := by decide +kernel
theorem dX8_lettersOf_5 : decode cX8_lettersOf 5 = .ok (.iload 4, 2) := by decide +kernel
theorem dX8_lettersOf_7 : decode cX8_lettersOf 7 = .ok (.bipush 8, 2) := by decide +kernel
theorem dX8_lettersOf_9 : decode cX8_lettersOf 9 = .ok (.if_icmp .ge 29, 3) := by decide +kernel
theorem dX8_lettersOf_12 : decode cX8_lettersOf 12 = .ok (.iload_n 2, 1) := by decide +kernel
theorem dX8_lettersOf_13 : decode cX8_lettersOf 13 = .ok (.iload 4, 2) := by decide +kernel
theorem dX8_lettersOf_15 : decode cX8_lettersOf 15 = .ok (.ishr, 1) := by decide +kernel
theorem dX8_lettersOf_16 : decode cX8_lettersOf 16 = .ok (.iconst 1, 1) := by decide +kernel
theorem dX8_lettersOf_17 : decode cX8_lettersOf 17 = .ok (.iand, 1) := by decide +kernel
theorem dX8_lettersOf_18 : decode cX8_lettersOf 18 = .ok (.iconst 1, 1) := by decide +kernel
theorem dX8_lettersOf_19 : decode cX8_lettersOf 19 = .ok (.if_icmp .ne 13, 3) := by decide +kernel
theorem dX8_lettersOf_22 : decode cX8_lettersOf 22 = .ok (.iload_n 3, 1) := by decide +kernel
theorem dX8_lettersOf_23 : decode cX8_lettersOf 23 = .ok (.aload_n 0, 1) := by decide +kernel
theorem dX8_lettersOf_24 : decode cX8_lettersOf 24 = .ok (.iload_n 1, 1) := by decide +kernel
theorem dX8_lettersOf_25 : decode cX8_lettersOf 25 = .ok (.iload 4, 2) := by decide +kernel
theorem dX8_lettersOf_27 : decode cX8_lettersOf 27 = .ok (.invokevirtual 225, 3) := by decide +kernel
theorem dX8_lettersOf_30 : decode cX8_lettersOf 30 = .ok (.iadd, 1) := by decide +kernel
theorem dX8_lettersOf_31 : decode cX8_lettersOf 31 = .ok (.istore_n 3, 1) := by decide +kernel
theorem dX8_lettersOf_32 : decode cX8_lettersOf 32 = .ok (.iinc 4 1, 3) := by decide +kernel
theorem dX8_lettersOf_35 : decode cX8_lettersOf 35 = .ok (.goto (-30), 3) := by decide +kernel
theorem dX8_lettersOf_38 : decode cX8_lettersOf 38 = .ok (.iload_n 3, 1) := by decide +kernel
theorem dX8_lettersOf_39 : decode cX8_lettersOf 39 = .ok (.ireturn, 1) := by decide +kernel
theorem dX8_sizeOf_0 : decode cX8_sizeOf 0 = .ok (.iconst 0, 1) := by decide +kernel
theorem dX8_sizeOf_1 : decode cX8_sizeOf 1 = .ok (.istore_n 1, 1) := by decide +kernel
theorem dX8_sizeOf_2 : decode cX8_sizeOf 2 = .ok (.iconst 0, 1) := by decide +kernel
theorem dX8_sizeOf_3 : decode cX8_sizeOf 3 = .ok (.istore_n 2, 1) := by decide +kernel
theorem dX8_sizeOf_4 : decode cX8_sizeOf 4 = .ok (.iload_n 2, 1) := by decide +kernel
theorem dX8_sizeOf_5 : decode cX8_sizeOf 5 = .ok (.bipush 8, 2) := by decide +kernel
theorem dX8_sizeOf_7 : decode cX8_sizeOf 7 = .ok (.if_icmp .ge 17, 3) := by decide +kernel
theorem dX8_sizeOf_10 : decode cX8_sizeOf 10 = .ok (.iload_n 1, 1) := by decide +kernel
theorem dX8_sizeOf_11 : decode cX8_sizeOf 11 = .ok (.iload_n 0, 1) := by decide +kernel
theorem dX8_sizeOf_12 : decode cX8_sizeOf 12 = .ok (.iload_n 2, 1) := by decide +kernel
theorem dX8_sizeOf_13 : decode cX8_sizeOf 13 = .ok (.ishr, 1) := by decide +kernel
theorem dX8_sizeOf_14 : decode cX8_sizeOf 14 = .ok (.iconst 1, 1) := by decide +kernel
theorem dX8_sizeOf_15 : decode cX8_sizeOf 15 = .ok (.iand, 1) := by decide +kernel
theorem dX8_sizeOf_16 : decode cX8_sizeOf 16 = .ok (.iadd, 1) := by decide +kernel
theorem dX8_sizeOf_17 : decode cX8_sizeOf 17 = .ok (.istore_n 1, 1) := by decide +kernel
theorem dX8_sizeOf_18 : decode cX8_sizeOf 18 = .ok (.iinc 2 1, 3) := by decide +kernel
theorem dX8_sizeOf_21 : decode cX8_sizeOf 21 = .ok (.goto (-17), 3) := by decide +kernel
theorem dX8_sizeOf_24 : decode cX8_sizeOf 24 = .ok (.iload_n 1, 1) := by decide +kernel
theorem dX8_sizeOf_25 : decode cX8_sizeOf 25 = .ok (.ireturn, 1) := by decide +kernel
set_option maxRecDepth 20000 in
theorem ggX8_follows_X8_wordAt : GoodIn wsX8_follows wsX8_wordAt := goodIn_r _ [5, 6, 7, 4, 8] (by decide +kernel) (by decide +kernel)
set_option maxRecDepth 20000 in
theorem gX8_follows_X8_wordAt : GoodIn wsX8_follows (va_wsS RX8 161 yX8_wordAt wsX8_wordAt) := goodIn_app (goodIn_of _ (by decide +kernel)) ggX8_follows_X8_wordAt
set_option maxRecDepth 20000 in
theorem ggX8_follows_X8_lengthOf : GoodIn wsX8_follows wsX8_lengthOf := goodIn_r _ [12, 1, 2, 3, 4, 5, 6, 7, 8, 28, 29, 30, 31, 32, 33, 34, 35, 36, 37, 38, 39, 40, 41, 42, 43, 44, 45, 46, 47, 48] (by decide +kernel) (by decide +kernel)
set_option maxRecDepth 20000 in
theorem gX8_follows_X8_lengthOf : GoodIn wsX8_follows (wsV RX8 225 RX8 yX8_lengthOf wsX8_lengthOf) := goodIn_app (goodIn_of _ (by decide +kernel)) ggX8_follows_X8_lengthOf
set_option maxRecDepth 20000 in
theorem ggX8_follows_X8_areSame : GoodIn wsX8_follows wsX8_areSame := goodIn_r _ [16, 1, 28, 29, 30, 31, 32, 33, 34, 35, 36, 37, 38, 39, 40, 41, 42, 43, 44, 45, 46, 47, 48] (by decide +kernel) (by decide +kernel)
set_option maxRecDepth 20000 in
theorem gX8_follows_X8_areSame : GoodIn wsX8_follows (wsV RX8 235 RX8 yX8_areSame wsX8_areSame) := goodIn_app (goodIn_of _ (by decide +kernel)) ggX8_follows_X8_areSame
set_option maxRecDepth 20000 in
theorem ggX8_follows_X8_rhymeOf : GoodIn wsX8_follows wsX8_rhymeOf := goodIn_r _ [20, 1, 21, 22, 4, 23, 24, 25, 26, 27, 28, 29, 30, 31, 32, 33, 34, 35, 36, 37, 38, 39, 40, 41, 42, 43, 44, 45, 46, 47, 48] (by decide +kernel) (by decide +kernel)
set_option maxRecDepth 20000 in
theorem gX8_follows_X8_rhymeOf : GoodIn wsX8_follows (wsV RX8 231 RX8 yX8_rhymeOf wsX8_rhymeOf) := goodIn_app (goodIn_of _ (by decide +kernel)) ggX8_follows_X8_rhymeOf
theorem dX8_follows_0 : decode cX8_follows 0 = .ok (.iload_n 1, 1) := by decide +kernel
theorem dX8_follows_1 : decode cX8_follows 1 = .ok (.iload_n 2, 1) := by decide +kernel
theorem dX8_follows_2 : decode cX8_follows 2 = .ok (.invokestatic 161, 3) := by decide +kernel
theorem dX8_follows_5 : decode cX8_follows 5 = .ok (.iconst 1, 1) := by decide +kernel
theorem dX8_follows_6 : decode cX8_follows 6 = .ok (.iadd, 1) := by decide +kernel
theorem dX8_follows_7 : decode cX8_follows 7 = .ok (.istore 4, 2) := by decide +kernel
theorem dX8_follows_9 : decode cX8_follows 9 = .ok (.iload_n 1, 1) := by decide +kernel
theorem dX8_follows_10 : decode cX8_follows 10 = .ok (.iload_n 3, 1) := by decide +kernel
theorem dX8_follows_11 : decode cX8_follows 11 = .ok (.invokestatic 161, 3) := by decide +kernel
theorem dX8_follows_14 : decode cX8_follows 14 = .ok (.iconst 1, 1) := by decide +kernel
theorem dX8_follows_15 : decode cX8_follows 15 = .ok (.iadd, 1) := by decide +kernel
theorem dX8_follows_16 : decode cX8_follows 16 = .ok (.istore 5, 2) := by decide +kernel
theorem dX8_follows_18 : decode cX8_follows 18 = .ok (.aload_n 0, 1) := by decide +kernel
theorem dX8_follows_19 : decode cX8_follows 19 = .ok (.iload 4, 2) := by decide +kernel
theorem dX8_follows_21 : decode cX8_follows 21 = .ok (.aload_n 0, 1) := by decide +kernel
theorem dX8_follows_22 : decode cX8_follows 22 = .ok (.iload_n 1, 1) := by decide +kernel
theorem dX8_follows_23 : decode cX8_follows 23 = .ok (.iload_n 2, 1) := by decide +kernel
theorem dX8_follows_24 : decode cX8_follows 24 = .ok (.invokevirtual 225, 3) := by decide +kernel
theorem dX8_follows_27 : decode cX8_follows 27 = .ok (.iload 5, 2) := by decide +kernel
theorem dX8_follows_29 : decode cX8_follows 29 = .ok (.aload_n 0, 1) := by decide +kernel
theorem dX8_follows_30 : decode cX8_follows 30 = .ok (.iload_n 1, 1) := by decide +kernel
theorem dX8_follows_31 : decode cX8_follows 31 = .ok (.iload_n 3, 1) := by decide +kernel
theorem dX8_follows_32 : decode cX8_follows 32 = .ok (.invokevirtual 225, 3) := by decide +kernel
theorem dX8_follows_35 : decode cX8_follows 35 = .ok (.invokevirtual 235, 3) := by decide +kernel
theorem dX8_follows_38 : decode cX8_follows 38 = .ok (.ifCond .ne 36, 3) := by decide +kernel
theorem dX8_follows_41 : decode cX8_follows 41 = .ok (.aload_n 0, 1) := by decide +kernel
theorem dX8_follows_42 : decode cX8_follows 42 = .ok (.iload 4, 2) := by decide +kernel
theorem dX8_follows_44 : decode cX8_follows 44 = .ok (.aload_n 0, 1) := by decide +kernel
theorem dX8_follows_45 : decode cX8_follows 45 = .ok (.iload_n 1, 1) := by decide +kernel
theorem dX8_follows_46 : decode cX8_follows 46 = .ok (.iload_n 2, 1) := by decide +kernel
theorem dX8_follows_47 : decode cX8_follows 47 = .ok (.invokevirtual 225, 3) := by decide +kernel
theorem dX8_follows_50 : decode cX8_follows 50 = .ok (.iload 5, 2) := by decide +kernel
theorem dX8_follows_52 : decode cX8_follows 52 = .ok (.aload_n 0, 1) := by decide +kernel
theorem dX8_follows_53 : decode cX8_follows 53 = .ok (.iload_n 1, 1) := by decide +kernel
theorem dX8_follows_54 : decode cX8_follows 54 = .ok (.iload_n 3, 1) := by decide +kernel
theorem dX8_follows_55 : decode cX8_follows 55 = .ok (.invokevirtual 225, 3) := by decide +kernel
theorem dX8_follows_58 : decode cX8_follows 58 = .ok (.invokevirtual 231, 3) := by decide +kernel
theorem dX8_follows_61 : decode cX8_follows 61 = .ok (.aload_n 0, 1) := by decide +kernel
theorem dX8_follows_62 : decode cX8_follows 62 = .ok (.getfield 17, 3) := by decide +kernel
theorem dX8_follows_65 : decode cX8_follows 65 = .ok (.iconst 2, 1) := by decide +kernel
theorem dX8_follows_66 : decode cX8_follows 66 = .ok (.iaload, 1) := by decide +kernel
theorem dX8_follows_67 : decode cX8_follows 67 = .ok (.if_icmp .lt 7, 3) := by decide +kernel
theorem dX8_follows_70 : decode cX8_follows 70 = .ok (.iconst 1, 1) := by decide +kernel
theorem dX8_follows_71 : decode cX8_follows 71 = .ok (.goto 4, 3) := by decide +kernel
theorem dX8_follows_74 : decode cX8_follows 74 = .ok (.iconst 0, 1) := by decide +kernel
theorem dX8_follows_75 : decode cX8_follows 75 = .ok (.ireturn, 1) := by decide +kernel
set_option maxRecDepth 20000 in
theorem ggX8_layChains_X8_ofPlayer : GoodIn wsX8_layChains wsX8_ofPlayer := goodIn_r _ [8, 1, 9, 10, 7, 11, 79, 80, 81, 82, 83, 84, 85, 86, 87, 88, 89, 90, 91, 92, 93, 94, 95, 96, 97, 98, 99] (by decide +kernel) (by decide +kernel)
set_option maxRecDepth 20000 in
theorem gX8_layChains_X8_ofPlayer : GoodIn wsX8_layChains (wsV RX8 266 RX8 yX8_ofPlayer wsX8_ofPlayer) := goodIn_app (goodIn_of _ (by decide +kernel)) ggX8_layChains_X8_ofPlayer
set_option maxRecDepth 20000 in
theorem ggX8_layChains_X8_lettersOf : GoodIn wsX8_layChains wsX8_lettersOf := goodIn_r _ [15, 16, 17, 18, 7, 19, 1, 20, 21, 22, 9, 10, 11, 79, 80, 81, 82, 83, 84, 85, 86, 87, 88, 89, 90, 91, 92, 93, 94, 95, 96, 97, 98, 99] (by decide +kernel) (by decide +kernel)
set_option maxRecDepth 20000 in
theorem gX8_layChains_X8_lettersOf : GoodIn wsX8_layChains (wsV RX8 300 RX8 yX8_lettersOf wsX8_lettersOf) := goodIn_app (goodIn_of _ (by decide +kernel)) ggX8_layChains_X8_lettersOf
set_option maxRecDepth 20000 in
theorem ggX8_layChains_X8_free : GoodIn wsX8_layChains wsX8_free := goodIn_r _ [26, 27, 28, 29, 7, 30, 1, 31, 32, 33, 79, 80, 81, 82, 83, 84, 85, 86, 87, 88, 89, 90, 91, 92, 93, 94, 95, 96, 97, 98, 99] (by decide +kernel) (by decide +kernel)
set_option maxRecDepth 20000 in
theorem gX8_layChains_X8_free : GoodIn wsX8_layChains (wsV RX8 239 RX8 yX8_free wsX8_free) := goodIn_app (goodIn_of _ (by decide +kernel)) ggX8_layChains_X8_free
set_option maxRecDepth 20000 in
theorem ggX8_layChains_X8_ofRow : GoodIn wsX8_layChains wsX8_ofRow := goodIn_r _ [30, 1, 31, 32, 7, 33, 79, 80, 81, 82, 83, 84, 85, 86, 87, 88, 89, 90, 91, 92, 93, 94, 95, 96, 97, 98, 99] (by decide +kernel) (by decide +kernel)
set_option maxRecDepth 20000 in
theorem gX8_layChains_X8_ofRow : GoodIn wsX8_layChains (wsV RX8 218 RX8 yX8_ofRow wsX8_ofRow) := goodIn_app (goodIn_of _ (by decide +kernel)) ggX8_layChains_X8_ofRow
set_option maxRecDepth 20000 in
theorem ggX8_layChains_X8_sizeOf : GoodIn wsX8_layChains wsX8_sizeOf := goodIn_r _ [36] (by decide +kernel) (by decide +kernel)
set_option maxRecDepth 20000 in
theorem gX8_layChains_X8_sizeOf : GoodIn wsX8_layChains (va_wsS RX8 303 yX8_sizeOf wsX8_sizeOf) := goodIn_app (goodIn_of _ (by decide +kernel)) ggX8_layChains_X8_sizeOf
set_option maxRecDepth 20000 in
theorem ggX8_layChains_X8_hinders : GoodIn wsX8_layChains wsX8_hinders := goodIn_r _ [40, 1, 16, 17, 18, 7, 19, 20, 21, 22, 9, 10, 11, 23, 24, 25, 26, 27, 28, 29, 30, 31, 32, 33, 41, 42, 43, 44, 45, 46, 47, 48, 49, 50, 51, 52, 53, 54, 55, 56, 57, 58, 59, 60, 61, 62, 63, 64, 65, 66, 67, 79, 80, 81, 82, 83, 84, 85, 86, 87, 88, 89, 90, 91, 92, 93, 94, 95, 96, 97, 98, 99] (by decide +kernel) (by decide +kernel)
set_option maxRecDepth 20000 in
theorem gX8_layChains_X8_hinders : GoodIn wsX8_layChains (wsV RX8 249 RX8 yX8_hinders wsX8_hinders) := goodIn_app (goodIn_of _ (by decide +kernel)) ggX8_layChains_X8_hinders
set_option maxRecDepth 20000 in
theorem ggX8_layChains_X8_lengthOf : GoodIn wsX8_layChains wsX8_lengthOf := goodIn_r _ [19, 1, 20, 21, 7, 22, 9, 10, 11, 79, 80, 81, 82, 83, 84, 85, 86, 87, 88, 89, 90, 91, 92, 93, 94, 95, 96, 97, 98, 99] (by decide +kernel) (by decide +kernel)
set_option maxRecDepth 20000 in
theorem gX8_layChains_X8_lengthOf : GoodIn wsX8_layChains (wsV RX8 225 RX8 yX8_lengthOf wsX8_lengthOf) := goodIn_app (goodIn_of _ (by decide +kernel)) ggX8_layChains_X8_lengthOf
set_option maxRecDepth 20000 in
theorem ggX8_layChains_X8_rhymeThere : GoodIn wsX8_layChains wsX8_rhymeThere := goodIn_r _ [71, 27, 28, 29, 7, 30, 1, 31, 32, 33, 53, 54, 55, 56, 20, 21, 22, 9, 10, 11, 16, 17, 18, 19, 45, 46, 47, 48, 57, 58, 59, 60, 61, 62, 63, 64, 65, 66, 67, 79, 80, 81, 82, 83, 84, 85, 86, 87, 88, 89, 90, 91, 92, 93, 94, 95, 96, 97, 98, 99] (by decide +kernel) (by decide +kernel)
set_option maxRecDepth 20000 in
theorem gX8_layChains_X8_rhymeThere : GoodIn wsX8_layChains (wsV RX8 252 RX8 yX8_rhymeThere wsX8_rhymeThere) := goodIn_app (goodIn_of _ (by decide +kernel)) ggX8_layChains_X8_rhymeThere
set_option maxRecDepth 20000 in
theorem ggX8_layChains_X8_follows : GoodIn wsX8_layChains wsX8_follows := goodIn_r _ [75, 1, 20, 21, 7, 22, 9, 10, 11, 16, 17, 18, 19, 49, 50, 51, 52, 57, 58, 59, 60, 61, 62, 63, 64, 65, 66, 67, 79, 80, 81, 82, 83, 84, 85, 86, 87, 88, 89, 90, 91, 92, 93, 94, 95, 96, 97, 98, 99] (by decide +kernel) (by decide +kernel)
set_option maxRecDepth 20000 in
theorem gX8_layChains_X8_follows : GoodIn wsX8_layChains (wsV RX8 306 RX8 yX8_follows wsX8_follows) := goodIn_app (goodIn_of _ (by decide +kernel)) ggX8_layChains_X8_follows
set_option maxRecDepth 20000 in
theorem ggX8_layChains_X8_wordAt : GoodIn wsX8_layChains wsX8_wordAt := goodIn_r _ [22, 9, 10, 7, 11] (by decide +kernel) (by decide +kernel)
set_option maxRecDepth 20000 in
theorem gX8_layChains_X8_wordAt : GoodIn wsX8_layChains (va_wsS RX8 161 yX8_wordAt wsX8_wordAt) := goodIn_app (goodIn_of _ (by decide +kernel)) ggX8_layChains_X8_wordAt
set_option maxRecDepth 20000 in
theorem ggX8_layChains_X8_rhymeOf : GoodIn wsX8_layChains wsX8_rhymeOf := goodIn_r _ [60, 1, 61, 62, 7, 63, 64, 65, 66, 67, 79, 80, 81, 82, 83, 84, 85, 86, 87, 88, 89, 90, 91, 92, 93, 94, 95, 96, 97, 98, 99] (by decide +kernel) (by decide +kernel)
set_option maxRecDepth 20000 in
theorem gX8_layChains_X8_rhymeOf : GoodIn wsX8_layChains (wsV RX8 231 RX8 yX8_rhymeOf wsX8_rhymeOf) := goodIn_app (goodIn_of _ (by decide +kernel)) ggX8_layChains_X8_rhymeOf
set_option maxRecDepth 20000 in
theorem ggX8_layChains_X8_max : GoodIn wsX8_layChains wsX8_max := goodIn_r _ [78] (by decide +kernel) (by decide +kernel)
set_option maxRecDepth 20000 in
theorem gX8_layChains_X8_max : GoodIn wsX8_layChains (va_wsS RX8 309 yX8_max wsX8_max) := goodIn_app (goodIn_of _ (by decide +kernel)) ggX8_layChains_X8_max
theorem dX8_layChains_0 : decode cX8_layChains 0 = .ok (.aload_n 0, 1) := by decide +kernel
theorem dX8_layChains_1 : decode cX8_layChains 1 = .ok (.iload_n 1, 1) := by decide +kernel
theorem dX8_layChains_2 : decode cX8_layChains 2 = .ok (.iconst 1, 1) := by decide +kernel
theorem dX8_layChains_3 : decode cX8_layChains 3 = .ok (.invokevirtual 266, 3) := by decide +kernel
theorem dX8_layChains_6 : decode cX8_layChains 6 = .ok (.istore_n 3, 1) := by decide +kernel
theorem dX8_layChains_7 : decode cX8_layChains 7 = .ok (.iconst 1, 1) := by decide +kernel
theorem dX8_layChains_8 : decode cX8_layChains 8 = .ok (.istore 4, 2) := by decide +kernel
theorem dX8_layChains_10 : decode cX8_layChains 10 = .ok (.iload 4, 2) := by decide +kernel
theorem dX8_layChains_12 : decode cX8_layChains 12 = .ok (.iconst 1, 1) := by decide +kernel
theorem dX8_layChains_13 : decode cX8_layChains 13 = .ok (.iload_n 3, 1) := by decide +kernel
theorem dX8_layChains_14 : decode cX8_layChains 14 = .ok (.ishl, 1) := by decide +kernel
theorem dX8_layChains_15 : decode cX8_layChains 15 = .ok (.if_icmp .ge 347, 3) := by decide +kernel
theorem dX8_layChains_18 : decode cX8_layChains 18 = .ok (.aload_n 0, 1) := by decide +kernel
theorem dX8_layChains_19 : decode cX8_layChains 19 = .ok (.iload_n 1, 1) := by decide +kernel
theorem dX8_layChains_20 : decode cX8_layChains 20 = .ok (.iload 4, 2) := by decide +kernel
theorem dX8_layChains_22 : decode cX8_layChains 22 = .ok (.invokevirtual 300, 3) := by decide +kernel
theorem dX8_layChains_25 : decode cX8_layChains 25 = .ok (.istore 5, 2) := by decide +kernel
theorem dX8_layChains_27 : decode cX8_layChains 27 = .ok (.iload 5, 2) := by decide +kernel
theorem dX8_layChains_29 : decode cX8_layChains 29 = .ok (.aload_n 0, 1) := by decide +kernel
theorem dX8_layChains_30 : decode cX8_layChains 30 = .ok (.iload_n 2, 1) := by decide +kernel
theorem dX8_layChains_31 : decode cX8_layChains 31 = .ok (.invokevirtual 239, 3) := by decide +kernel
theorem dX8_layChains_34 : decode cX8_layChains 34 = .ok (.if_icmp .ne 25, 3) := by decide +kernel
theorem dX8_layChains_37 : decode cX8_layChains 37 = .ok (.aload_n 0, 1) := by decide +kernel
theorem dX8_layChains_38 : decode cX8_layChains 38 = .ok (.getfield 17, 3) := by decide +kernel
theorem dX8_layChains_41 : decode cX8_layChains 41 = .ok (.iconst 4, 1) := by decide +kernel
theorem dX8_layChains_42 : decode cX8_layChains 42 = .ok (.iaload, 1) := by decide +kernel
theorem dX8_layChains_43 : decode cX8_layChains 43 = .ok (.aload_n 0, 1) := by decide +kernel
theorem dX8_layChains_44 : decode cX8_layChains 44 = .ok (.iload_n 2, 1) := by decide +kernel
theorem dX8_layChains_45 : decode cX8_layChains 45 = .ok (.iconst 2, 1) := by decide +kernel
theorem dX8_layChains_46 : decode cX8_layChains 46 = .ok (.invokevirtual 218, 3) := by decide +kernel
theorem dX8_layChains_49 : decode cX8_layChains 49 = .ok (.iload 4, 2) := by decide +kernel
theorem dX8_layChains_51 : decode cX8_layChains 51 = .ok (.invokestatic 303, 3) := by decide +kernel
theorem dX8_layChains_54 : decode cX8_layChains 54 = .ok (.iadd, 1) := by decide +kernel
theorem dX8_layChains_55 : decode cX8_layChains 55 = .ok (.imul, 1) := by decide +kernel
theorem dX8_layChains_56 : decode cX8_layChains 56 = .ok (.goto 4, 3) := by decide +kernel
theorem dX8_layChains_59 : decode cX8_layChains 59 = .ok (.iconst 0, 1) := by decide +kernel
theorem dX8_layChains_60 : decode cX8_layChains 60 = .ok (.istore 6, 2) := by decide +kernel
theorem dX8_layChains_62 : decode cX8_layChains 62 = .ok (.iconst 0, 1) := by decide +kernel
theorem dX8_layChains_63 : decode cX8_layChains 63 = .ok (.istore 7, 2) := by decide +kernel
theorem dX8_layChains_65 : decode cX8_layChains 65 = .ok (.iload 7, 2) := by decide +kernel
theorem dX8_layChains_67 : decode cX8_layChains 67 = .ok (.iload_n 3, 1) := by decide +kernel
theorem dX8_layChains_68 : decode cX8_layChains 68 = .ok (.if_icmp .ge 288, 3) := by decide +kernel
theorem dX8_layChains_71 : decode cX8_layChains 71 = .ok (.bipush 8, 2) := by decide +kernel
theorem dX8_layChains_73 : decode cX8_layChains 73 = .ok (.iload 4, 2) := by decide +kernel
theorem dX8_layChains_75 : decode cX8_layChains 75 = .ok (.imul, 1) := by decide +kernel
theorem dX8_layChains_76 : decode cX8_layChains 76 = .ok (.iload 7, 2) := by decide +kernel
theorem dX8_layChains_78 : decode cX8_layChains 78 = .ok (.iadd, 1) := by decide +kernel
theorem dX8_layChains_79 : decode cX8_layChains 79 = .ok (.istore 8, 2) := by decide +kernel
theorem dX8_layChains_81 : decode cX8_layChains 81 = .ok (.iload 4, 2) := by decide +kernel
theorem dX8_layChains_83 : decode cX8_layChains 83 = .ok (.iconst 1, 1) := by decide +kernel
theorem dX8_layChains_84 : decode cX8_layChains 84 = .ok (.iload 7, 2) := by decide +kernel
theorem dX8_layChains_86 : decode cX8_layChains 86 = .ok (.ishl, 1) := by decide +kernel
theorem dX8_layChains_87 : decode cX8_layChains 87 = .ok (.iconst (-1), 1) := by decide +kernel
theorem dX8_layChains_88 : decode cX8_layChains 88 = .ok (.ixor, 1) := by decide +kernel
theorem dX8_layChains_89 : decode cX8_layChains 89 = .ok (.iand, 1) := by decide +kernel
theorem dX8_layChains_90 : decode cX8_layChains 90 = .ok (.istore 9, 2) := by decide +kernel
theorem dX8_layChains_92 : decode cX8_layChains 92 = .ok (.aload_n 0, 1) := by decide +kernel
theorem dX8_layChains_93 : decode cX8_layChains 93 = .ok (.getfield 35, 3) := by decide +kernel
theorem dX8_layChains_96 : decode cX8_layChains 96 = .ok (.iload 8, 2) := by decide +kernel
theorem dX8_layChains_98 : decode cX8_layChains 98 = .ok (.iconst 0, 1) := by decide +kernel
theorem dX8_layChains_99 : decode cX8_layChains 99 = .ok (.iastore, 1) := by decide +kernel
theorem dX8_layChains_100 : decode cX8_layChains 100 = .ok (.aload_n 0, 1) := by decide +kernel
theorem dX8_layChains_101 : decode cX8_layChains 101 = .ok (.getfield 38, 3) := by decide +kernel
theorem dX8_layChains_104 : decode cX8_layChains 104 = .ok (.iload 8, 2) := by decide +kernel
theorem dX8_layChains_106 : decode cX8_layChains 106 = .ok (.iconst 0, 1) := by decide +kernel
theorem dX8_layChains_107 : decode cX8_layChains 107 = .ok (.iastore, 1) := by decide +kernel
theorem dX8_layChains_108 : decode cX8_layChains 108 = .ok (.iload 9, 2) := by decide +kernel
theorem dX8_layChains_110 : decode cX8_layChains 110 = .ok (.iload 4, 2) := by decide +kernel
theorem dX8_layChains_112 : decode cX8_layChains 112 = .ok (.if_icmp .eq 238, 3) := by decide +kernel
theorem dX8_layChains_115 : decode cX8_layChains 115 = .ok (.iload 5, 2) := by decide +kernel
theorem dX8_layChains_117 : decode cX8_layChains 117 = .ok (.aload_n 0, 1) := by decide +kernel
theorem dX8_layChains_118 : decode cX8_layChains 118 = .ok (.iload_n 2, 1) := by decide +kernel
theorem dX8_layChains_119 : decode cX8_layChains 119 = .ok (.invokevirtual 239, 3) := by decide +kernel
theorem dX8_layChains_122 : decode cX8_layChains 122 = .ok (.if_icmp .le 6, 3) := by decide +kernel
theorem dX8_layChains_125 : decode cX8_layChains 125 = .ok (.goto 225, 3) := by decide +kernel
theorem dX8_layChains_128 : decode cX8_layChains 128 = .ok (.iload 9, 2) := by decide +kernel
theorem dX8_layChains_130 : decode cX8_layChains 130 = .ok (.ifCond .ne 62, 3) := by decide +kernel
theorem dX8_layChains_133 : decode cX8_layChains 133 = .ok (.aload_n 0, 1) := by decide +kernel
theorem dX8_layChains_134 : decode cX8_layChains 134 = .ok (.getfield 35, 3) := by decide +kernel
theorem dX8_layChains_137 : decode cX8_layChains 137 = .ok (.iload 8, 2) := by decide +kernel
theorem dX8_layChains_139 : decode cX8_layChains 139 = .ok (.aload_n 0, 1) := by decide +kernel
theorem dX8_layChains_140 : decode cX8_layChains 140 = .ok (.iload_n 1, 1) := by decide +kernel
theorem dX8_layChains_141 : decode cX8_layChains 141 = .ok (.iload 7, 2) := by decide +kernel
theorem dX8_layChains_143 : decode cX8_layChains 143 = .ok (.iload_n 2, 1) := by decide +kernel
theorem dX8_layChains_144 : decode cX8_layChains 144 = .ok (.invokevirtual 249, 3) := by decide +kernel
theorem dX8_layChains_147 : decode cX8_layChains 147 = .ok (.ifCond .ne 7, 3) := by decide +kernel
theorem dX8_layChains_150 : decode cX8_layChains 150 = .ok (.iconst 1, 1) := by decide +kernel
theorem dX8_layChains_151 : decode cX8_layChains 151 = .ok (.goto 4, 3) := by decide +kernel
theorem dX8_layChains_154 : decode cX8_layChains 154 = .ok (.iconst 0, 1) := by decide +kernel
theorem dX8_layChains_155 : decode cX8_layChains 155 = .ok (.iastore, 1) := by decide +kernel
theorem dX8_layChains_156 : decode cX8_layChains 156 = .ok (.aload_n 0, 1) := by decide +kernel
theorem dX8_layChains_157 : decode cX8_layChains 157 = .ok (.getfield 38, 3) := by decide +kernel
theorem dX8_layChains_160 : decode cX8_layChains 160 = .ok (.iload 8, 2) := by decide +kernel
theorem dX8_layChains_162 : decode cX8_layChains 162 = .ok (.aload_n 0, 1) := by decide +kernel
theorem dX8_layChains_163 : decode cX8_layChains 163 = .ok (.iload_n 1, 1) := by decide +kernel
theorem dX8_layChains_164 : decode cX8_layChains 164 = .ok (.iload 7, 2) := by decide +kernel
theorem dX8_layChains_166 : decode cX8_layChains 166 = .ok (.invokevirtual 225, 3) := by decide +kernel
theorem dX8_layChains_169 : decode cX8_layChains 169 = .ok (.aload_n 0, 1) := by decide +kernel
theorem dX8_layChains_170 : decode cX8_layChains 170 = .ok (.getfield 17, 3) := by decide +kernel
theorem dX8_layChains_173 : decode cX8_layChains 173 = .ok (.iconst 3, 1) := by decide +kernel
theorem dX8_layChains_174 : decode cX8_layChains 174 = .ok (.iaload, 1) := by decide +kernel
theorem dX8_layChains_175 : decode cX8_layChains 175 = .ok (.aload_n 0, 1) := by decide +kernel
theorem dX8_layChains_176 : decode cX8_layChains 176 = .ok (.iload_n 1, 1) := by decide +kernel
theorem dX8_layChains_177 : decode cX8_layChains 177 = .ok (.iload 7, 2) := by decide +kernel
theorem dX8_layChains_179 : decode cX8_layChains 179 = .ok (.iload_n 2, 1) := by decide +kernel
theorem dX8_layChains_180 : decode cX8_layChains 180 = .ok (.invokevirtual 252, 3) := by decide +kernel
theorem dX8_layChains_183 : decode cX8_layChains 183 = .ok (.imul, 1) := by decide +kernel
theorem dX8_layChains_184 : decode cX8_layChains 184 = .ok (.iadd, 1) := by decide +kernel
theorem dX8_layChains_185 : decode cX8_layChains 185 = .ok (.iload 6, 2) := by decide +kernel
theorem dX8_layChains_187 : decode cX8_layChains 187 = .ok (.iadd, 1) := by decide +kernel
theorem dX8_layChains_188 : decode cX8_layChains 188 = .ok (.iastore, 1) := by decide +kernel
theorem dX8_layChains_189 : decode cX8_layChains 189 = .ok (.goto 161, 3) := by decide +kernel
theorem dX8_layChains_192 : decode cX8_layChains 192 = .ok (.iconst 0, 1) := by decide +kernel
theorem dX8_layChains_193 : decode cX8_layChains 193 = .ok (.istore 10, 2) := by decide +kernel
theorem dX8_layChains_195 : decode cX8_layChains 195 = .ok (.iload 10, 2) := by decide +kernel
theorem dX8_layChains_197 : decode cX8_layChains 197 = .ok (.iload_n 3, 1) := by decide +kernel
theorem dX8_layChains_198 : decode cX8_layChains 198 = .ok (.if_icmp .ge 152, 3) := by decide +kernel
theorem dX8_layChains_201 : decode cX8_layChains 201 = .ok (.bipush 8, 2) := by decide +kernel
theorem dX8_layChains_203 : decode cX8_layChains 203 = .ok (.iload 9, 2) := by decide +kernel
theorem dX8_layChains_205 : decode cX8_layChains 205 = .ok (.imul, 1) := by decide +kernel
theorem dX8_layChains_206 : decode cX8_layChains 206 = .ok (.iload 10, 2) := by decide +kernel
theorem dX8_layChains_208 : decode cX8_layChains 208 = .ok (.iadd, 1) := by decide +kernel
theorem dX8_layChains_209 : decode cX8_layChains 209 = .ok (.istore 11, 2) := by decide +kernel
theorem dX8_layChains_211 : decode cX8_layChains 211 = .ok (.iload 9, 2) := by decide +kernel
theorem dX8_layChains_213 : decode cX8_layChains 213 = .ok (.iload 10, 2) := by decide +kernel
theorem dX8_layChains_215 : decode cX8_layChains 215 = .ok (.ishr, 1) := by decide +kernel
theorem dX8_layChains_216 : decode cX8_layChains 216 = .ok (.iconst 1, 1) := by decide +kernel
theorem dX8_layChains_217 : decode cX8_layChains 217 = .ok (.iand, 1) := by decide +kernel
theorem dX8_layChains_218 : decode cX8_layChains 218 = .ok (.ifCond .eq 126, 3) := by decide +kernel
theorem dX8_layChains_221 : decode cX8_layChains 221 = .ok (.aload_n 0, 1) := by decide +kernel
theorem dX8_layChains_222 : decode cX8_layChains 222 = .ok (.getfield 35, 3) := by decide +kernel
theorem dX8_layChains_225 : decode cX8_layChains 225 = .ok (.iload 11, 2) := by decide +kernel
theorem dX8_layChains_227 : decode cX8_layChains 227 = .ok (.iaload, 1) := by decide +kernel
theorem dX8_layChains_228 : decode cX8_layChains 228 = .ok (.ifCond .eq 116, 3) := by decide +kernel
theorem dX8_layChains_231 : decode cX8_layChains 231 = .ok (.aload_n 0, 1) := by decide +kernel
theorem dX8_layChains_232 : decode cX8_layChains 232 = .ok (.iload_n 1, 1) := by decide +kernel
theorem dX8_layChains_233 : decode cX8_layChains 233 = .ok (.iload 10, 2) := by decide +kernel
theorem dX8_layChains_235 : decode cX8_layChains 235 = .ok (.iload 7, 2) := by decide +kernel
theorem dX8_layChains_237 : decode cX8_layChains 237 = .ok (.invokevirtual 306, 3) := by decide +kernel
theorem dX8_layChains_240 : decode cX8_layChains 240 = .ok (.ifCond .ne 6, 3) := by decide +kernel
theorem dX8_layChains_243 : decode cX8_layChains 243 = .ok (.goto 101, 3) := by decide +kernel
theorem dX8_layChains_246 : decode cX8_layChains 246 = .ok (.aload_n 0, 1) := by decide +kernel
theorem dX8_layChains_247 : decode cX8_layChains 247 = .ok (.getfield 35, 3) := by decide +kernel
theorem dX8_layChains_250 : decode cX8_layChains 250 = .ok (.iload 8, 2) := by decide +kernel
theorem dX8_layChains_252 : decode cX8_layChains 252 = .ok (.dup2, 1) := by decide +kernel
theorem dX8_layChains_253 : decode cX8_layChains 253 = .ok (.iaload, 1) := by decide +kernel
theorem dX8_layChains_254 : decode cX8_layChains 254 = .ok (.aload_n 0, 1) := by decide +kernel
theorem dX8_layChains_255 : decode cX8_layChains 255 = .ok (.getfield 35, 3) := by decide +kernel
theorem dX8_layChains_258 : decode cX8_layChains 258 = .ok (.iload 11, 2) := by decide +kernel
theorem dX8_layChains_260 : decode cX8_layChains 260 = .ok (.iaload, 1) := by decide +kernel
theorem dX8_layChains_261 : decode cX8_layChains 261 = .ok (.iadd, 1) := by decide +kernel
theorem dX8_layChains_262 : decode cX8_layChains 262 = .ok (.iastore, 1) := by decide +kernel
theorem dX8_layChains_263 : decode cX8_layChains 263 = .ok (.aload_n 0, 1) := by decide +kernel
theorem dX8_layChains_264 : decode cX8_layChains 264 = .ok (.iload_n 1, 1) := by decide +kernel
theorem dX8_layChains_265 : decode cX8_layChains 265 = .ok (.iload 10, 2) := by decide +kernel
theorem dX8_layChains_267 : decode cX8_layChains 267 = .ok (.invokestatic 161, 3) := by decide +kernel
theorem dX8_layChains_270 : decode cX8_layChains 270 = .ok (.iconst 1, 1) := by decide +kernel
theorem dX8_layChains_271 : decode cX8_layChains 271 = .ok (.iadd, 1) := by decide +kernel
theorem dX8_layChains_272 : decode cX8_layChains 272 = .ok (.aload_n 0, 1) := by decide +kernel
theorem dX8_layChains_273 : decode cX8_layChains 273 = .ok (.iload_n 1, 1) := by decide +kernel
theorem dX8_layChains_274 : decode cX8_layChains 274 = .ok (.iload 10, 2) := by decide +kernel
theorem dX8_layChains_276 : decode cX8_layChains 276 = .ok (.invokevirtual 225, 3) := by decide +kernel
theorem dX8_layChains_279 : decode cX8_layChains 279 = .ok (.iload_n 1, 1) := by decide +kernel
theorem dX8_layChains_280 : decode cX8_layChains 280 = .ok (.iload 7, 2) := by decide +kernel
theorem dX8_layChains_282 : decode cX8_layChains 282 = .ok (.invokestatic 161, 3) := by decide +kernel
theorem dX8_layChains_285 : decode cX8_layChains 285 = .ok (.iconst 1, 1) := by decide +kernel
theorem dX8_layChains_286 : decode cX8_layChains 286 = .ok (.iadd, 1) := by decide +kernel
theorem dX8_layChains_287 : decode cX8_layChains 287 = .ok (.aload_n 0, 1) := by decide +kernel
theorem dX8_layChains_288 : decode cX8_layChains 288 = .ok (.iload_n 1, 1) := by decide +kernel
theorem dX8_layChains_289 : decode cX8_layChains 289 = .ok (.iload 7, 2) := by decide +kernel
theorem dX8_layChains_291 : decode cX8_layChains 291 = .ok (.invokevirtual 225, 3) := by decide +kernel
theorem dX8_layChains_294 : decode cX8_layChains 294 = .ok (.invokevirtual 231, 3) := by decide +kernel
theorem dX8_layChains_297 : decode cX8_layChains 297 = .ok (.istore 12, 2) := by decide +kernel
theorem dX8_layChains_299 : decode cX8_layChains 299 = .ok (.aload_n 0, 1) := by decide +kernel
theorem dX8_layChains_300 : decode cX8_layChains 300 = .ok (.getfield 38, 3) := by decide +kernel
theorem dX8_layChains_303 : decode cX8_layChains 303 = .ok (.iload 8, 2) := by decide +kernel
theorem dX8_layChains_305 : decode cX8_layChains 305 = .ok (.aload_n 0, 1) := by decide +kernel
theorem dX8_layChains_306 : decode cX8_layChains 306 = .ok (.getfield 38, 3) := by decide +kernel
theorem dX8_layChains_309 : decode cX8_layChains 309 = .ok (.iload 8, 2) := by decide +kernel
theorem dX8_layChains_311 : decode cX8_layChains 311 = .ok (.iaload, 1) := by decide +kernel
theorem dX8_layChains_312 : decode cX8_layChains 312 = .ok (.aload_n 0, 1) := by decide +kernel
theorem dX8_layChains_313 : decode cX8_layChains 313 = .ok (.getfield 38, 3) := by decide +kernel
theorem dX8_layChains_316 : decode cX8_layChains 316 = .ok (.iload 11, 2) := by decide +kernel
theorem dX8_layChains_318 : decode cX8_layChains 318 = .ok (.iaload, 1) := by decide +kernel
theorem dX8_layChains_319 : decode cX8_layChains 319 = .ok (.aload_n 0, 1) := by decide +kernel
theorem dX8_layChains_320 : decode cX8_layChains 320 = .ok (.iload_n 1, 1) := by decide +kernel
theorem dX8_layChains_321 : decode cX8_layChains 321 = .ok (.iload 7, 2) := by decide +kernel
theorem dX8_layChains_323 : decode cX8_layChains 323 = .ok (.invokevirtual 225, 3) := by decide +kernel
theorem dX8_layChains_326 : decode cX8_layChains 326 = .ok (.iadd, 1) := by decide +kernel
theorem dX8_layChains_327 : decode cX8_layChains 327 = .ok (.aload_n 0, 1) := by decide +kernel
theorem dX8_layChains_328 : decode cX8_layChains 328 = .ok (.getfield 17, 3) := by decide +kernel
theorem dX8_layChains_331 : decode cX8_layChains 331 = .ok (.iconst 3, 1) := by decide +kernel
theorem dX8_layChains_332 : decode cX8_layChains 332 = .ok (.iaload, 1) := by decide +kernel
theorem dX8_layChains_333 : decode cX8_layChains 333 = .ok (.iload 12, 2) := by decide +kernel
theorem dX8_layChains_335 : decode cX8_layChains 335 = .ok (.imul, 1) := by decide +kernel
theorem dX8_layChains_336 : decode cX8_layChains 336 = .ok (.iadd, 1) := by decide +kernel
theorem dX8_layChains_337 : decode cX8_layChains 337 = .ok (.iload 6, 2) := by decide +kernel
theorem dX8_layChains_339 : decode cX8_layChains 339 = .ok (.iadd, 1) := by decide +kernel
theorem dX8_layChains_340 : decode cX8_layChains 340 = .ok (.invokestatic 309, 3) := by decide +kernel
theorem dX8_layChains_343 : decode cX8_layChains 343 = .ok (.iastore, 1) := by decide +kernel
theorem dX8_layChains_344 : decode cX8_layChains 344 = .ok (.iinc 10 1, 3) := by decide +kernel
theorem dX8_layChains_347 : decode cX8_layChains 347 = .ok (.goto (-152), 3) := by decide +kernel
theorem dX8_layChains_350 : decode cX8_layChains 350 = .ok (.iinc 7 1, 3) := by decide +kernel
theorem dX8_layChains_353 : decode cX8_layChains 353 = .ok (.goto (-288), 3) := by decide +kernel
theorem dX8_layChains_356 : decode cX8_layChains 356 = .ok (.iinc 4 1, 3) := by decide +kernel
theorem dX8_layChains_359 : decode cX8_layChains 359 = .ok (.goto (-349), 3) := by decide +kernel
theorem dX8_layChains_362 : decode cX8_layChains 362 = .ok (.return_, 1) := by decide +kernel
set_option maxRecDepth 20000 in
theorem ggX8_ofChains_X8_ofPlayer : GoodIn wsX8_ofChains wsX8_ofPlayer := goodIn_r _ [7, 8, 9, 10, 6, 11, 83, 84, 85, 86, 87, 88, 89, 90, 91, 92, 93, 94, 95, 96, 97, 98, 99, 100, 101, 102, 103] (by decide +kernel) (by decide +kernel)
set_option maxRecDepth 20000 in
theorem gX8_ofChains_X8_ofPlayer : GoodIn wsX8_ofChains (wsV RX8 266 RX8 yX8_ofPlayer wsX8_ofPlayer) := goodIn_app (goodIn_of _ (by decide +kernel)) ggX8_ofChains_X8_ofPlayer
set_option maxRecDepth 20000 in
theorem ggX8_ofChains_X8_layChains : GoodIn wsX8_ofChains wsX8_layChains := goodIn_r _ [15, 8, 1, 2, 3, 4, 5, 6, 7, 9, 10, 11, 16, 17, 18, 19, 20, 21, 22, 23, 24, 25, 26, 27, 28, 29, 30, 31, 32, 33, 34, 35, 36, 37, 38, 39, 40, 41, 42, 43, 44, 45, 46, 47, 48, 49, 50, 51, 52, 53, 54, 55, 56, 57, 58, 59, 60, 61, 62, 63, 64, 65, 66, 67, 68, 69, 70, 71, 72, 73, 74, 75, 76, 77, 78, 79, 80, 81, 82, 83, 84, 85, 86, 87, 88, 89, 90, 91, 92, 93, 94, 95, 96, 97, 98, 99, 100, 101, 102, 103] (by decide +kernel) (by decide +kernel)
set_option maxRecDepth 20000 in
theorem gX8_ofChains_X8_layChains : GoodIn wsX8_ofChains (wsV RX8 312 RX8 yX8_layChains wsX8_layChains) := goodIn_app (goodIn_of _ (by decide +kernel)) ggX8_ofChains_X8_layChains
set_option maxRecDepth 20000 in
theorem ggX8_ofChains_X8_lettersOf : GoodIn wsX8_ofChains wsX8_lettersOf := goodIn_r _ [19, 20, 21, 22, 6, 23, 8, 24, 25, 26, 9, 10, 11, 83, 84, 85, 86, 87, 88, 89, 90, 91, 92, 93, 94, 95, 96, 97, 98, 99, 100, 101, 102, 103] (by decide +kernel) (by decide +kernel)
set_option maxRecDepth 20000 in
theorem gX8_ofChains_X8_lettersOf : GoodIn wsX8_ofChains (wsV RX8 300 RX8 yX8_lettersOf wsX8_lettersOf) := goodIn_app (goodIn_of _ (by decide +kernel)) ggX8_ofChains_X8_lettersOf
set_option maxRecDepth 20000 in
theorem ggX8_ofChains_X8_free : GoodIn wsX8_ofChains wsX8_free := goodIn_r _ [30, 31, 32, 33, 6, 34, 8, 35, 36, 37, 83, 84, 85, 86, 87, 88, 89, 90, 91, 92, 93, 94, 95, 96, 97, 98, 99, 100, 101, 102, 103] (by decide +kernel) (by decide +kernel)
set_option maxRecDepth 20000 in
theorem gX8_ofChains_X8_free : GoodIn wsX8_ofChains (wsV RX8 239 RX8 yX8_free wsX8_free) := goodIn_app (goodIn_of _ (by decide +kernel)) ggX8_ofChains_X8_free
set_option maxRecDepth 20000 in
theorem ggX8_ofChains_X8_sizeOf : GoodIn wsX8_ofChains wsX8_sizeOf := goodIn_r _ [40] (by decide +kernel) (by decide +kernel)
set_option maxRecDepth 20000 in
theorem gX8_ofChains_X8_sizeOf : GoodIn wsX8_ofChains (va_wsS RX8 303 yX8_sizeOf wsX8_sizeOf) := goodIn_app (goodIn_of _ (by decide +kernel)) ggX8_ofChains_X8_sizeOf
set_option maxRecDepth 20000 in
theorem ggX8_ofChains_X8_max : GoodIn wsX8_ofChains wsX8_max := goodIn_r _ [82] (by decide +kernel) (by decide +kernel)
set_option maxRecDepth 20000 in
theorem gX8_ofChains_X8_max : GoodIn wsX8_ofChains (va_wsS RX8 309 yX8_max wsX8_max) := goodIn_app (goodIn_of _ (by decide +kernel)) ggX8_ofChains_X8_max
theorem dX8_ofChains_0 : decode cX8_ofChains 0 = .ok (.iconst 0, 1) := by decide +kernel
theorem dX8_ofChains_1 : decode cX8_ofChains 1 = .ok (.istore 4, 2) := by decide +kernel
theorem dX8_ofChains_3 : decode cX8_ofChains 3 = .ok (.aload_n 0, 1) := by decide +kernel
theorem dX8_ofChains_4 : decode cX8_ofChains 4 = .ok (.iload_n 1, 1) := by decide +kernel
theorem dX8_ofChains_5 : decode cX8_ofChains 5 = .ok (.iconst 1, 1) := by decide +kernel
theorem dX8_ofChains_6 : decode cX8_ofChains 6 = .ok (.invokevirtual 266, 3) := by decide +kernel
theorem dX8_ofChains_9 : decode cX8_ofChains 9 = .ok (.istore 5, 2) := by decide +kernel
theorem dX8_ofChains_11 : decode cX8_ofChains 11 = .ok (.aload_n 0, 1) := by decide +kernel
theorem dX8_ofChains_12 : decode cX8_ofChains 12 = .ok (.iload_n 1, 1) := by decide +kernel
theorem dX8_ofChains_13 : decode cX8_ofChains 13 = .ok (.iload_n 2, 1) := by decide +kernel
theorem dX8_ofChains_14 : decode cX8_ofChains 14 = .ok (.invokevirtual 312, 3) := by decide +kernel
theorem dX8_ofChains_17 : decode cX8_ofChains 17 = .ok (.iconst 1, 1) := by decide +kernel
theorem dX8_ofChains_18 : decode cX8_ofChains 18 = .ok (.istore 6, 2) := by decide +kernel
theorem dX8_ofChains_20 : decode cX8_ofChains 20 = .ok (.iload 6, 2) := by decide +kernel
theorem dX8_ofChains_22 : decode cX8_ofChains 22 = .ok (.iconst 1, 1) := by decide +kernel
theorem dX8_ofChains_23 : decode cX8_ofChains 23 = .ok (.iload 5, 2) := by decide +kernel
theorem dX8_ofChains_25 : decode cX8_ofChains 25 = .ok (.ishl, 1) := by decide +kernel
theorem dX8_ofChains_26 : decode cX8_ofChains 26 = .ok (.if_icmp .ge 113, 3) := by decide +kernel
theorem dX8_ofChains_29 : decode cX8_ofChains 29 = .ok (.iconst 0, 1) := by decide +kernel
theorem dX8_ofChains_30 : decode cX8_ofChains 30 = .ok (.istore 7, 2) := by decide +kernel
theorem dX8_ofChains_32 : decode cX8_ofChains 32 = .ok (.iload 7, 2) := by decide +kernel
theorem dX8_ofChains_34 : decode cX8_ofChains 34 = .ok (.iload 5, 2) := by decide +kernel
theorem dX8_ofChains_36 : decode cX8_ofChains 36 = .ok (.if_icmp .ge 97, 3) := by decide +kernel
theorem dX8_ofChains_39 : decode cX8_ofChains 39 = .ok (.bipush 8, 2) := by decide +kernel
theorem dX8_ofChains_41 : decode cX8_ofChains 41 = .ok (.iload 6, 2) := by decide +kernel
theorem dX8_ofChains_43 : decode cX8_ofChains 43 = .ok (.imul, 1) := by decide +kernel
theorem dX8_ofChains_44 : decode cX8_ofChains 44 = .ok (.iload 7, 2) := by decide +kernel
theorem dX8_ofChains_46 : decode cX8_ofChains 46 = .ok (.iadd, 1) := by decide +kernel
theorem dX8_ofChains_47 : decode cX8_ofChains 47 = .ok (.istore 8, 2) := by decide +kernel
theorem dX8_ofChains_49 : decode cX8_ofChains 49 = .ok (.aload_n 0, 1) := by decide +kernel
theorem dX8_ofChains_50 : decode cX8_ofChains 50 = .ok (.getfield 35, 3) := by decide +kernel
theorem dX8_ofChains_53 : decode cX8_ofChains 53 = .ok (.iload 8, 2) := by decide +kernel
theorem dX8_ofChains_55 : decode cX8_ofChains 55 = .ok (.iaload, 1) := by decide +kernel
theorem dX8_ofChains_56 : decode cX8_ofChains 56 = .ok (.ifCond .ne 6, 3) := by decide +kernel
theorem dX8_ofChains_59 : decode cX8_ofChains 59 = .ok (.goto 68, 3) := by decide +kernel
theorem dX8_ofChains_62 : decode cX8_ofChains 62 = .ok (.iload_n 3, 1) := by decide +kernel
theorem dX8_ofChains_63 : decode cX8_ofChains 63 = .ok (.iconst 2, 1) := by decide +kernel
theorem dX8_ofChains_64 : decode cX8_ofChains 64 = .ok (.if_icmp .ne 37, 3) := by decide +kernel
theorem dX8_ofChains_67 : decode cX8_ofChains 67 = .ok (.iload 4, 2) := by decide +kernel
theorem dX8_ofChains_69 : decode cX8_ofChains 69 = .ok (.aload_n 0, 1) := by decide +kernel
theorem dX8_ofChains_70 : decode cX8_ofChains 70 = .ok (.iload_n 1, 1) := by decide +kernel
theorem dX8_ofChains_71 : decode cX8_ofChains 71 = .ok (.iload 6, 2) := by decide +kernel
theorem dX8_ofChains_73 : decode cX8_ofChains 73 = .ok (.invokevirtual 300, 3) := by decide +kernel
theorem dX8_ofChains_76 : decode cX8_ofChains 76 = .ok (.aload_n 0, 1) := by decide +kernel
theorem dX8_ofChains_77 : decode cX8_ofChains 77 = .ok (.iload_n 2, 1) := by decide +kernel
theorem dX8_ofChains_78 : decode cX8_ofChains 78 = .ok (.invokevirtual 239, 3) := by decide +kernel
theorem dX8_ofChains_81 : decode cX8_ofChains 81 = .ok (.if_icmp .ne 13, 3) := by decide +kernel
theorem dX8_ofChains_84 : decode cX8_ofChains 84 = .ok (.aload_n 0, 1) := by decide +kernel
theorem dX8_ofChains_85 : decode cX8_ofChains 85 = .ok (.getfield 35, 3) := by decide +kernel
theorem dX8_ofChains_88 : decode cX8_ofChains 88 = .ok (.iload 8, 2) := by decide +kernel
theorem dX8_ofChains_90 : decode cX8_ofChains 90 = .ok (.iaload, 1) := by decide +kernel
theorem dX8_ofChains_91 : decode cX8_ofChains 91 = .ok (.goto 4, 3) := by decide +kernel
theorem dX8_ofChains_94 : decode cX8_ofChains 94 = .ok (.iconst 0, 1) := by decide +kernel
theorem dX8_ofChains_95 : decode cX8_ofChains 95 = .ok (.iadd, 1) := by decide +kernel
theorem dX8_ofChains_96 : decode cX8_ofChains 96 = .ok (.istore 4, 2) := by decide +kernel
theorem dX8_ofChains_98 : decode cX8_ofChains 98 = .ok (.goto 29, 3) := by decide +kernel
theorem dX8_ofChains_101 : decode cX8_ofChains 101 = .ok (.iload 4, 2) := by decide +kernel
theorem dX8_ofChains_103 : decode cX8_ofChains 103 = .ok (.iload_n 3, 1) := by decide +kernel
theorem dX8_ofChains_104 : decode cX8_ofChains 104 = .ok (.ifCond .ne 11, 3) := by decide +kernel
theorem dX8_ofChains_107 : decode cX8_ofChains 107 = .ok (.iload 6, 2) := by decide +kernel
theorem dX8_ofChains_109 : decode cX8_ofChains 109 = .ok (.invokestatic 303, 3) := by decide +kernel
theorem dX8_ofChains_112 : decode cX8_ofChains 112 = .ok (.goto 10, 3) := by decide +kernel
theorem dX8_ofChains_115 : decode cX8_ofChains 115 = .ok (.aload_n 0, 1) := by decide +kernel
theorem dX8_ofChains_116 : decode cX8_ofChains 116 = .ok (.getfield 38, 3) := by decide +kernel
theorem dX8_ofChains_119 : decode cX8_ofChains 119 = .ok (.iload 8, 2) := by decide +kernel
theorem dX8_ofChains_121 : decode cX8_ofChains 121 = .ok (.iaload, 1) := by decide +kernel
theorem dX8_ofChains_122 : decode cX8_ofChains 122 = .ok (.invokestatic 309, 3) := by decide +kernel
theorem dX8_ofChains_125 : decode cX8_ofChains 125 = .ok (.istore 4, 2) := by decide +kernel
theorem dX8_ofChains_127 : decode cX8_ofChains 127 = .ok (.iinc 7 1, 3) := by decide +kernel
theorem dX8_ofChains_130 : decode cX8_ofChains 130 = .ok (.goto (-98), 3) := by decide +kernel
theorem dX8_ofChains_133 : decode cX8_ofChains 133 = .ok (.iinc 6 1, 3) := by decide +kernel
theorem dX8_ofChains_136 : decode cX8_ofChains 136 = .ok (.goto (-116), 3) := by decide +kernel
theorem dX8_ofChains_139 : decode cX8_ofChains 139 = .ok (.iload 4, 2) := by decide +kernel
theorem dX8_ofChains_141 : decode cX8_ofChains 141 = .ok (.ireturn, 1) := by decide +kernel
set_option maxRecDepth 20000 in
theorem ggX8_noRow_X8_in : GoodIn wsX8_noRow wsX8_in := goodIn_r _ [5] (by decide +kernel) (by decide +kernel)
set_option maxRecDepth 20000 in
theorem gX8_noRow_X8_in : GoodIn wsX8_noRow (va_wsS RX8 77 yX8_in wsX8_in) := goodIn_app (goodIn_of _ (by decide +kernel)) ggX8_noRow_X8_in
set_option maxRecDepth 20000 in
theorem ggX8_noRow_X8_fails : GoodIn wsX8_noRow wsX8_fails := goodIn_r _ [9, 10, 11, 12, 13, 14, 15, 16, 17, 18, 19, 20, 21, 22, 23, 24, 25, 26, 27, 28, 29, 30, 31] (by decide +kernel) (by decide +kernel)
set_option maxRecDepth 20000 in
theorem gX8_noRow_X8_fails : GoodIn wsX8_noRow (wsV RX8 198 RX8 yX8_fails wsX8_fails) := goodIn_app (goodIn_of _ (by decide +kernel)) ggX8_noRow_X8_fails
theorem dX8_noRow_0 : decode cX8_noRow 0 = .ok (.aload_n 0, 1) := by decide +kernel
theorem dX8_noRow_1 : decode cX8_noRow 1 = .ok (.iload_n 1, 1) := by decide +kernel
theorem dX8_noRow_2 : decode cX8_noRow 2 = .ok (.iconst 0, 1) := by decide +kernel
theorem dX8_noRow_3 : decode cX8_noRow 3 = .ok (.aload_n 0, 1) := by decide +kernel
theorem dX8_noRow_4 : decode cX8_noRow 4 = .ok (.getfield 17, 3) := by decide +kernel
theorem dX8_noRow_7 : decode cX8_noRow 7 = .ok (.iconst 0, 1) := by decide +kernel
theorem dX8_noRow_8 : decode cX8_noRow 8 = .ok (.iaload, 1) := by decide +kernel
theorem dX8_noRow_9 : decode cX8_noRow 9 = .ok (.iconst 1, 1) := by decide +kernel
theorem dX8_noRow_10 : decode cX8_noRow 10 = .ok (.isub, 1) := by decide +kernel
theorem dX8_noRow_11 : decode cX8_noRow 11 = .ok (.invokestatic 77, 3) := by decide +kernel
theorem dX8_noRow_14 : decode cX8_noRow 14 = .ok (.ifCond .ne 7, 3) := by decide +kernel
theorem dX8_noRow_17 : decode cX8_noRow 17 = .ok (.iconst 1, 1) := by decide +kernel
theorem dX8_noRow_18 : decode cX8_noRow 18 = .ok (.goto 4, 3) := by decide +kernel
theorem dX8_noRow_21 : decode cX8_noRow 21 = .ok (.iconst 0, 1) := by decide +kernel
theorem dX8_noRow_22 : decode cX8_noRow 22 = .ok (.iconst 1, 1) := by decide +kernel
theorem dX8_noRow_23 : decode cX8_noRow 23 = .ok (.invokevirtual 198, 3) := by decide +kernel
theorem dX8_noRow_26 : decode cX8_noRow 26 = .ok (.ireturn, 1) := by decide +kernel
set_option maxRecDepth 20000 in
theorem ggX8_noPlayer_X8_in : GoodIn wsX8_noPlayer wsX8_in := goodIn_r _ [5] (by decide +kernel) (by decide +kernel)
set_option maxRecDepth 20000 in
theorem gX8_noPlayer_X8_in : GoodIn wsX8_noPlayer (va_wsS RX8 77 yX8_in wsX8_in) := goodIn_app (goodIn_of _ (by decide +kernel)) ggX8_noPlayer_X8_in
set_option maxRecDepth 20000 in
theorem ggX8_noPlayer_X8_fails : GoodIn wsX8_noPlayer wsX8_fails := goodIn_r _ [9, 10, 11, 12, 13, 14, 15, 16, 17, 18, 19, 20, 21, 22, 23, 24, 25, 26, 27, 28, 29, 30, 31] (by decide +kernel) (by decide +kernel)
set_option maxRecDepth 20000 in
theorem gX8_noPlayer_X8_fails : GoodIn wsX8_noPlayer (wsV RX8 198 RX8 yX8_fails wsX8_fails) := goodIn_app (goodIn_of _ (by decide +kernel)) ggX8_noPlayer_X8_fails
theorem dX8_noPlayer_0 : decode cX8_noPlayer 0 = .ok (.aload_n 0, 1) := by decide +kernel
theorem dX8_noPlayer_1 : decode cX8_noPlayer 1 = .ok (.iload_n 1, 1) := by decide +kernel
theorem dX8_noPlayer_2 : decode cX8_noPlayer 2 = .ok (.iconst 0, 1) := by decide +kernel
theorem dX8_noPlayer_3 : decode cX8_noPlayer 3 = .ok (.aload_n 0, 1) := by decide +kernel
theorem dX8_noPlayer_4 : decode cX8_noPlayer 4 = .ok (.getfield 17, 3) := by decide +kernel
theorem dX8_noPlayer_7 : decode cX8_noPlayer 7 = .ok (.iconst 1, 1) := by decide +kernel
theorem dX8_noPlayer_8 : decode cX8_noPlayer 8 = .ok (.iaload, 1) := by decide +kernel
theorem dX8_noPlayer_9 : decode cX8_noPlayer 9 = .ok (.iconst 1, 1) := by decide +kernel
theorem dX8_noPlayer_10 : decode cX8_noPlayer 10 = .ok (.isub, 1) := by decide +kernel
theorem dX8_noPlayer_11 : decode cX8_noPlayer 11 = .ok (.invokestatic 77, 3) := by decide +kernel
theorem dX8_noPlayer_14 : decode cX8_noPlayer 14 = .ok (.ifCond .ne 7, 3) := by decide +kernel
theorem dX8_noPlayer_17 : decode cX8_noPlayer 17 = .ok (.iconst 1, 1) := by decide +kernel
theorem dX8_noPlayer_18 : decode cX8_noPlayer 18 = .ok (.goto 4, 3) := by decide +kernel
theorem dX8_noPlayer_21 : decode cX8_noPlayer 21 = .ok (.iconst 0, 1) := by decide +kernel
theorem dX8_noPlayer_22 : decode cX8_noPlayer 22 = .ok (.iconst 1, 1) := by decide +kernel
theorem dX8_noPlayer_23 : decode cX8_noPlayer 23 = .ok (.invokevirtual 198, 3) := by decide +kernel
theorem dX8_noPlayer_26 : decode cX8_noPlayer 26 = .ok (.ireturn, 1) := by decide +kernel
set_option maxRecDepth 20000 in
theorem ggX8_noWord_X8_noPlayer : GoodIn wsX8_noWord wsX8_noPlayer := goodIn_r _ [5, 6, 7, 8, 4, 9, 10, 11, 12, 13, 14, 22, 23, 24, 25, 26, 27, 28, 29, 30, 31, 32, 33, 34, 35, 36, 37, 38, 39, 40, 41, 42] (by decide +kernel) (by decide +kernel)
set_option maxRecDepth 20000 in
theorem gX8_noWord_X8_noPlayer : GoodIn wsX8_noWord (wsV RX8 315 RX8 yX8_noPlayer wsX8_noPlayer) := goodIn_app (goodIn_of _ (by decide +kernel)) ggX8_noWord_X8_noPlayer
set_option maxRecDepth 20000 in
theorem ggX8_noWord_X8_ofPlayer : GoodIn wsX8_noWord wsX8_ofPlayer := goodIn_r _ [18, 6, 19, 20, 4, 21, 22, 23, 24, 25, 26, 27, 28, 29, 30, 31, 32, 33, 34, 35, 36, 37, 38, 39, 40, 41, 42] (by decide +kernel) (by decide +kernel)
set_option maxRecDepth 20000 in
theorem gX8_noWord_X8_ofPlayer : GoodIn wsX8_noWord (wsV RX8 266 RX8 yX8_ofPlayer wsX8_ofPlayer) := goodIn_app (goodIn_of _ (by decide +kernel)) ggX8_noWord_X8_ofPlayer
set_option maxRecDepth 20000 in
theorem ggX8_noWord_X8_in : GoodIn wsX8_noWord wsX8_in := goodIn_r _ [9] (by decide +kernel) (by decide +kernel)
set_option maxRecDepth 20000 in
theorem gX8_noWord_X8_in : GoodIn wsX8_noWord (va_wsS RX8 77 yX8_in wsX8_in) := goodIn_app (goodIn_of _ (by decide +kernel)) ggX8_noWord_X8_in
set_option maxRecDepth 20000 in
theorem ggX8_noWord_X8_fails : GoodIn wsX8_noWord wsX8_fails := goodIn_r _ [13, 14, 22, 23, 24, 25, 26, 27, 28, 29, 30, 31, 32, 33, 34, 35, 36, 37, 38, 39, 40, 41, 42] (by decide +kernel) (by decide +kernel)
set_option maxRecDepth 20000 in
theorem gX8_noWord_X8_fails : GoodIn wsX8_noWord (wsV RX8 198 RX8 yX8_fails wsX8_fails) := goodIn_app (goodIn_of _ (by decide +kernel)) ggX8_noWord_X8_fails
theorem dX8_noWord_0 : decode cX8_noWord 0 = .ok (.aload_n 0, 1) := by decide +kernel
theorem dX8_noWord_1 : decode cX8_noWord 1 = .ok (.iload_n 1, 1) := by decide +kernel
theorem dX8_noWord_2 : decode cX8_noWord 2 = .ok (.invokevirtual 315, 3) := by decide +kernel
theorem dX8_noWord_5 : decode cX8_noWord 5 = .ok (.ifCond .ne 32, 3) := by decide +kernel
theorem dX8_noWord_8 : decode cX8_noWord 8 = .ok (.aload_n 0, 1) := by decide +kernel
theorem dX8_noWord_9 : decode cX8_noWord 9 = .ok (.iload_n 2, 1) := by decide +kernel
theorem dX8_noWord_10 : decode cX8_noWord 10 = .ok (.iconst 0, 1) := by decide +kernel
theorem dX8_noWord_11 : decode cX8_noWord 11 = .ok (.aload_n 0, 1) := by decide +kernel
theorem dX8_noWord_12 : decode cX8_noWord 12 = .ok (.iload_n 1, 1) := by decide +kernel
theorem dX8_noWord_13 : decode cX8_noWord 13 = .ok (.iconst 1, 1) := by decide +kernel
theorem dX8_noWord_14 : decode cX8_noWord 14 = .ok (.invokevirtual 266, 3) := by decide +kernel
theorem dX8_noWord_17 : decode cX8_noWord 17 = .ok (.iconst 1, 1) := by decide +kernel
theorem dX8_noWord_18 : decode cX8_noWord 18 = .ok (.isub, 1) := by decide +kernel
theorem dX8_noWord_19 : decode cX8_noWord 19 = .ok (.invokestatic 77, 3) := by decide +kernel
theorem dX8_noWord_22 : decode cX8_noWord 22 = .ok (.ifCond .ne 7, 3) := by decide +kernel
theorem dX8_noWord_25 : decode cX8_noWord 25 = .ok (.iconst 1, 1) := by decide +kernel
theorem dX8_noWord_26 : decode cX8_noWord 26 = .ok (.goto 4, 3) := by decide +kernel
theorem dX8_noWord_29 : decode cX8_noWord 29 = .ok (.iconst 0, 1) := by decide +kernel
theorem dX8_noWord_30 : decode cX8_noWord 30 = .ok (.iconst 1, 1) := by decide +kernel
theorem dX8_noWord_31 : decode cX8_noWord 31 = .ok (.invokevirtual 198, 3) := by decide +kernel
theorem dX8_noWord_34 : decode cX8_noWord 34 = .ok (.ifCond .eq 7, 3) := by decide +kernel
theorem dX8_noWord_37 : decode cX8_noWord 37 = .ok (.iconst 1, 1) := by decide +kernel
theorem dX8_noWord_38 : decode cX8_noWord 38 = .ok (.goto 4, 3) := by decide +kernel
theorem dX8_noWord_41 : decode cX8_noWord 41 = .ok (.iconst 0, 1) := by decide +kernel
theorem dX8_noWord_42 : decode cX8_noWord 42 = .ok (.ireturn, 1) := by decide +kernel
set_option maxRecDepth 20000 in
theorem ggX8_laidWords_X8_ofRow : GoodIn wsX8_laidWords wsX8_ofRow := goodIn_r _ [6, 1, 7, 8, 5, 9, 10, 11, 12, 13, 14, 15, 16, 17, 18, 19, 20, 21, 22, 23, 24, 25, 26, 27, 28, 29, 30] (by decide +kernel) (by decide +kernel)
set_option maxRecDepth 20000 in
theorem gX8_laidWords_X8_ofRow : GoodIn wsX8_laidWords (wsV RX8 218 RX8 yX8_ofRow wsX8_ofRow) := goodIn_app (goodIn_of _ (by decide +kernel)) ggX8_laidWords_X8_ofRow
theorem dX8_laidWords_0 : decode cX8_laidWords 0 = .ok (.iconst 0, 1) := by decide +kernel
theorem dX8_laidWords_1 : decode cX8_laidWords 1 = .ok (.istore_n 1, 1) := by decide +kernel
theorem dX8_laidWords_2 : decode cX8_laidWords 2 = .ok (.iconst 0, 1) := by decide +kernel
theorem dX8_laidWords_3 : decode cX8_laidWords 3 = .ok (.istore_n 2, 1) := by decide +kernel
theorem dX8_laidWords_4 : decode cX8_laidWords 4 = .ok (.iload_n 2, 1) := by decide +kernel
theorem dX8_laidWords_5 : decode cX8_laidWords 5 = .ok (.aload_n 0, 1) := by decide +kernel
theorem dX8_laidWords_6 : decode cX8_laidWords 6 = .ok (.getfield 17, 3) := by decide +kernel
theorem dX8_laidWords_9 : decode cX8_laidWords 9 = .ok (.iconst 0, 1) := by decide +kernel
theorem dX8_laidWords_10 : decode cX8_laidWords 10 = .ok (.iaload, 1) := by decide +kernel
theorem dX8_laidWords_11 : decode cX8_laidWords 11 = .ok (.if_icmp .ge 18, 3) := by decide +kernel
theorem dX8_laidWords_14 : decode cX8_laidWords 14 = .ok (.iload_n 1, 1) := by decide +kernel
theorem dX8_laidWords_15 : decode cX8_laidWords 15 = .ok (.aload_n 0, 1) := by decide +kernel
theorem dX8_laidWords_16 : decode cX8_laidWords 16 = .ok (.iload_n 2, 1) := by decide +kernel
theorem dX8_laidWords_17 : decode cX8_laidWords 17 = .ok (.iconst 2, 1) := by decide +kernel
theorem dX8_laidWords_18 : decode cX8_laidWords 18 = .ok (.invokevirtual 218, 3) := by decide +kernel
theorem dX8_laidWords_21 : decode cX8_laidWords 21 = .ok (.iadd, 1) := by decide +kernel
theorem dX8_laidWords_22 : decode cX8_laidWords 22 = .ok (.istore_n 1, 1) := by decide +kernel
theorem dX8_laidWords_23 : decode cX8_laidWords 23 = .ok (.iinc 2 1, 3) := by decide +kernel
theorem dX8_laidWords_26 : decode cX8_laidWords 26 = .ok (.goto (-22), 3) := by decide +kernel
theorem dX8_laidWords_29 : decode cX8_laidWords 29 = .ok (.iload_n 1, 1) := by decide +kernel
theorem dX8_laidWords_30 : decode cX8_laidWords 30 = .ok (.ireturn, 1) := by decide +kernel
set_option maxRecDepth 20000 in
theorem ggX8_fullRows_X8_free : GoodIn wsX8_fullRows wsX8_free := goodIn_r _ [6, 7, 8, 9, 5, 10, 1, 11, 12, 13, 14, 15, 16, 17, 18, 19, 20, 21, 22, 23, 24, 25, 26, 27, 28, 29, 30, 31, 32, 33, 34] (by decide +kernel) (by decide +kernel)
set_option maxRecDepth 20000 in
theorem gX8_fullRows_X8_free : GoodIn wsX8_fullRows (wsV RX8 239 RX8 yX8_free wsX8_free) := goodIn_app (goodIn_of _ (by decide +kernel)) ggX8_fullRows_X8_free
theorem dX8_fullRows_0 : decode cX8_fullRows 0 = .ok (.iconst 0, 1) := by decide +kernel
theorem dX8_fullRows_1 : decode cX8_fullRows 1 = .ok (.istore_n 1, 1) := by decide +kernel
theorem dX8_fullRows_2 : decode cX8_fullRows 2 = .ok (.iconst 0, 1) := by decide +kernel
theorem dX8_fullRows_3 : decode cX8_fullRows 3 = .ok (.istore_n 2, 1) := by decide +kernel
theorem dX8_fullRows_4 : decode cX8_fullRows 4 = .ok (.iload_n 2, 1) := by decide +kernel
theorem dX8_fullRows_5 : decode cX8_fullRows 5 = .ok (.aload_n 0, 1) := by decide +kernel
theorem dX8_fullRows_6 : decode cX8_fullRows 6 = .ok (.getfield 17, 3) := by decide +kernel
theorem dX8_fullRows_9 : decode cX8_fullRows 9 = .ok (.iconst 0, 1) := by decide +kernel
theorem dX8_fullRows_10 : decode cX8_fullRows 10 = .ok (.iaload, 1) := by decide +kernel
theorem dX8_fullRows_11 : decode cX8_fullRows 11 = .ok (.if_icmp .ge 25, 3) := by decide +kernel
theorem dX8_fullRows_14 : decode cX8_fullRows 14 = .ok (.iload_n 1, 1) := by decide +kernel
theorem dX8_fullRows_15 : decode cX8_fullRows 15 = .ok (.aload_n 0, 1) := by decide +kernel
theorem dX8_fullRows_16 : decode cX8_fullRows 16 = .ok (.iload_n 2, 1) := by decide +kernel
theorem dX8_fullRows_17 : decode cX8_fullRows 17 = .ok (.invokevirtual 239, 3) := by decide +kernel
theorem dX8_fullRows_20 : decode cX8_fullRows 20 = .ok (.ifCond .ne 7, 3) := by decide +kernel
theorem dX8_fullRows_23 : decode cX8_fullRows 23 = .ok (.iconst 1, 1) := by decide +kernel
theorem dX8_fullRows_24 : decode cX8_fullRows 24 = .ok (.goto 4, 3) := by decide +kernel
theorem dX8_fullRows_27 : decode cX8_fullRows 27 = .ok (.iconst 0, 1) := by decide +kernel
theorem dX8_fullRows_28 : decode cX8_fullRows 28 = .ok (.iadd, 1) := by decide +kernel
theorem dX8_fullRows_29 : decode cX8_fullRows 29 = .ok (.istore_n 1, 1) := by decide +kernel
theorem dX8_fullRows_30 : decode cX8_fullRows 30 = .ok (.iinc 2 1, 3) := by decide +kernel
theorem dX8_fullRows_33 : decode cX8_fullRows 33 = .ok (.goto (-29), 3) := by decide +kernel
theorem dX8_fullRows_36 : decode cX8_fullRows 36 = .ok (.iload_n 1, 1) := by decide +kernel
theorem dX8_fullRows_37 : decode cX8_fullRows 37 = .ok (.ireturn, 1) := by decide +kernel
set_option maxRecDepth 20000 in
theorem ggX8_told_X8_laidWords : GoodIn wsX8_told wsX8_laidWords := goodIn_r _ [6, 1, 7, 8, 9, 5, 10, 11, 12, 13, 83, 84, 85, 86, 87, 88, 89, 90, 91, 92, 93, 94, 95, 96, 97, 98, 99, 100, 101, 102, 103] (by decide +kernel) (by decide +kernel)
set_option maxRecDepth 20000 in
theorem gX8_told_X8_laidWords : GoodIn wsX8_told (wsV RX8 318 RX8 yX8_laidWords wsX8_laidWords) := goodIn_app (goodIn_of _ (by decide +kernel)) ggX8_told_X8_laidWords
set_option maxRecDepth 20000 in
theorem ggX8_told_X8_fullRows : GoodIn wsX8_told wsX8_fullRows := goodIn_r _ [17, 1, 18, 19, 20, 5, 21, 7, 8, 9, 10, 11, 12, 13, 83, 84, 85, 86, 87, 88, 89, 90, 91, 92, 93, 94, 95, 96, 97, 98, 99, 100, 101, 102, 103] (by decide +kernel) (by decide +kernel)
set_option maxRecDepth 20000 in
theorem gX8_told_X8_fullRows : GoodIn wsX8_told (wsV RX8 321 RX8 yX8_fullRows wsX8_fullRows) := goodIn_app (goodIn_of _ (by decide +kernel)) ggX8_told_X8_fullRows
set_option maxRecDepth 20000 in
theorem ggX8_told_X8_plays : GoodIn wsX8_told wsX8_plays := goodIn_r _ [25, 1, 26, 27, 28, 5, 29, 30, 31, 32, 33, 34, 35, 36, 37, 38, 39, 40, 41, 42, 43, 44, 45, 46, 47, 48, 49, 50, 51, 18, 19, 20, 21, 7, 8, 9, 10, 11, 12, 13, 52, 53, 54, 55, 56, 57, 58, 59, 60, 61, 62, 63, 64, 65, 66, 67, 68, 69, 70, 71, 72, 73, 74, 75, 76, 77, 78, 83, 84, 85, 86, 87, 88, 89, 90, 91, 92, 93, 94, 95, 96, 97, 98, 99, 100, 101, 102, 103] (by decide +kernel) (by decide +kernel)
set_option maxRecDepth 20000 in
theorem gX8_told_X8_plays : GoodIn wsX8_told (wsV RX8 324 RX8 yX8_plays wsX8_plays) := goodIn_app (goodIn_of _ (by decide +kernel)) ggX8_told_X8_plays
set_option maxRecDepth 20000 in
theorem ggX8_told_X8_wordsOfAll : GoodIn wsX8_told wsX8_wordsOfAll := goodIn_r _ [82, 1, 30, 31, 32, 5, 33, 34, 35, 36, 83, 84, 85, 86, 87, 88, 89, 90, 91, 92, 93, 94, 95, 96, 97, 98, 99, 100, 101, 102, 103] (by decide +kernel) (by decide +kernel)
set_option maxRecDepth 20000 in
theorem gX8_told_X8_wordsOfAll : GoodIn wsX8_told (wsV RX8 215 RX8 yX8_wordsOfAll wsX8_wordsOfAll) := goodIn_app (goodIn_of _ (by decide +kernel)) ggX8_told_X8_wordsOfAll
theorem dX8_told_0 : decode cX8_told 0 = .ok (.iload_n 1, 1) := by decide +kernel
theorem dX8_told_1 : decode cX8_told 1 = .ok (.tableswitch 51 8 11 #[31, 36, 41, 46], 31) := by decide +kernel
theorem dX8_told_32 : decode cX8_told 32 = .ok (.aload_n 0, 1) := by decide +kernel
theorem dX8_told_33 : decode cX8_told 33 = .ok (.invokevirtual 318, 3) := by decide +kernel
theorem dX8_told_36 : decode cX8_told 36 = .ok (.ireturn, 1) := by decide +kernel
theorem dX8_told_37 : decode cX8_told 37 = .ok (.aload_n 0, 1) := by decide +kernel
theorem dX8_told_38 : decode cX8_told 38 = .ok (.invokevirtual 321, 3) := by decide +kernel
theorem dX8_told_41 : decode cX8_told 41 = .ok (.ireturn, 1) := by decide +kernel
theorem dX8_told_42 : decode cX8_told 42 = .ok (.aload_n 0, 1) := by decide +kernel
theorem dX8_told_43 : decode cX8_told 43 = .ok (.invokevirtual 324, 3) := by decide +kernel
theorem dX8_told_46 : decode cX8_told 46 = .ok (.ireturn, 1) := by decide +kernel
theorem dX8_told_47 : decode cX8_told 47 = .ok (.aload_n 0, 1) := by decide +kernel
theorem dX8_told_48 : decode cX8_told 48 = .ok (.invokevirtual 215, 3) := by decide +kernel
theorem dX8_told_51 : decode cX8_told 51 = .ok (.ireturn, 1) := by decide +kernel
theorem dX8_told_52 : decode cX8_told 52 = .ok (.aload_n 0, 1) := by decide +kernel
theorem dX8_told_53 : decode cX8_told 53 = .ok (.getfield 17, 3) := by decide +kernel
theorem dX8_told_56 : decode cX8_told 56 = .ok (.iload_n 1, 1) := by decide +kernel
theorem dX8_told_57 : decode cX8_told 57 = .ok (.iaload, 1) := by decide +kernel
theorem dX8_told_58 : decode cX8_told 58 = .ok (.ireturn, 1) := by decide +kernel
set_option maxRecDepth 20000 in
theorem ggX8_state_X8_in : GoodIn wsX8_state wsX8_in := goodIn_r _ [5] (by decide +kernel) (by decide +kernel)
set_option maxRecDepth 20000 in
theorem gX8_state_X8_in : GoodIn wsX8_state (va_wsS RX8 77 yX8_in wsX8_in) := goodIn_app (goodIn_of _ (by decide +kernel)) ggX8_state_X8_in
set_option maxRecDepth 20000 in
theorem ggX8_state_X8_fails : GoodIn wsX8_state wsX8_fails := goodIn_r _ [9, 1, 95, 96, 97, 98, 99, 100, 101, 102, 103, 104, 105, 106, 107, 108, 109, 110, 111, 112, 113, 114, 115] (by decide +kernel) (by decide +kernel)
set_option maxRecDepth 20000 in
theorem gX8_state_X8_fails : GoodIn wsX8_state (wsV RX8 198 RX8 yX8_fails wsX8_fails) := goodIn_app (goodIn_of _ (by decide +kernel)) ggX8_state_X8_fails
set_option maxRecDepth 20000 in
theorem ggX8_state_X8_told : GoodIn wsX8_state wsX8_told := goodIn_r _ [13, 14, 15, 16, 17, 4, 18, 19, 20, 21, 22, 23, 24, 25, 26, 27, 28, 29, 30, 31, 32, 33, 34, 35, 36, 37, 38, 39, 40, 41, 42, 43, 44, 45, 46, 47, 48, 49, 50, 51, 52, 53, 54, 55, 56, 57, 58, 59, 60, 61, 62, 63, 64, 65, 66, 67, 68, 69, 70, 71, 72, 73, 74, 75, 76, 77, 78, 79, 80, 81, 82, 83, 84, 85, 86, 87, 88, 89, 90, 91, 92, 93, 94, 95, 96, 97, 98, 99, 100, 101, 102, 103, 104, 105, 106, 107, 108, 109, 110, 111, 112, 113, 114, 115] (by decide +kernel) (by decide +kernel)
set_option maxRecDepth 20000 in
theorem gX8_state_X8_told : GoodIn wsX8_state (wsV RX8 327 RX8 yX8_told wsX8_told) := goodIn_app (goodIn_of _ (by decide +kernel)) ggX8_state_X8_told
theorem dX8_state_0 : decode cX8_state 0 = .ok (.aload_n 0, 1) := by decide +kernel
theorem dX8_state_1 : decode cX8_state 1 = .ok (.iconst 0, 1) := by decide +kernel
theorem dX8_state_2 : decode cX8_state 2 = .ok (.putfield 49, 3) := by decide +kernel
theorem dX8_state_5 : decode cX8_state 5 = .ok (.aload_n 0, 1) := by decide +kernel
theorem dX8_state_6 : decode cX8_state 6 = .ok (.iload_n 1, 1) := by decide +kernel
theorem dX8_state_7 : decode cX8_state 7 = .ok (.iconst 0, 1) := by decide +kernel
theorem dX8_state_8 : decode cX8_state 8 = .ok (.bipush 11, 2) := by decide +kernel
theorem dX8_state_10 : decode cX8_state 10 = .ok (.invokestatic 77, 3) := by decide +kernel
theorem dX8_state_13 : decode cX8_state 13 = .ok (.ifCond .ne 7, 3) := by decide +kernel
theorem dX8_state_16 : decode cX8_state 16 = .ok (.iconst 1, 1) := by decide +kernel
theorem dX8_state_17 : decode cX8_state 17 = .ok (.goto 4, 3) := by decide +kernel
theorem dX8_state_20 : decode cX8_state 20 = .ok (.iconst 0, 1) := by decide +kernel
theorem dX8_state_21 : decode cX8_state 21 = .ok (.iconst 1, 1) := by decide +kernel
theorem dX8_state_22 : decode cX8_state 22 = .ok (.invokevirtual 198, 3) := by decide +kernel
theorem dX8_state_25 : decode cX8_state 25 = .ok (.ifCond .eq 7, 3) := by decide +kernel
theorem dX8_state_28 : decode cX8_state 28 = .ok (.iconst 0, 1) := by decide +kernel
theorem dX8_state_29 : decode cX8_state 29 = .ok (.goto 8, 3) := by decide +kernel
theorem dX8_state_32 : decode cX8_state 32 = .ok (.aload_n 0, 1) := by decide +kernel
theorem dX8_state_33 : decode cX8_state 33 = .ok (.iload_n 1, 1) := by decide +kernel
theorem dX8_state_34 : decode cX8_state 34 = .ok (.invokevirtual 327, 3) := by decide +kernel
theorem dX8_state_37 : decode cX8_state 37 = .ok (.ireturn, 1) := by decide +kernel
set_option maxRecDepth 20000 in
theorem ggX8_toldRow_X8_ofRow : GoodIn wsX8_toldRow wsX8_ofRow := goodIn_r _ [5, 6, 7, 8, 4, 9, 14, 15, 16, 17, 18, 19, 20, 21, 22, 23, 24, 25, 26, 27, 28, 29, 30, 31, 32, 33, 34] (by decide +kernel) (by decide +kernel)
set_option maxRecDepth 20000 in
theorem gX8_toldRow_X8_ofRow : GoodIn wsX8_toldRow (wsV RX8 218 RX8 yX8_ofRow wsX8_ofRow) := goodIn_app (goodIn_of _ (by decide +kernel)) ggX8_toldRow_X8_ofRow
set_option maxRecDepth 20000 in
theorem ggX8_toldRow_X8_free : GoodIn wsX8_toldRow wsX8_free := goodIn_r _ [13, 1, 2, 3, 4, 5, 6, 7, 8, 9, 14, 15, 16, 17, 18, 19, 20, 21, 22, 23, 24, 25, 26, 27, 28, 29, 30, 31, 32, 33, 34] (by decide +kernel) (by decide +kernel)
set_option maxRecDepth 20000 in
theorem gX8_toldRow_X8_free : GoodIn wsX8_toldRow (wsV RX8 239 RX8 yX8_free wsX8_free) := goodIn_app (goodIn_of _ (by decide +kernel)) ggX8_toldRow_X8_free
theorem dX8_toldRow_0 : decode cX8_toldRow 0 = .ok (.iload_n 2, 1) := by decide +kernel
theorem dX8_toldRow_1 : decode cX8_toldRow 1 = .ok (.ifCond .ne 12, 3) := by decide +kernel
theorem dX8_toldRow_4 : decode cX8_toldRow 4 = .ok (.aload_n 0, 1) := by decide +kernel
theorem dX8_toldRow_5 : decode cX8_toldRow 5 = .ok (.iload_n 1, 1) := by decide +kernel
theorem dX8_toldRow_6 : decode cX8_toldRow 6 = .ok (.iconst 0, 1) := by decide +kernel
theorem dX8_toldRow_7 : decode cX8_toldRow 7 = .ok (.invokevirtual 218, 3) := by decide +kernel
theorem dX8_toldRow_10 : decode cX8_toldRow 10 = .ok (.goto 36, 3) := by decide +kernel
theorem dX8_toldRow_13 : decode cX8_toldRow 13 = .ok (.iload_n 2, 1) := by decide +kernel
theorem dX8_toldRow_14 : decode cX8_toldRow 14 = .ok (.iconst 1, 1) := by decide +kernel
theorem dX8_toldRow_15 : decode cX8_toldRow 15 = .ok (.if_icmp .ne 11, 3) := by decide +kernel
theorem dX8_toldRow_18 : decode cX8_toldRow 18 = .ok (.aload_n 0, 1) := by decide +kernel
theorem dX8_toldRow_19 : decode cX8_toldRow 19 = .ok (.iload_n 1, 1) := by decide +kernel
theorem dX8_toldRow_20 : decode cX8_toldRow 20 = .ok (.invokevirtual 239, 3) := by decide +kernel
theorem dX8_toldRow_23 : decode cX8_toldRow 23 = .ok (.goto 23, 3) := by decide +kernel
theorem dX8_toldRow_26 : decode cX8_toldRow 26 = .ok (.iload_n 2, 1) := by decide +kernel
theorem dX8_toldRow_27 : decode cX8_toldRow 27 = .ok (.iconst 2, 1) := by decide +kernel
theorem dX8_toldRow_28 : decode cX8_toldRow 28 = .ok (.if_icmp .ne 12, 3) := by decide +kernel
theorem dX8_toldRow_31 : decode cX8_toldRow 31 = .ok (.aload_n 0, 1) := by decide +kernel
theorem dX8_toldRow_32 : decode cX8_toldRow 32 = .ok (.iload_n 1, 1) := by decide +kernel
theorem dX8_toldRow_33 : decode cX8_toldRow 33 = .ok (.iconst 2, 1) := by decide +kernel
theorem dX8_toldRow_34 : decode cX8_toldRow 34 = .ok (.invokevirtual 218, 3) := by decide +kernel
theorem dX8_toldRow_37 : decode cX8_toldRow 37 = .ok (.goto 9, 3) := by decide +kernel
theorem dX8_toldRow_40 : decode cX8_toldRow 40 = .ok (.aload_n 0, 1) := by decide +kernel
theorem dX8_toldRow_41 : decode cX8_toldRow 41 = .ok (.iload_n 1, 1) := by decide +kernel
theorem dX8_toldRow_42 : decode cX8_toldRow 42 = .ok (.iconst 3, 1) := by decide +kernel
theorem dX8_toldRow_43 : decode cX8_toldRow 43 = .ok (.invokevirtual 218, 3) := by decide +kernel
theorem dX8_toldRow_46 : decode cX8_toldRow 46 = .ok (.ireturn, 1) := by decide +kernel
set_option maxRecDepth 20000 in
theorem ggX8_row_X8_noRow : GoodIn wsX8_row wsX8_noRow := goodIn_r _ [6, 7, 8, 9, 5, 10, 11, 12, 13, 14, 1, 30, 31, 32, 33, 34, 35, 36, 37, 38, 39, 40, 41, 42, 43, 44, 45, 46, 47, 48, 49, 50] (by decide +kernel) (by decide +kernel)
set_option maxRecDepth 20000 in
theorem gX8_row_X8_noRow : GoodIn wsX8_row (wsV RX8 330 RX8 yX8_noRow wsX8_noRow) := goodIn_app (goodIn_of _ (by decide +kernel)) ggX8_row_X8_noRow
set_option maxRecDepth 20000 in
theorem ggX8_row_X8_in : GoodIn wsX8_row wsX8_in := goodIn_r _ [10] (by decide +kernel) (by decide +kernel)
set_option maxRecDepth 20000 in
theorem gX8_row_X8_in : GoodIn wsX8_row (va_wsS RX8 77 yX8_in wsX8_in) := goodIn_app (goodIn_of _ (by decide +kernel)) ggX8_row_X8_in
set_option maxRecDepth 20000 in
theorem ggX8_row_X8_fails : GoodIn wsX8_row wsX8_fails := goodIn_r _ [14, 1, 30, 31, 32, 33, 34, 35, 36, 37, 38, 39, 40, 41, 42, 43, 44, 45, 46, 47, 48, 49, 50] (by decide +kernel) (by decide +kernel)
set_option maxRecDepth 20000 in
theorem gX8_row_X8_fails : GoodIn wsX8_row (wsV RX8 198 RX8 yX8_fails wsX8_fails) := goodIn_app (goodIn_of _ (by decide +kernel)) ggX8_row_X8_fails
set_option maxRecDepth 20000 in
theorem ggX8_row_X8_toldRow : GoodIn wsX8_row wsX8_toldRow := goodIn_r _ [18, 19, 20, 21, 5, 22, 7, 23, 24, 25, 26, 27, 28, 29, 30, 31, 32, 33, 34, 35, 36, 37, 38, 39, 40, 41, 42, 43, 44, 45, 46, 47, 48, 49, 50] (by decide +kernel) (by decide +kernel)
set_option maxRecDepth 20000 in
theorem gX8_row_X8_toldRow : GoodIn wsX8_row (wsV RX8 333 RX8 yX8_toldRow wsX8_toldRow) := goodIn_app (goodIn_of _ (by decide +kernel)) ggX8_row_X8_toldRow
theorem dX8_row_0 : decode cX8_row 0 = .ok (.aload_n 0, 1) := by decide +kernel
theorem dX8_row_1 : decode cX8_row 1 = .ok (.iconst 0, 1) := by decide +kernel
theorem dX8_row_2 : decode cX8_row 2 = .ok (.putfield 49, 3) := by decide +kernel
theorem dX8_row_5 : decode cX8_row 5 = .ok (.aload_n 0, 1) := by decide +kernel
theorem dX8_row_6 : decode cX8_row 6 = .ok (.iload_n 1, 1) := by decide +kernel
theorem dX8_row_7 : decode cX8_row 7 = .ok (.invokevirtual 330, 3) := by decide +kernel
theorem dX8_row_10 : decode cX8_row 10 = .ok (.ifCond .ne 25, 3) := by decide +kernel
theorem dX8_row_13 : decode cX8_row 13 = .ok (.aload_n 0, 1) := by decide +kernel
theorem dX8_row_14 : decode cX8_row 14 = .ok (.iload_n 2, 1) := by decide +kernel
theorem dX8_row_15 : decode cX8_row 15 = .ok (.iconst 0, 1) := by decide +kernel
theorem dX8_row_16 : decode cX8_row 16 = .ok (.iconst 3, 1) := by decide +kernel
theorem dX8_row_17 : decode cX8_row 17 = .ok (.invokestatic 77, 3) := by decide +kernel
theorem dX8_row_20 : decode cX8_row 20 = .ok (.ifCond .ne 7, 3) := by decide +kernel
theorem dX8_row_23 : decode cX8_row 23 = .ok (.iconst 1, 1) := by decide +kernel
theorem dX8_row_24 : decode cX8_row 24 = .ok (.goto 4, 3) := by decide +kernel
theorem dX8_row_27 : decode cX8_row 27 = .ok (.iconst 0, 1) := by decide +kernel
theorem dX8_row_28 : decode cX8_row 28 = .ok (.iconst 2, 1) := by decide +kernel
theorem dX8_row_29 : decode cX8_row 29 = .ok (.invokevirtual 198, 3) := by decide +kernel
theorem dX8_row_32 : decode cX8_row 32 = .ok (.ifCond .eq 7, 3) := by decide +kernel
theorem dX8_row_35 : decode cX8_row 35 = .ok (.iconst 0, 1) := by decide +kernel
theorem dX8_row_36 : decode cX8_row 36 = .ok (.goto 9, 3) := by decide +kernel
theorem dX8_row_39 : decode cX8_row 39 = .ok (.aload_n 0, 1) := by decide +kernel
theorem dX8_row_40 : decode cX8_row 40 = .ok (.iload_n 1, 1) := by decide +kernel
theorem dX8_row_41 : decode cX8_row 41 = .ok (.iload_n 2, 1) := by decide +kernel
theorem dX8_row_42 : decode cX8_row 42 = .ok (.invokevirtual 333, 3) := by decide +kernel
theorem dX8_row_45 : decode cX8_row 45 = .ok (.ireturn, 1) := by decide +kernel
set_option maxRecDepth 20000 in
theorem ggX8_toldTile_X8_ofRow : GoodIn wsX8_toldTile wsX8_ofRow := goodIn_r _ [5, 6, 7, 8, 4, 9, 10, 11, 12, 13, 14, 15, 16, 17, 18, 19, 20, 21, 22, 23, 24, 25, 26, 27, 28, 29, 30] (by decide +kernel) (by decide +kernel)
set_option maxRecDepth 20000 in
theorem gX8_toldTile_X8_ofRow : GoodIn wsX8_toldTile (wsV RX8 218 RX8 yX8_ofRow wsX8_ofRow) := goodIn_app (goodIn_of _ (by decide +kernel)) ggX8_toldTile_X8_ofRow
theorem dX8_toldTile_0 : decode cX8_toldTile 0 = .ok (.iload_n 2, 1) := by decide +kernel
theorem dX8_toldTile_1 : decode cX8_toldTile 1 = .ok (.aload_n 0, 1) := by decide +kernel
theorem dX8_toldTile_2 : decode cX8_toldTile 2 = .ok (.iload_n 1, 1) := by decide +kernel
theorem dX8_toldTile_3 : decode cX8_toldTile 3 = .ok (.iconst 1, 1) := by decide +kernel
theorem dX8_toldTile_4 : decode cX8_toldTile 4 = .ok (.invokevirtual 218, 3) := by decide +kernel
theorem dX8_toldTile_7 : decode cX8_toldTile 7 = .ok (.if_icmp .ge 14, 3) := by decide +kernel
theorem dX8_toldTile_10 : decode cX8_toldTile 10 = .ok (.aload_n 0, 1) := by decide +kernel
theorem dX8_toldTile_11 : decode cX8_toldTile 11 = .ok (.iload_n 1, 1) := by decide +kernel
theorem dX8_toldTile_12 : decode cX8_toldTile 12 = .ok (.iconst 5, 1) := by decide +kernel
theorem dX8_toldTile_13 : decode cX8_toldTile 13 = .ok (.iload_n 2, 1) := by decide +kernel
theorem dX8_toldTile_14 : decode cX8_toldTile 14 = .ok (.iadd, 1) := by decide +kernel
theorem dX8_toldTile_15 : decode cX8_toldTile 15 = .ok (.invokevirtual 218, 3) := by decide +kernel
theorem dX8_toldTile_18 : decode cX8_toldTile 18 = .ok (.goto 4, 3) := by decide +kernel
theorem dX8_toldTile_21 : decode cX8_toldTile 21 = .ok (.iconst (-1), 1) := by decide +kernel
theorem dX8_toldTile_22 : decode cX8_toldTile 22 = .ok (.ireturn, 1) := by decide +kernel
set_option maxRecDepth 20000 in
theorem ggX8_tile_X8_noRow : GoodIn wsX8_tile wsX8_noRow := goodIn_r _ [6, 7, 8, 9, 5, 10, 11, 12, 13, 14, 1, 26, 27, 28, 29, 30, 31, 32, 33, 34, 35, 36, 37, 38, 39, 40, 41, 42, 43, 44, 45, 46] (by decide +kernel) (by decide +kernel)
set_option maxRecDepth 20000 in
theorem gX8_tile_X8_noRow : GoodIn wsX8_tile (wsV RX8 330 RX8 yX8_noRow wsX8_noRow) := goodIn_app (goodIn_of _ (by decide +kernel)) ggX8_tile_X8_noRow
set_option maxRecDepth 20000 in
theorem ggX8_tile_X8_ofRow : GoodIn wsX8_tile wsX8_ofRow := goodIn_r _ [18, 7, 19, 20, 5, 21, 26, 27, 28, 29, 30, 31, 32, 33, 34, 35, 36, 37, 38, 39, 40, 41, 42, 43, 44, 45, 46] (by decide +kernel) (by decide +kernel)
set_option maxRecDepth 20000 in
theorem gX8_tile_X8_ofRow : GoodIn wsX8_tile (wsV RX8 218 RX8 yX8_ofRow wsX8_ofRow) := goodIn_app (goodIn_of _ (by decide +kernel)) ggX8_tile_X8_ofRow
set_option maxRecDepth 20000 in
theorem ggX8_tile_X8_in : GoodIn wsX8_tile wsX8_in := goodIn_r _ [10] (by decide +kernel) (by decide +kernel)
set_option maxRecDepth 20000 in
theorem gX8_tile_X8_in : GoodIn wsX8_tile (va_wsS RX8 77 yX8_in wsX8_in) := goodIn_app (goodIn_of _ (by decide +kernel)) ggX8_tile_X8_in
set_option maxRecDepth 20000 in
theorem ggX8_tile_X8_fails : GoodIn wsX8_tile wsX8_fails := goodIn_r _ [14, 1, 26, 27, 28, 29, 30, 31, 32, 33, 34, 35, 36, 37, 38, 39, 40, 41, 42, 43, 44, 45, 46] (by decide +kernel) (by decide +kernel)
set_option maxRecDepth 20000 in
theorem gX8_tile_X8_fails : GoodIn wsX8_tile (wsV RX8 198 RX8 yX8_fails wsX8_fails) := goodIn_app (goodIn_of _ (by decide +kernel)) ggX8_tile_X8_fails
set_option maxRecDepth 20000 in
theorem ggX8_tile_X8_toldTile : GoodIn wsX8_tile wsX8_toldTile := goodIn_r _ [25, 15, 16, 17, 5, 18, 7, 19, 20, 21, 26, 27, 28, 29, 30, 31, 32, 33, 34, 35, 36, 37, 38, 39, 40, 41, 42, 43, 44, 45, 46] (by decide +kernel) (by decide +kernel)
set_option maxRecDepth 20000 in
theorem gX8_tile_X8_toldTile : GoodIn wsX8_tile (wsV RX8 336 RX8 yX8_toldTile wsX8_toldTile) := goodIn_app (goodIn_of _ (by decide +kernel)) ggX8_tile_X8_toldTile
theorem dX8_tile_0 : decode cX8_tile 0 = .ok (.aload_n 0, 1) := by decide +kernel
theorem dX8_tile_1 : decode cX8_tile 1 = .ok (.iconst 0, 1) := by decide +kernel
theorem dX8_tile_2 : decode cX8_tile 2 = .ok (.putfield 49, 3) := by decide +kernel
theorem dX8_tile_5 : decode cX8_tile 5 = .ok (.aload_n 0, 1) := by decide +kernel
theorem dX8_tile_6 : decode cX8_tile 6 = .ok (.iload_n 1, 1) := by decide +kernel
theorem dX8_tile_7 : decode cX8_tile 7 = .ok (.invokevirtual 330, 3) := by decide +kernel
theorem dX8_tile_10 : decode cX8_tile 10 = .ok (.ifCond .ne 32, 3) := by decide +kernel
theorem dX8_tile_13 : decode cX8_tile 13 = .ok (.aload_n 0, 1) := by decide +kernel
theorem dX8_tile_14 : decode cX8_tile 14 = .ok (.iload_n 2, 1) := by decide +kernel
theorem dX8_tile_15 : decode cX8_tile 15 = .ok (.iconst 0, 1) := by decide +kernel
theorem dX8_tile_16 : decode cX8_tile 16 = .ok (.aload_n 0, 1) := by decide +kernel
theorem dX8_tile_17 : decode cX8_tile 17 = .ok (.iload_n 1, 1) := by decide +kernel
theorem dX8_tile_18 : decode cX8_tile 18 = .ok (.iconst 0, 1) := by decide +kernel
theorem dX8_tile_19 : decode cX8_tile 19 = .ok (.invokevirtual 218, 3) := by decide +kernel
theorem dX8_tile_22 : decode cX8_tile 22 = .ok (.iconst 1, 1) := by decide +kernel
theorem dX8_tile_23 : decode cX8_tile 23 = .ok (.isub, 1) := by decide +kernel
theorem dX8_tile_24 : decode cX8_tile 24 = .ok (.invokestatic 77, 3) := by decide +kernel
theorem dX8_tile_27 : decode cX8_tile 27 = .ok (.ifCond .ne 7, 3) := by decide +kernel
theorem dX8_tile_30 : decode cX8_tile 30 = .ok (.iconst 1, 1) := by decide +kernel
theorem dX8_tile_31 : decode cX8_tile 31 = .ok (.goto 4, 3) := by decide +kernel
theorem dX8_tile_34 : decode cX8_tile 34 = .ok (.iconst 0, 1) := by decide +kernel
theorem dX8_tile_35 : decode cX8_tile 35 = .ok (.iconst 2, 1) := by decide +kernel
theorem dX8_tile_36 : decode cX8_tile 36 = .ok (.invokevirtual 198, 3) := by decide +kernel
theorem dX8_tile_39 : decode cX8_tile 39 = .ok (.ifCond .eq 7, 3) := by decide +kernel
theorem dX8_tile_42 : decode cX8_tile 42 = .ok (.iconst 0, 1) := by decide +kernel
theorem dX8_tile_43 : decode cX8_tile 43 = .ok (.goto 9, 3) := by decide +kernel
theorem dX8_tile_46 : decode cX8_tile 46 = .ok (.aload_n 0, 1) := by decide +kernel
theorem dX8_tile_47 : decode cX8_tile 47 = .ok (.iload_n 1, 1) := by decide +kernel
theorem dX8_tile_48 : decode cX8_tile 48 = .ok (.iload_n 2, 1) := by decide +kernel
theorem dX8_tile_49 : decode cX8_tile 49 = .ok (.invokevirtual 336, 3) := by decide +kernel
theorem dX8_tile_52 : decode cX8_tile 52 = .ok (.ireturn, 1) := by decide +kernel
set_option maxRecDepth 20000 in
theorem ggX8_owned_X8_ofRow : GoodIn wsX8_owned wsX8_ofRow := goodIn_r _ [6, 1, 7, 8, 5, 9, 10, 11, 12, 13, 14, 15, 16, 17, 18, 19, 20, 21, 22, 23, 24, 25, 26, 27, 28, 29, 30] (by decide +kernel) (by decide +kernel)
set_option maxRecDepth 20000 in
theorem gX8_owned_X8_ofRow : GoodIn wsX8_owned (wsV RX8 218 RX8 yX8_ofRow wsX8_ofRow) := goodIn_app (goodIn_of _ (by decide +kernel)) ggX8_owned_X8_ofRow
theorem dX8_owned_0 : decode cX8_owned 0 = .ok (.iconst 0, 1) := by decide +kernel
theorem dX8_owned_1 : decode cX8_owned 1 = .ok (.istore_n 2, 1) := by decide +kernel
theorem dX8_owned_2 : decode cX8_owned 2 = .ok (.iconst 0, 1) := by decide +kernel
theorem dX8_owned_3 : decode cX8_owned 3 = .ok (.istore_n 3, 1) := by decide +kernel
theorem dX8_owned_4 : decode cX8_owned 4 = .ok (.iload_n 3, 1) := by decide +kernel
theorem dX8_owned_5 : decode cX8_owned 5 = .ok (.aload_n 0, 1) := by decide +kernel
theorem dX8_owned_6 : decode cX8_owned 6 = .ok (.getfield 17, 3) := by decide +kernel
theorem dX8_owned_9 : decode cX8_owned 9 = .ok (.iconst 0, 1) := by decide +kernel
theorem dX8_owned_10 : decode cX8_owned 10 = .ok (.iaload, 1) := by decide +kernel
theorem dX8_owned_11 : decode cX8_owned 11 = .ok (.if_icmp .ge 27, 3) := by decide +kernel
theorem dX8_owned_14 : decode cX8_owned 14 = .ok (.iload_n 2, 1) := by decide +kernel
theorem dX8_owned_15 : decode cX8_owned 15 = .ok (.aload_n 0, 1) := by decide +kernel
theorem dX8_owned_16 : decode cX8_owned 16 = .ok (.iload_n 3, 1) := by decide +kernel
theorem dX8_owned_17 : decode cX8_owned 17 = .ok (.iconst 3, 1) := by decide +kernel
theorem dX8_owned_18 : decode cX8_owned 18 = .ok (.invokevirtual 218, 3) := by decide +kernel
theorem dX8_owned_21 : decode cX8_owned 21 = .ok (.iload_n 1, 1) := by decide +kernel
theorem dX8_owned_22 : decode cX8_owned 22 = .ok (.if_icmp .ne 7, 3) := by decide +kernel
theorem dX8_owned_25 : decode cX8_owned 25 = .ok (.iconst 1, 1) := by decide +kernel
theorem dX8_owned_26 : decode cX8_owned 26 = .ok (.goto 4, 3) := by decide +kernel
theorem dX8_owned_29 : decode cX8_owned 29 = .ok (.iconst 0, 1) := by decide +kernel
theorem dX8_owned_30 : decode cX8_owned 30 = .ok (.iadd, 1) := by decide +kernel
theorem dX8_owned_31 : decode cX8_owned 31 = .ok (.istore_n 2, 1) := by decide +kernel
theorem dX8_owned_32 : decode cX8_owned 32 = .ok (.iinc 3 1, 3) := by decide +kernel
theorem dX8_owned_35 : decode cX8_owned 35 = .ok (.goto (-31), 3) := by decide +kernel
theorem dX8_owned_38 : decode cX8_owned 38 = .ok (.iload_n 2, 1) := by decide +kernel
theorem dX8_owned_39 : decode cX8_owned 39 = .ok (.ireturn, 1) := by decide +kernel
set_option maxRecDepth 20000 in
theorem ggX8_toldPlayer_X8_ofPlayer : GoodIn wsX8_toldPlayer wsX8_ofPlayer := goodIn_r _ [5, 6, 7, 8, 4, 9, 32, 33, 34, 35, 36, 37, 38, 39, 40, 41, 42, 43, 44, 45, 46, 47, 48, 49, 50, 51, 52] (by decide +kernel) (by decide +kernel)
set_option maxRecDepth 20000 in
theorem gX8_toldPlayer_X8_ofPlayer : GoodIn wsX8_toldPlayer (wsV RX8 266 RX8 yX8_ofPlayer wsX8_ofPlayer) := goodIn_app (goodIn_of _ (by decide +kernel)) ggX8_toldPlayer_X8_ofPlayer
set_option maxRecDepth 20000 in
theorem ggX8_toldPlayer_X8_lettersOf : GoodIn wsX8_toldPlayer wsX8_lettersOf := goodIn_r _ [13, 14, 15, 16, 4, 17, 6, 18, 19, 20, 7, 8, 9, 32, 33, 34, 35, 36, 37, 38, 39, 40, 41, 42, 43, 44, 45, 46, 47, 48, 49, 50, 51, 52] (by decide +kernel) (by decide +kernel)
set_option maxRecDepth 20000 in
theorem gX8_toldPlayer_X8_lettersOf : GoodIn wsX8_toldPlayer (wsV RX8 300 RX8 yX8_lettersOf wsX8_lettersOf) := goodIn_app (goodIn_of _ (by decide +kernel)) ggX8_toldPlayer_X8_lettersOf
set_option maxRecDepth 20000 in
theorem ggX8_toldPlayer_X8_owned : GoodIn wsX8_toldPlayer wsX8_owned := goodIn_r _ [24, 6, 25, 26, 27, 4, 28, 29, 30, 31, 32, 33, 34, 35, 36, 37, 38, 39, 40, 41, 42, 43, 44, 45, 46, 47, 48, 49, 50, 51, 52] (by decide +kernel) (by decide +kernel)
set_option maxRecDepth 20000 in
theorem gX8_toldPlayer_X8_owned : GoodIn wsX8_toldPlayer (wsV RX8 339 RX8 yX8_owned wsX8_owned) := goodIn_app (goodIn_of _ (by decide +kernel)) ggX8_toldPlayer_X8_owned
theorem dX8_toldPlayer_0 : decode cX8_toldPlayer 0 = .ok (.iload_n 2, 1) := by decide +kernel
theorem dX8_toldPlayer_1 : decode cX8_toldPlayer 1 = .ok (.tableswitch 57 0 2 #[27, 34, 50], 27) := by decide +kernel
theorem dX8_toldPlayer_28 : decode cX8_toldPlayer 28 = .ok (.aload_n 0, 1) := by decide +kernel
theorem dX8_toldPlayer_29 : decode cX8_toldPlayer 29 = .ok (.iload_n 1, 1) := by decide +kernel
theorem dX8_toldPlayer_30 : decode cX8_toldPlayer 30 = .ok (.iconst 1, 1) := by decide +kernel
theorem dX8_toldPlayer_31 : decode cX8_toldPlayer 31 = .ok (.invokevirtual 266, 3) := by decide +kernel
theorem dX8_toldPlayer_34 : decode cX8_toldPlayer 34 = .ok (.ireturn, 1) := by decide +kernel
theorem dX8_toldPlayer_35 : decode cX8_toldPlayer 35 = .ok (.aload_n 0, 1) := by decide +kernel
theorem dX8_toldPlayer_36 : decode cX8_toldPlayer 36 = .ok (.iload_n 1, 1) := by decide +kernel
theorem dX8_toldPlayer_37 : decode cX8_toldPlayer 37 = .ok (.iconst 1, 1) := by decide +kernel
theorem dX8_toldPlayer_38 : decode cX8_toldPlayer 38 = .ok (.aload_n 0, 1) := by decide +kernel
theorem dX8_toldPlayer_39 : decode cX8_toldPlayer 39 = .ok (.iload_n 1, 1) := by decide +kernel
theorem dX8_toldPlayer_40 : decode cX8_toldPlayer 40 = .ok (.iconst 1, 1) := by decide +kernel
theorem dX8_toldPlayer_41 : decode cX8_toldPlayer 41 = .ok (.invokevirtual 266, 3) := by decide +kernel
theorem dX8_toldPlayer_44 : decode cX8_toldPlayer 44 = .ok (.ishl, 1) := by decide +kernel
theorem dX8_toldPlayer_45 : decode cX8_toldPlayer 45 = .ok (.iconst 1, 1) := by decide +kernel
theorem dX8_toldPlayer_46 : decode cX8_toldPlayer 46 = .ok (.isub, 1) := by decide +kernel
theorem dX8_toldPlayer_47 : decode cX8_toldPlayer 47 = .ok (.invokevirtual 300, 3) := by decide +kernel
theorem dX8_toldPlayer_50 : decode cX8_toldPlayer 50 = .ok (.ireturn, 1) := by decide +kernel
theorem dX8_toldPlayer_51 : decode cX8_toldPlayer 51 = .ok (.aload_n 0, 1) := by decide +kernel
theorem dX8_toldPlayer_52 : decode cX8_toldPlayer 52 = .ok (.iload_n 1, 1) := by decide +kernel
theorem dX8_toldPlayer_53 : decode cX8_toldPlayer 53 = .ok (.iconst 0, 1) := by decide +kernel
theorem dX8_toldPlayer_54 : decode cX8_toldPlayer 54 = .ok (.invokevirtual 266, 3) := by decide +kernel
theorem dX8_toldPlayer_57 : decode cX8_toldPlayer 57 = .ok (.ireturn, 1) := by decide +kernel
theorem dX8_toldPlayer_58 : decode cX8_toldPlayer 58 = .ok (.aload_n 0, 1) := by decide +kernel
theorem dX8_toldPlayer_59 : decode cX8_toldPlayer 59 = .ok (.iload_n 1, 1) := by decide +kernel
theorem dX8_toldPlayer_60 : decode cX8_toldPlayer 60 = .ok (.invokevirtual 339, 3) := by decide +kernel
theorem dX8_toldPlayer_63 : decode cX8_toldPlayer 63 = .ok (.ireturn, 1) := by decide +kernel
set_option maxRecDepth 20000 in
theorem ggX8_player_X8_noPlayer : GoodIn wsX8_player wsX8_noPlayer := goodIn_r _ [6, 7, 8, 9, 5, 10, 11, 12, 13, 14, 1, 48, 49, 50, 51, 52, 53, 54, 55, 56, 57, 58, 59, 60, 61, 62, 63, 64, 65, 66, 67, 68] (by decide +kernel) (by decide +kernel)
set_option maxRecDepth 20000 in
theorem gX8_player_X8_noPlayer : GoodIn wsX8_player (wsV RX8 315 RX8 yX8_noPlayer wsX8_noPlayer) := goodIn_app (goodIn_of _ (by decide +kernel)) ggX8_player_X8_noPlayer
set_option maxRecDepth 20000 in
theorem ggX8_player_X8_in : GoodIn wsX8_player wsX8_in := goodIn_r _ [10] (by decide +kernel) (by decide +kernel)
set_option maxRecDepth 20000 in
theorem gX8_player_X8_in : GoodIn wsX8_player (va_wsS RX8 77 yX8_in wsX8_in) := goodIn_app (goodIn_of _ (by decide +kernel)) ggX8_player_X8_in
set_option maxRecDepth 20000 in
theorem ggX8_player_X8_fails : GoodIn wsX8_player wsX8_fails := goodIn_r _ [14, 1, 48, 49, 50, 51, 52, 53, 54, 55, 56, 57, 58, 59, 60, 61, 62, 63, 64, 65, 66, 67, 68] (by decide +kernel) (by decide +kernel)
set_option maxRecDepth 20000 in
theorem gX8_player_X8_fails : GoodIn wsX8_player (wsV RX8 198 RX8 yX8_fails wsX8_fails) := goodIn_app (goodIn_of _ (by decide +kernel)) ggX8_player_X8_fails
set_option maxRecDepth 20000 in
theorem ggX8_player_X8_toldPlayer : GoodIn wsX8_player wsX8_toldPlayer := goodIn_r _ [18, 19, 20, 21, 5, 22, 7, 23, 24, 25, 26, 27, 28, 29, 30, 31, 32, 33, 34, 35, 36, 37, 38, 39, 40, 41, 42, 43, 44, 45, 46, 47, 48, 49, 50, 51, 52, 53, 54, 55, 56, 57, 58, 59, 60, 61, 62, 63, 64, 65, 66, 67, 68] (by decide +kernel) (by decide +kernel)
set_option maxRecDepth 20000 in
theorem gX8_player_X8_toldPlayer : GoodIn wsX8_player (wsV RX8 342 RX8 yX8_toldPlayer wsX8_toldPlayer) := goodIn_app (goodIn_of _ (by decide +kernel)) ggX8_player_X8_toldPlayer
theorem dX8_player_0 : decode cX8_player 0 = .ok (.aload_n 0, 1) := by decide +kernel
theorem dX8_player_1 : decode cX8_player 1 = .ok (.iconst 0, 1) := by decide +kernel
theorem dX8_player_2 : decode cX8_player 2 = .ok (.putfield 49, 3) := by decide +kernel
theorem dX8_player_5 : decode cX8_player 5 = .ok (.aload_n 0, 1) := by decide +kernel
theorem dX8_player_6 : decode cX8_player 6 = .ok (.iload_n 1, 1) := by decide +kernel
theorem dX8_player_7 : decode cX8_player 7 = .ok (.invokevirtual 315, 3) := by decide +kernel
theorem dX8_player_10 : decode cX8_player 10 = .ok (.ifCond .ne 25, 3) := by decide +kernel
theorem dX8_player_13 : decode cX8_player 13 = .ok (.aload_n 0, 1) := by decide +kernel
theorem dX8_player_14 : decode cX8_player 14 = .ok (.iload_n 2, 1) := by decide +kernel
theorem dX8_player_15 : decode cX8_player 15 = .ok (.iconst 0, 1) := by decide +kernel
theorem dX8_player_16 : decode cX8_player 16 = .ok (.iconst 3, 1) := by decide +kernel
theorem dX8_player_17 : decode cX8_player 17 = .ok (.invokestatic 77, 3) := by decide +kernel
theorem dX8_player_20 : decode cX8_player 20 = .ok (.ifCond .ne 7, 3) := by decide +kernel
theorem dX8_player_23 : decode cX8_player 23 = .ok (.iconst 1, 1) := by decide +kernel
theorem dX8_player_24 : decode cX8_player 24 = .ok (.goto 4, 3) := by decide +kernel
theorem dX8_player_27 : decode cX8_player 27 = .ok (.iconst 0, 1) := by decide +kernel
theorem dX8_player_28 : decode cX8_player 28 = .ok (.iconst 2, 1) := by decide +kernel
theorem dX8_player_29 : decode cX8_player 29 = .ok (.invokevirtual 198, 3) := by decide +kernel
theorem dX8_player_32 : decode cX8_player 32 = .ok (.ifCond .eq 7, 3) := by decide +kernel
theorem dX8_player_35 : decode cX8_player 35 = .ok (.iconst 0, 1) := by decide +kernel
theorem dX8_player_36 : decode cX8_player 36 = .ok (.goto 9, 3) := by decide +kernel
theorem dX8_player_39 : decode cX8_player 39 = .ok (.aload_n 0, 1) := by decide +kernel
theorem dX8_player_40 : decode cX8_player 40 = .ok (.iload_n 1, 1) := by decide +kernel
theorem dX8_player_41 : decode cX8_player 41 = .ok (.iload_n 2, 1) := by decide +kernel
theorem dX8_player_42 : decode cX8_player 42 = .ok (.invokevirtual 342, 3) := by decide +kernel
theorem dX8_player_45 : decode cX8_player 45 = .ok (.ireturn, 1) := by decide +kernel
set_option maxRecDepth 20000 in
theorem ggX8_letter_X8_noWord : GoodIn wsX8_letter wsX8_noWord := goodIn_r _ [7, 8, 9, 10, 6, 11, 2, 12, 13, 14, 15, 16, 17, 18, 1, 19, 20, 21, 22, 23, 24, 25, 33, 34, 35, 36, 37, 38, 39, 40, 41, 42, 43, 44, 45, 46, 47, 48, 49, 50, 51, 52, 53] (by decide +kernel) (by decide +kernel)
set_option maxRecDepth 20000 in
theorem gX8_letter_X8_noWord : GoodIn wsX8_letter (wsV RX8 345 RX8 yX8_noWord wsX8_noWord) := goodIn_app (goodIn_of _ (by decide +kernel)) ggX8_letter_X8_noWord
set_option maxRecDepth 20000 in
theorem ggX8_letter_X8_lengthOf : GoodIn wsX8_letter wsX8_lengthOf := goodIn_r _ [29, 2, 30, 31, 6, 32, 23, 24, 25, 33, 34, 35, 36, 37, 38, 39, 40, 41, 42, 43, 44, 45, 46, 47, 48, 49, 50, 51, 52, 53] (by decide +kernel) (by decide +kernel)
set_option maxRecDepth 20000 in
theorem gX8_letter_X8_lengthOf : GoodIn wsX8_letter (wsV RX8 225 RX8 yX8_lengthOf wsX8_lengthOf) := goodIn_app (goodIn_of _ (by decide +kernel)) ggX8_letter_X8_lengthOf
set_option maxRecDepth 20000 in
theorem ggX8_letter_X8_in : GoodIn wsX8_letter wsX8_in := goodIn_r _ [14] (by decide +kernel) (by decide +kernel)
set_option maxRecDepth 20000 in
theorem gX8_letter_X8_in : GoodIn wsX8_letter (va_wsS RX8 77 yX8_in wsX8_in) := goodIn_app (goodIn_of _ (by decide +kernel)) ggX8_letter_X8_in
set_option maxRecDepth 20000 in
theorem ggX8_letter_X8_fails : GoodIn wsX8_letter wsX8_fails := goodIn_r _ [18, 1, 33, 34, 35, 36, 37, 38, 39, 40, 41, 42, 43, 44, 45, 46, 47, 48, 49, 50, 51, 52, 53] (by decide +kernel) (by decide +kernel)
set_option maxRecDepth 20000 in
theorem gX8_letter_X8_fails : GoodIn wsX8_letter (wsV RX8 198 RX8 yX8_fails wsX8_fails) := goodIn_app (goodIn_of _ (by decide +kernel)) ggX8_letter_X8_fails
set_option maxRecDepth 20000 in
theorem ggX8_letter_X8_wordAt : GoodIn wsX8_letter wsX8_wordAt := goodIn_r _ [32, 23, 24, 6, 25] (by decide +kernel) (by decide +kernel)
set_option maxRecDepth 20000 in
theorem gX8_letter_X8_wordAt : GoodIn wsX8_letter (va_wsS RX8 161 yX8_wordAt wsX8_wordAt) := goodIn_app (goodIn_of _ (by decide +kernel)) ggX8_letter_X8_wordAt
theorem dX8_letter_0 : decode cX8_letter 0 = .ok (.aload_n 0, 1) := by decide +kernel
theorem dX8_letter_1 : decode cX8_letter 1 = .ok (.iconst 0, 1) := by decide +kernel
theorem dX8_letter_2 : decode cX8_letter 2 = .ok (.putfield 49, 3) := by decide +kernel
theorem dX8_letter_5 : decode cX8_letter 5 = .ok (.aload_n 0, 1) := by decide +kernel
theorem dX8_letter_6 : decode cX8_letter 6 = .ok (.iload_n 1, 1) := by decide +kernel
theorem dX8_letter_7 : decode cX8_letter 7 = .ok (.iload_n 2, 1) := by decide +kernel
theorem dX8_letter_8 : decode cX8_letter 8 = .ok (.invokevirtual 345, 3) := by decide +kernel
theorem dX8_letter_11 : decode cX8_letter 11 = .ok (.ifCond .ne 32, 3) := by decide +kernel
theorem dX8_letter_14 : decode cX8_letter 14 = .ok (.aload_n 0, 1) := by decide +kernel
theorem dX8_letter_15 : decode cX8_letter 15 = .ok (.iload_n 3, 1) := by decide +kernel
theorem dX8_letter_16 : decode cX8_letter 16 = .ok (.iconst 0, 1) := by decide +kernel
theorem dX8_letter_17 : decode cX8_letter 17 = .ok (.aload_n 0, 1) := by decide +kernel
theorem dX8_letter_18 : decode cX8_letter 18 = .ok (.iload_n 1, 1) := by decide +kernel
theorem dX8_letter_19 : decode cX8_letter 19 = .ok (.iload_n 2, 1) := by decide +kernel
theorem dX8_letter_20 : decode cX8_letter 20 = .ok (.invokevirtual 225, 3) := by decide +kernel
theorem dX8_letter_23 : decode cX8_letter 23 = .ok (.iconst 1, 1) := by decide +kernel
theorem dX8_letter_24 : decode cX8_letter 24 = .ok (.isub, 1) := by decide +kernel
theorem dX8_letter_25 : decode cX8_letter 25 = .ok (.invokestatic 77, 3) := by decide +kernel
theorem dX8_letter_28 : decode cX8_letter 28 = .ok (.ifCond .ne 7, 3) := by decide +kernel
theorem dX8_letter_31 : decode cX8_letter 31 = .ok (.iconst 1, 1) := by decide +kernel
theorem dX8_letter_32 : decode cX8_letter 32 = .ok (.goto 4, 3) := by decide +kernel
theorem dX8_letter_35 : decode cX8_letter 35 = .ok (.iconst 0, 1) := by decide +kernel
theorem dX8_letter_36 : decode cX8_letter 36 = .ok (.iconst 2, 1) := by decide +kernel
theorem dX8_letter_37 : decode cX8_letter 37 = .ok (.invokevirtual 198, 3) := by decide +kernel
theorem dX8_letter_40 : decode cX8_letter 40 = .ok (.ifCond .eq 7, 3) := by decide +kernel
theorem dX8_letter_43 : decode cX8_letter 43 = .ok (.iconst 0, 1) := by decide +kernel
theorem dX8_letter_44 : decode cX8_letter 44 = .ok (.goto 17, 3) := by decide +kernel
theorem dX8_letter_47 : decode cX8_letter 47 = .ok (.aload_n 0, 1) := by decide +kernel
theorem dX8_letter_48 : decode cX8_letter 48 = .ok (.getfield 17, 3) := by decide +kernel
theorem dX8_letter_51 : decode cX8_letter 51 = .ok (.iload_n 1, 1) := by decide +kernel
theorem dX8_letter_52 : decode cX8_letter 52 = .ok (.iload_n 2, 1) := by decide +kernel
theorem dX8_letter_53 : decode cX8_letter 53 = .ok (.invokestatic 161, 3) := by decide +kernel
theorem dX8_letter_56 : decode cX8_letter 56 = .ok (.iconst 1, 1) := by decide +kernel
theorem dX8_letter_57 : decode cX8_letter 57 = .ok (.iadd, 1) := by decide +kernel
theorem dX8_letter_58 : decode cX8_letter 58 = .ok (.iload_n 3, 1) := by decide +kernel
theorem dX8_letter_59 : decode cX8_letter 59 = .ok (.iadd, 1) := by decide +kernel
theorem dX8_letter_60 : decode cX8_letter 60 = .ok (.iaload, 1) := by decide +kernel
theorem dX8_letter_61 : decode cX8_letter 61 = .ok (.ireturn, 1) := by decide +kernel
set_option maxRecDepth 20000 in
theorem ggX8_alike_X8_in : GoodIn wsX8_alike wsX8_in := goodIn_r _ [5] (by decide +kernel) (by decide +kernel)
set_option maxRecDepth 20000 in
theorem gX8_alike_X8_in : GoodIn wsX8_alike (va_wsS RX8 77 yX8_in wsX8_in) := goodIn_app (goodIn_of _ (by decide +kernel)) ggX8_alike_X8_in
set_option maxRecDepth 20000 in
theorem ggX8_alike_X8_fails : GoodIn wsX8_alike wsX8_fails := goodIn_r _ [9, 1, 15, 16, 17, 18, 19, 20, 21, 22, 23, 24, 25, 26, 27, 28, 29, 30, 31, 32, 33, 34, 35] (by decide +kernel) (by decide +kernel)
set_option maxRecDepth 20000 in
theorem gX8_alike_X8_fails : GoodIn wsX8_alike (wsV RX8 198 RX8 yX8_fails wsX8_fails) := goodIn_app (goodIn_of _ (by decide +kernel)) ggX8_alike_X8_fails
set_option maxRecDepth 20000 in
theorem ggX8_alike_X8_areAlike : GoodIn wsX8_alike wsX8_areAlike := goodIn_r _ [13, 14, 15, 16, 17, 18, 19, 20, 21, 22, 23, 24, 25, 26, 27, 28, 29, 30, 31, 32, 33, 34, 35] (by decide +kernel) (by decide +kernel)
set_option maxRecDepth 20000 in
theorem gX8_alike_X8_areAlike : GoodIn wsX8_alike (wsV RX8 221 RX8 yX8_areAlike wsX8_areAlike) := goodIn_app (goodIn_of _ (by decide +kernel)) ggX8_alike_X8_areAlike
theorem dX8_alike_0 : decode cX8_alike 0 = .ok (.aload_n 0, 1) := by decide +kernel
theorem dX8_alike_1 : decode cX8_alike 1 = .ok (.iconst 0, 1) := by decide +kernel
theorem dX8_alike_2 : decode cX8_alike 2 = .ok (.putfield 49, 3) := by decide +kernel
theorem dX8_alike_5 : decode cX8_alike 5 = .ok (.aload_n 0, 1) := by decide +kernel
theorem dX8_alike_6 : decode cX8_alike 6 = .ok (.iload_n 1, 1) := by decide +kernel
theorem dX8_alike_7 : decode cX8_alike 7 = .ok (.iconst 0, 1) := by decide +kernel
theorem dX8_alike_8 : decode cX8_alike 8 = .ok (.bipush 25, 2) := by decide +kernel
theorem dX8_alike_10 : decode cX8_alike 10 = .ok (.invokestatic 77, 3) := by decide +kernel
theorem dX8_alike_13 : decode cX8_alike 13 = .ok (.ifCond .eq 13, 3) := by decide +kernel
theorem dX8_alike_16 : decode cX8_alike 16 = .ok (.iload_n 2, 1) := by decide +kernel
theorem dX8_alike_17 : decode cX8_alike 17 = .ok (.iconst 0, 1) := by decide +kernel
theorem dX8_alike_18 : decode cX8_alike 18 = .ok (.bipush 25, 2) := by decide +kernel
theorem dX8_alike_20 : decode cX8_alike 20 = .ok (.invokestatic 77, 3) := by decide +kernel
theorem dX8_alike_23 : decode cX8_alike 23 = .ok (.ifCond .ne 7, 3) := by decide +kernel
theorem dX8_alike_26 : decode cX8_alike 26 = .ok (.iconst 1, 1) := by decide +kernel
theorem dX8_alike_27 : decode cX8_alike 27 = .ok (.goto 4, 3) := by decide +kernel
theorem dX8_alike_30 : decode cX8_alike 30 = .ok (.iconst 0, 1) := by decide +kernel
theorem dX8_alike_31 : decode cX8_alike 31 = .ok (.iconst 1, 1) := by decide +kernel
theorem dX8_alike_32 : decode cX8_alike 32 = .ok (.invokevirtual 198, 3) := by decide +kernel
theorem dX8_alike_35 : decode cX8_alike 35 = .ok (.ifCond .ne 16, 3) := by decide +kernel
theorem dX8_alike_38 : decode cX8_alike 38 = .ok (.aload_n 0, 1) := by decide +kernel
theorem dX8_alike_39 : decode cX8_alike 39 = .ok (.iload_n 1, 1) := by decide +kernel
theorem dX8_alike_40 : decode cX8_alike 40 = .ok (.iload_n 2, 1) := by decide +kernel
theorem dX8_alike_41 : decode cX8_alike 41 = .ok (.invokevirtual 221, 3) := by decide +kernel
theorem dX8_alike_44 : decode cX8_alike 44 = .ok (.ifCond .eq 7, 3) := by decide +kernel
theorem dX8_alike_47 : decode cX8_alike 47 = .ok (.iconst 1, 1) := by decide +kernel
theorem dX8_alike_48 : decode cX8_alike 48 = .ok (.goto 4, 3) := by decide +kernel
theorem dX8_alike_51 : decode cX8_alike 51 = .ok (.iconst 0, 1) := by decide +kernel
theorem dX8_alike_52 : decode cX8_alike 52 = .ok (.ireturn, 1) := by decide +kernel
set_option maxRecDepth 20000 in
theorem ggX8_rhyme_X8_noWord : GoodIn wsX8_rhyme wsX8_noWord := goodIn_r _ [6, 7, 8, 9, 5, 10, 11, 12, 13, 14, 15, 16, 17, 18, 1, 19, 20, 21, 22, 23, 24, 25, 63, 64, 65, 66, 67, 68, 69, 70, 71, 72, 73, 74, 75, 76, 77, 78, 79, 80, 81, 82, 83] (by decide +kernel) (by decide +kernel)
set_option maxRecDepth 20000 in
theorem gX8_rhyme_X8_noWord : GoodIn wsX8_rhyme (wsV RX8 345 RX8 yX8_noWord wsX8_noWord) := goodIn_app (goodIn_of _ (by decide +kernel)) ggX8_rhyme_X8_noWord
set_option maxRecDepth 20000 in
theorem ggX8_rhyme_X8_noRow : GoodIn wsX8_rhyme wsX8_noRow := goodIn_r _ [29, 11, 12, 13, 5, 14, 15, 16, 17, 18, 1, 63, 64, 65, 66, 67, 68, 69, 70, 71, 72, 73, 74, 75, 76, 77, 78, 79, 80, 81, 82, 83] (by decide +kernel) (by decide +kernel)
set_option maxRecDepth 20000 in
theorem gX8_rhyme_X8_noRow : GoodIn wsX8_rhyme (wsV RX8 330 RX8 yX8_noRow wsX8_noRow) := goodIn_app (goodIn_of _ (by decide +kernel)) ggX8_rhyme_X8_noRow
set_option maxRecDepth 20000 in
theorem ggX8_rhyme_X8_ofRow : GoodIn wsX8_rhyme wsX8_ofRow := goodIn_r _ [33, 11, 34, 35, 5, 36, 63, 64, 65, 66, 67, 68, 69, 70, 71, 72, 73, 74, 75, 76, 77, 78, 79, 80, 81, 82, 83] (by decide +kernel) (by decide +kernel)
set_option maxRecDepth 20000 in
theorem gX8_rhyme_X8_ofRow : GoodIn wsX8_rhyme (wsV RX8 218 RX8 yX8_ofRow wsX8_ofRow) := goodIn_app (goodIn_of _ (by decide +kernel)) ggX8_rhyme_X8_ofRow
set_option maxRecDepth 20000 in
theorem ggX8_rhyme_X8_rhymeWith : GoodIn wsX8_rhyme wsX8_rhymeWith := goodIn_r _ [40, 41, 42, 5, 43, 23, 24, 25, 44, 45, 46, 47, 11, 48, 49, 50, 51, 34, 35, 36, 30, 31, 32, 33, 52, 53, 54, 55, 56, 57, 58, 59, 60, 61, 62, 63, 64, 65, 66, 67, 68, 69, 70, 71, 72, 73, 74, 75, 76, 77, 78, 79, 80, 81, 82, 83] (by decide +kernel) (by decide +kernel)
set_option maxRecDepth 20000 in
theorem gX8_rhyme_X8_rhymeWith : GoodIn wsX8_rhyme (wsV RX8 245 RX8 yX8_rhymeWith wsX8_rhymeWith) := goodIn_app (goodIn_of _ (by decide +kernel)) ggX8_rhyme_X8_rhymeWith
theorem dX8_rhyme_0 : decode cX8_rhyme 0 = .ok (.aload_n 0, 1) := by decide +kernel
theorem dX8_rhyme_1 : decode cX8_rhyme 1 = .ok (.iconst 0, 1) := by decide +kernel
theorem dX8_rhyme_2 : decode cX8_rhyme 2 = .ok (.putfield 49, 3) := by decide +kernel
theorem dX8_rhyme_5 : decode cX8_rhyme 5 = .ok (.aload_n 0, 1) := by decide +kernel
theorem dX8_rhyme_6 : decode cX8_rhyme 6 = .ok (.iload_n 1, 1) := by decide +kernel
theorem dX8_rhyme_7 : decode cX8_rhyme 7 = .ok (.iload_n 2, 1) := by decide +kernel
theorem dX8_rhyme_8 : decode cX8_rhyme 8 = .ok (.invokevirtual 345, 3) := by decide +kernel
theorem dX8_rhyme_11 : decode cX8_rhyme 11 = .ok (.ifCond .ne 11, 3) := by decide +kernel
theorem dX8_rhyme_14 : decode cX8_rhyme 14 = .ok (.aload_n 0, 1) := by decide +kernel
theorem dX8_rhyme_15 : decode cX8_rhyme 15 = .ok (.iload_n 3, 1) := by decide +kernel
theorem dX8_rhyme_16 : decode cX8_rhyme 16 = .ok (.invokevirtual 330, 3) := by decide +kernel
theorem dX8_rhyme_19 : decode cX8_rhyme 19 = .ok (.ifCond .eq 5, 3) := by decide +kernel
theorem dX8_rhyme_22 : decode cX8_rhyme 22 = .ok (.iconst 0, 1) := by decide +kernel
theorem dX8_rhyme_23 : decode cX8_rhyme 23 = .ok (.ireturn, 1) := by decide +kernel
theorem dX8_rhyme_24 : decode cX8_rhyme 24 = .ok (.aload_n 0, 1) := by decide +kernel
theorem dX8_rhyme_25 : decode cX8_rhyme 25 = .ok (.iload_n 3, 1) := by decide +kernel
theorem dX8_rhyme_26 : decode cX8_rhyme 26 = .ok (.iconst 2, 1) := by decide +kernel
theorem dX8_rhyme_27 : decode cX8_rhyme 27 = .ok (.invokevirtual 218, 3) := by decide +kernel
theorem dX8_rhyme_30 : decode cX8_rhyme 30 = .ok (.ifCond .ne 7, 3) := by decide +kernel
theorem dX8_rhyme_33 : decode cX8_rhyme 33 = .ok (.iconst (-1), 1) := by decide +kernel
theorem dX8_rhyme_34 : decode cX8_rhyme 34 = .ok (.goto 10, 3) := by decide +kernel
theorem dX8_rhyme_37 : decode cX8_rhyme 37 = .ok (.aload_n 0, 1) := by decide +kernel
theorem dX8_rhyme_38 : decode cX8_rhyme 38 = .ok (.iload_n 1, 1) := by decide +kernel
theorem dX8_rhyme_39 : decode cX8_rhyme 39 = .ok (.iload_n 2, 1) := by decide +kernel
theorem dX8_rhyme_40 : decode cX8_rhyme 40 = .ok (.iload_n 3, 1) := by decide +kernel
theorem dX8_rhyme_41 : decode cX8_rhyme 41 = .ok (.invokevirtual 245, 3) := by decide +kernel
theorem dX8_rhyme_44 : decode cX8_rhyme 44 = .ok (.ireturn, 1) := by decide +kernel
set_option maxRecDepth 20000 in
theorem ggX8_noPlay_X8_noWord : GoodIn wsX8_noPlay wsX8_noWord := goodIn_r _ [6, 7, 8, 9, 5, 10, 1, 11, 12, 13, 14, 15, 16, 17, 18, 19, 20, 21, 22, 23, 24, 25, 30, 31, 32, 33, 34, 35, 36, 37, 38, 39, 40, 41, 42, 43, 44, 45, 46, 47, 48, 49, 50] (by decide +kernel) (by decide +kernel)
set_option maxRecDepth 20000 in
theorem gX8_noPlay_X8_noWord : GoodIn wsX8_noPlay (wsV RX8 345 RX8 yX8_noWord wsX8_noWord) := goodIn_app (goodIn_of _ (by decide +kernel)) ggX8_noPlay_X8_noWord
set_option maxRecDepth 20000 in
theorem ggX8_noPlay_X8_noRow : GoodIn wsX8_noPlay wsX8_noRow := goodIn_r _ [29, 1, 11, 12, 5, 13, 14, 15, 16, 17, 18, 30, 31, 32, 33, 34, 35, 36, 37, 38, 39, 40, 41, 42, 43, 44, 45, 46, 47, 48, 49, 50] (by decide +kernel) (by decide +kernel)
set_option maxRecDepth 20000 in
theorem gX8_noPlay_X8_noRow : GoodIn wsX8_noPlay (wsV RX8 330 RX8 yX8_noRow wsX8_noRow) := goodIn_app (goodIn_of _ (by decide +kernel)) ggX8_noPlay_X8_noRow
theorem dX8_noPlay_0 : decode cX8_noPlay 0 = .ok (.aload_n 0, 1) := by decide +kernel
theorem dX8_noPlay_1 : decode cX8_noPlay 1 = .ok (.aload_n 0, 1) := by decide +kernel
theorem dX8_noPlay_2 : decode cX8_noPlay 2 = .ok (.getfield 17, 3) := by decide +kernel
theorem dX8_noPlay_5 : decode cX8_noPlay 5 = .ok (.iconst 5, 1) := by decide +kernel
theorem dX8_noPlay_6 : decode cX8_noPlay 6 = .ok (.iaload, 1) := by decide +kernel
theorem dX8_noPlay_7 : decode cX8_noPlay 7 = .ok (.iload_n 1, 1) := by decide +kernel
theorem dX8_noPlay_8 : decode cX8_noPlay 8 = .ok (.invokevirtual 345, 3) := by decide +kernel
theorem dX8_noPlay_11 : decode cX8_noPlay 11 = .ok (.ifCond .ne 11, 3) := by decide +kernel
theorem dX8_noPlay_14 : decode cX8_noPlay 14 = .ok (.aload_n 0, 1) := by decide +kernel
theorem dX8_noPlay_15 : decode cX8_noPlay 15 = .ok (.iload_n 2, 1) := by decide +kernel
theorem dX8_noPlay_16 : decode cX8_noPlay 16 = .ok (.invokevirtual 330, 3) := by decide +kernel
theorem dX8_noPlay_19 : decode cX8_noPlay 19 = .ok (.ifCond .eq 7, 3) := by decide +kernel
theorem dX8_noPlay_22 : decode cX8_noPlay 22 = .ok (.iconst 1, 1) := by decide +kernel
theorem dX8_noPlay_23 : decode cX8_noPlay 23 = .ok (.goto 4, 3) := by decide +kernel
theorem dX8_noPlay_26 : decode cX8_noPlay 26 = .ok (.iconst 0, 1) := by decide +kernel
theorem dX8_noPlay_27 : decode cX8_noPlay 27 = .ok (.ireturn, 1) := by decide +kernel
set_option maxRecDepth 20000 in
theorem ggX8_why_X8_noPlay : GoodIn wsX8_why wsX8_noPlay := goodIn_r _ [6, 7, 8, 9, 10, 5, 11, 12, 13, 14, 15, 16, 17, 18, 19, 20, 21, 22, 1, 23, 24, 25, 26, 27, 28, 29, 30, 31, 32, 33, 87, 88, 89, 90, 91, 92, 93, 94, 95, 96, 97, 98, 99, 100, 101, 102, 103, 104, 105, 106, 107] (by decide +kernel) (by decide +kernel)
set_option maxRecDepth 20000 in
theorem gX8_why_X8_noPlay : GoodIn wsX8_why (wsV RX8 348 RX8 yX8_noPlay wsX8_noPlay) := goodIn_app (goodIn_of _ (by decide +kernel)) ggX8_why_X8_noPlay
set_option maxRecDepth 20000 in
theorem ggX8_why_X8_refusal : GoodIn wsX8_why wsX8_refusal := goodIn_r _ [37, 7, 38, 39, 40, 5, 41, 42, 43, 44, 45, 46, 47, 48, 27, 28, 29, 49, 50, 51, 52, 53, 54, 55, 56, 57, 58, 59, 60, 61, 62, 63, 64, 65, 66, 67, 68, 69, 70, 71, 72, 73, 74, 75, 76, 77, 78, 79, 80, 81, 82, 83, 84, 85, 86, 87, 88, 89, 90, 91, 92, 93, 94, 95, 96, 97, 98, 99, 100, 101, 102, 103, 104, 105, 106, 107] (by decide +kernel) (by decide +kernel)
set_option maxRecDepth 20000 in
theorem gX8_why_X8_refusal : GoodIn wsX8_why (wsV RX8 279 RX8 yX8_refusal wsX8_refusal) := goodIn_app (goodIn_of _ (by decide +kernel)) ggX8_why_X8_refusal
theorem dX8_why_0 : decode cX8_why 0 = .ok (.aload_n 0, 1) := by decide +kernel
theorem dX8_why_1 : decode cX8_why 1 = .ok (.iconst 0, 1) := by decide +kernel
theorem dX8_why_2 : decode cX8_why 2 = .ok (.putfield 49, 3) := by decide +kernel
theorem dX8_why_5 : decode cX8_why 5 = .ok (.aload_n 0, 1) := by decide +kernel
theorem dX8_why_6 : decode cX8_why 6 = .ok (.iload_n 1, 1) := by decide +kernel
theorem dX8_why_7 : decode cX8_why 7 = .ok (.iload_n 2, 1) := by decide +kernel
theorem dX8_why_8 : decode cX8_why 8 = .ok (.invokevirtual 348, 3) := by decide +kernel
theorem dX8_why_11 : decode cX8_why 11 = .ok (.ifCond .eq 7, 3) := by decide +kernel
theorem dX8_why_14 : decode cX8_why 14 = .ok (.iconst 0, 1) := by decide +kernel
theorem dX8_why_15 : decode cX8_why 15 = .ok (.goto 9, 3) := by decide +kernel
theorem dX8_why_18 : decode cX8_why 18 = .ok (.aload_n 0, 1) := by decide +kernel
theorem dX8_why_19 : decode cX8_why 19 = .ok (.iload_n 1, 1) := by decide +kernel
theorem dX8_why_20 : decode cX8_why 20 = .ok (.iload_n 2, 1) := by decide +kernel
theorem dX8_why_21 : decode cX8_why 21 = .ok (.invokevirtual 279, 3) := by decide +kernel
theorem dX8_why_24 : decode cX8_why 24 = .ok (.ireturn, 1) := by decide +kernel
set_option maxRecDepth 20000 in
theorem ggX8_play_X8_noPlay : GoodIn wsX8_play wsX8_noPlay := goodIn_r _ [7, 2, 8, 9, 10, 6, 11, 12, 13, 14, 15, 16, 17, 18, 19, 20, 21, 22, 1, 23, 24, 25, 26, 27, 28, 29, 30, 31, 32, 33, 112, 113, 114, 115, 116, 117, 118, 119, 120, 121, 122, 123, 124, 125, 126, 127, 128, 129, 130, 131, 132] (by decide +kernel) (by decide +kernel)
set_option maxRecDepth 20000 in
theorem gX8_play_X8_noPlay : GoodIn wsX8_play (wsV RX8 348 RX8 yX8_noPlay wsX8_noPlay) := goodIn_app (goodIn_of _ (by decide +kernel)) ggX8_play_X8_noPlay
set_option maxRecDepth 20000 in
theorem ggX8_play_X8_in : GoodIn wsX8_play wsX8_in := goodIn_r _ [18] (by decide +kernel) (by decide +kernel)
set_option maxRecDepth 20000 in
theorem gX8_play_X8_in : GoodIn wsX8_play (va_wsS RX8 77 yX8_in wsX8_in) := goodIn_app (goodIn_of _ (by decide +kernel)) ggX8_play_X8_in
set_option maxRecDepth 20000 in
theorem ggX8_play_X8_fails : GoodIn wsX8_play wsX8_fails := goodIn_r _ [22, 1, 112, 113, 114, 115, 116, 117, 118, 119, 120, 121, 122, 123, 124, 125, 126, 127, 128, 129, 130, 131, 132] (by decide +kernel) (by decide +kernel)
set_option maxRecDepth 20000 in
theorem gX8_play_X8_fails : GoodIn wsX8_play (wsV RX8 198 RX8 yX8_fails wsX8_fails) := goodIn_app (goodIn_of _ (by decide +kernel)) ggX8_play_X8_fails
set_option maxRecDepth 20000 in
theorem ggX8_play_X8_refusal : GoodIn wsX8_play wsX8_refusal := goodIn_r _ [37, 2, 38, 39, 40, 6, 41, 42, 43, 44, 45, 46, 47, 48, 27, 28, 29, 49, 50, 51, 52, 53, 54, 55, 56, 57, 58, 59, 60, 61, 62, 63, 64, 65, 66, 67, 68, 69, 70, 71, 72, 73, 74, 75, 76, 77, 78, 79, 80, 81, 82, 83, 84, 85, 86, 112, 113, 114, 115, 116, 117, 118, 119, 120, 121, 122, 123, 124, 125, 126, 127, 128, 129, 130, 131, 132] (by decide +kernel) (by decide +kernel)
set_option maxRecDepth 20000 in
theorem gX8_play_X8_refusal : GoodIn wsX8_play (wsV RX8 279 RX8 yX8_refusal wsX8_refusal) := goodIn_app (goodIn_of _ (by decide +kernel)) ggX8_play_X8_refusal
set_option maxRecDepth 20000 in
theorem ggX8_play_X8_pointsFor : GoodIn wsX8_play wsX8_pointsFor := goodIn_r _ [90, 2, 42, 43, 44, 6, 45, 46, 47, 48, 27, 28, 29, 91, 92, 93, 94, 53, 54, 55, 56, 57, 58, 59, 72, 73, 74, 75, 64, 65, 66, 67, 76, 77, 78, 79, 80, 81, 82, 83, 84, 85, 86, 49, 50, 51, 52, 112, 113, 114, 115, 116, 117, 118, 119, 120, 121, 122, 123, 124, 125, 126, 127, 128, 129, 130, 131, 132] (by decide +kernel) (by decide +kernel)
set_option maxRecDepth 20000 in
theorem gX8_play_X8_pointsFor : GoodIn wsX8_play (wsV RX8 263 RX8 yX8_pointsFor wsX8_pointsFor) := goodIn_app (goodIn_of _ (by decide +kernel)) ggX8_play_X8_pointsFor
set_option maxRecDepth 20000 in
theorem ggX8_play_X8_rankOf : GoodIn wsX8_play wsX8_rankOf := goodIn_r _ [98, 2, 99, 87, 88, 89, 6, 90, 42, 43, 44, 45, 46, 47, 48, 27, 28, 29, 91, 92, 93, 94, 53, 54, 55, 56, 57, 58, 59, 72, 73, 74, 75, 64, 65, 66, 67, 76, 77, 78, 79, 80, 81, 82, 83, 84, 85, 86, 49, 50, 51, 52, 100, 101, 102, 103, 23, 24, 25, 26, 104, 105, 106, 107, 108, 109, 110, 111, 112, 113, 114, 115, 116, 117, 118, 119, 120, 121, 122, 123, 124, 125, 126, 127, 128, 129, 130, 131, 132] (by decide +kernel) (by decide +kernel)
set_option maxRecDepth 20000 in
theorem gX8_play_X8_rankOf : GoodIn wsX8_play (wsV RX8 282 RX8 yX8_rankOf wsX8_rankOf) := goodIn_app (goodIn_of _ (by decide +kernel)) ggX8_play_X8_rankOf
theorem dX8_play_0 : decode cX8_play 0 = .ok (.aload_n 0, 1) := by decide +kernel
theorem dX8_play_1 : decode cX8_play 1 = .ok (.iconst 0, 1) := by decide +kernel
theorem dX8_play_2 : decode cX8_play 2 = .ok (.putfield 49, 3) := by decide +kernel
theorem dX8_play_5 : decode cX8_play 5 = .ok (.aload_n 0, 1) := by decide +kernel
theorem dX8_play_6 : decode cX8_play 6 = .ok (.iload_n 1, 1) := by decide +kernel
theorem dX8_play_7 : decode cX8_play 7 = .ok (.iload_n 2, 1) := by decide +kernel
theorem dX8_play_8 : decode cX8_play 8 = .ok (.invokevirtual 348, 3) := by decide +kernel
theorem dX8_play_11 : decode cX8_play 11 = .ok (.ifCond .ne 47, 3) := by decide +kernel
theorem dX8_play_14 : decode cX8_play 14 = .ok (.aload_n 0, 1) := by decide +kernel
theorem dX8_play_15 : decode cX8_play 15 = .ok (.iload_n 3, 1) := by decide +kernel
theorem dX8_play_16 : decode cX8_play 16 = .ok (.iconst 0, 1) := by decide +kernel
theorem dX8_play_17 : decode cX8_play 17 = .ok (.iconst 1, 1) := by decide +kernel
theorem dX8_play_18 : decode cX8_play 18 = .ok (.invokestatic 77, 3) := by decide +kernel
theorem dX8_play_21 : decode cX8_play 21 = .ok (.ifCond .ne 7, 3) := by decide +kernel
theorem dX8_play_24 : decode cX8_play 24 = .ok (.iconst 1, 1) := by decide +kernel
theorem dX8_play_25 : decode cX8_play 25 = .ok (.goto 4, 3) := by decide +kernel
theorem dX8_play_28 : decode cX8_play 28 = .ok (.iconst 0, 1) := by decide +kernel
theorem dX8_play_29 : decode cX8_play 29 = .ok (.iconst 2, 1) := by decide +kernel
