set_option maxRecDepth 20000 in
theorem ggX4_read_X1_copyFrom : GoodIn wsX4_read wsX1_copyFrom := goodIn_r _ [10, 11, 12, 13, 14, 15, 16, 17, 18, 19, 20, 21, 22, 23, 24, 25, 141, 142, 143, 144, 145, 146, 147, 148, 149, 150, 151, 152, 153, 154, 155, 156] (by decide +kernel) (by decide +kernel)
set_option maxRecDepth 20000 in
theorem gX4_read_X1_copyFrom : GoodIn wsX4_read (wsV RX4 31 RX1 yX1_copyFrom wsX1_copyFrom) := goodIn_app (goodIn_of _ (by decide +kernel)) ggX4_read_X1_copyFrom
set_option maxRecDepth 20000 in
theorem ggX4_read_X4_goOn : GoodIn wsX4_read wsX4_goOn := goodIn_r _ [30, 3, 4, 5, 31, 32, 33, 34, 35, 36, 37, 38, 39, 29, 40, 41, 42, 43, 134, 135, 136, 137, 138, 139, 140] (by decide +kernel) (by decide +kernel)
set_option maxRecDepth 20000 in
theorem gX4_read_X4_goOn : GoodIn wsX4_read (wsV RX4 35 RX4 yX4_goOn wsX4_goOn) := goodIn_app (goodIn_of _ (by decide +kernel)) ggX4_read_X4_goOn
set_option maxRecDepth 20000 in
theorem ggX4_read_X4_isClauseRead : GoodIn wsX4_read wsX4_isClauseRead := goodIn_r _ [47, 48, 49, 50, 51, 29, 52, 53, 54, 55, 56, 3, 4, 57, 58, 59, 60, 61, 62, 63, 64, 65, 66, 67, 68, 31, 32, 33, 34, 35, 36, 37, 69, 70, 71, 72, 73, 74, 75, 76, 77, 78, 79, 80, 81, 82, 83, 84, 85, 86, 87, 88, 89, 90, 91, 92, 93, 94, 95, 96, 97, 98, 99, 100, 101, 102, 103, 104, 105, 106, 107, 108, 109, 1, 110, 111, 26, 27, 28, 30, 5, 38, 39, 40, 41, 42, 43, 112, 113, 114, 115, 116, 117, 118, 119, 120, 121, 122, 123, 124, 9, 125, 11, 12, 13, 14, 15, 16, 126, 127, 128, 129, 24, 25, 130, 131, 132, 133, 17, 18, 134, 135, 136, 137, 138, 139, 140, 141, 142, 143, 144, 145, 146, 147, 148, 149, 150, 151, 152, 153, 154, 155, 156] (by decide +kernel) (by decide +kernel)
set_option maxRecDepth 20000 in
theorem gX4_read_X4_isClauseRead : GoodIn wsX4_read (wsV RX4 39 RX4 yX4_isClauseRead wsX4_isClauseRead) := goodIn_app (goodIn_of _ (by decide +kernel)) ggX4_read_X4_isClauseRead
theorem dX4_read_0 : decode cX4_read 0 = .ok (.aload_n 0, 1) := by decide +kernel
theorem dX4_read_1 : decode cX4_read 1 = .ok (.getfield 12, 3) := by decide +kernel
theorem dX4_read_4 : decode cX4_read 4 = .ok (.aload_n 2, 1) := by decide +kernel
theorem dX4_read_5 : decode cX4_read 5 = .ok (.invokevirtual 31, 3) := by decide +kernel
theorem dX4_read_8 : decode cX4_read 8 = .ok (.aload_n 0, 1) := by decide +kernel
theorem dX4_read_9 : decode cX4_read 9 = .ok (.iconst 0, 1) := by decide +kernel
theorem dX4_read_10 : decode cX4_read 10 = .ok (.putfield 18, 3) := by decide +kernel
theorem dX4_read_13 : decode cX4_read 13 = .ok (.aload_n 0, 1) := by decide +kernel
theorem dX4_read_14 : decode cX4_read 14 = .ok (.iconst 0, 1) := by decide +kernel
theorem dX4_read_15 : decode cX4_read 15 = .ok (.putfield 25, 3) := by decide +kernel
theorem dX4_read_18 : decode cX4_read 18 = .ok (.aload_n 0, 1) := by decide +kernel
theorem dX4_read_19 : decode cX4_read 19 = .ok (.aload_n 1, 1) := by decide +kernel
theorem dX4_read_20 : decode cX4_read 20 = .ok (.invokevirtual 35, 3) := by decide +kernel
theorem dX4_read_23 : decode cX4_read 23 = .ok (.iconst 0, 1) := by decide +kernel
theorem dX4_read_24 : decode cX4_read 24 = .ok (.istore_n 3, 1) := by decide +kernel
theorem dX4_read_25 : decode cX4_read 25 = .ok (.iload_n 3, 1) := by decide +kernel
theorem dX4_read_26 : decode cX4_read 26 = .ok (.bipush 14, 2) := by decide +kernel
theorem dX4_read_28 : decode cX4_read 28 = .ok (.if_icmp .ge 77, 3) := by decide +kernel
theorem dX4_read_31 : decode cX4_read 31 = .ok (.aload_n 0, 1) := by decide +kernel
theorem dX4_read_32 : decode cX4_read 32 = .ok (.aload_n 1, 1) := by decide +kernel
theorem dX4_read_33 : decode cX4_read 33 = .ok (.invokevirtual 39, 3) := by decide +kernel
theorem dX4_read_36 : decode cX4_read 36 = .ok (.ifCond .ne 8, 3) := by decide +kernel
theorem dX4_read_39 : decode cX4_read 39 = .ok (.aload_n 0, 1) := by decide +kernel
theorem dX4_read_40 : decode cX4_read 40 = .ok (.getfield 22, 3) := by decide +kernel
theorem dX4_read_43 : decode cX4_read 43 = .ok (.ireturn, 1) := by decide +kernel
set_option maxRecDepth 20000 in
theorem ggX4_goOn_X6_at : GoodIn wsX4_goOn wsX6_at := goodIn_r _ [8, 9, 10, 23, 24] (by decide +kernel) (by decide +kernel)
set_option maxRecDepth 20000 in
theorem gX4_goOn_X6_at : GoodIn wsX4_goOn (wsV RX4 48 RX6 yX6_at wsX6_at) := goodIn_app (goodIn_of _ (by decide +kernel)) ggX4_goOn_X6_at
set_option maxRecDepth 20000 in
theorem ggX4_goOn_X4_isSmallLetter : GoodIn wsX4_goOn wsX4_isSmallLetter := goodIn_r _ [14] (by decide +kernel) (by decide +kernel)
set_option maxRecDepth 20000 in
theorem gX4_goOn_X4_isSmallLetter : GoodIn wsX4_goOn (va_wsS RX4 52 yX4_isSmallLetter wsX4_isSmallLetter) := goodIn_app (goodIn_of _ (by decide +kernel)) ggX4_goOn_X4_isSmallLetter
set_option maxRecDepth 20000 in
theorem ggX4_goOn_X4_isDigit : GoodIn wsX4_goOn wsX4_isDigit := goodIn_r _ [17] (by decide +kernel) (by decide +kernel)
set_option maxRecDepth 20000 in
theorem gX4_goOn_X4_isDigit : GoodIn wsX4_goOn (va_wsS RX4 56 yX4_isDigit wsX4_isDigit) := goodIn_app (goodIn_of _ (by decide +kernel)) ggX4_goOn_X4_isDigit
theorem dX4_goOn_0 : decode cX4_goOn 0 = .ok (.aload_n 0, 1) := by decide +kernel
theorem dX4_goOn_1 : decode cX4_goOn 1 = .ok (.aload_n 0, 1) := by decide +kernel
theorem dX4_goOn_2 : decode cX4_goOn 2 = .ok (.getfield 25, 3) := by decide +kernel
theorem dX4_goOn_5 : decode cX4_goOn 5 = .ok (.putfield 22, 3) := by decide +kernel
theorem dX4_goOn_8 : decode cX4_goOn 8 = .ok (.aload_n 0, 1) := by decide +kernel
theorem dX4_goOn_9 : decode cX4_goOn 9 = .ok (.getfield 22, 3) := by decide +kernel
theorem dX4_goOn_12 : decode cX4_goOn 12 = .ok (.aload_n 1, 1) := by decide +kernel
theorem dX4_goOn_13 : decode cX4_goOn 13 = .ok (.getfield 43, 3) := by decide +kernel
theorem dX4_goOn_16 : decode cX4_goOn 16 = .ok (.if_icmp .ge 29, 3) := by decide +kernel
theorem dX4_goOn_45 : decode cX4_goOn 45 = .ok (.aload_n 0, 1) := by decide +kernel
theorem dX4_goOn_46 : decode cX4_goOn 46 = .ok (.aload_n 0, 1) := by decide +kernel
theorem dX4_goOn_47 : decode cX4_goOn 47 = .ok (.getfield 22, 3) := by decide +kernel
theorem dX4_goOn_50 : decode cX4_goOn 50 = .ok (.putfield 25, 3) := by decide +kernel
theorem dX4_goOn_53 : decode cX4_goOn 53 = .ok (.aload_n 1, 1) := by decide +kernel
theorem dX4_goOn_54 : decode cX4_goOn 54 = .ok (.aload_n 0, 1) := by decide +kernel
theorem dX4_goOn_55 : decode cX4_goOn 55 = .ok (.getfield 22, 3) := by decide +kernel
theorem dX4_goOn_58 : decode cX4_goOn 58 = .ok (.invokevirtual 48, 3) := by decide +kernel
theorem dX4_goOn_61 : decode cX4_goOn 61 = .ok (.invokestatic 52, 3) := by decide +kernel
theorem dX4_goOn_64 : decode cX4_goOn 64 = .ok (.ifCond .eq 41, 3) := by decide +kernel
theorem dX4_goOn_105 : decode cX4_goOn 105 = .ok (.aload_n 1, 1) := by decide +kernel
theorem dX4_goOn_106 : decode cX4_goOn 106 = .ok (.aload_n 0, 1) := by decide +kernel
theorem dX4_goOn_107 : decode cX4_goOn 107 = .ok (.getfield 22, 3) := by decide +kernel
theorem dX4_goOn_110 : decode cX4_goOn 110 = .ok (.invokevirtual 48, 3) := by decide +kernel
theorem dX4_goOn_113 : decode cX4_goOn 113 = .ok (.invokestatic 56, 3) := by decide +kernel
theorem dX4_goOn_116 : decode cX4_goOn 116 = .ok (.ifCond .eq 41, 3) := by decide +kernel
theorem dX4_goOn_157 : decode cX4_goOn 157 = .ok (.aload_n 0, 1) := by decide +kernel
theorem dX4_goOn_158 : decode cX4_goOn 158 = .ok (.getfield 22, 3) := by decide +kernel
theorem dX4_goOn_161 : decode cX4_goOn 161 = .ok (.aload_n 1, 1) := by decide +kernel
theorem dX4_goOn_162 : decode cX4_goOn 162 = .ok (.getfield 43, 3) := by decide +kernel
theorem dX4_goOn_165 : decode cX4_goOn 165 = .ok (.if_icmp .ge 13, 3) := by decide +kernel
theorem dX4_goOn_178 : decode cX4_goOn 178 = .ok (.return_, 1) := by decide +kernel
theorem dX4_isSmallLetter_0 : decode cX4_isSmallLetter 0 = .ok (.iload_n 0, 1) := by decide +kernel
theorem dX4_isSmallLetter_1 : decode cX4_isSmallLetter 1 = .ok (.bipush 97, 2) := by decide +kernel
theorem dX4_isSmallLetter_3 : decode cX4_isSmallLetter 3 = .ok (.if_icmp .lt 13, 3) := by decide +kernel
theorem dX4_isSmallLetter_6 : decode cX4_isSmallLetter 6 = .ok (.iload_n 0, 1) := by decide +kernel
theorem dX4_isSmallLetter_7 : decode cX4_isSmallLetter 7 = .ok (.bipush 122, 2) := by decide +kernel
theorem dX4_isSmallLetter_9 : decode cX4_isSmallLetter 9 = .ok (.if_icmp .gt 7, 3) := by decide +kernel
theorem dX4_isSmallLetter_12 : decode cX4_isSmallLetter 12 = .ok (.iconst 1, 1) := by decide +kernel
theorem dX4_isSmallLetter_13 : decode cX4_isSmallLetter 13 = .ok (.goto 4, 3) := by decide +kernel
theorem dX4_isSmallLetter_16 : decode cX4_isSmallLetter 16 = .ok (.iconst 0, 1) := by decide +kernel
theorem dX4_isSmallLetter_17 : decode cX4_isSmallLetter 17 = .ok (.ireturn, 1) := by decide +kernel
theorem dX4_isDigit_0 : decode cX4_isDigit 0 = .ok (.iload_n 0, 1) := by decide +kernel
theorem dX4_isDigit_1 : decode cX4_isDigit 1 = .ok (.bipush 48, 2) := by decide +kernel
theorem dX4_isDigit_3 : decode cX4_isDigit 3 = .ok (.if_icmp .lt 13, 3) := by decide +kernel
theorem dX4_isDigit_6 : decode cX4_isDigit 6 = .ok (.iload_n 0, 1) := by decide +kernel
theorem dX4_isDigit_7 : decode cX4_isDigit 7 = .ok (.bipush 57, 2) := by decide +kernel
theorem dX4_isDigit_9 : decode cX4_isDigit 9 = .ok (.if_icmp .gt 7, 3) := by decide +kernel
theorem dX4_isDigit_12 : decode cX4_isDigit 12 = .ok (.iconst 1, 1) := by decide +kernel
theorem dX4_isDigit_13 : decode cX4_isDigit 13 = .ok (.goto 4, 3) := by decide +kernel
theorem dX4_isDigit_16 : decode cX4_isDigit 16 = .ok (.iconst 0, 1) := by decide +kernel
theorem dX4_isDigit_17 : decode cX4_isDigit 17 = .ok (.ireturn, 1) := by decide +kernel
set_option maxRecDepth 20000 in
theorem ggX4_isClauseRead_X4_wordNumber : GoodIn wsX4_isClauseRead wsX4_wordNumber := goodIn_r _ [6, 7, 8, 9, 5, 10, 11, 12, 13, 14, 15, 16, 17, 18, 19, 20, 21, 22, 23, 24, 25, 26, 27, 28, 29, 30, 31, 32, 33, 34, 35, 36, 37, 38, 39, 40, 41, 42, 43, 44, 45, 46, 47, 48, 49, 50, 51, 52, 53, 54, 55, 56, 57, 58, 59, 60, 61, 62, 63, 64, 65, 66, 67, 68, 120, 121, 122, 123, 124, 125, 126] (by decide +kernel) (by decide +kernel)
set_option maxRecDepth 20000 in
theorem gX4_isClauseRead_X4_wordNumber : GoodIn wsX4_isClauseRead (wsV RX4 59 RX4 yX4_wordNumber wsX4_wordNumber) := goodIn_app (goodIn_of _ (by decide +kernel)) ggX4_isClauseRead_X4_wordNumber
theorem dX4_isClauseRead_0 : decode cX4_isClauseRead 0 = .ok (.aload_n 0, 1) := by decide +kernel
theorem dX4_isClauseRead_1 : decode cX4_isClauseRead 1 = .ok (.aload_n 1, 1) := by decide +kernel
theorem dX4_isClauseRead_2 : decode cX4_isClauseRead 2 = .ok (.invokevirtual 59, 3) := by decide +kernel
theorem dX4_isClauseRead_5 : decode cX4_isClauseRead 5 = .ok (.istore_n 2, 1) := by decide +kernel
theorem dX4_isClauseRead_6 : decode cX4_isClauseRead 6 = .ok (.iload_n 2, 1) := by decide +kernel
theorem dX4_isClauseRead_7 : decode cX4_isClauseRead 7 = .ok (.iconst (-1), 1) := by decide +kernel
theorem dX4_isClauseRead_8 : decode cX4_isClauseRead 8 = .ok (.if_icmp .eq 11, 3) := by decide +kernel
theorem dX4_isClauseRead_19 : decode cX4_isClauseRead 19 = .ok (.iconst 0, 1) := by decide +kernel
theorem dX4_isClauseRead_20 : decode cX4_isClauseRead 20 = .ok (.ireturn, 1) := by decide +kernel
set_option maxRecDepth 20000 in
theorem ggX4_wordNumber_X4_isWord : GoodIn wsX4_wordNumber wsX4_isWord := goodIn_r _ [5, 6, 7, 8, 9, 10, 11, 12, 13, 14, 15, 16, 17, 18, 19, 20, 21, 22, 23, 24, 25, 26, 27, 28, 29, 30, 31, 32, 33, 34, 35, 36, 37, 38, 39, 40, 41, 42, 43, 44, 45, 46, 47, 48, 49, 50, 51, 52, 53, 54, 55, 56, 57, 58, 59, 60, 61, 62, 63, 64, 65, 66, 67, 68, 69, 70] (by decide +kernel) (by decide +kernel)
set_option maxRecDepth 20000 in
theorem gX4_wordNumber_X4_isWord : GoodIn wsX4_wordNumber (wsV RX4 89 RX4 yX4_isWord wsX4_isWord) := goodIn_app (goodIn_of _ (by decide +kernel)) ggX4_wordNumber_X4_isWord
theorem dX4_wordNumber_0 : decode cX4_wordNumber 0 = .ok (.aload_n 0, 1) := by decide +kernel
theorem dX4_wordNumber_1 : decode cX4_wordNumber 1 = .ok (.aload_n 1, 1) := by decide +kernel
theorem dX4_wordNumber_2 : decode cX4_wordNumber 2 = .ok (.ldc 87, 2) := by decide +kernel
theorem dX4_wordNumber_4 : decode cX4_wordNumber 4 = .ok (.invokevirtual 89, 3) := by decide +kernel
theorem dX4_wordNumber_7 : decode cX4_wordNumber 7 = .ok (.ifCond .eq 5, 3) := by decide +kernel
theorem dX4_wordNumber_12 : decode cX4_wordNumber 12 = .ok (.aload_n 0, 1) := by decide +kernel
theorem dX4_wordNumber_13 : decode cX4_wordNumber 13 = .ok (.aload_n 1, 1) := by decide +kernel
theorem dX4_wordNumber_14 : decode cX4_wordNumber 14 = .ok (.ldc 93, 2) := by decide +kernel
theorem dX4_wordNumber_16 : decode cX4_wordNumber 16 = .ok (.invokevirtual 89, 3) := by decide +kernel
theorem dX4_wordNumber_19 : decode cX4_wordNumber 19 = .ok (.ifCond .eq 5, 3) := by decide +kernel
theorem dX4_wordNumber_24 : decode cX4_wordNumber 24 = .ok (.aload_n 0, 1) := by decide +kernel
theorem dX4_wordNumber_25 : decode cX4_wordNumber 25 = .ok (.aload_n 1, 1) := by decide +kernel
theorem dX4_wordNumber_26 : decode cX4_wordNumber 26 = .ok (.ldc 95, 2) := by decide +kernel
theorem dX4_wordNumber_28 : decode cX4_wordNumber 28 = .ok (.invokevirtual 89, 3) := by decide +kernel
theorem dX4_wordNumber_31 : decode cX4_wordNumber 31 = .ok (.ifCond .eq 5, 3) := by decide +kernel
theorem dX4_wordNumber_36 : decode cX4_wordNumber 36 = .ok (.aload_n 0, 1) := by decide +kernel
theorem dX4_wordNumber_37 : decode cX4_wordNumber 37 = .ok (.aload_n 1, 1) := by decide +kernel
theorem dX4_wordNumber_38 : decode cX4_wordNumber 38 = .ok (.ldc 97, 2) := by decide +kernel
theorem dX4_wordNumber_40 : decode cX4_wordNumber 40 = .ok (.invokevirtual 89, 3) := by decide +kernel
theorem dX4_wordNumber_43 : decode cX4_wordNumber 43 = .ok (.ifCond .eq 5, 3) := by decide +kernel
theorem dX4_wordNumber_48 : decode cX4_wordNumber 48 = .ok (.aload_n 0, 1) := by decide +kernel
theorem dX4_wordNumber_49 : decode cX4_wordNumber 49 = .ok (.aload_n 1, 1) := by decide +kernel
theorem dX4_wordNumber_50 : decode cX4_wordNumber 50 = .ok (.ldc 99, 2) := by decide +kernel
theorem dX4_wordNumber_52 : decode cX4_wordNumber 52 = .ok (.invokevirtual 89, 3) := by decide +kernel
theorem dX4_wordNumber_55 : decode cX4_wordNumber 55 = .ok (.ifCond .eq 5, 3) := by decide +kernel
theorem dX4_wordNumber_60 : decode cX4_wordNumber 60 = .ok (.aload_n 0, 1) := by decide +kernel
theorem dX4_wordNumber_61 : decode cX4_wordNumber 61 = .ok (.aload_n 1, 1) := by decide +kernel
theorem dX4_wordNumber_62 : decode cX4_wordNumber 62 = .ok (.ldc 101, 2) := by decide +kernel
theorem dX4_wordNumber_64 : decode cX4_wordNumber 64 = .ok (.invokevirtual 89, 3) := by decide +kernel
theorem dX4_wordNumber_67 : decode cX4_wordNumber 67 = .ok (.ifCond .eq 5, 3) := by decide +kernel
theorem dX4_wordNumber_72 : decode cX4_wordNumber 72 = .ok (.aload_n 0, 1) := by decide +kernel
theorem dX4_wordNumber_73 : decode cX4_wordNumber 73 = .ok (.aload_n 1, 1) := by decide +kernel
theorem dX4_wordNumber_74 : decode cX4_wordNumber 74 = .ok (.ldc 103, 2) := by decide +kernel
theorem dX4_wordNumber_76 : decode cX4_wordNumber 76 = .ok (.invokevirtual 89, 3) := by decide +kernel
theorem dX4_wordNumber_79 : decode cX4_wordNumber 79 = .ok (.ifCond .eq 8, 3) := by decide +kernel
theorem dX4_wordNumber_87 : decode cX4_wordNumber 87 = .ok (.iconst (-1), 1) := by decide +kernel
theorem dX4_wordNumber_88 : decode cX4_wordNumber 88 = .ok (.ireturn, 1) := by decide +kernel
set_option maxRecDepth 20000 in
theorem ggX4_isWord_J0_length_8abf5 : GoodIn wsX4_isWord wsJ0_length_8abf5 := goodIn_r _ [7, 8, 9, 10, 11, 6, 12, 13, 14] (by decide +kernel) (by decide +kernel)
set_option maxRecDepth 20000 in
theorem gX4_isWord_J0_length_8abf5 : GoodIn wsX4_isWord (wsV RX4 105 RJ0 yJ0_length_8abf5 wsJ0_length_8abf5) := goodIn_app (goodIn_of _ (by decide +kernel)) ggX4_isWord_J0_length_8abf5
theorem dX4_isWord_0 : decode cX4_isWord 0 = .ok (.aload_n 0, 1) := by decide +kernel
theorem dX4_isWord_1 : decode cX4_isWord 1 = .ok (.getfield 25, 3) := by decide +kernel
theorem dX4_isWord_4 : decode cX4_isWord 4 = .ok (.aload_n 0, 1) := by decide +kernel
theorem dX4_isWord_5 : decode cX4_isWord 5 = .ok (.getfield 22, 3) := by decide +kernel
theorem dX4_isWord_8 : decode cX4_isWord 8 = .ok (.isub, 1) := by decide +kernel
theorem dX4_isWord_9 : decode cX4_isWord 9 = .ok (.aload_n 2, 1) := by decide +kernel
theorem dX4_isWord_10 : decode cX4_isWord 10 = .ok (.invokevirtual 105, 3) := by decide +kernel
theorem dX4_isWord_13 : decode cX4_isWord 13 = .ok (.if_icmp .eq 5, 3) := by decide +kernel
theorem dX4_isWord_16 : decode cX4_isWord 16 = .ok (.iconst 0, 1) := by decide +kernel
theorem dX4_isWord_17 : decode cX4_isWord 17 = .ok (.ireturn, 1) := by decide +kernel
theorem dX6_at_0 : decode cX6_at 0 = .ok (.iload_n 1, 1) := by decide +kernel
theorem dX6_at_1 : decode cX6_at 1 = .ok (.ifCond .lt 20, 3) := by decide +kernel
theorem dX6_at_4 : decode cX6_at 4 = .ok (.iload_n 1, 1) := by decide +kernel
theorem dX6_at_5 : decode cX6_at 5 = .ok (.aload_n 0, 1) := by decide +kernel
theorem dX6_at_6 : decode cX6_at 6 = .ok (.getfield 15, 3) := by decide +kernel
theorem dX6_at_9 : decode cX6_at 9 = .ok (.if_icmp .ge 12, 3) := by decide +kernel
theorem dX6_at_21 : decode cX6_at 21 = .ok (.iconst (-1), 1) := by decide +kernel
theorem dX6_at_22 : decode cX6_at 22 = .ok (.ireturn, 1) := by decide +kernel
set_option maxRecDepth 20000 in
theorem ggX7_fault_X4_read : GoodIn wsX7_fault wsX4_read := goodIn_r _ [8, 9, 10, 11, 12, 13, 14, 15, 16, 17, 18, 19, 20, 21, 22, 23, 24, 25, 26, 27, 28, 29, 30, 31, 32, 33, 34, 35, 36, 7, 37, 38, 39, 40, 41, 42, 43, 44, 45, 46, 47, 48, 49, 50, 51, 52, 53, 54, 55, 56, 57, 58, 59, 60, 61, 62, 63, 64, 65, 66, 67, 68, 69, 70, 71, 72, 73, 74, 75, 76, 77, 78, 79, 80, 81, 82, 83, 84, 85, 86, 87, 88, 89, 90, 91, 92, 93, 94, 95, 96, 97, 98, 99, 100, 101, 102, 103, 104, 105, 106, 107, 108, 109, 110, 111, 112, 113, 114, 115, 116, 117, 118, 119, 120, 121, 122, 123, 124, 125, 126, 127, 128, 129, 130, 131, 132, 133, 134, 135, 136, 137, 138, 139, 140, 148, 149, 150, 151, 152, 153, 154, 155, 156, 157, 158, 159, 160, 161, 162, 163, 164, 165, 166, 167, 168, 169, 170] (by decide +kernel) (by decide +kernel)
set_option maxRecDepth 20000 in
theorem gX7_fault_X4_read : GoodIn wsX7_fault (wsV RX7 66 RX4 yX4_read wsX4_read) := goodIn_app (goodIn_of _ (by decide +kernel)) ggX7_fault_X4_read
theorem dX7_fault_0 : decode cX7_fault 0 = .ok (.aload_n 0, 1) := by decide +kernel
theorem dX7_fault_1 : decode cX7_fault 1 = .ok (.getfield 26, 3) := by decide +kernel
theorem dX7_fault_4 : decode cX7_fault 4 = .ok (.aload_n 0, 1) := by decide +kernel
theorem dX7_fault_5 : decode cX7_fault 5 = .ok (.getfield 10, 3) := by decide +kernel
theorem dX7_fault_8 : decode cX7_fault 8 = .ok (.aload_n 0, 1) := by decide +kernel
theorem dX7_fault_9 : decode cX7_fault 9 = .ok (.getfield 19, 3) := by decide +kernel
theorem dX7_fault_12 : decode cX7_fault 12 = .ok (.invokevirtual 66, 3) := by decide +kernel
theorem dX7_fault_15 : decode cX7_fault 15 = .ok (.ireturn, 1) := by decide +kernel
set_option maxRecDepth 20000 in
theorem ggX7_hall_X4_read : GoodIn wsX7_hall wsX4_read := goodIn_r _ [17, 18, 19, 20, 21, 22, 23, 24, 25, 26, 27, 28, 29, 30, 31, 32, 33, 34, 35, 36, 37, 38, 39, 40, 41, 42, 43, 44, 45, 16, 46, 47, 48, 49, 50, 51, 52, 53, 54, 55, 56, 57, 58, 59, 60, 61, 62, 63, 64, 65, 66, 67, 68, 69, 70, 71, 72, 73, 74, 75, 76, 77, 78, 79, 80, 81, 82, 83, 84, 85, 86, 87, 88, 89, 90, 91, 92, 93, 94, 95, 96, 97, 98, 99, 100, 101, 102, 103, 104, 105, 106, 107, 108, 109, 110, 111, 112, 113, 114, 115, 116, 117, 118, 119, 120, 121, 122, 123, 124, 125, 126, 127, 128, 129, 130, 131, 132, 133, 134, 135, 136, 137, 138, 139, 140, 141, 142, 143, 144, 145, 146, 147, 148, 149, 162, 163, 164, 165, 166, 167, 168, 183, 184, 185, 186, 187, 188, 189, 190, 191, 192, 193, 194, 195, 196, 197, 198] (by decide +kernel) (by decide +kernel)
set_option maxRecDepth 20000 in
theorem gX7_hall_X4_read : GoodIn wsX7_hall (wsV RX7 66 RX4 yX4_read wsX4_read) := goodIn_app (goodIn_of _ (by decide +kernel)) ggX7_hall_X4_read
theorem dX7_hall_0 : decode cX7_hall 0 = .ok (.aload_n 0, 1) := by decide +kernel
theorem dX7_hall_1 : decode cX7_hall 1 = .ok (.getfield 26, 3) := by decide +kernel
theorem dX7_hall_4 : decode cX7_hall 4 = .ok (.aload_n 0, 1) := by decide +kernel
theorem dX7_hall_5 : decode cX7_hall 5 = .ok (.getfield 10, 3) := by decide +kernel
theorem dX7_hall_8 : decode cX7_hall 8 = .ok (.aload_n 0, 1) := by decide +kernel
theorem dX7_hall_9 : decode cX7_hall 9 = .ok (.getfield 19, 3) := by decide +kernel
theorem dX7_hall_12 : decode cX7_hall 12 = .ok (.invokevirtual 66, 3) := by decide +kernel
theorem dX7_hall_15 : decode cX7_hall 15 = .ok (.iconst (-1), 1) := by decide +kernel
theorem dX7_hall_16 : decode cX7_hall 16 = .ok (.if_icmp .eq 6, 3) := by decide +kernel
theorem dX7_hall_19 : decode cX7_hall 19 = .ok (.bipush (-4), 2) := by decide +kernel
theorem dX7_hall_21 : decode cX7_hall 21 = .ok (.ireturn, 1) := by decide +kernel
def sT_at0  : Int32 := (-1)
set_option maxHeartbeats 4000000 in
set_option maxRecDepth 100000 in
theorem c_Text_at0 (l : Launch) (D : va_G) (g : Nat → ClassId) (u : Nat → Nat) : CtI l yX6_at wsX6_at { frames := 0, cells := 0, slots := 0, locals := 0 } D (TY g) [.ref (u 0), .int 0] (fun _ => True) [((u 0), .inr (6, [.ref (u 7), .int 0]))] (fun r (_ : Unit) => r = sT_at0 ) (fun _ => [((u 0), .inr (6, [.ref (u 7), .int 0]))]) := by
  refine CtI.intro (cc := cX6_at) (maxL := 2) (ret := (some .int)) rfl (by decide +kernel) (Nat.le_of_ble_eq_true rfl) ?_
  intro p e s m below meth c A ls C hmn hX hAe hT hl
  have hx := C.1.1
  have hb := C.1.2.1
  have hl : lv_has ls 2 [(0, .ref (u 0)), (1, .int 0)] := hl
  have hin6 : ∀ w ∈ u_ws RX6 TX6 2, w ∈ wsX6_at := by decide +kernel
  refine lv_iload_n hx hb dX6_at_0 rfl (lv_at hl 1 rfl) ?_
  refine lv_if_lt (tgt := 21) hx hb dX6_at_1 (by decide +kernel) (fun c9 => absurd c9 (by decide +kernel)) (fun _ => ?_)
  refine lv_iload_n hx hb dX6_at_4 rfl (lv_at hl 1 rfl) ?_
  refine lv_aload_n hx hb dX6_at_5 rfl (lv_at hl 0 rfl) ?_
  refine z_get C (ci := 6) (N := 2) rfl hin6 hT 0 1 rfl rfl (by decide +kernel) (by decide +kernel) dX6_at_6 ?_
  refine lv_icmp_ge (tgt := 21) hx hb dX6_at_9 (by decide +kernel) (fun _ => ?_) (fun c9 => absurd (by decide +kernel) c9)
  refine lv_iconst (v := (-1)) hx hb dX6_at_21 (by decide +kernel) ?_
  exact z_iret C rfl hT () rfl [0] rfl rfl (Nat.le_of_ble_eq_true rfl) (Nat.le_of_ble_eq_true rfl) dX6_at_22

def sR_small (p0 : Int32) : Int32 := (if p0 < 97 then 0 else (if 122 < p0 then 0 else 1))
set_option maxHeartbeats 4000000 in
set_option maxRecDepth 100000 in
theorem c_R_isSmallLetter (l : Launch) (D : va_G) (g : Nat → ClassId) (p0 : Int32) : CtI l yX4_isSmallLetter wsX4_isSmallLetter { frames := 0, cells := 0, slots := 0, locals := 0 } D (TY g) [.int p0] (fun _ => True) [] (fun r (_ : Unit) => r = sR_small p0) (fun _ => []) := by
  refine CtI.intro (cc := cX4_isSmallLetter) (maxL := 1) (ret := (some .boolean)) rfl (by decide +kernel) (Nat.le_of_ble_eq_true rfl) ?_
  intro p e s m below meth c A ls C hmn hX hAe hT hl
  have hx := C.1.1
  have hb := C.1.2.1
  have hl : lv_has ls 1 [(0, .int p0)] := hl
  refine lv_iload_n hx hb dX4_isSmallLetter_0 rfl (lv_at hl 0 rfl) ?_
  refine lv_bipush (v := 97) hx hb dX4_isSmallLetter_1 (by decide +kernel) ?_
  refine lv_icmp_lt (tgt := 16) hx hb dX4_isSmallLetter_3 (by decide +kernel) (fun c_3 => ?_) (fun c_3 => ?_)
  · refine lv_iconst (v := 0) hx hb dX4_isSmallLetter_16 (by decide +kernel) ?_
    exact z_zret C rfl (by first | rfl | (split <;> rfl)) hT () (by unfold sR_small; rw [if_pos c_3]) [] rfl rfl (Nat.le_of_ble_eq_true rfl) (Nat.le_of_ble_eq_true rfl) dX4_isSmallLetter_17
  · refine lv_iload_n hx hb dX4_isSmallLetter_6 rfl (lv_at hl 0 rfl) ?_
    refine lv_bipush (v := 122) hx hb dX4_isSmallLetter_7 (by decide +kernel) ?_
    refine lv_icmp_gt (tgt := 16) hx hb dX4_isSmallLetter_9 (by decide +kernel) (fun c_9 => ?_) (fun c_9 => ?_)
    · refine lv_iconst (v := 0) hx hb dX4_isSmallLetter_16 (by decide +kernel) ?_
      exact z_zret C rfl (by first | rfl | (split <;> rfl)) hT () (by unfold sR_small; rw [if_neg c_3, if_pos c_9]) [] rfl rfl (Nat.le_of_ble_eq_true rfl) (Nat.le_of_ble_eq_true rfl) dX4_isSmallLetter_17
    · refine lv_iconst (v := 1) hx hb dX4_isSmallLetter_12 (by decide +kernel) ?_
      refine lv_goto (tgt := 17) hx hb dX4_isSmallLetter_13 (by decide +kernel) ?_
      exact z_zret C rfl (by first | rfl | (split <;> rfl)) hT () (by unfold sR_small; rw [if_neg c_3, if_neg c_9]) [] rfl rfl (Nat.le_of_ble_eq_true rfl) (Nat.le_of_ble_eq_true rfl) dX4_isSmallLetter_17

def sR_digit (p0 : Int32) : Int32 := (if p0 < 48 then 0 else (if 57 < p0 then 0 else 1))
set_option maxHeartbeats 4000000 in
set_option maxRecDepth 100000 in
theorem c_R_isDigit (l : Launch) (D : va_G) (g : Nat → ClassId) (p0 : Int32) : CtI l yX4_isDigit wsX4_isDigit { frames := 0, cells := 0, slots := 0, locals := 0 } D (TY g) [.int p0] (fun _ => True) [] (fun r (_ : Unit) => r = sR_digit p0) (fun _ => []) := by
  refine CtI.intro (cc := cX4_isDigit) (maxL := 1) (ret := (some .boolean)) rfl (by decide +kernel) (Nat.le_of_ble_eq_true rfl) ?_
  intro p e s m below meth c A ls C hmn hX hAe hT hl
  have hx := C.1.1
  have hb := C.1.2.1
  have hl : lv_has ls 1 [(0, .int p0)] := hl
  refine lv_iload_n hx hb dX4_isDigit_0 rfl (lv_at hl 0 rfl) ?_
  refine lv_bipush (v := 48) hx hb dX4_isDigit_1 (by decide +kernel) ?_
  refine lv_icmp_lt (tgt := 16) hx hb dX4_isDigit_3 (by decide +kernel) (fun c_3 => ?_) (fun c_3 => ?_)
  · refine lv_iconst (v := 0) hx hb dX4_isDigit_16 (by decide +kernel) ?_
    exact z_zret C rfl (by first | rfl | (split <;> rfl)) hT () (by unfold sR_digit; rw [if_pos c_3]) [] rfl rfl (Nat.le_of_ble_eq_true rfl) (Nat.le_of_ble_eq_true rfl) dX4_isDigit_17
  · refine lv_iload_n hx hb dX4_isDigit_6 rfl (lv_at hl 0 rfl) ?_
    refine lv_bipush (v := 57) hx hb dX4_isDigit_7 (by decide +kernel) ?_
    refine lv_icmp_gt (tgt := 16) hx hb dX4_isDigit_9 (by decide +kernel) (fun c_9 => ?_) (fun c_9 => ?_)
    · refine lv_iconst (v := 0) hx hb dX4_isDigit_16 (by decide +kernel) ?_
      exact z_zret C rfl (by first | rfl | (split <;> rfl)) hT () (by unfold sR_digit; rw [if_neg c_3, if_pos c_9]) [] rfl rfl (Nat.le_of_ble_eq_true rfl) (Nat.le_of_ble_eq_true rfl) dX4_isDigit_17
    · refine lv_iconst (v := 1) hx hb dX4_isDigit_12 (by decide +kernel) ?_
      refine lv_goto (tgt := 17) hx hb dX4_isDigit_13 (by decide +kernel) ?_
      exact z_zret C rfl (by first | rfl | (split <;> rfl)) hT () (by unfold sR_digit; rw [if_neg c_3, if_neg c_9]) [] rfl rfl (Nat.le_of_ble_eq_true rfl) (Nat.le_of_ble_eq_true rfl) dX4_isDigit_17

set_option maxHeartbeats 4000000 in
set_option maxRecDepth 100000 in
/-- Reader.goOn on an empty text -/
theorem c_R_goOn (l : Launch) (D : va_G) (g : Nat → ClassId) (u : Nat → Nat) : CtV l yX4_goOn wsX4_goOn { frames := 1, cells := 0, slots := 0, locals := 40 } D (TY g) [.ref (u 2), .ref (u 0)] (fun _ => True) [((u 2), .inr (4, [.ref (u 18), .int 0, .int 0, .int 0, .int 0])), ((u 0), .inr (6, [.ref (u 7), .int 0]))] (fun _ : Unit => True) (fun _ => [((u 2), .inr (4, [.ref (u 18), .int 0, .int 0, .int 0, .int 0])), ((u 0), .inr (6, [.ref (u 7), .int 0]))]) := by
  refine CtV.intro (cc := cX4_goOn) (maxL := 2) (ret := none) rfl (by decide +kernel) (Nat.le_of_ble_eq_true rfl) ?_
  intro p e s m below meth c A ls C hmn hX hAe hT hl
  have hx := C.1.1
  have hb := C.1.2.1
  have hl : lv_has ls 2 [(0, .ref (u 2)), (1, .ref (u 0))] := hl
  have hin4 : ∀ w ∈ u_ws RX4 TX4 5, w ∈ wsX4_goOn := by decide +kernel
  have hin6 : ∀ w ∈ u_ws RX6 TX6 2, w ∈ wsX4_goOn := by decide +kernel
  refine lv_aload_n hx hb dX4_goOn_0 rfl (lv_at hl 0 rfl) ?_
  refine lv_aload_n hx hb dX4_goOn_1 rfl (lv_at hl 0 rfl) ?_
  refine z_get C (ci := 4) (N := 5) rfl hin4 hT 0 3 rfl rfl (by decide +kernel) (by decide +kernel) dX4_goOn_2 ?_
  refine z_put C (ci := 4) (N := 5) rfl hin4 tyX4_ok nmX4 hT 0 2 rfl (Nat.le_of_ble_eq_true rfl) (by decide +kernel) (by decide +kernel) rfl rfl rfl dX4_goOn_5 [((u 2), .inr (4, [.ref (u 18), .int 0, .int 0, .int 0, .int 0])), ((u 0), .inr (6, [.ref (u 7), .int 0]))] rfl (fun H locs hT => ?_)
  refine lv_aload_n hx hb dX4_goOn_8 rfl (lv_at hl 0 rfl) ?_
  refine z_get C (ci := 4) (N := 5) rfl hin4 hT 0 2 rfl rfl (by decide +kernel) (by decide +kernel) dX4_goOn_9 ?_
  refine lv_aload_n hx hb dX4_goOn_12 rfl (lv_at hl 1 rfl) ?_
  refine z_get C (ci := 6) (N := 2) rfl hin6 hT 1 1 rfl rfl (by decide +kernel) (by decide +kernel) dX4_goOn_13 ?_
  refine lv_icmp_ge (tgt := 45) hx hb dX4_goOn_16 (by decide +kernel) (fun _ => ?_) (fun c9 => absurd (by decide +kernel) c9)
  refine lv_aload_n hx hb dX4_goOn_45 rfl (lv_at hl 0 rfl) ?_
  refine lv_aload_n hx hb dX4_goOn_46 rfl (lv_at hl 0 rfl) ?_
  refine z_get C (ci := 4) (N := 5) rfl hin4 hT 0 2 rfl rfl (by decide +kernel) (by decide +kernel) dX4_goOn_47 ?_
  refine z_put C (ci := 4) (N := 5) rfl hin4 tyX4_ok nmX4 hT 0 3 rfl (Nat.le_of_ble_eq_true rfl) (by decide +kernel) (by decide +kernel) rfl rfl rfl dX4_goOn_50 [((u 2), .inr (4, [.ref (u 18), .int 0, .int 0, .int 0, .int 0])), ((u 0), .inr (6, [.ref (u 7), .int 0]))] rfl (fun H locs hT => ?_)
  refine lv_aload_n hx hb dX4_goOn_53 rfl (lv_at hl 1 rfl) ?_
  refine lv_aload_n hx hb dX4_goOn_54 rfl (lv_at hl 0 rfl) ?_
  refine z_get C (ci := 4) (N := 5) rfl hin4 hT 0 2 rfl rfl (by decide +kernel) (by decide +kernel) dX4_goOn_55 ?_
  refine z_callVI (wr := [((u 2), .inr (4, [.ref (u 18), .int 0, .int 0, .int 0, .int 0]))]) (n := 1) C (c_Text_at0 l D g u) gX4_goOn_X6_at rfl (by decide +kernel) ⟨Nat.le_of_ble_eq_true rfl, Nat.le_of_ble_eq_true rfl⟩ ⟨Nat.le_of_ble_eq_true rfl, Nat.le_of_ble_eq_true rfl⟩ blind_T (fun _ _ _ => trivial) hT [1] [0] rfl rfl rfl rfl rfl 1 rfl rfl rfl rfl hl.1 rfl (Nat.le_of_ble_eq_true rfl) dX4_goOn_58 (fun r_3 u_1 H locs hp_2 hT => ?_)
  have hT : Sit D (TY g) A s [((u 2), .inr (4, [.ref (u 18), .int 0, .int 0, .int 0, .int 0])), ((u 0), .inr (6, [.ref (u 7), .int 0]))] H _ := hT
  have hp_2 := hp_2.trans (show sT_at0 = -1 from rfl)
  subst hp_2
  refine z_callSI (wr := [((u 2), .inr (4, [.ref (u 18), .int 0, .int 0, .int 0, .int 0])), ((u 0), .inr (6, [.ref (u 7), .int 0]))]) (n := 1) (As := [.int (-1)]) C (c_R_isSmallLetter l D g (-1)) gX4_goOn_X4_isSmallLetter rfl (by decide +kernel) ⟨Nat.le_of_ble_eq_true rfl, Nat.le_of_ble_eq_true rfl⟩ ⟨Nat.le_of_ble_eq_true rfl, Nat.le_of_ble_eq_true rfl⟩ blind_T (fun _ _ _ => trivial) hT [] [0, 1] rfl rfl rfl rfl rfl rfl hl.1 rfl (Nat.le_of_ble_eq_true rfl) dX4_goOn_61 (fun r_6 u_4 H locs hp_5 hT => ?_)
  have hT : Sit D (TY g) A s [((u 2), .inr (4, [.ref (u 18), .int 0, .int 0, .int 0, .int 0])), ((u 0), .inr (6, [.ref (u 7), .int 0]))] H _ := hT
  have hp_5 := hp_5.trans (show sR_small (-1) = 0 from by decide +kernel)
  subst hp_5
  refine lv_if_eq (tgt := 105) hx hb dX4_goOn_64 (by decide +kernel) (fun _ => ?_) (fun c9 => absurd (by decide +kernel) c9)
  refine lv_aload_n hx hb dX4_goOn_105 rfl (lv_at hl 1 rfl) ?_
  refine lv_aload_n hx hb dX4_goOn_106 rfl (lv_at hl 0 rfl) ?_
  refine z_get C (ci := 4) (N := 5) rfl hin4 hT 0 2 rfl rfl (by decide +kernel) (by decide +kernel) dX4_goOn_107 ?_
  refine z_callVI (wr := [((u 2), .inr (4, [.ref (u 18), .int 0, .int 0, .int 0, .int 0]))]) (n := 1) C (c_Text_at0 l D g u) gX4_goOn_X6_at rfl (by decide +kernel) ⟨Nat.le_of_ble_eq_true rfl, Nat.le_of_ble_eq_true rfl⟩ ⟨Nat.le_of_ble_eq_true rfl, Nat.le_of_ble_eq_true rfl⟩ blind_T (fun _ _ _ => trivial) hT [1] [0] rfl rfl rfl rfl rfl 1 rfl rfl rfl rfl hl.1 rfl (Nat.le_of_ble_eq_true rfl) dX4_goOn_110 (fun r_9 u_7 H locs hp_8 hT => ?_)
  have hT : Sit D (TY g) A s [((u 2), .inr (4, [.ref (u 18), .int 0, .int 0, .int 0, .int 0])), ((u 0), .inr (6, [.ref (u 7), .int 0]))] H _ := hT
  have hp_8 := hp_8.trans (show sT_at0 = -1 from rfl)
  subst hp_8
  refine z_callSI (wr := [((u 2), .inr (4, [.ref (u 18), .int 0, .int 0, .int 0, .int 0])), ((u 0), .inr (6, [.ref (u 7), .int 0]))]) (n := 1) (As := [.int (-1)]) C (c_R_isDigit l D g (-1)) gX4_goOn_X4_isDigit rfl (by decide +kernel) ⟨Nat.le_of_ble_eq_true rfl, Nat.le_of_ble_eq_true rfl⟩ ⟨Nat.le_of_ble_eq_true rfl, Nat.le_of_ble_eq_true rfl⟩ blind_T (fun _ _ _ => trivial) hT [] [0, 1] rfl rfl rfl rfl rfl rfl hl.1 rfl (Nat.le_of_ble_eq_true rfl) dX4_goOn_113 (fun r_12 u_10 H locs hp_11 hT => ?_)
  have hT : Sit D (TY g) A s [((u 2), .inr (4, [.ref (u 18), .int 0, .int 0, .int 0, .int 0])), ((u 0), .inr (6, [.ref (u 7), .int 0]))] H _ := hT
  have hp_11 := hp_11.trans (show sR_digit (-1) = 0 from by decide +kernel)
  subst hp_11
  refine lv_if_eq (tgt := 157) hx hb dX4_goOn_116 (by decide +kernel) (fun _ => ?_) (fun c9 => absurd (by decide +kernel) c9)
  refine lv_aload_n hx hb dX4_goOn_157 rfl (lv_at hl 0 rfl) ?_
  refine z_get C (ci := 4) (N := 5) rfl hin4 hT 0 2 rfl rfl (by decide +kernel) (by decide +kernel) dX4_goOn_158 ?_
  refine lv_aload_n hx hb dX4_goOn_161 rfl (lv_at hl 1 rfl) ?_
  refine z_get C (ci := 6) (N := 2) rfl hin6 hT 1 1 rfl rfl (by decide +kernel) (by decide +kernel) dX4_goOn_162 ?_
  refine lv_icmp_ge (tgt := 178) hx hb dX4_goOn_165 (by decide +kernel) (fun _ => ?_) (fun c9 => absurd (by decide +kernel) c9)
  exact z_vret C rfl hT () trivial [0, 1] rfl rfl (Nat.le_of_ble_eq_true rfl) (Nat.le_of_ble_eq_true rfl) dX4_goOn_178

def sR_isWord  : Int32 := 0
set_option maxHeartbeats 4000000 in
set_option maxRecDepth 100000 in
theorem c_R_isWord (l : Launch) (D : va_G) (g : Nat → ClassId) (u adK adV : Nat → Nat) (i : Nat) (hi : i < 7) : CtI l yX4_isWord wsX4_isWord { frames := 2, cells := 0, slots := 0, locals := 60 } D (TY g) [.ref (u 2), .ref (u 0), .ref (adK i)] (XC [((u 2), .inr (4, [.ref (u 18), .int 0, .int 0, .int 0, .int 0]))] adK adV) [((u 2), .inr (4, [.ref (u 18), .int 0, .int 0, .int 0, .int 0]))] (fun r (_ : Unit) => r = sR_isWord ) (fun _ => [((u 2), .inr (4, [.ref (u 18), .int 0, .int 0, .int 0, .int 0]))]) := by
  refine CtI.intro (cc := cX4_isWord) (maxL := 4) (ret := (some .boolean)) rfl (by decide +kernel) (Nat.le_of_ble_eq_true rfl) ?_
  intro p e s m below meth c A ls C hmn hX hAe hT hl
  have hx := C.1.1
  have hb := C.1.2.1
  have hl : lv_has ls 4 [(0, .ref (u 2)), (1, .ref (u 0)), (2, .ref (adK i))] := hl
  have hXS : XS A adK adV s s.heap := by rw [hAe]; exact hX
  have hin4 : ∀ w ∈ u_ws RX4 TX4 5, w ∈ wsX4_isWord := by decide +kernel
  refine lv_aload_n hx hb dX4_isWord_0 rfl (lv_at hl 0 rfl) ?_
  refine z_get C (ci := 4) (N := 5) rfl hin4 hT 0 3 rfl rfl (by decide +kernel) (by decide +kernel) dX4_isWord_1 ?_
  refine lv_aload_n hx hb dX4_isWord_4 rfl (lv_at hl 0 rfl) ?_
  refine z_get C (ci := 4) (N := 5) rfl hin4 hT 0 2 rfl rfl (by decide +kernel) (by decide +kernel) dX4_isWord_5 ?_
  refine lv_isub hx hb dX4_isWord_8 ?_
  refine z_eq (y := 0) (by decide +kernel) ?_
  refine lv_aload_n hx hb dX4_isWord_9 rfl (lv_at hl 2 rfl) ?_
  refine z_callVS (wr := [((u 2), .inr (4, [.ref (u 18), .int 0, .int 0, .int 0, .int 0]))]) (n := 0) C (c_length l D g adK adV i hi) gX4_isWord_J0_length_8abf5 rfl (by decide +kernel) ⟨Nat.le_of_ble_eq_true rfl, Nat.le_of_ble_eq_true rfl⟩ ⟨Nat.le_of_ble_eq_true rfl, Nat.le_of_ble_eq_true rfl⟩ XC.blind (hXS.pass hT [] rfl) hT [] [0] rfl rfl rfl rfl rfl (vk_recv hXS.1 hi hT.2.2.2.1) rfl hl.1 rfl (Nat.le_of_ble_eq_true rfl) dX4_isWord_10 (fun r_1 u_2 H locs hp_3 hT => ?_)
  subst hp_3
  have hT : Sit D (TY g) A s [((u 2), .inr (4, [.ref (u 18), .int 0, .int 0, .int 0, .int 0]))] H _ := hT
  refine lv_icmp_eq (tgt := 18) hx hb dX4_isWord_13 (by decide +kernel) (fun c9 => absurd c9 (sLen_ne i hi)) (fun _ => ?_)
  refine lv_iconst (v := 0) hx hb dX4_isWord_16 (by decide +kernel) ?_
  exact z_zret C rfl (by first | rfl | (split <;> rfl)) hT () rfl [0] rfl rfl (Nat.le_of_ble_eq_true rfl) (Nat.le_of_ble_eq_true rfl) dX4_isWord_17

def sR_word  : Int32 := (-1)
set_option maxHeartbeats 4000000 in
set_option maxRecDepth 100000 in
theorem c_R_wordNumber (l : Launch) (D : va_G) (g : Nat → ClassId) (u adK adV : Nat → Nat) : CtI l yX4_wordNumber wsX4_wordNumber { frames := 3, cells := 0, slots := 0, locals := 100 } D (TY g) [.ref (u 2), .ref (u 0)] (XC [((u 2), .inr (4, [.ref (u 18), .int 0, .int 0, .int 0, .int 0]))] adK adV) [((u 2), .inr (4, [.ref (u 18), .int 0, .int 0, .int 0, .int 0]))] (fun r (_ : Unit) => r = sR_word ) (fun _ => [((u 2), .inr (4, [.ref (u 18), .int 0, .int 0, .int 0, .int 0]))]) := by
  refine CtI.intro (cc := cX4_wordNumber) (maxL := 2) (ret := (some .int)) rfl (by decide +kernel) (Nat.le_of_ble_eq_true rfl) ?_
  intro p e s m below meth c A ls C hmn hX hAe hT hl
  have hx := C.1.1
  have hb := C.1.2.1
  have hl : lv_has ls 2 [(0, .ref (u 2)), (1, .ref (u 0))] := hl
  have hXS : XS A adK adV s s.heap := by rw [hAe]; exact hX
  refine lv_aload_n hx hb dX4_wordNumber_0 rfl (lv_at hl 0 rfl) ?_
  refine lv_aload_n hx hb dX4_wordNumber_1 rfl (lv_at hl 1 rfl) ?_
  refine va_ldcS hx hb C.1.2.2.2.1 (hXS.2.2 0 _ rfl) dX4_wordNumber_2 ?_
  refine z_callVI (wr := []) (n := 2) C (c_R_isWord l D g u adK adV 0 (by decide)) gX4_wordNumber_X4_isWord rfl (by decide +kernel) ⟨Nat.le_of_ble_eq_true rfl, Nat.le_of_ble_eq_true rfl⟩ ⟨Nat.le_of_ble_eq_true rfl, Nat.le_of_ble_eq_true rfl⟩ XC.blind (hXS.pass hT [0] rfl) hT [0] [] rfl rfl rfl rfl rfl 0 rfl rfl rfl rfl hl.1 rfl (Nat.le_of_ble_eq_true rfl) dX4_wordNumber_4 (fun r_3 u_1 H locs hp_2 hT => ?_)
  have hT : Sit D (TY g) A s [((u 2), .inr (4, [.ref (u 18), .int 0, .int 0, .int 0, .int 0]))] H _ := hT
  have hp_2 := hp_2.trans (show sR_isWord = 0 from rfl)
  subst hp_2
  refine lv_if_eq (tgt := 12) hx hb dX4_wordNumber_7 (by decide +kernel) (fun _ => ?_) (fun c9 => absurd (by decide +kernel) c9)
  refine lv_aload_n hx hb dX4_wordNumber_12 rfl (lv_at hl 0 rfl) ?_
  refine lv_aload_n hx hb dX4_wordNumber_13 rfl (lv_at hl 1 rfl) ?_
  refine va_ldcS hx hb C.1.2.2.2.1 (hXS.2.2 1 _ rfl) dX4_wordNumber_14 ?_
  refine z_callVI (wr := []) (n := 2) C (c_R_isWord l D g u adK adV 1 (by decide)) gX4_wordNumber_X4_isWord rfl (by decide +kernel) ⟨Nat.le_of_ble_eq_true rfl, Nat.le_of_ble_eq_true rfl⟩ ⟨Nat.le_of_ble_eq_true rfl, Nat.le_of_ble_eq_true rfl⟩ XC.blind (hXS.pass hT [0] rfl) hT [0] [] rfl rfl rfl rfl rfl 0 rfl rfl rfl rfl hl.1 rfl (Nat.le_of_ble_eq_true rfl) dX4_wordNumber_16 (fun r_6 u_4 H locs hp_5 hT => ?_)
  have hT : Sit D (TY g) A s [((u 2), .inr (4, [.ref (u 18), .int 0, .int 0, .int 0, .int 0]))] H _ := hT
  have hp_5 := hp_5.trans (show sR_isWord = 0 from rfl)
  subst hp_5
  refine lv_if_eq (tgt := 24) hx hb dX4_wordNumber_19 (by decide +kernel) (fun _ => ?_) (fun c9 => absurd (by decide +kernel) c9)
  refine lv_aload_n hx hb dX4_wordNumber_24 rfl (lv_at hl 0 rfl) ?_
  refine lv_aload_n hx hb dX4_wordNumber_25 rfl (lv_at hl 1 rfl) ?_
  refine va_ldcS hx hb C.1.2.2.2.1 (hXS.2.2 2 _ rfl) dX4_wordNumber_26 ?_
  refine z_callVI (wr := []) (n := 2) C (c_R_isWord l D g u adK adV 2 (by decide)) gX4_wordNumber_X4_isWord rfl (by decide +kernel) ⟨Nat.le_of_ble_eq_true rfl, Nat.le_of_ble_eq_true rfl⟩ ⟨Nat.le_of_ble_eq_true rfl, Nat.le_of_ble_eq_true rfl⟩ XC.blind (hXS.pass hT [0] rfl) hT [0] [] rfl rfl rfl rfl rfl 0 rfl rfl rfl rfl hl.1 rfl (Nat.le_of_ble_eq_true rfl) dX4_wordNumber_28 (fun r_9 u_7 H locs hp_8 hT => ?_)
  have hT : Sit D (TY g) A s [((u 2), .inr (4, [.ref (u 18), .int 0, .int 0, .int 0, .int 0]))] H _ := hT
  have hp_8 := hp_8.trans (show sR_isWord = 0 from rfl)
  subst hp_8
  refine lv_if_eq (tgt := 36) hx hb dX4_wordNumber_31 (by decide +kernel) (fun _ => ?_) (fun c9 => absurd (by decide +kernel) c9)
  refine lv_aload_n hx hb dX4_wordNumber_36 rfl (lv_at hl 0 rfl) ?_
  refine lv_aload_n hx hb dX4_wordNumber_37 rfl (lv_at hl 1 rfl) ?_
  refine va_ldcS hx hb C.1.2.2.2.1 (hXS.2.2 3 _ rfl) dX4_wordNumber_38 ?_
  refine z_callVI (wr := []) (n := 2) C (c_R_isWord l D g u adK adV 3 (by decide)) gX4_wordNumber_X4_isWord rfl (by decide +kernel) ⟨Nat.le_of_ble_eq_true rfl, Nat.le_of_ble_eq_true rfl⟩ ⟨Nat.le_of_ble_eq_true rfl, Nat.le_of_ble_eq_true rfl⟩ XC.blind (hXS.pass hT [0] rfl) hT [0] [] rfl rfl rfl rfl rfl 0 rfl rfl rfl rfl hl.1 rfl (Nat.le_of_ble_eq_true rfl) dX4_wordNumber_40 (fun r_12 u_10 H locs hp_11 hT => ?_)
  have hT : Sit D (TY g) A s [((u 2), .inr (4, [.ref (u 18), .int 0, .int 0, .int 0, .int 0]))] H _ := hT
  have hp_11 := hp_11.trans (show sR_isWord = 0 from rfl)
  subst hp_11
  refine lv_if_eq (tgt := 48) hx hb dX4_wordNumber_43 (by decide +kernel) (fun _ => ?_) (fun c9 => absurd (by decide +kernel) c9)
  refine lv_aload_n hx hb dX4_wordNumber_48 rfl (lv_at hl 0 rfl) ?_
  refine lv_aload_n hx hb dX4_wordNumber_49 rfl (lv_at hl 1 rfl) ?_
  refine va_ldcS hx hb C.1.2.2.2.1 (hXS.2.2 4 _ rfl) dX4_wordNumber_50 ?_
  refine z_callVI (wr := []) (n := 2) C (c_R_isWord l D g u adK adV 4 (by decide)) gX4_wordNumber_X4_isWord rfl (by decide +kernel) ⟨Nat.le_of_ble_eq_true rfl, Nat.le_of_ble_eq_true rfl⟩ ⟨Nat.le_of_ble_eq_true rfl, Nat.le_of_ble_eq_true rfl⟩ XC.blind (hXS.pass hT [0] rfl) hT [0] [] rfl rfl rfl rfl rfl 0 rfl rfl rfl rfl hl.1 rfl (Nat.le_of_ble_eq_true rfl) dX4_wordNumber_52 (fun r_15 u_13 H locs hp_14 hT => ?_)
  have hT : Sit D (TY g) A s [((u 2), .inr (4, [.ref (u 18), .int 0, .int 0, .int 0, .int 0]))] H _ := hT
  have hp_14 := hp_14.trans (show sR_isWord = 0 from rfl)
  subst hp_14
  refine lv_if_eq (tgt := 60) hx hb dX4_wordNumber_55 (by decide +kernel) (fun _ => ?_) (fun c9 => absurd (by decide +kernel) c9)
  refine lv_aload_n hx hb dX4_wordNumber_60 rfl (lv_at hl 0 rfl) ?_
  refine lv_aload_n hx hb dX4_wordNumber_61 rfl (lv_at hl 1 rfl) ?_
  refine va_ldcS hx hb C.1.2.2.2.1 (hXS.2.2 5 _ rfl) dX4_wordNumber_62 ?_
  refine z_callVI (wr := []) (n := 2) C (c_R_isWord l D g u adK adV 5 (by decide)) gX4_wordNumber_X4_isWord rfl (by decide +kernel) ⟨Nat.le_of_ble_eq_true rfl, Nat.le_of_ble_eq_true rfl⟩ ⟨Nat.le_of_ble_eq_true rfl, Nat.le_of_ble_eq_true rfl⟩ XC.blind (hXS.pass hT [0] rfl) hT [0] [] rfl rfl rfl rfl rfl 0 rfl rfl rfl rfl hl.1 rfl (Nat.le_of_ble_eq_true rfl) dX4_wordNumber_64 (fun r_18 u_16 H locs hp_17 hT => ?_)
  have hT : Sit D (TY g) A s [((u 2), .inr (4, [.ref (u 18), .int 0, .int 0, .int 0, .int 0]))] H _ := hT
  have hp_17 := hp_17.trans (show sR_isWord = 0 from rfl)
  subst hp_17
  refine lv_if_eq (tgt := 72) hx hb dX4_wordNumber_67 (by decide +kernel) (fun _ => ?_) (fun c9 => absurd (by decide +kernel) c9)
  refine lv_aload_n hx hb dX4_wordNumber_72 rfl (lv_at hl 0 rfl) ?_
  refine lv_aload_n hx hb dX4_wordNumber_73 rfl (lv_at hl 1 rfl) ?_
  refine va_ldcS hx hb C.1.2.2.2.1 (hXS.2.2 6 _ rfl) dX4_wordNumber_74 ?_
  refine z_callVI (wr := []) (n := 2) C (c_R_isWord l D g u adK adV 6 (by decide)) gX4_wordNumber_X4_isWord rfl (by decide +kernel) ⟨Nat.le_of_ble_eq_true rfl, Nat.le_of_ble_eq_true rfl⟩ ⟨Nat.le_of_ble_eq_true rfl, Nat.le_of_ble_eq_true rfl⟩ XC.blind (hXS.pass hT [0] rfl) hT [0] [] rfl rfl rfl rfl rfl 0 rfl rfl rfl rfl hl.1 rfl (Nat.le_of_ble_eq_true rfl) dX4_wordNumber_76 (fun r_21 u_19 H locs hp_20 hT => ?_)
  have hT : Sit D (TY g) A s [((u 2), .inr (4, [.ref (u 18), .int 0, .int 0, .int 0, .int 0]))] H _ := hT
  have hp_20 := hp_20.trans (show sR_isWord = 0 from rfl)
  subst hp_20
  refine lv_if_eq (tgt := 87) hx hb dX4_wordNumber_79 (by decide +kernel) (fun _ => ?_) (fun c9 => absurd (by decide +kernel) c9)
  refine lv_iconst (v := (-1)) hx hb dX4_wordNumber_87 (by decide +kernel) ?_
  exact z_iret C rfl hT () rfl [0] rfl rfl (Nat.le_of_ble_eq_true rfl) (Nat.le_of_ble_eq_true rfl) dX4_wordNumber_88

def sR_clause  : Int32 := 0
set_option maxHeartbeats 4000000 in
set_option maxRecDepth 100000 in
theorem c_R_clause (l : Launch) (D : va_G) (g : Nat → ClassId) (u adK adV : Nat → Nat) : CtI l yX4_isClauseRead wsX4_isClauseRead { frames := 4, cells := 0, slots := 0, locals := 130 } D (TY g) [.ref (u 2), .ref (u 0)] (XC [((u 2), .inr (4, [.ref (u 18), .int 0, .int 0, .int 0, .int 0]))] adK adV) [((u 2), .inr (4, [.ref (u 18), .int 0, .int 0, .int 0, .int 0]))] (fun r (_ : Unit) => r = sR_clause ) (fun _ => [((u 2), .inr (4, [.ref (u 18), .int 0, .int 0, .int 0, .int 0]))]) := by
  refine CtI.intro (cc := cX4_isClauseRead) (maxL := 4) (ret := (some .boolean)) rfl (by decide +kernel) (Nat.le_of_ble_eq_true rfl) ?_
  intro p e s m below meth c A ls C hmn hX hAe hT hl
  have hx := C.1.1
  have hb := C.1.2.1
  have hl : lv_has ls 4 [(0, .ref (u 2)), (1, .ref (u 0))] := hl
  have hXS : XS A adK adV s s.heap := by rw [hAe]; exact hX
  refine lv_aload_n hx hb dX4_isClauseRead_0 rfl (lv_at hl 0 rfl) ?_
  refine lv_aload_n hx hb dX4_isClauseRead_1 rfl (lv_at hl 1 rfl) ?_
  refine z_callVI (wr := []) (n := 1) C (c_R_wordNumber l D g u adK adV) gX4_isClauseRead_X4_wordNumber rfl (by decide +kernel) ⟨Nat.le_of_ble_eq_true rfl, Nat.le_of_ble_eq_true rfl⟩ ⟨Nat.le_of_ble_eq_true rfl, Nat.le_of_ble_eq_true rfl⟩ XC.blind (hXS.pass hT [0] rfl) hT [0] [] rfl rfl rfl rfl rfl 0 rfl rfl rfl rfl hl.1 rfl (Nat.le_of_ble_eq_true rfl) dX4_isClauseRead_2 (fun r_3 u_1 H locs hp_2 hT => ?_)
  have hT : Sit D (TY g) A s [((u 2), .inr (4, [.ref (u 18), .int 0, .int 0, .int 0, .int 0]))] H _ := hT
  have hp_2 := hp_2.trans (show sR_word = -1 from rfl)
  subst hp_2
  refine lv_istore_n (lv' := [(2, .int (-1)), (0, .ref (u 2)), (1, .ref (u 0))]) hx hb dX4_isClauseRead_5 rfl hl (by decide +kernel) rfl (fun ls hl => ?_)
  refine lv_iload_n hx hb dX4_isClauseRead_6 rfl (lv_at hl 0 rfl) ?_
  refine lv_iconst (v := (-1)) hx hb dX4_isClauseRead_7 (by decide +kernel) ?_
  refine lv_icmp_eq (tgt := 19) hx hb dX4_isClauseRead_8 (by decide +kernel) (fun _ => ?_) (fun c9 => absurd (by decide +kernel) c9)
  refine lv_iconst (v := 0) hx hb dX4_isClauseRead_19 (by decide +kernel) ?_
  exact z_zret C rfl (by first | rfl | (split <;> rfl)) hT () rfl [0] rfl rfl (Nat.le_of_ble_eq_true rfl) (Nat.le_of_ble_eq_true rfl) dX4_isClauseRead_20

def sR_read  : Int32 := 0
set_option maxHeartbeats 4000000 in
set_option maxRecDepth 100000 in
theorem c_R_read (l : Launch) (D : va_G) (g : Nat → ClassId) (u adK adV : Nat → Nat) : CtI l yX4_read wsX4_read { frames := 5, cells := 0, slots := 0, locals := 160 } D (TY g) [.ref (u 2), .ref (u 0), .ref (u 1)] (XC [((u 2), .inr (4, [.ref (u 18), .int 0, .int 0, .int 0, .int 0])), ((u 0), .inr (6, [.ref (u 7), .int 0])), ((u 18), .inr (1, [.int 5, .int 40, .int 8, .int 0, .int 0, .int 0, .ref (u 19), .ref (u 20), .ref (u 21), .ref (u 22), .ref (u 23), .ref (u 24), .ref (u 25), .ref (u 26), .ref (u 27), .ref (u 28)])), ((u 19), .inl (g 0, 6, .inl (fun _ => 0))), ((u 20), .inl (g 0, 6, .inl (fun _ => 0))), ((u 21), .inl (g 0, 6, .inl (fun _ => 0))), ((u 22), .inl (g 0, 6, .inl (fun _ => 0))), ((u 23), .inl (g 0, 6, .inl (fun _ => 0))), ((u 24), .inl (g 0, 6, .inl (fun _ => 0))), ((u 25), .inl (g 0, 6, .inl (fun _ => 0))), ((u 26), .inl (g 0, 6, .inl (fun _ => 0))), ((u 27), .inl (g 0, 6, .inl (fun _ => 0))), ((u 1), .inr (1, [.int 5, .int 40, .int 8, .int 0, .int 0, .int 0, .ref (u 8), .ref (u 9), .ref (u 10), .ref (u 11), .ref (u 12), .ref (u 13), .ref (u 14), .ref (u 15), .ref (u 16), .ref (u 17)])), ((u 8), .inl (g 0, 6, .inl (fun _ => 0))), ((u 9), .inl (g 0, 6, .inl (fun _ => 0))), ((u 10), .inl (g 0, 6, .inl (fun _ => 0))), ((u 11), .inl (g 0, 6, .inl (fun _ => 0))), ((u 12), .inl (g 0, 6, .inl (fun _ => 0))), ((u 13), .inl (g 0, 6, .inl (fun _ => 0))), ((u 14), .inl (g 0, 6, .inl (fun _ => 0))), ((u 15), .inl (g 0, 6, .inl (fun _ => 0))), ((u 16), .inl (g 0, 6, .inl (fun _ => 0)))] adK adV) [((u 2), .inr (4, [.ref (u 18), .int 0, .int 0, .int 0, .int 0])), ((u 0), .inr (6, [.ref (u 7), .int 0])), ((u 18), .inr (1, [.int 5, .int 40, .int 8, .int 0, .int 0, .int 0, .ref (u 19), .ref (u 20), .ref (u 21), .ref (u 22), .ref (u 23), .ref (u 24), .ref (u 25), .ref (u 26), .ref (u 27), .ref (u 28)])), ((u 19), .inl (g 0, 6, .inl (fun _ => 0))), ((u 20), .inl (g 0, 6, .inl (fun _ => 0))), ((u 21), .inl (g 0, 6, .inl (fun _ => 0))), ((u 22), .inl (g 0, 6, .inl (fun _ => 0))), ((u 23), .inl (g 0, 6, .inl (fun _ => 0))), ((u 24), .inl (g 0, 6, .inl (fun _ => 0))), ((u 25), .inl (g 0, 6, .inl (fun _ => 0))), ((u 26), .inl (g 0, 6, .inl (fun _ => 0))), ((u 27), .inl (g 0, 6, .inl (fun _ => 0))), ((u 1), .inr (1, [.int 5, .int 40, .int 8, .int 0, .int 0, .int 0, .ref (u 8), .ref (u 9), .ref (u 10), .ref (u 11), .ref (u 12), .ref (u 13), .ref (u 14), .ref (u 15), .ref (u 16), .ref (u 17)])), ((u 8), .inl (g 0, 6, .inl (fun _ => 0))), ((u 9), .inl (g 0, 6, .inl (fun _ => 0))), ((u 10), .inl (g 0, 6, .inl (fun _ => 0))), ((u 11), .inl (g 0, 6, .inl (fun _ => 0))), ((u 12), .inl (g 0, 6, .inl (fun _ => 0))), ((u 13), .inl (g 0, 6, .inl (fun _ => 0))), ((u 14), .inl (g 0, 6, .inl (fun _ => 0))), ((u 15), .inl (g 0, 6, .inl (fun _ => 0))), ((u 16), .inl (g 0, 6, .inl (fun _ => 0)))] (fun r (_ : Unit) => r = sR_read ) (fun _ => []) := by
  refine CtI.intro (cc := cX4_read) (maxL := 4) (ret := (some .int)) rfl (by decide +kernel) (Nat.le_of_ble_eq_true rfl) ?_
  intro p e s m below meth c A ls C hmn hX hAe hT hl
  have hx := C.1.1
  have hb := C.1.2.1
  have hl : lv_has ls 4 [(0, .ref (u 2)), (1, .ref (u 0)), (2, .ref (u 1))] := hl
  have hXS : XS A adK adV s s.heap := by rw [hAe]; exact hX
  have hin4 : ∀ w ∈ u_ws RX4 TX4 5, w ∈ wsX4_read := by decide +kernel
  refine lv_aload_n hx hb dX4_read_0 rfl (lv_at hl 0 rfl) ?_
  refine z_get C (ci := 4) (N := 5) rfl hin4 hT 0 0 rfl rfl (by decide +kernel) (by decide +kernel) dX4_read_1 ?_
  refine lv_aload_n hx hb dX4_read_4 rfl (lv_at hl 2 rfl) ?_
  refine z_callVV (wr := [((u 2), .inr (4, [.ref (u 18), .int 0, .int 0, .int 0, .int 0])), ((u 0), .inr (6, [.ref (u 7), .int 0]))]) (n := 1) C (c_Hall_copy l D g (u 18) (u 1) (fun k => u (19 + k)) (fun k => u (8 + k))) gX4_read_X1_copyFrom rfl (by decide +kernel) ⟨Nat.le_of_ble_eq_true rfl, Nat.le_of_ble_eq_true rfl⟩ ⟨Nat.le_of_ble_eq_true rfl, Nat.le_of_ble_eq_true rfl⟩ blind_T (fun _ _ _ => trivial) hT [2, 3, 4, 5, 6, 7, 8, 9, 10, 11, 12, 13, 14, 15, 16, 17, 18, 19, 20, 21] [0, 1] rfl rfl rfl rfl rfl 2 rfl rfl rfl rfl hl.1 rfl (Nat.le_of_ble_eq_true rfl) dX4_read_5 (fun u_1 H locs hp_2 hT => ?_)
  have hT : Sit D (TY g) A s [((u 2), .inr (4, [.ref (u 18), .int 0, .int 0, .int 0, .int 0])), ((u 0), .inr (6, [.ref (u 7), .int 0])), ((u 1), .inr (1, [.int 5, .int 40, .int 8, .int 0, .int 0, .int 0, .ref (u 8), .ref (u 9), .ref (u 10), .ref (u 11), .ref (u 12), .ref (u 13), .ref (u 14), .ref (u 15), .ref (u 16), .ref (u 17)])), ((u 8), .inl (g 0, 6, .inl (fun _ => 0))), ((u 9), .inl (g 0, 6, .inl (fun _ => 0))), ((u 10), .inl (g 0, 6, .inl (fun _ => 0))), ((u 11), .inl (g 0, 6, .inl (fun _ => 0))), ((u 12), .inl (g 0, 6, .inl (fun _ => 0))), ((u 13), .inl (g 0, 6, .inl (fun _ => 0))), ((u 14), .inl (g 0, 6, .inl (fun _ => 0))), ((u 15), .inl (g 0, 6, .inl (fun _ => 0))), ((u 16), .inl (g 0, 6, .inl (fun _ => 0)))] H _ := hT
  refine lv_aload_n hx hb dX4_read_8 rfl (lv_at hl 0 rfl) ?_
  refine lv_iconst (v := 0) hx hb dX4_read_9 (by decide +kernel) ?_
  refine z_put C (ci := 4) (N := 5) rfl hin4 tyX4_ok nmX4 hT 0 1 rfl (Nat.le_of_ble_eq_true rfl) (by decide +kernel) (by decide +kernel) rfl rfl rfl dX4_read_10 [((u 2), .inr (4, [.ref (u 18), .int 0, .int 0, .int 0, .int 0])), ((u 0), .inr (6, [.ref (u 7), .int 0])), ((u 1), .inr (1, [.int 5, .int 40, .int 8, .int 0, .int 0, .int 0, .ref (u 8), .ref (u 9), .ref (u 10), .ref (u 11), .ref (u 12), .ref (u 13), .ref (u 14), .ref (u 15), .ref (u 16), .ref (u 17)])), ((u 8), .inl (g 0, 6, .inl (fun _ => 0))), ((u 9), .inl (g 0, 6, .inl (fun _ => 0))), ((u 10), .inl (g 0, 6, .inl (fun _ => 0))), ((u 11), .inl (g 0, 6, .inl (fun _ => 0))), ((u 12), .inl (g 0, 6, .inl (fun _ => 0))), ((u 13), .inl (g 0, 6, .inl (fun _ => 0))), ((u 14), .inl (g 0, 6, .inl (fun _ => 0))), ((u 15), .inl (g 0, 6, .inl (fun _ => 0))), ((u 16), .inl (g 0, 6, .inl (fun _ => 0)))] rfl (fun H locs hT => ?_)
  refine lv_aload_n hx hb dX4_read_13 rfl (lv_at hl 0 rfl) ?_
  refine lv_iconst (v := 0) hx hb dX4_read_14 (by decide +kernel) ?_
  refine z_put C (ci := 4) (N := 5) rfl hin4 tyX4_ok nmX4 hT 0 3 rfl (Nat.le_of_ble_eq_true rfl) (by decide +kernel) (by decide +kernel) rfl rfl rfl dX4_read_15 [((u 2), .inr (4, [.ref (u 18), .int 0, .int 0, .int 0, .int 0])), ((u 0), .inr (6, [.ref (u 7), .int 0])), ((u 1), .inr (1, [.int 5, .int 40, .int 8, .int 0, .int 0, .int 0, .ref (u 8), .ref (u 9), .ref (u 10), .ref (u 11), .ref (u 12), .ref (u 13), .ref (u 14), .ref (u 15), .ref (u 16), .ref (u 17)])), ((u 8), .inl (g 0, 6, .inl (fun _ => 0))), ((u 9), .inl (g 0, 6, .inl (fun _ => 0))), ((u 10), .inl (g 0, 6, .inl (fun _ => 0))), ((u 11), .inl (g 0, 6, .inl (fun _ => 0))), ((u 12), .inl (g 0, 6, .inl (fun _ => 0))), ((u 13), .inl (g 0, 6, .inl (fun _ => 0))), ((u 14), .inl (g 0, 6, .inl (fun _ => 0))), ((u 15), .inl (g 0, 6, .inl (fun _ => 0))), ((u 16), .inl (g 0, 6, .inl (fun _ => 0)))] rfl (fun H locs hT => ?_)
  refine lv_aload_n hx hb dX4_read_18 rfl (lv_at hl 0 rfl) ?_
  refine lv_aload_n hx hb dX4_read_19 rfl (lv_at hl 1 rfl) ?_
  refine z_callVV (wr := [((u 1), .inr (1, [.int 5, .int 40, .int 8, .int 0, .int 0, .int 0, .ref (u 8), .ref (u 9), .ref (u 10), .ref (u 11), .ref (u 12), .ref (u 13), .ref (u 14), .ref (u 15), .ref (u 16), .ref (u 17)])), ((u 8), .inl (g 0, 6, .inl (fun _ => 0))), ((u 9), .inl (g 0, 6, .inl (fun _ => 0))), ((u 10), .inl (g 0, 6, .inl (fun _ => 0))), ((u 11), .inl (g 0, 6, .inl (fun _ => 0))), ((u 12), .inl (g 0, 6, .inl (fun _ => 0))), ((u 13), .inl (g 0, 6, .inl (fun _ => 0))), ((u 14), .inl (g 0, 6, .inl (fun _ => 0))), ((u 15), .inl (g 0, 6, .inl (fun _ => 0))), ((u 16), .inl (g 0, 6, .inl (fun _ => 0)))]) (n := 1) C (c_R_goOn l D g u) gX4_read_X4_goOn rfl (by decide +kernel) ⟨Nat.le_of_ble_eq_true rfl, Nat.le_of_ble_eq_true rfl⟩ ⟨Nat.le_of_ble_eq_true rfl, Nat.le_of_ble_eq_true rfl⟩ blind_T (fun _ _ _ => trivial) hT [0, 1] [2, 3, 4, 5, 6, 7, 8, 9, 10, 11] rfl rfl rfl rfl rfl 0 rfl rfl rfl rfl hl.1 rfl (Nat.le_of_ble_eq_true rfl) dX4_read_20 (fun u_3 H locs hp_4 hT => ?_)
  have hT : Sit D (TY g) A s [((u 1), .inr (1, [.int 5, .int 40, .int 8, .int 0, .int 0, .int 0, .ref (u 8), .ref (u 9), .ref (u 10), .ref (u 11), .ref (u 12), .ref (u 13), .ref (u 14), .ref (u 15), .ref (u 16), .ref (u 17)])), ((u 8), .inl (g 0, 6, .inl (fun _ => 0))), ((u 9), .inl (g 0, 6, .inl (fun _ => 0))), ((u 10), .inl (g 0, 6, .inl (fun _ => 0))), ((u 11), .inl (g 0, 6, .inl (fun _ => 0))), ((u 12), .inl (g 0, 6, .inl (fun _ => 0))), ((u 13), .inl (g 0, 6, .inl (fun _ => 0))), ((u 14), .inl (g 0, 6, .inl (fun _ => 0))), ((u 15), .inl (g 0, 6, .inl (fun _ => 0))), ((u 16), .inl (g 0, 6, .inl (fun _ => 0))), ((u 2), .inr (4, [.ref (u 18), .int 0, .int 0, .int 0, .int 0])), ((u 0), .inr (6, [.ref (u 7), .int 0]))] H _ := hT
  refine lv_iconst (v := 0) hx hb dX4_read_23 (by decide +kernel) ?_
  refine lv_istore_n (lv' := [(3, .int 0), (0, .ref (u 2)), (1, .ref (u 0)), (2, .ref (u 1))]) hx hb dX4_read_24 rfl hl (by decide +kernel) rfl (fun ls hl => ?_)
  refine lv_iload_n hx hb dX4_read_25 rfl (lv_at hl 0 rfl) ?_
  refine lv_bipush (v := 14) hx hb dX4_read_26 (by decide +kernel) ?_
  refine lv_icmp_ge (tgt := 105) hx hb dX4_read_28 (by decide +kernel) (fun c9 => absurd c9 (by decide +kernel)) (fun _ => ?_)
  refine lv_aload_n hx hb dX4_read_31 rfl (lv_at hl 1 rfl) ?_
  refine lv_aload_n hx hb dX4_read_32 rfl (lv_at hl 2 rfl) ?_
  refine z_callVI (wr := [((u 1), .inr (1, [.int 5, .int 40, .int 8, .int 0, .int 0, .int 0, .ref (u 8), .ref (u 9), .ref (u 10), .ref (u 11), .ref (u 12), .ref (u 13), .ref (u 14), .ref (u 15), .ref (u 16), .ref (u 17)])), ((u 8), .inl (g 0, 6, .inl (fun _ => 0))), ((u 9), .inl (g 0, 6, .inl (fun _ => 0))), ((u 10), .inl (g 0, 6, .inl (fun _ => 0))), ((u 11), .inl (g 0, 6, .inl (fun _ => 0))), ((u 12), .inl (g 0, 6, .inl (fun _ => 0))), ((u 13), .inl (g 0, 6, .inl (fun _ => 0))), ((u 14), .inl (g 0, 6, .inl (fun _ => 0))), ((u 15), .inl (g 0, 6, .inl (fun _ => 0))), ((u 16), .inl (g 0, 6, .inl (fun _ => 0))), ((u 0), .inr (6, [.ref (u 7), .int 0]))]) (n := 1) C (c_R_clause l D g u adK adV) gX4_read_X4_isClauseRead rfl (by decide +kernel) ⟨Nat.le_of_ble_eq_true rfl, Nat.le_of_ble_eq_true rfl⟩ ⟨Nat.le_of_ble_eq_true rfl, Nat.le_of_ble_eq_true rfl⟩ XC.blind (hXS.pass hT [10] rfl) hT [10] [0, 1, 2, 3, 4, 5, 6, 7, 8, 9, 11] rfl rfl rfl rfl rfl 10 rfl rfl rfl rfl hl.1 rfl (Nat.le_of_ble_eq_true rfl) dX4_read_33 (fun r_7 u_5 H locs hp_6 hT => ?_)
  have hT : Sit D (TY g) A s [((u 1), .inr (1, [.int 5, .int 40, .int 8, .int 0, .int 0, .int 0, .ref (u 8), .ref (u 9), .ref (u 10), .ref (u 11), .ref (u 12), .ref (u 13), .ref (u 14), .ref (u 15), .ref (u 16), .ref (u 17)])), ((u 8), .inl (g 0, 6, .inl (fun _ => 0))), ((u 9), .inl (g 0, 6, .inl (fun _ => 0))), ((u 10), .inl (g 0, 6, .inl (fun _ => 0))), ((u 11), .inl (g 0, 6, .inl (fun _ => 0))), ((u 12), .inl (g 0, 6, .inl (fun _ => 0))), ((u 13), .inl (g 0, 6, .inl (fun _ => 0))), ((u 14), .inl (g 0, 6, .inl (fun _ => 0))), ((u 15), .inl (g 0, 6, .inl (fun _ => 0))), ((u 16), .inl (g 0, 6, .inl (fun _ => 0))), ((u 0), .inr (6, [.ref (u 7), .int 0])), ((u 2), .inr (4, [.ref (u 18), .int 0, .int 0, .int 0, .int 0]))] H _ := hT
  have hp_6 := hp_6.trans (show sR_clause = 0 from rfl)
  subst hp_6
  refine lv_if_ne (tgt := 44) hx hb dX4_read_36 (by decide +kernel) (fun c9 => absurd c9 (by decide +kernel)) (fun _ => ?_)
  refine lv_aload_n hx hb dX4_read_39 rfl (lv_at hl 1 rfl) ?_
  refine z_get C (ci := 4) (N := 5) rfl hin4 hT 11 2 rfl rfl (by decide +kernel) (by decide +kernel) dX4_read_40 ?_
  exact z_iret C rfl hT () rfl [] rfl rfl (Nat.le_of_ble_eq_true rfl) (Nat.le_of_ble_eq_true rfl) dX4_read_43

def sP_fault  : Int32 := 0
set_option maxHeartbeats 4000000 in
set_option maxRecDepth 100000 in
/-- CowardsPot.fault on a new pot -/
theorem c_P_fault (l : Launch) (D : va_G) (g : Nat → ClassId) (h0 : Nat) (u adK adV : Nat → Nat) : CtI l yX7_fault wsX7_fault { frames := 6, cells := 0, slots := 0, locals := 190 } D (TY g) [.ref h0] (XC [(h0, .inr (7, [.ref (u 0), .ref (u 1), .ref (u 2), .ref (u 3), .ref (u 4), .ref (u 5), .ref (u 6)])), ((u 2), .inr (4, [.ref (u 18), .int 0, .int 0, .int 0, .int 0])), ((u 0), .inr (6, [.ref (u 7), .int 0])), ((u 18), .inr (1, [.int 5, .int 40, .int 8, .int 0, .int 0, .int 0, .ref (u 19), .ref (u 20), .ref (u 21), .ref (u 22), .ref (u 23), .ref (u 24), .ref (u 25), .ref (u 26), .ref (u 27), .ref (u 28)])), ((u 19), .inl (g 0, 6, .inl (fun _ => 0))), ((u 20), .inl (g 0, 6, .inl (fun _ => 0))), ((u 21), .inl (g 0, 6, .inl (fun _ => 0))), ((u 22), .inl (g 0, 6, .inl (fun _ => 0))), ((u 23), .inl (g 0, 6, .inl (fun _ => 0))), ((u 24), .inl (g 0, 6, .inl (fun _ => 0))), ((u 25), .inl (g 0, 6, .inl (fun _ => 0))), ((u 26), .inl (g 0, 6, .inl (fun _ => 0))), ((u 27), .inl (g 0, 6, .inl (fun _ => 0))), ((u 1), .inr (1, [.int 5, .int 40, .int 8, .int 0, .int 0, .int 0, .ref (u 8), .ref (u 9), .ref (u 10), .ref (u 11), .ref (u 12), .ref (u 13), .ref (u 14), .ref (u 15), .ref (u 16), .ref (u 17)])), ((u 8), .inl (g 0, 6, .inl (fun _ => 0))), ((u 9), .inl (g 0, 6, .inl (fun _ => 0))), ((u 10), .inl (g 0, 6, .inl (fun _ => 0))), ((u 11), .inl (g 0, 6, .inl (fun _ => 0))), ((u 12), .inl (g 0, 6, .inl (fun _ => 0))), ((u 13), .inl (g 0, 6, .inl (fun _ => 0))), ((u 14), .inl (g 0, 6, .inl (fun _ => 0))), ((u 15), .inl (g 0, 6, .inl (fun _ => 0))), ((u 16), .inl (g 0, 6, .inl (fun _ => 0)))] adK adV) [(h0, .inr (7, [.ref (u 0), .ref (u 1), .ref (u 2), .ref (u 3), .ref (u 4), .ref (u 5), .ref (u 6)])), ((u 2), .inr (4, [.ref (u 18), .int 0, .int 0, .int 0, .int 0])), ((u 0), .inr (6, [.ref (u 7), .int 0])), ((u 18), .inr (1, [.int 5, .int 40, .int 8, .int 0, .int 0, .int 0, .ref (u 19), .ref (u 20), .ref (u 21), .ref (u 22), .ref (u 23), .ref (u 24), .ref (u 25), .ref (u 26), .ref (u 27), .ref (u 28)])), ((u 19), .inl (g 0, 6, .inl (fun _ => 0))), ((u 20), .inl (g 0, 6, .inl (fun _ => 0))), ((u 21), .inl (g 0, 6, .inl (fun _ => 0))), ((u 22), .inl (g 0, 6, .inl (fun _ => 0))), ((u 23), .inl (g 0, 6, .inl (fun _ => 0))), ((u 24), .inl (g 0, 6, .inl (fun _ => 0))), ((u 25), .inl (g 0, 6, .inl (fun _ => 0))), ((u 26), .inl (g 0, 6, .inl (fun _ => 0))), ((u 27), .inl (g 0, 6, .inl (fun _ => 0))), ((u 1), .inr (1, [.int 5, .int 40, .int 8, .int 0, .int 0, .int 0, .ref (u 8), .ref (u 9), .ref (u 10), .ref (u 11), .ref (u 12), .ref (u 13), .ref (u 14), .ref (u 15), .ref (u 16), .ref (u 17)])), ((u 8), .inl (g 0, 6, .inl (fun _ => 0))), ((u 9), .inl (g 0, 6, .inl (fun _ => 0))), ((u 10), .inl (g 0, 6, .inl (fun _ => 0))), ((u 11), .inl (g 0, 6, .inl (fun _ => 0))), ((u 12), .inl (g 0, 6, .inl (fun _ => 0))), ((u 13), .inl (g 0, 6, .inl (fun _ => 0))), ((u 14), .inl (g 0, 6, .inl (fun _ => 0))), ((u 15), .inl (g 0, 6, .inl (fun _ => 0))), ((u 16), .inl (g 0, 6, .inl (fun _ => 0)))] (fun r (_ : Unit) => r = sP_fault ) (fun _ => []) := by
  refine CtI.intro (cc := cX7_fault) (maxL := 1) (ret := (some .int)) rfl (by decide +kernel) (Nat.le_of_ble_eq_true rfl) ?_
  intro p e s m below meth c A ls C hmn hX hAe hT hl
  have hx := C.1.1
  have hb := C.1.2.1
  have hl : lv_has ls 1 [(0, .ref h0)] := hl
  have hXS : XS A adK adV s s.heap := by rw [hAe]; exact hX
  have hin7 : ∀ w ∈ u_ws RX7 TX7 7, w ∈ wsX7_fault := by decide +kernel
  refine lv_aload_n hx hb dX7_fault_0 rfl (lv_at hl 0 rfl) ?_
  refine z_get C (ci := 7) (N := 7) rfl hin7 hT 0 2 rfl rfl (by decide +kernel) (by decide +kernel) dX7_fault_1 ?_
  refine lv_aload_n hx hb dX7_fault_4 rfl (lv_at hl 0 rfl) ?_
  refine z_get C (ci := 7) (N := 7) rfl hin7 hT 0 0 rfl rfl (by decide +kernel) (by decide +kernel) dX7_fault_5 ?_
  refine lv_aload_n hx hb dX7_fault_8 rfl (lv_at hl 0 rfl) ?_
  refine z_get C (ci := 7) (N := 7) rfl hin7 hT 0 1 rfl rfl (by decide +kernel) (by decide +kernel) dX7_fault_9 ?_
  refine z_callVI (wr := [(h0, .inr (7, [.ref (u 0), .ref (u 1), .ref (u 2), .ref (u 3), .ref (u 4), .ref (u 5), .ref (u 6)]))]) (n := 2) C (c_R_read l D g u adK adV) gX7_fault_X4_read rfl (by decide +kernel) ⟨Nat.le_of_ble_eq_true rfl, Nat.le_of_ble_eq_true rfl⟩ ⟨Nat.le_of_ble_eq_true rfl, Nat.le_of_ble_eq_true rfl⟩ XC.blind (hXS.pass hT [1, 2, 3, 4, 5, 6, 7, 8, 9, 10, 11, 12, 13, 14, 15, 16, 17, 18, 19, 20, 21, 22] rfl) hT [1, 2, 3, 4, 5, 6, 7, 8, 9, 10, 11, 12, 13, 14, 15, 16, 17, 18, 19, 20, 21, 22] [0] rfl rfl rfl rfl rfl 1 rfl rfl rfl rfl hl.1 rfl (Nat.le_of_ble_eq_true rfl) dX7_fault_12 (fun r_3 u_1 H locs hp_2 hT => ?_)
  have hT : Sit D (TY g) A s [(h0, .inr (7, [.ref (u 0), .ref (u 1), .ref (u 2), .ref (u 3), .ref (u 4), .ref (u 5), .ref (u 6)]))] H _ := hT
  have hp_2 := hp_2.trans (show sR_read = 0 from rfl)
  subst hp_2
  exact z_iret C rfl hT () rfl [] rfl rfl (Nat.le_of_ble_eq_true rfl) (Nat.le_of_ble_eq_true rfl) dX7_fault_15

def sP_hall  : Int32 := (-4)
set_option maxHeartbeats 4000000 in
set_option maxRecDepth 100000 in
/-- CowardsPot.hall on a new pot -/
theorem c_P_hall (l : Launch) (D : va_G) (g : Nat → ClassId) (h0 : Nat) (u adK adV : Nat → Nat) : CtI l yX7_hall wsX7_hall { frames := 6, cells := 0, slots := 0, locals := 190 } D (TY g) [.ref h0] (XC [(h0, .inr (7, [.ref (u 0), .ref (u 1), .ref (u 2), .ref (u 3), .ref (u 4), .ref (u 5), .ref (u 6)])), ((u 2), .inr (4, [.ref (u 18), .int 0, .int 0, .int 0, .int 0])), ((u 0), .inr (6, [.ref (u 7), .int 0])), ((u 18), .inr (1, [.int 5, .int 40, .int 8, .int 0, .int 0, .int 0, .ref (u 19), .ref (u 20), .ref (u 21), .ref (u 22), .ref (u 23), .ref (u 24), .ref (u 25), .ref (u 26), .ref (u 27), .ref (u 28)])), ((u 19), .inl (g 0, 6, .inl (fun _ => 0))), ((u 20), .inl (g 0, 6, .inl (fun _ => 0))), ((u 21), .inl (g 0, 6, .inl (fun _ => 0))), ((u 22), .inl (g 0, 6, .inl (fun _ => 0))), ((u 23), .inl (g 0, 6, .inl (fun _ => 0))), ((u 24), .inl (g 0, 6, .inl (fun _ => 0))), ((u 25), .inl (g 0, 6, .inl (fun _ => 0))), ((u 26), .inl (g 0, 6, .inl (fun _ => 0))), ((u 27), .inl (g 0, 6, .inl (fun _ => 0))), ((u 1), .inr (1, [.int 5, .int 40, .int 8, .int 0, .int 0, .int 0, .ref (u 8), .ref (u 9), .ref (u 10), .ref (u 11), .ref (u 12), .ref (u 13), .ref (u 14), .ref (u 15), .ref (u 16), .ref (u 17)])), ((u 8), .inl (g 0, 6, .inl (fun _ => 0))), ((u 9), .inl (g 0, 6, .inl (fun _ => 0))), ((u 10), .inl (g 0, 6, .inl (fun _ => 0))), ((u 11), .inl (g 0, 6, .inl (fun _ => 0))), ((u 12), .inl (g 0, 6, .inl (fun _ => 0))), ((u 13), .inl (g 0, 6, .inl (fun _ => 0))), ((u 14), .inl (g 0, 6, .inl (fun _ => 0))), ((u 15), .inl (g 0, 6, .inl (fun _ => 0))), ((u 16), .inl (g 0, 6, .inl (fun _ => 0)))] adK adV) [(h0, .inr (7, [.ref (u 0), .ref (u 1), .ref (u 2), .ref (u 3), .ref (u 4), .ref (u 5), .ref (u 6)])), ((u 2), .inr (4, [.ref (u 18), .int 0, .int 0, .int 0, .int 0])), ((u 0), .inr (6, [.ref (u 7), .int 0])), ((u 18), .inr (1, [.int 5, .int 40, .int 8, .int 0, .int 0, .int 0, .ref (u 19), .ref (u 20), .ref (u 21), .ref (u 22), .ref (u 23), .ref (u 24), .ref (u 25), .ref (u 26), .ref (u 27), .ref (u 28)])), ((u 19), .inl (g 0, 6, .inl (fun _ => 0))), ((u 20), .inl (g 0, 6, .inl (fun _ => 0))), ((u 21), .inl (g 0, 6, .inl (fun _ => 0))), ((u 22), .inl (g 0, 6, .inl (fun _ => 0))), ((u 23), .inl (g 0, 6, .inl (fun _ => 0))), ((u 24), .inl (g 0, 6, .inl (fun _ => 0))), ((u 25), .inl (g 0, 6, .inl (fun _ => 0))), ((u 26), .inl (g 0, 6, .inl (fun _ => 0))), ((u 27), .inl (g 0, 6, .inl (fun _ => 0))), ((u 1), .inr (1, [.int 5, .int 40, .int 8, .int 0, .int 0, .int 0, .ref (u 8), .ref (u 9), .ref (u 10), .ref (u 11), .ref (u 12), .ref (u 13), .ref (u 14), .ref (u 15), .ref (u 16), .ref (u 17)])), ((u 8), .inl (g 0, 6, .inl (fun _ => 0))), ((u 9), .inl (g 0, 6, .inl (fun _ => 0))), ((u 10), .inl (g 0, 6, .inl (fun _ => 0))), ((u 11), .inl (g 0, 6, .inl (fun _ => 0))), ((u 12), .inl (g 0, 6, .inl (fun _ => 0))), ((u 13), .inl (g 0, 6, .inl (fun _ => 0))), ((u 14), .inl (g 0, 6, .inl (fun _ => 0))), ((u 15), .inl (g 0, 6, .inl (fun _ => 0))), ((u 16), .inl (g 0, 6, .inl (fun _ => 0)))] (fun r (_ : Unit) => r = sP_hall ) (fun _ => []) := by
  refine CtI.intro (cc := cX7_hall) (maxL := 2) (ret := (some .int)) rfl (by decide +kernel) (Nat.le_of_ble_eq_true rfl) ?_
  intro p e s m below meth c A ls C hmn hX hAe hT hl
  have hx := C.1.1
  have hb := C.1.2.1
  have hl : lv_has ls 2 [(0, .ref h0)] := hl
  have hXS : XS A adK adV s s.heap := by rw [hAe]; exact hX
  have hin7 : ∀ w ∈ u_ws RX7 TX7 7, w ∈ wsX7_hall := by decide +kernel
  refine lv_aload_n hx hb dX7_hall_0 rfl (lv_at hl 0 rfl) ?_
  refine z_get C (ci := 7) (N := 7) rfl hin7 hT 0 2 rfl rfl (by decide +kernel) (by decide +kernel) dX7_hall_1 ?_
  refine lv_aload_n hx hb dX7_hall_4 rfl (lv_at hl 0 rfl) ?_
  refine z_get C (ci := 7) (N := 7) rfl hin7 hT 0 0 rfl rfl (by decide +kernel) (by decide +kernel) dX7_hall_5 ?_
  refine lv_aload_n hx hb dX7_hall_8 rfl (lv_at hl 0 rfl) ?_
  refine z_get C (ci := 7) (N := 7) rfl hin7 hT 0 1 rfl rfl (by decide +kernel) (by decide +kernel) dX7_hall_9 ?_
  refine z_callVI (wr := [(h0, .inr (7, [.ref (u 0), .ref (u 1), .ref (u 2), .ref (u 3), .ref (u 4), .ref (u 5), .ref (u 6)]))]) (n := 2) C (c_R_read l D g u adK adV) gX7_hall_X4_read rfl (by decide +kernel) ⟨Nat.le_of_ble_eq_true rfl, Nat.le_of_ble_eq_true rfl⟩ ⟨Nat.le_of_ble_eq_true rfl, Nat.le_of_ble_eq_true rfl⟩ XC.blind (hXS.pass hT [1, 2, 3, 4, 5, 6, 7, 8, 9, 10, 11, 12, 13, 14, 15, 16, 17, 18, 19, 20, 21, 22] rfl) hT [1, 2, 3, 4, 5, 6, 7, 8, 9, 10, 11, 12, 13, 14, 15, 16, 17, 18, 19, 20, 21, 22] [0] rfl rfl rfl rfl rfl 1 rfl rfl rfl rfl hl.1 rfl (Nat.le_of_ble_eq_true rfl) dX7_hall_12 (fun r_3 u_1 H locs hp_2 hT => ?_)
  have hT : Sit D (TY g) A s [(h0, .inr (7, [.ref (u 0), .ref (u 1), .ref (u 2), .ref (u 3), .ref (u 4), .ref (u 5), .ref (u 6)]))] H _ := hT
  have hp_2 := hp_2.trans (show sR_read = 0 from rfl)
  subst hp_2
  refine lv_iconst (v := (-1)) hx hb dX7_hall_15 (by decide +kernel) ?_
  refine lv_icmp_eq (tgt := 22) hx hb dX7_hall_16 (by decide +kernel) (fun c9 => absurd c9 (by decide +kernel)) (fun _ => ?_)
  refine lv_bipush (v := (-4)) hx hb dX7_hall_19 (by decide +kernel) ?_
  exact z_iret C rfl hT () rfl [] rfl rfl (Nat.le_of_ble_eq_true rfl) (Nat.le_of_ble_eq_true rfl) dX7_hall_21
