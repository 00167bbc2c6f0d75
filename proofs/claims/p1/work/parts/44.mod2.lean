theorem dX8_letterAt_0 : decode cX8_letterAt 0 = .ok (.iload_n 1, 1) := by decide +kernel
theorem dX8_letterAt_1 : decode cX8_letterAt 1 = .ok (.aload_n 0, 1) := by decide +kernel
theorem dX8_letterAt_2 : decode cX8_letterAt 2 = .ok (.getfield 64, 3) := by decide +kernel
theorem dX8_letterAt_5 : decode cX8_letterAt 5 = .ok (.if_icmp .ge 12, 3) := by decide +kernel
theorem dX8_letterAt_17 : decode cX8_letterAt 17 = .ok (.iconst (-1), 1) := by decide +kernel
theorem dX8_letterAt_18 : decode cX8_letterAt 18 = .ok (.ireturn, 1) := by decide +kernel
set_option maxRecDepth 20000 in
theorem ggX8_token_X8_letterAt : GoodIn wsX8_token wsX8_letterAt := goodIn_r _ [10, 11, 5, 21, 22, 23, 24, 25, 26, 27, 28, 29, 30, 31, 32, 33, 34, 35, 36, 37, 38, 39, 40, 41] (by decide +kernel) (by decide +kernel)
set_option maxRecDepth 20000 in
theorem gX8_token_X8_letterAt : GoodIn wsX8_token (wsV RX8 71 RX8 yX8_letterAt wsX8_letterAt) := goodIn_app (goodIn_of _ (by decide +kernel)) ggX8_token_X8_letterAt
theorem dX8_token_0 : decode cX8_token 0 = .ok (.aload_n 0, 1) := by decide +kernel
theorem dX8_token_1 : decode cX8_token 1 = .ok (.aload_n 0, 1) := by decide +kernel
theorem dX8_token_2 : decode cX8_token 2 = .ok (.getfield 68, 3) := by decide +kernel
theorem dX8_token_5 : decode cX8_token 5 = .ok (.invokevirtual 71, 3) := by decide +kernel
theorem dX8_token_8 : decode cX8_token 8 = .ok (.bipush 32, 2) := by decide +kernel
theorem dX8_token_10 : decode cX8_token 10 = .ok (.if_icmp .ne 16, 3) := by decide +kernel
theorem dX8_token_26 : decode cX8_token 26 = .ok (.aload_n 0, 1) := by decide +kernel
theorem dX8_token_27 : decode cX8_token 27 = .ok (.aload_n 0, 1) := by decide +kernel
theorem dX8_token_28 : decode cX8_token 28 = .ok (.getfield 68, 3) := by decide +kernel
theorem dX8_token_31 : decode cX8_token 31 = .ok (.putfield 75, 3) := by decide +kernel
theorem dX8_token_34 : decode cX8_token 34 = .ok (.aload_n 0, 1) := by decide +kernel
theorem dX8_token_35 : decode cX8_token 35 = .ok (.aload_n 0, 1) := by decide +kernel
theorem dX8_token_36 : decode cX8_token 36 = .ok (.getfield 68, 3) := by decide +kernel
theorem dX8_token_39 : decode cX8_token 39 = .ok (.invokevirtual 71, 3) := by decide +kernel
theorem dX8_token_42 : decode cX8_token 42 = .ok (.istore_n 1, 1) := by decide +kernel
theorem dX8_token_43 : decode cX8_token 43 = .ok (.aload_n 0, 1) := by decide +kernel
theorem dX8_token_44 : decode cX8_token 44 = .ok (.iload_n 1, 1) := by decide +kernel
theorem dX8_token_45 : decode cX8_token 45 = .ok (.ifCond .ge 7, 3) := by decide +kernel
theorem dX8_token_48 : decode cX8_token 48 = .ok (.iconst 0, 1) := by decide +kernel
theorem dX8_token_49 : decode cX8_token 49 = .ok (.goto 26, 3) := by decide +kernel
theorem dX8_token_75 : decode cX8_token 75 = .ok (.putfield 85, 3) := by decide +kernel
theorem dX8_token_78 : decode cX8_token 78 = .ok (.aload_n 0, 1) := by decide +kernel
theorem dX8_token_79 : decode cX8_token 79 = .ok (.iconst 0, 1) := by decide +kernel
theorem dX8_token_80 : decode cX8_token 80 = .ok (.putfield 88, 3) := by decide +kernel
theorem dX8_token_83 : decode cX8_token 83 = .ok (.aload_n 0, 1) := by decide +kernel
theorem dX8_token_84 : decode cX8_token 84 = .ok (.getfield 85, 3) := by decide +kernel
theorem dX8_token_87 : decode cX8_token 87 = .ok (.iconst 1, 1) := by decide +kernel
theorem dX8_token_88 : decode cX8_token 88 = .ok (.if_icmp .ne 30, 3) := by decide +kernel
theorem dX8_token_118 : decode cX8_token 118 = .ok (.aload_n 0, 1) := by decide +kernel
theorem dX8_token_119 : decode cX8_token 119 = .ok (.getfield 85, 3) := by decide +kernel
theorem dX8_token_122 : decode cX8_token 122 = .ok (.iconst 2, 1) := by decide +kernel
theorem dX8_token_123 : decode cX8_token 123 = .ok (.if_icmp .ne 72, 3) := by decide +kernel
theorem dX8_token_195 : decode cX8_token 195 = .ok (.aload_n 0, 1) := by decide +kernel
theorem dX8_token_196 : decode cX8_token 196 = .ok (.dup, 1) := by decide +kernel
theorem dX8_token_197 : decode cX8_token 197 = .ok (.getfield 68, 3) := by decide +kernel
theorem dX8_token_200 : decode cX8_token 200 = .ok (.aload_n 0, 1) := by decide +kernel
theorem dX8_token_201 : decode cX8_token 201 = .ok (.getfield 85, 3) := by decide +kernel
theorem dX8_token_204 : decode cX8_token 204 = .ok (.iconst 3, 1) := by decide +kernel
theorem dX8_token_205 : decode cX8_token 205 = .ok (.if_icmp .ne 7, 3) := by decide +kernel
theorem dX8_token_212 : decode cX8_token 212 = .ok (.iconst 0, 1) := by decide +kernel
theorem dX8_token_213 : decode cX8_token 213 = .ok (.iadd, 1) := by decide +kernel
theorem dX8_token_214 : decode cX8_token 214 = .ok (.putfield 68, 3) := by decide +kernel
theorem dX8_token_217 : decode cX8_token 217 = .ok (.return_, 1) := by decide +kernel
theorem dX8_isWord_0 : decode cX8_isWord 0 = .ok (.aload_n 0, 1) := by decide +kernel
theorem dX8_isWord_1 : decode cX8_isWord 1 = .ok (.getfield 85, 3) := by decide +kernel
theorem dX8_isWord_4 : decode cX8_isWord 4 = .ok (.iconst 1, 1) := by decide +kernel
theorem dX8_isWord_5 : decode cX8_isWord 5 = .ok (.if_icmp .ne 21, 3) := by decide +kernel
theorem dX8_isWord_26 : decode cX8_isWord 26 = .ok (.iconst 0, 1) := by decide +kernel
theorem dX8_isWord_27 : decode cX8_isWord 27 = .ok (.istore 8, 2) := by decide +kernel
theorem dX8_isWord_29 : decode cX8_isWord 29 = .ok (.iconst 0, 1) := by decide +kernel
theorem dX8_isWord_30 : decode cX8_isWord 30 = .ok (.istore 9, 2) := by decide +kernel
theorem dX8_isWord_32 : decode cX8_isWord 32 = .ok (.iload 9, 2) := by decide +kernel
theorem dX8_isWord_34 : decode cX8_isWord 34 = .ok (.bipush 7, 2) := by decide +kernel
theorem dX8_isWord_36 : decode cX8_isWord 36 = .ok (.if_icmp .ge 131, 3) := by decide +kernel
theorem dX8_isWord_39 : decode cX8_isWord 39 = .ok (.iload 8, 2) := by decide +kernel
theorem dX8_isWord_41 : decode cX8_isWord 41 = .ok (.ifCond .eq 126, 3) := by decide +kernel
theorem dX8_isWord_167 : decode cX8_isWord 167 = .ok (.iload 8, 2) := by decide +kernel
theorem dX8_isWord_169 : decode cX8_isWord 169 = .ok (.ireturn, 1) := by decide +kernel
set_option maxRecDepth 20000 in
theorem ggX8_readsClause_X8_isWord : GoodIn wsX8_readsClause wsX8_isWord := goodIn_r _ [5, 6, 7, 8, 9, 50, 51, 52, 53, 54, 55, 56, 57, 58, 59, 60, 61, 62, 63, 64, 65, 66, 67, 68, 69, 70] (by decide +kernel) (by decide +kernel)
set_option maxRecDepth 20000 in
theorem gX8_readsClause_X8_isWord : GoodIn wsX8_readsClause (wsV RX8 97 RX8 yX8_isWord wsX8_isWord) := goodIn_app (goodIn_of _ (by decide +kernel)) ggX8_readsClause_X8_isWord
theorem dX8_readsClause_0 : decode cX8_readsClause 0 = .ok (.aload_n 0, 1) := by decide +kernel
theorem dX8_readsClause_1 : decode cX8_readsClause 1 = .ok (.bipush 104, 2) := by decide +kernel
theorem dX8_readsClause_3 : decode cX8_readsClause 3 = .ok (.bipush 97, 2) := by decide +kernel
theorem dX8_readsClause_5 : decode cX8_readsClause 5 = .ok (.bipush 108, 2) := by decide +kernel
theorem dX8_readsClause_7 : decode cX8_readsClause 7 = .ok (.bipush 108, 2) := by decide +kernel
theorem dX8_readsClause_9 : decode cX8_readsClause 9 = .ok (.iconst 0, 1) := by decide +kernel
theorem dX8_readsClause_10 : decode cX8_readsClause 10 = .ok (.iconst 0, 1) := by decide +kernel
theorem dX8_readsClause_11 : decode cX8_readsClause 11 = .ok (.iconst 0, 1) := by decide +kernel
theorem dX8_readsClause_12 : decode cX8_readsClause 12 = .ok (.invokevirtual 97, 3) := by decide +kernel
theorem dX8_readsClause_15 : decode cX8_readsClause 15 = .ok (.ifCond .eq 8, 3) := by decide +kernel
theorem dX8_readsClause_23 : decode cX8_readsClause 23 = .ok (.aload_n 0, 1) := by decide +kernel
theorem dX8_readsClause_24 : decode cX8_readsClause 24 = .ok (.bipush 115, 2) := by decide +kernel
theorem dX8_readsClause_26 : decode cX8_readsClause 26 = .ok (.bipush 99, 2) := by decide +kernel
theorem dX8_readsClause_28 : decode cX8_readsClause 28 = .ok (.bipush 97, 2) := by decide +kernel
theorem dX8_readsClause_30 : decode cX8_readsClause 30 = .ok (.bipush 108, 2) := by decide +kernel
theorem dX8_readsClause_32 : decode cX8_readsClause 32 = .ok (.bipush 101, 2) := by decide +kernel
theorem dX8_readsClause_34 : decode cX8_readsClause 34 = .ok (.iconst 0, 1) := by decide +kernel
theorem dX8_readsClause_35 : decode cX8_readsClause 35 = .ok (.iconst 0, 1) := by decide +kernel
theorem dX8_readsClause_36 : decode cX8_readsClause 36 = .ok (.invokevirtual 97, 3) := by decide +kernel
theorem dX8_readsClause_39 : decode cX8_readsClause 39 = .ok (.ifCond .eq 31, 3) := by decide +kernel
theorem dX8_readsClause_70 : decode cX8_readsClause 70 = .ok (.aload_n 0, 1) := by decide +kernel
theorem dX8_readsClause_71 : decode cX8_readsClause 71 = .ok (.bipush 104, 2) := by decide +kernel
theorem dX8_readsClause_73 : decode cX8_readsClause 73 = .ok (.bipush 101, 2) := by decide +kernel
theorem dX8_readsClause_75 : decode cX8_readsClause 75 = .ok (.bipush 114, 2) := by decide +kernel
theorem dX8_readsClause_77 : decode cX8_readsClause 77 = .ok (.bipush 111, 2) := by decide +kernel
theorem dX8_readsClause_79 : decode cX8_readsClause 79 = .ok (.iconst 0, 1) := by decide +kernel
theorem dX8_readsClause_80 : decode cX8_readsClause 80 = .ok (.iconst 0, 1) := by decide +kernel
theorem dX8_readsClause_81 : decode cX8_readsClause 81 = .ok (.iconst 0, 1) := by decide +kernel
theorem dX8_readsClause_82 : decode cX8_readsClause 82 = .ok (.invokevirtual 97, 3) := by decide +kernel
theorem dX8_readsClause_85 : decode cX8_readsClause 85 = .ok (.ifCond .eq 9, 3) := by decide +kernel
theorem dX8_readsClause_94 : decode cX8_readsClause 94 = .ok (.aload_n 0, 1) := by decide +kernel
theorem dX8_readsClause_95 : decode cX8_readsClause 95 = .ok (.bipush 98, 2) := by decide +kernel
theorem dX8_readsClause_97 : decode cX8_readsClause 97 = .ok (.bipush 111, 2) := by decide +kernel
theorem dX8_readsClause_99 : decode cX8_readsClause 99 = .ok (.bipush 97, 2) := by decide +kernel
theorem dX8_readsClause_101 : decode cX8_readsClause 101 = .ok (.bipush 115, 2) := by decide +kernel
theorem dX8_readsClause_103 : decode cX8_readsClause 103 = .ok (.bipush 116, 2) := by decide +kernel
theorem dX8_readsClause_105 : decode cX8_readsClause 105 = .ok (.bipush 101, 2) := by decide +kernel
theorem dX8_readsClause_107 : decode cX8_readsClause 107 = .ok (.bipush 114, 2) := by decide +kernel
theorem dX8_readsClause_109 : decode cX8_readsClause 109 = .ok (.invokevirtual 97, 3) := by decide +kernel
theorem dX8_readsClause_112 : decode cX8_readsClause 112 = .ok (.ifCond .eq 9, 3) := by decide +kernel
theorem dX8_readsClause_121 : decode cX8_readsClause 121 = .ok (.aload_n 0, 1) := by decide +kernel
theorem dX8_readsClause_122 : decode cX8_readsClause 122 = .ok (.bipush 109, 2) := by decide +kernel
theorem dX8_readsClause_124 : decode cX8_readsClause 124 = .ok (.bipush 111, 2) := by decide +kernel
theorem dX8_readsClause_126 : decode cX8_readsClause 126 = .ok (.bipush 100, 2) := by decide +kernel
theorem dX8_readsClause_128 : decode cX8_readsClause 128 = .ok (.bipush 101, 2) := by decide +kernel
theorem dX8_readsClause_130 : decode cX8_readsClause 130 = .ok (.bipush 115, 2) := by decide +kernel
theorem dX8_readsClause_132 : decode cX8_readsClause 132 = .ok (.bipush 116, 2) := by decide +kernel
theorem dX8_readsClause_134 : decode cX8_readsClause 134 = .ok (.iconst 0, 1) := by decide +kernel
theorem dX8_readsClause_135 : decode cX8_readsClause 135 = .ok (.invokevirtual 97, 3) := by decide +kernel
theorem dX8_readsClause_138 : decode cX8_readsClause 138 = .ok (.ifCond .eq 9, 3) := by decide +kernel
theorem dX8_readsClause_147 : decode cX8_readsClause 147 = .ok (.aload_n 0, 1) := by decide +kernel
theorem dX8_readsClause_148 : decode cX8_readsClause 148 = .ok (.bipush 99, 2) := by decide +kernel
theorem dX8_readsClause_150 : decode cX8_readsClause 150 = .ok (.bipush 104, 2) := by decide +kernel
theorem dX8_readsClause_152 : decode cX8_readsClause 152 = .ok (.bipush 105, 2) := by decide +kernel
theorem dX8_readsClause_154 : decode cX8_readsClause 154 = .ok (.bipush 108, 2) := by decide +kernel
theorem dX8_readsClause_156 : decode cX8_readsClause 156 = .ok (.bipush 100, 2) := by decide +kernel
theorem dX8_readsClause_158 : decode cX8_readsClause 158 = .ok (.iconst 0, 1) := by decide +kernel
theorem dX8_readsClause_159 : decode cX8_readsClause 159 = .ok (.iconst 0, 1) := by decide +kernel
theorem dX8_readsClause_160 : decode cX8_readsClause 160 = .ok (.invokevirtual 97, 3) := by decide +kernel
theorem dX8_readsClause_163 : decode cX8_readsClause 163 = .ok (.ifCond .eq 9, 3) := by decide +kernel
theorem dX8_readsClause_172 : decode cX8_readsClause 172 = .ok (.aload_n 0, 1) := by decide +kernel
theorem dX8_readsClause_173 : decode cX8_readsClause 173 = .ok (.bipush 115, 2) := by decide +kernel
theorem dX8_readsClause_175 : decode cX8_readsClause 175 = .ok (.bipush 111, 2) := by decide +kernel
theorem dX8_readsClause_177 : decode cX8_readsClause 177 = .ok (.bipush 114, 2) := by decide +kernel
theorem dX8_readsClause_179 : decode cX8_readsClause 179 = .ok (.bipush 116, 2) := by decide +kernel
theorem dX8_readsClause_181 : decode cX8_readsClause 181 = .ok (.iconst 0, 1) := by decide +kernel
theorem dX8_readsClause_182 : decode cX8_readsClause 182 = .ok (.iconst 0, 1) := by decide +kernel
theorem dX8_readsClause_183 : decode cX8_readsClause 183 = .ok (.iconst 0, 1) := by decide +kernel
theorem dX8_readsClause_184 : decode cX8_readsClause 184 = .ok (.invokevirtual 97, 3) := by decide +kernel
theorem dX8_readsClause_187 : decode cX8_readsClause 187 = .ok (.ifCond .eq 14, 3) := by decide +kernel
theorem dX8_readsClause_201 : decode cX8_readsClause 201 = .ok (.iconst 0, 1) := by decide +kernel
theorem dX8_readsClause_202 : decode cX8_readsClause 202 = .ok (.ireturn, 1) := by decide +kernel
set_option maxRecDepth 20000 in
theorem ggX8_reads_X8_token : GoodIn wsX8_reads wsX8_token := goodIn_r _ [11, 3, 6, 4, 12, 5, 13, 14, 15, 10, 16, 17, 18, 19, 20, 21, 22, 23, 24, 25, 26, 55, 56, 57, 58, 59, 60, 61, 62, 63, 64, 65, 66, 67, 68, 69, 70, 71, 72, 73, 74, 75] (by decide +kernel) (by decide +kernel)
set_option maxRecDepth 20000 in
theorem gX8_reads_X8_token : GoodIn wsX8_reads (wsV RX8 91 RX8 yX8_token wsX8_token) := goodIn_app (goodIn_of _ (by decide +kernel)) ggX8_reads_X8_token
set_option maxRecDepth 20000 in
theorem ggX8_reads_X8_readsClause : GoodIn wsX8_reads wsX8_readsClause := goodIn_r _ [30, 31, 32, 33, 10, 34, 4, 3, 6, 5, 35, 36, 37, 38, 12, 7, 8, 9, 11, 13, 14, 15, 16, 17, 18, 19, 20, 21, 22, 23, 24, 25, 26, 39, 40, 41, 42, 1, 43, 44, 45, 46, 47, 48, 49, 50, 51, 52, 53, 54, 55, 56, 57, 58, 59, 60, 61, 62, 63, 64, 65, 66, 67, 68, 69, 70, 71, 72, 73, 74, 75] (by decide +kernel) (by decide +kernel)
set_option maxRecDepth 20000 in
theorem gX8_reads_X8_readsClause : GoodIn wsX8_reads (wsV RX8 111 RX8 yX8_readsClause wsX8_readsClause) := goodIn_app (goodIn_of _ (by decide +kernel)) ggX8_reads_X8_readsClause
theorem dX8_reads_0 : decode cX8_reads 0 = .ok (.iconst 0, 1) := by decide +kernel
theorem dX8_reads_1 : decode cX8_reads 1 = .ok (.istore_n 1, 1) := by decide +kernel
theorem dX8_reads_2 : decode cX8_reads 2 = .ok (.iload_n 1, 1) := by decide +kernel
theorem dX8_reads_3 : decode cX8_reads 3 = .ok (.bipush 29, 2) := by decide +kernel
theorem dX8_reads_5 : decode cX8_reads 5 = .ok (.if_icmp .ge 21, 3) := by decide +kernel
theorem dX8_reads_8 : decode cX8_reads 8 = .ok (.aload_n 0, 1) := by decide +kernel
theorem dX8_reads_9 : decode cX8_reads 9 = .ok (.getfield 16, 3) := by decide +kernel
theorem dX8_reads_12 : decode cX8_reads 12 = .ok (.iload_n 1, 1) := by decide +kernel
theorem dX8_reads_13 : decode cX8_reads 13 = .ok (.aload_n 0, 1) := by decide +kernel
theorem dX8_reads_14 : decode cX8_reads 14 = .ok (.getfield 13, 3) := by decide +kernel
theorem dX8_reads_17 : decode cX8_reads 17 = .ok (.iload_n 1, 1) := by decide +kernel
theorem dX8_reads_18 : decode cX8_reads 18 = .ok (.iaload, 1) := by decide +kernel
theorem dX8_reads_19 : decode cX8_reads 19 = .ok (.iastore, 1) := by decide +kernel
theorem dX8_reads_20 : decode cX8_reads 20 = .ok (.iinc 1 1, 3) := by decide +kernel
theorem dX8_reads_23 : decode cX8_reads 23 = .ok (.goto (-21), 3) := by decide +kernel
theorem dX8_reads_26 : decode cX8_reads 26 = .ok (.aload_n 0, 1) := by decide +kernel
theorem dX8_reads_27 : decode cX8_reads 27 = .ok (.iconst 0, 1) := by decide +kernel
theorem dX8_reads_28 : decode cX8_reads 28 = .ok (.putfield 68, 3) := by decide +kernel
theorem dX8_reads_31 : decode cX8_reads 31 = .ok (.iconst 0, 1) := by decide +kernel
theorem dX8_reads_32 : decode cX8_reads 32 = .ok (.istore_n 1, 1) := by decide +kernel
theorem dX8_reads_33 : decode cX8_reads 33 = .ok (.iconst 1, 1) := by decide +kernel
theorem dX8_reads_34 : decode cX8_reads 34 = .ok (.istore_n 2, 1) := by decide +kernel
theorem dX8_reads_35 : decode cX8_reads 35 = .ok (.iload_n 2, 1) := by decide +kernel
theorem dX8_reads_36 : decode cX8_reads 36 = .ok (.ifCond .eq 70, 3) := by decide +kernel
theorem dX8_reads_39 : decode cX8_reads 39 = .ok (.aload_n 0, 1) := by decide +kernel
theorem dX8_reads_40 : decode cX8_reads 40 = .ok (.invokevirtual 91, 3) := by decide +kernel
theorem dX8_reads_43 : decode cX8_reads 43 = .ok (.aload_n 0, 1) := by decide +kernel
theorem dX8_reads_44 : decode cX8_reads 44 = .ok (.invokevirtual 111, 3) := by decide +kernel
theorem dX8_reads_47 : decode cX8_reads 47 = .ok (.ifCond .ne 5, 3) := by decide +kernel
theorem dX8_reads_50 : decode cX8_reads 50 = .ok (.iconst (-1), 1) := by decide +kernel
theorem dX8_reads_51 : decode cX8_reads 51 = .ok (.ireturn, 1) := by decide +kernel
set_option maxRecDepth 20000 in
theorem ggX8_fault_X8_reads : GoodIn wsX8_fault wsX8_reads := goodIn_r _ [6, 7, 8, 9, 10, 11, 1, 12, 13, 14, 5, 15, 16, 17, 18, 19, 20, 21, 22, 23, 24, 25, 26, 27, 28, 29, 30, 31, 32, 33, 34, 35, 36, 37, 38, 39, 40, 41, 42, 43, 44, 45, 46, 47, 48, 49, 50, 51, 52, 53, 54, 55, 56, 57, 58, 59, 60, 61, 62, 63, 64, 65, 66, 67, 68, 69, 70, 71, 72, 73, 74, 75, 76, 77, 78, 79] (by decide +kernel) (by decide +kernel)
set_option maxRecDepth 20000 in
theorem gX8_fault_X8_reads : GoodIn wsX8_fault (wsV RX8 120 RX8 yX8_reads wsX8_reads) := goodIn_app (goodIn_of _ (by decide +kernel)) ggX8_fault_X8_reads
theorem dX8_fault_0 : decode cX8_fault 0 = .ok (.aload_n 0, 1) := by decide +kernel
theorem dX8_fault_1 : decode cX8_fault 1 = .ok (.invokevirtual 120, 3) := by decide +kernel
theorem dX8_fault_4 : decode cX8_fault 4 = .ok (.iconst (-1), 1) := by decide +kernel
theorem dX8_fault_5 : decode cX8_fault 5 = .ok (.if_icmp .ne 10, 3) := by decide +kernel
theorem dX8_fault_8 : decode cX8_fault 8 = .ok (.aload_n 0, 1) := by decide +kernel
theorem dX8_fault_9 : decode cX8_fault 9 = .ok (.getfield 75, 3) := by decide +kernel
theorem dX8_fault_12 : decode cX8_fault 12 = .ok (.goto 4, 3) := by decide +kernel
theorem dX8_fault_16 : decode cX8_fault 16 = .ok (.ireturn, 1) := by decide +kernel
set_option maxRecDepth 20000 in
theorem ggX8_hall_X8_reads : GoodIn wsX8_hall wsX8_reads := goodIn_r _ [8, 2, 1, 9, 10, 11, 12, 13, 14, 15, 7, 16, 17, 18, 19, 20, 21, 3, 22, 23, 24, 25, 26, 27, 28, 29, 30, 31, 32, 33, 34, 35, 36, 37, 38, 39, 40, 41, 42, 43, 44, 45, 46, 47, 48, 49, 50, 51, 52, 53, 54, 55, 56, 57, 58, 67, 68, 69, 70, 71, 72, 73, 74, 75, 76, 77, 78, 79, 80, 81, 82, 83, 84, 85, 86, 87] (by decide +kernel) (by decide +kernel)
set_option maxRecDepth 20000 in
theorem gX8_hall_X8_reads : GoodIn wsX8_hall (wsV RX8 120 RX8 yX8_reads wsX8_reads) := goodIn_app (goodIn_of _ (by decide +kernel)) ggX8_hall_X8_reads
theorem dX8_hall_0 : decode cX8_hall 0 = .ok (.aload_n 0, 1) := by decide +kernel
theorem dX8_hall_1 : decode cX8_hall 1 = .ok (.invokevirtual 120, 3) := by decide +kernel
theorem dX8_hall_4 : decode cX8_hall 4 = .ok (.istore_n 1, 1) := by decide +kernel
theorem dX8_hall_5 : decode cX8_hall 5 = .ok (.iload_n 1, 1) := by decide +kernel
theorem dX8_hall_6 : decode cX8_hall 6 = .ok (.iconst (-1), 1) := by decide +kernel
theorem dX8_hall_7 : decode cX8_hall 7 = .ok (.if_icmp .ne 6, 3) := by decide +kernel
theorem dX8_hall_10 : decode cX8_hall 10 = .ok (.bipush (-4), 2) := by decide +kernel
theorem dX8_hall_12 : decode cX8_hall 12 = .ok (.ireturn, 1) := by decide +kernel
def sM_letterAt  : Int32 := (-1)
set_option maxHeartbeats 4000000 in
set_option maxRecDepth 100000 in
/-- the model: letterAt, at first -/
theorem c_M_letterAt (l : Launch) (D : va_G) (g : Nat → ClassId) (m0 : Nat) (v : Nat → Nat) : CtI l yX8_letterAt wsX8_letterAt { frames := 0, cells := 0, slots := 0, locals := 0 } D (TY g) [.ref m0, .int 0] (fun _ => True) [(m0, .inr (8, [.ref (v 0), .int 0, .ref (v 1), .ref (v 2), .ref (v 3), .ref (v 4), .int 0, .ref (v 5), .ref (v 6), .ref (v 7), .int 0, .int 0, .int 0, .int 0, .int 0, .ref (v 8), .ref (v 9), .ref (v 10), .ref (v 11), .ref (v 12), .ref (v 13)]))] (fun r (_ : Unit) => r = sM_letterAt ) (fun _ => [(m0, .inr (8, [.ref (v 0), .int 0, .ref (v 1), .ref (v 2), .ref (v 3), .ref (v 4), .int 0, .ref (v 5), .ref (v 6), .ref (v 7), .int 0, .int 0, .int 0, .int 0, .int 0, .ref (v 8), .ref (v 9), .ref (v 10), .ref (v 11), .ref (v 12), .ref (v 13)]))]) := by
  refine CtI.intro (cc := cX8_letterAt) (maxL := 2) (ret := (some .int)) rfl (by decide +kernel) (Nat.le_of_ble_eq_true rfl) ?_
  intro p e s m below meth c A ls C hmn hX hAe hT hl
  have hx := C.1.1
  have hb := C.1.2.1
  have hl : lv_has ls 2 [(0, .ref m0), (1, .int 0)] := hl
  have hin8 : ∀ w ∈ u_ws RX8 TX8 21, w ∈ wsX8_letterAt := by decide +kernel
  refine lv_iload_n hx hb dX8_letterAt_0 rfl (lv_at hl 1 rfl) ?_
  refine lv_aload_n hx hb dX8_letterAt_1 rfl (lv_at hl 0 rfl) ?_
  refine z_get C (ci := 8) (N := 21) rfl hin8 hT 0 1 rfl rfl (by decide +kernel) (by decide +kernel) dX8_letterAt_2 ?_
  refine lv_icmp_ge (tgt := 17) hx hb dX8_letterAt_5 (by decide +kernel) (fun _ => ?_) (fun c9 => absurd (by decide +kernel) c9)
  refine lv_iconst (v := (-1)) hx hb dX8_letterAt_17 (by decide +kernel) ?_
  exact z_iret C rfl hT () rfl [0] rfl rfl (Nat.le_of_ble_eq_true rfl) (Nat.le_of_ble_eq_true rfl) dX8_letterAt_18

set_option maxHeartbeats 4000000 in
set_option maxRecDepth 100000 in
/-- the model: token() of an empty text -/
theorem c_M_token (l : Launch) (D : va_G) (g : Nat → ClassId) (m0 : Nat) (v : Nat → Nat) : CtV l yX8_token wsX8_token { frames := 1, cells := 0, slots := 0, locals := 30 } D (TY g) [.ref m0] (fun _ => True) [(m0, .inr (8, [.ref (v 0), .int 0, .ref (v 1), .ref (v 2), .ref (v 3), .ref (v 4), .int 0, .ref (v 5), .ref (v 6), .ref (v 7), .int 0, .int 0, .int 0, .int 0, .int 0, .ref (v 8), .ref (v 9), .ref (v 10), .ref (v 11), .ref (v 12), .ref (v 13)]))] (fun _ : Unit => True) (fun _ => [(m0, .inr (8, [.ref (v 0), .int 0, .ref (v 1), .ref (v 2), .ref (v 3), .ref (v 4), .int 0, .ref (v 5), .ref (v 6), .ref (v 7), .int 0, .int 0, .int 0, .int 0, .int 0, .ref (v 8), .ref (v 9), .ref (v 10), .ref (v 11), .ref (v 12), .ref (v 13)]))]) := by
  refine CtV.intro (cc := cX8_token) (maxL := 2) (ret := none) rfl (by decide +kernel) (Nat.le_of_ble_eq_true rfl) ?_
  intro p e s m below meth c A ls C hmn hX hAe hT hl
  have hx := C.1.1
  have hb := C.1.2.1
  have hl : lv_has ls 2 [(0, .ref m0)] := hl
  have hin8 : ∀ w ∈ u_ws RX8 TX8 21, w ∈ wsX8_token := by decide +kernel
  refine lv_aload_n hx hb dX8_token_0 rfl (lv_at hl 0 rfl) ?_
  refine lv_aload_n hx hb dX8_token_1 rfl (lv_at hl 0 rfl) ?_
  refine z_get C (ci := 8) (N := 21) rfl hin8 hT 0 11 rfl rfl (by decide +kernel) (by decide +kernel) dX8_token_2 ?_
  refine z_callVI (wr := []) (n := 1) C (c_M_letterAt l D g m0 v) gX8_token_X8_letterAt rfl (by decide +kernel) ⟨Nat.le_of_ble_eq_true rfl, Nat.le_of_ble_eq_true rfl⟩ ⟨Nat.le_of_ble_eq_true rfl, Nat.le_of_ble_eq_true rfl⟩ blind_T (fun _ _ _ => trivial) hT [0] [] rfl rfl rfl rfl rfl 0 rfl rfl rfl rfl hl.1 rfl (Nat.le_of_ble_eq_true rfl) dX8_token_5 (fun r_3 u_1 H locs hp_2 hT => ?_)
  have hT : Sit D (TY g) A s [(m0, .inr (8, [.ref (v 0), .int 0, .ref (v 1), .ref (v 2), .ref (v 3), .ref (v 4), .int 0, .ref (v 5), .ref (v 6), .ref (v 7), .int 0, .int 0, .int 0, .int 0, .int 0, .ref (v 8), .ref (v 9), .ref (v 10), .ref (v 11), .ref (v 12), .ref (v 13)]))] H _ := hT
  have hp_2 := hp_2.trans (show sM_letterAt = -1 from rfl)
  subst hp_2
  refine lv_bipush (v := 32) hx hb dX8_token_8 (by decide +kernel) ?_
  refine lv_icmp_ne (tgt := 26) hx hb dX8_token_10 (by decide +kernel) (fun _ => ?_) (fun c9 => absurd c9 (by decide +kernel))
  refine lv_aload_n hx hb dX8_token_26 rfl (lv_at hl 0 rfl) ?_
  refine lv_aload_n hx hb dX8_token_27 rfl (lv_at hl 0 rfl) ?_
  refine z_get C (ci := 8) (N := 21) rfl hin8 hT 0 11 rfl rfl (by decide +kernel) (by decide +kernel) dX8_token_28 ?_
  refine z_put C (ci := 8) (N := 21) rfl hin8 tyX8_ok nmX8 hT 0 13 rfl (Nat.le_of_ble_eq_true rfl) (by decide +kernel) (by decide +kernel) rfl rfl rfl dX8_token_31 [(m0, .inr (8, [.ref (v 0), .int 0, .ref (v 1), .ref (v 2), .ref (v 3), .ref (v 4), .int 0, .ref (v 5), .ref (v 6), .ref (v 7), .int 0, .int 0, .int 0, .int 0, .int 0, .ref (v 8), .ref (v 9), .ref (v 10), .ref (v 11), .ref (v 12), .ref (v 13)]))] rfl (fun H locs hT => ?_)
  refine lv_aload_n hx hb dX8_token_34 rfl (lv_at hl 0 rfl) ?_
  refine lv_aload_n hx hb dX8_token_35 rfl (lv_at hl 0 rfl) ?_
  refine z_get C (ci := 8) (N := 21) rfl hin8 hT 0 11 rfl rfl (by decide +kernel) (by decide +kernel) dX8_token_36 ?_
  refine z_callVI (wr := []) (n := 1) C (c_M_letterAt l D g m0 v) gX8_token_X8_letterAt rfl (by decide +kernel) ⟨Nat.le_of_ble_eq_true rfl, Nat.le_of_ble_eq_true rfl⟩ ⟨Nat.le_of_ble_eq_true rfl, Nat.le_of_ble_eq_true rfl⟩ blind_T (fun _ _ _ => trivial) hT [0] [] rfl rfl rfl rfl rfl 0 rfl rfl rfl rfl hl.1 rfl (Nat.le_of_ble_eq_true rfl) dX8_token_39 (fun r_6 u_4 H locs hp_5 hT => ?_)
  have hT : Sit D (TY g) A s [(m0, .inr (8, [.ref (v 0), .int 0, .ref (v 1), .ref (v 2), .ref (v 3), .ref (v 4), .int 0, .ref (v 5), .ref (v 6), .ref (v 7), .int 0, .int 0, .int 0, .int 0, .int 0, .ref (v 8), .ref (v 9), .ref (v 10), .ref (v 11), .ref (v 12), .ref (v 13)]))] H _ := hT
  have hp_5 := hp_5.trans (show sM_letterAt = -1 from rfl)
  subst hp_5
  refine lv_istore_n (lv' := [(1, .int (-1)), (0, .ref m0)]) hx hb dX8_token_42 rfl hl (by decide +kernel) rfl (fun ls hl => ?_)
  refine lv_aload_n hx hb dX8_token_43 rfl (lv_at hl 1 rfl) ?_
  refine lv_iload_n hx hb dX8_token_44 rfl (lv_at hl 0 rfl) ?_
  refine lv_if_ge (tgt := 52) hx hb dX8_token_45 (by decide +kernel) (fun c9 => absurd c9 (by decide +kernel)) (fun _ => ?_)
  refine lv_iconst (v := 0) hx hb dX8_token_48 (by decide +kernel) ?_
  refine lv_goto (tgt := 75) hx hb dX8_token_49 (by decide +kernel) ?_
  refine z_put C (ci := 8) (N := 21) rfl hin8 tyX8_ok nmX8 hT 0 12 rfl (Nat.le_of_ble_eq_true rfl) (by decide +kernel) (by decide +kernel) rfl rfl rfl dX8_token_75 [(m0, .inr (8, [.ref (v 0), .int 0, .ref (v 1), .ref (v 2), .ref (v 3), .ref (v 4), .int 0, .ref (v 5), .ref (v 6), .ref (v 7), .int 0, .int 0, .int 0, .int 0, .int 0, .ref (v 8), .ref (v 9), .ref (v 10), .ref (v 11), .ref (v 12), .ref (v 13)]))] rfl (fun H locs hT => ?_)
  refine lv_aload_n hx hb dX8_token_78 rfl (lv_at hl 1 rfl) ?_
  refine lv_iconst (v := 0) hx hb dX8_token_79 (by decide +kernel) ?_
  refine z_put C (ci := 8) (N := 21) rfl hin8 tyX8_ok nmX8 hT 0 14 rfl (Nat.le_of_ble_eq_true rfl) (by decide +kernel) (by decide +kernel) rfl rfl rfl dX8_token_80 [(m0, .inr (8, [.ref (v 0), .int 0, .ref (v 1), .ref (v 2), .ref (v 3), .ref (v 4), .int 0, .ref (v 5), .ref (v 6), .ref (v 7), .int 0, .int 0, .int 0, .int 0, .int 0, .ref (v 8), .ref (v 9), .ref (v 10), .ref (v 11), .ref (v 12), .ref (v 13)]))] rfl (fun H locs hT => ?_)
  refine lv_aload_n hx hb dX8_token_83 rfl (lv_at hl 1 rfl) ?_
  refine z_get C (ci := 8) (N := 21) rfl hin8 hT 0 12 rfl rfl (by decide +kernel) (by decide +kernel) dX8_token_84 ?_
  refine lv_iconst (v := 1) hx hb dX8_token_87 (by decide +kernel) ?_
  refine lv_icmp_ne (tgt := 118) hx hb dX8_token_88 (by decide +kernel) (fun _ => ?_) (fun c9 => absurd c9 (by decide +kernel))
  refine lv_aload_n hx hb dX8_token_118 rfl (lv_at hl 1 rfl) ?_
  refine z_get C (ci := 8) (N := 21) rfl hin8 hT 0 12 rfl rfl (by decide +kernel) (by decide +kernel) dX8_token_119 ?_
  refine lv_iconst (v := 2) hx hb dX8_token_122 (by decide +kernel) ?_
  refine lv_icmp_ne (tgt := 195) hx hb dX8_token_123 (by decide +kernel) (fun _ => ?_) (fun c9 => absurd c9 (by decide +kernel))
  refine lv_aload_n hx hb dX8_token_195 rfl (lv_at hl 1 rfl) ?_
  refine lv_dup hx hb dX8_token_196 rfl ?_
  refine z_get C (ci := 8) (N := 21) rfl hin8 hT 0 11 rfl rfl (by decide +kernel) (by decide +kernel) dX8_token_197 ?_
  refine lv_aload_n hx hb dX8_token_200 rfl (lv_at hl 1 rfl) ?_
  refine z_get C (ci := 8) (N := 21) rfl hin8 hT 0 12 rfl rfl (by decide +kernel) (by decide +kernel) dX8_token_201 ?_
  refine lv_iconst (v := 3) hx hb dX8_token_204 (by decide +kernel) ?_
  refine lv_icmp_ne (tgt := 212) hx hb dX8_token_205 (by decide +kernel) (fun _ => ?_) (fun c9 => absurd c9 (by decide +kernel))
  refine lv_iconst (v := 0) hx hb dX8_token_212 (by decide +kernel) ?_
  refine lv_iadd hx hb dX8_token_213 ?_
  refine z_eq (y := 0) (by decide +kernel) ?_
  refine z_put C (ci := 8) (N := 21) rfl hin8 tyX8_ok nmX8 hT 0 11 rfl (Nat.le_of_ble_eq_true rfl) (by decide +kernel) (by decide +kernel) rfl rfl rfl dX8_token_214 [(m0, .inr (8, [.ref (v 0), .int 0, .ref (v 1), .ref (v 2), .ref (v 3), .ref (v 4), .int 0, .ref (v 5), .ref (v 6), .ref (v 7), .int 0, .int 0, .int 0, .int 0, .int 0, .ref (v 8), .ref (v 9), .ref (v 10), .ref (v 11), .ref (v 12), .ref (v 13)]))] rfl (fun H locs hT => ?_)
  exact z_vret C rfl hT () trivial [0] rfl rfl (Nat.le_of_ble_eq_true rfl) (Nat.le_of_ble_eq_true rfl) dX8_token_217

def sM_isWord  : Int32 := 0
set_option maxHeartbeats 4000000 in
set_option maxRecDepth 100000 in
/-- the model: isWord, at first -/
theorem c_M_isWord (l : Launch) (D : va_G) (g : Nat → ClassId) (m0 : Nat) (v : Nat → Nat) (q0 q1 q2 q3 q4 q5 q6 : Int32) : CtI l yX8_isWord wsX8_isWord { frames := 0, cells := 0, slots := 0, locals := 0 } D (TY g) [.ref m0, .int q0, .int q1, .int q2, .int q3, .int q4, .int q5, .int q6] (fun _ => True) [(m0, .inr (8, [.ref (v 0), .int 0, .ref (v 1), .ref (v 2), .ref (v 3), .ref (v 4), .int 0, .ref (v 5), .ref (v 6), .ref (v 7), .int 0, .int 0, .int 0, .int 0, .int 0, .ref (v 8), .ref (v 9), .ref (v 10), .ref (v 11), .ref (v 12), .ref (v 13)]))] (fun r (_ : Unit) => r = sM_isWord ) (fun _ => [(m0, .inr (8, [.ref (v 0), .int 0, .ref (v 1), .ref (v 2), .ref (v 3), .ref (v 4), .int 0, .ref (v 5), .ref (v 6), .ref (v 7), .int 0, .int 0, .int 0, .int 0, .int 0, .ref (v 8), .ref (v 9), .ref (v 10), .ref (v 11), .ref (v 12), .ref (v 13)]))]) := by
  refine CtI.intro (cc := cX8_isWord) (maxL := 11) (ret := (some .boolean)) rfl (by decide +kernel) (Nat.le_of_ble_eq_true rfl) ?_
  intro p e s m below meth c A ls C hmn hX hAe hT hl
  have hx := C.1.1
  have hb := C.1.2.1
  have hl : lv_has ls 11 [(0, .ref m0), (1, .int q0), (2, .int q1), (3, .int q2), (4, .int q3), (5, .int q4), (6, .int q5), (7, .int q6)] := hl
  have hin8 : ∀ w ∈ u_ws RX8 TX8 21, w ∈ wsX8_isWord := by decide +kernel
  refine lv_aload_n hx hb dX8_isWord_0 rfl (lv_at hl 0 rfl) ?_
  refine z_get C (ci := 8) (N := 21) rfl hin8 hT 0 12 rfl rfl (by decide +kernel) (by decide +kernel) dX8_isWord_1 ?_
  refine lv_iconst (v := 1) hx hb dX8_isWord_4 (by decide +kernel) ?_
  refine lv_icmp_ne (tgt := 26) hx hb dX8_isWord_5 (by decide +kernel) (fun _ => ?_) (fun c9 => absurd c9 (by decide +kernel))
  refine lv_iconst (v := 0) hx hb dX8_isWord_26 (by decide +kernel) ?_
  refine lv_istore (lv' := [(8, .int 0), (0, .ref m0), (1, .int q0), (2, .int q1), (3, .int q2), (4, .int q3), (5, .int q4), (6, .int q5), (7, .int q6)]) hx hb dX8_isWord_27 hl (by decide +kernel) rfl (fun ls hl => ?_)
  refine lv_iconst (v := 0) hx hb dX8_isWord_29 (by decide +kernel) ?_
  refine lv_istore (lv' := [(9, .int 0), (8, .int 0), (0, .ref m0), (1, .int q0), (2, .int q1), (3, .int q2), (4, .int q3), (5, .int q4), (6, .int q5), (7, .int q6)]) hx hb dX8_isWord_30 hl (by decide +kernel) rfl (fun ls hl => ?_)
  refine lv_iload hx hb dX8_isWord_32 (lv_at hl 0 rfl) ?_
  refine lv_bipush (v := 7) hx hb dX8_isWord_34 (by decide +kernel) ?_
  refine lv_icmp_ge (tgt := 167) hx hb dX8_isWord_36 (by decide +kernel) (fun c9 => absurd c9 (by decide +kernel)) (fun _ => ?_)
  refine lv_iload hx hb dX8_isWord_39 (lv_at hl 1 rfl) ?_
  refine lv_if_eq (tgt := 167) hx hb dX8_isWord_41 (by decide +kernel) (fun _ => ?_) (fun c9 => absurd (by decide +kernel) c9)
  refine lv_iload hx hb dX8_isWord_167 (lv_at hl 1 rfl) ?_
  exact z_zret C rfl (by first | rfl | (split <;> rfl)) hT () rfl [0] rfl rfl (Nat.le_of_ble_eq_true rfl) (Nat.le_of_ble_eq_true rfl) dX8_isWord_169

def sM_readsClause  : Int32 := 0
set_option maxHeartbeats 4000000 in
set_option maxRecDepth 100000 in
/-- the model: readsClause, at first -/
theorem c_M_readsClause (l : Launch) (D : va_G) (g : Nat → ClassId) (m0 : Nat) (v : Nat → Nat) : CtI l yX8_readsClause wsX8_readsClause { frames := 1, cells := 0, slots := 0, locals := 40 } D (TY g) [.ref m0] (fun _ => True) [(m0, .inr (8, [.ref (v 0), .int 0, .ref (v 1), .ref (v 2), .ref (v 3), .ref (v 4), .int 0, .ref (v 5), .ref (v 6), .ref (v 7), .int 0, .int 0, .int 0, .int 0, .int 0, .ref (v 8), .ref (v 9), .ref (v 10), .ref (v 11), .ref (v 12), .ref (v 13)]))] (fun r (_ : Unit) => r = sM_readsClause ) (fun _ => [(m0, .inr (8, [.ref (v 0), .int 0, .ref (v 1), .ref (v 2), .ref (v 3), .ref (v 4), .int 0, .ref (v 5), .ref (v 6), .ref (v 7), .int 0, .int 0, .int 0, .int 0, .int 0, .ref (v 8), .ref (v 9), .ref (v 10), .ref (v 11), .ref (v 12), .ref (v 13)]))]) := by
  refine CtI.intro (cc := cX8_readsClause) (maxL := 1) (ret := (some .boolean)) rfl (by decide +kernel) (Nat.le_of_ble_eq_true rfl) ?_
  intro p e s m below meth c A ls C hmn hX hAe hT hl
  have hx := C.1.1
  have hb := C.1.2.1
  have hl : lv_has ls 1 [(0, .ref m0)] := hl
  refine lv_aload_n hx hb dX8_readsClause_0 rfl (lv_at hl 0 rfl) ?_
  refine lv_bipush (v := 104) hx hb dX8_readsClause_1 (by decide +kernel) ?_
  refine lv_bipush (v := 97) hx hb dX8_readsClause_3 (by decide +kernel) ?_
  refine lv_bipush (v := 108) hx hb dX8_readsClause_5 (by decide +kernel) ?_
  refine lv_bipush (v := 108) hx hb dX8_readsClause_7 (by decide +kernel) ?_
  refine lv_iconst (v := 0) hx hb dX8_readsClause_9 (by decide +kernel) ?_
  refine lv_iconst (v := 0) hx hb dX8_readsClause_10 (by decide +kernel) ?_
  refine lv_iconst (v := 0) hx hb dX8_readsClause_11 (by decide +kernel) ?_
  refine z_callVI (wr := []) (n := 7) C (c_M_isWord l D g m0 v 104 97 108 108 0 0 0) gX8_readsClause_X8_isWord rfl (by decide +kernel) ⟨Nat.le_of_ble_eq_true rfl, Nat.le_of_ble_eq_true rfl⟩ ⟨Nat.le_of_ble_eq_true rfl, Nat.le_of_ble_eq_true rfl⟩ blind_T (fun _ _ _ => trivial) hT [0] [] rfl rfl rfl rfl rfl 0 rfl rfl rfl rfl hl.1 rfl (Nat.le_of_ble_eq_true rfl) dX8_readsClause_12 (fun r_3 u_1 H locs hp_2 hT => ?_)
  have hT : Sit D (TY g) A s [(m0, .inr (8, [.ref (v 0), .int 0, .ref (v 1), .ref (v 2), .ref (v 3), .ref (v 4), .int 0, .ref (v 5), .ref (v 6), .ref (v 7), .int 0, .int 0, .int 0, .int 0, .int 0, .ref (v 8), .ref (v 9), .ref (v 10), .ref (v 11), .ref (v 12), .ref (v 13)]))] H _ := hT
  have hp_2 := hp_2.trans (show sM_isWord = 0 from rfl)
  subst hp_2
  refine lv_if_eq (tgt := 23) hx hb dX8_readsClause_15 (by decide +kernel) (fun _ => ?_) (fun c9 => absurd (by decide +kernel) c9)
  refine lv_aload_n hx hb dX8_readsClause_23 rfl (lv_at hl 0 rfl) ?_
  refine lv_bipush (v := 115) hx hb dX8_readsClause_24 (by decide +kernel) ?_
  refine lv_bipush (v := 99) hx hb dX8_readsClause_26 (by decide +kernel) ?_
  refine lv_bipush (v := 97) hx hb dX8_readsClause_28 (by decide +kernel) ?_
  refine lv_bipush (v := 108) hx hb dX8_readsClause_30 (by decide +kernel) ?_
  refine lv_bipush (v := 101) hx hb dX8_readsClause_32 (by decide +kernel) ?_
  refine lv_iconst (v := 0) hx hb dX8_readsClause_34 (by decide +kernel) ?_
  refine lv_iconst (v := 0) hx hb dX8_readsClause_35 (by decide +kernel) ?_
  refine z_callVI (wr := []) (n := 7) C (c_M_isWord l D g m0 v 115 99 97 108 101 0 0) gX8_readsClause_X8_isWord rfl (by decide +kernel) ⟨Nat.le_of_ble_eq_true rfl, Nat.le_of_ble_eq_true rfl⟩ ⟨Nat.le_of_ble_eq_true rfl, Nat.le_of_ble_eq_true rfl⟩ blind_T (fun _ _ _ => trivial) hT [0] [] rfl rfl rfl rfl rfl 0 rfl rfl rfl rfl hl.1 rfl (Nat.le_of_ble_eq_true rfl) dX8_readsClause_36 (fun r_6 u_4 H locs hp_5 hT => ?_)
  have hT : Sit D (TY g) A s [(m0, .inr (8, [.ref (v 0), .int 0, .ref (v 1), .ref (v 2), .ref (v 3), .ref (v 4), .int 0, .ref (v 5), .ref (v 6), .ref (v 7), .int 0, .int 0, .int 0, .int 0, .int 0, .ref (v 8), .ref (v 9), .ref (v 10), .ref (v 11), .ref (v 12), .ref (v 13)]))] H _ := hT
  have hp_5 := hp_5.trans (show sM_isWord = 0 from rfl)
  subst hp_5
  refine lv_if_eq (tgt := 70) hx hb dX8_readsClause_39 (by decide +kernel) (fun _ => ?_) (fun c9 => absurd (by decide +kernel) c9)
  refine lv_aload_n hx hb dX8_readsClause_70 rfl (lv_at hl 0 rfl) ?_
  refine lv_bipush (v := 104) hx hb dX8_readsClause_71 (by decide +kernel) ?_
  refine lv_bipush (v := 101) hx hb dX8_readsClause_73 (by decide +kernel) ?_
  refine lv_bipush (v := 114) hx hb dX8_readsClause_75 (by decide +kernel) ?_
  refine lv_bipush (v := 111) hx hb dX8_readsClause_77 (by decide +kernel) ?_
  refine lv_iconst (v := 0) hx hb dX8_readsClause_79 (by decide +kernel) ?_
  refine lv_iconst (v := 0) hx hb dX8_readsClause_80 (by decide +kernel) ?_
  refine lv_iconst (v := 0) hx hb dX8_readsClause_81 (by decide +kernel) ?_
  refine z_callVI (wr := []) (n := 7) C (c_M_isWord l D g m0 v 104 101 114 111 0 0 0) gX8_readsClause_X8_isWord rfl (by decide +kernel) ⟨Nat.le_of_ble_eq_true rfl, Nat.le_of_ble_eq_true rfl⟩ ⟨Nat.le_of_ble_eq_true rfl, Nat.le_of_ble_eq_true rfl⟩ blind_T (fun _ _ _ => trivial) hT [0] [] rfl rfl rfl rfl rfl 0 rfl rfl rfl rfl hl.1 rfl (Nat.le_of_ble_eq_true rfl) dX8_readsClause_82 (fun r_9 u_7 H locs hp_8 hT => ?_)
  have hT : Sit D (TY g) A s [(m0, .inr (8, [.ref (v 0), .int 0, .ref (v 1), .ref (v 2), .ref (v 3), .ref (v 4), .int 0, .ref (v 5), .ref (v 6), .ref (v 7), .int 0, .int 0, .int 0, .int 0, .int 0, .ref (v 8), .ref (v 9), .ref (v 10), .ref (v 11), .ref (v 12), .ref (v 13)]))] H _ := hT
  have hp_8 := hp_8.trans (show sM_isWord = 0 from rfl)
  subst hp_8
  refine lv_if_eq (tgt := 94) hx hb dX8_readsClause_85 (by decide +kernel) (fun _ => ?_) (fun c9 => absurd (by decide +kernel) c9)
  refine lv_aload_n hx hb dX8_readsClause_94 rfl (lv_at hl 0 rfl) ?_
  refine lv_bipush (v := 98) hx hb dX8_readsClause_95 (by decide +kernel) ?_
  refine lv_bipush (v := 111) hx hb dX8_readsClause_97 (by decide +kernel) ?_
  refine lv_bipush (v := 97) hx hb dX8_readsClause_99 (by decide +kernel) ?_
  refine lv_bipush (v := 115) hx hb dX8_readsClause_101 (by decide +kernel) ?_
  refine lv_bipush (v := 116) hx hb dX8_readsClause_103 (by decide +kernel) ?_
  refine lv_bipush (v := 101) hx hb dX8_readsClause_105 (by decide +kernel) ?_
  refine lv_bipush (v := 114) hx hb dX8_readsClause_107 (by decide +kernel) ?_
  refine z_callVI (wr := []) (n := 7) C (c_M_isWord l D g m0 v 98 111 97 115 116 101 114) gX8_readsClause_X8_isWord rfl (by decide +kernel) ⟨Nat.le_of_ble_eq_true rfl, Nat.le_of_ble_eq_true rfl⟩ ⟨Nat.le_of_ble_eq_true rfl, Nat.le_of_ble_eq_true rfl⟩ blind_T (fun _ _ _ => trivial) hT [0] [] rfl rfl rfl rfl rfl 0 rfl rfl rfl rfl hl.1 rfl (Nat.le_of_ble_eq_true rfl) dX8_readsClause_109 (fun r_12 u_10 H locs hp_11 hT => ?_)
  have hT : Sit D (TY g) A s [(m0, .inr (8, [.ref (v 0), .int 0, .ref (v 1), .ref (v 2), .ref (v 3), .ref (v 4), .int 0, .ref (v 5), .ref (v 6), .ref (v 7), .int 0, .int 0, .int 0, .int 0, .int 0, .ref (v 8), .ref (v 9), .ref (v 10), .ref (v 11), .ref (v 12), .ref (v 13)]))] H _ := hT
  have hp_11 := hp_11.trans (show sM_isWord = 0 from rfl)
  subst hp_11
  refine lv_if_eq (tgt := 121) hx hb dX8_readsClause_112 (by decide +kernel) (fun _ => ?_) (fun c9 => absurd (by decide +kernel) c9)
  refine lv_aload_n hx hb dX8_readsClause_121 rfl (lv_at hl 0 rfl) ?_
  refine lv_bipush (v := 109) hx hb dX8_readsClause_122 (by decide +kernel) ?_
  refine lv_bipush (v := 111) hx hb dX8_readsClause_124 (by decide +kernel) ?_
  refine lv_bipush (v := 100) hx hb dX8_readsClause_126 (by decide +kernel) ?_
  refine lv_bipush (v := 101) hx hb dX8_readsClause_128 (by decide +kernel) ?_
  refine lv_bipush (v := 115) hx hb dX8_readsClause_130 (by decide +kernel) ?_
  refine lv_bipush (v := 116) hx hb dX8_readsClause_132 (by decide +kernel) ?_
  refine lv_iconst (v := 0) hx hb dX8_readsClause_134 (by decide +kernel) ?_
  refine z_callVI (wr := []) (n := 7) C (c_M_isWord l D g m0 v 109 111 100 101 115 116 0) gX8_readsClause_X8_isWord rfl (by decide +kernel) ⟨Nat.le_of_ble_eq_true rfl, Nat.le_of_ble_eq_true rfl⟩ ⟨Nat.le_of_ble_eq_true rfl, Nat.le_of_ble_eq_true rfl⟩ blind_T (fun _ _ _ => trivial) hT [0] [] rfl rfl rfl rfl rfl 0 rfl rfl rfl rfl hl.1 rfl (Nat.le_of_ble_eq_true rfl) dX8_readsClause_135 (fun r_15 u_13 H locs hp_14 hT => ?_)
  have hT : Sit D (TY g) A s [(m0, .inr (8, [.ref (v 0), .int 0, .ref (v 1), .ref (v 2), .ref (v 3), .ref (v 4), .int 0, .ref (v 5), .ref (v 6), .ref (v 7), .int 0, .int 0, .int 0, .int 0, .int 0, .ref (v 8), .ref (v 9), .ref (v 10), .ref (v 11), .ref (v 12), .ref (v 13)]))] H _ := hT
  have hp_14 := hp_14.trans (show sM_isWord = 0 from rfl)
  subst hp_14
  refine lv_if_eq (tgt := 147) hx hb dX8_readsClause_138 (by decide +kernel) (fun _ => ?_) (fun c9 => absurd (by decide +kernel) c9)
  refine lv_aload_n hx hb dX8_readsClause_147 rfl (lv_at hl 0 rfl) ?_
  refine lv_bipush (v := 99) hx hb dX8_readsClause_148 (by decide +kernel) ?_
  refine lv_bipush (v := 104) hx hb dX8_readsClause_150 (by decide +kernel) ?_
  refine lv_bipush (v := 105) hx hb dX8_readsClause_152 (by decide +kernel) ?_
  refine lv_bipush (v := 108) hx hb dX8_readsClause_154 (by decide +kernel) ?_
  refine lv_bipush (v := 100) hx hb dX8_readsClause_156 (by decide +kernel) ?_
  refine lv_iconst (v := 0) hx hb dX8_readsClause_158 (by decide +kernel) ?_
  refine lv_iconst (v := 0) hx hb dX8_readsClause_159 (by decide +kernel) ?_
  refine z_callVI (wr := []) (n := 7) C (c_M_isWord l D g m0 v 99 104 105 108 100 0 0) gX8_readsClause_X8_isWord rfl (by decide +kernel) ⟨Nat.le_of_ble_eq_true rfl, Nat.le_of_ble_eq_true rfl⟩ ⟨Nat.le_of_ble_eq_true rfl, Nat.le_of_ble_eq_true rfl⟩ blind_T (fun _ _ _ => trivial) hT [0] [] rfl rfl rfl rfl rfl 0 rfl rfl rfl rfl hl.1 rfl (Nat.le_of_ble_eq_true rfl) dX8_readsClause_160 (fun r_18 u_16 H locs hp_17 hT => ?_)
  have hT : Sit D (TY g) A s [(m0, .inr (8, [.ref (v 0), .int 0, .ref (v 1), .ref (v 2), .ref (v 3), .ref (v 4), .int 0, .ref (v 5), .ref (v 6), .ref (v 7), .int 0, .int 0, .int 0, .int 0, .int 0, .ref (v 8), .ref (v 9), .ref (v 10), .ref (v 11), .ref (v 12), .ref (v 13)]))] H _ := hT
  have hp_17 := hp_17.trans (show sM_isWord = 0 from rfl)
  subst hp_17
  refine lv_if_eq (tgt := 172) hx hb dX8_readsClause_163 (by decide +kernel) (fun _ => ?_) (fun c9 => absurd (by decide +kernel) c9)
  refine lv_aload_n hx hb dX8_readsClause_172 rfl (lv_at hl 0 rfl) ?_
  refine lv_bipush (v := 115) hx hb dX8_readsClause_173 (by decide +kernel) ?_
  refine lv_bipush (v := 111) hx hb dX8_readsClause_175 (by decide +kernel) ?_
  refine lv_bipush (v := 114) hx hb dX8_readsClause_177 (by decide +kernel) ?_
  refine lv_bipush (v := 116) hx hb dX8_readsClause_179 (by decide +kernel) ?_
  refine lv_iconst (v := 0) hx hb dX8_readsClause_181 (by decide +kernel) ?_
  refine lv_iconst (v := 0) hx hb dX8_readsClause_182 (by decide +kernel) ?_
  refine lv_iconst (v := 0) hx hb dX8_readsClause_183 (by decide +kernel) ?_
  refine z_callVI (wr := []) (n := 7) C (c_M_isWord l D g m0 v 115 111 114 116 0 0 0) gX8_readsClause_X8_isWord rfl (by decide +kernel) ⟨Nat.le_of_ble_eq_true rfl, Nat.le_of_ble_eq_true rfl⟩ ⟨Nat.le_of_ble_eq_true rfl, Nat.le_of_ble_eq_true rfl⟩ blind_T (fun _ _ _ => trivial) hT [0] [] rfl rfl rfl rfl rfl 0 rfl rfl rfl rfl hl.1 rfl (Nat.le_of_ble_eq_true rfl) dX8_readsClause_184 (fun r_21 u_19 H locs hp_20 hT => ?_)
  have hT : Sit D (TY g) A s [(m0, .inr (8, [.ref (v 0), .int 0, .ref (v 1), .ref (v 2), .ref (v 3), .ref (v 4), .int 0, .ref (v 5), .ref (v 6), .ref (v 7), .int 0, .int 0, .int 0, .int 0, .int 0, .ref (v 8), .ref (v 9), .ref (v 10), .ref (v 11), .ref (v 12), .ref (v 13)]))] H _ := hT
  have hp_20 := hp_20.trans (show sM_isWord = 0 from rfl)
  subst hp_20
  refine lv_if_eq (tgt := 201) hx hb dX8_readsClause_187 (by decide +kernel) (fun _ => ?_) (fun c9 => absurd (by decide +kernel) c9)
  refine lv_iconst (v := 0) hx hb dX8_readsClause_201 (by decide +kernel) ?_
  exact z_zret C rfl (by first | rfl | (split <;> rfl)) hT () rfl [0] rfl rfl (Nat.le_of_ble_eq_true rfl) (Nat.le_of_ble_eq_true rfl) dX8_readsClause_202

def sM_reads  : Int32 := (-1)
set_option maxHeartbeats 4000000 in
set_option maxRecDepth 100000 in
/-- the model: reads, at first -/
theorem c_M_reads (l : Launch) (D : va_G) (g : Nat → ClassId) (m0 : Nat) (v : Nat → Nat) (ft fd : Nat → Int32) : CtI l yX8_reads wsX8_reads { frames := 2, cells := 0, slots := 0, locals := 80 } D (TY g) [.ref m0] (fun _ => True) [(m0, .inr (8, [.ref (v 0), .int 0, .ref (v 1), .ref (v 2), .ref (v 3), .ref (v 4), .int 0, .ref (v 5), .ref (v 6), .ref (v 7), .int 0, .int 0, .int 0, .int 0, .int 0, .ref (v 8), .ref (v 9), .ref (v 10), .ref (v 11), .ref (v 12), .ref (v 13)])), ((v 1), .inl (g 0, 29, .inl ft)), ((v 2), .inl (g 0, 29, .inl fd))] (fun r (_ : Unit) => r = sM_reads ) (fun _ => [(m0, .inr (8, [.ref (v 0), .int 0, .ref (v 1), .ref (v 2), .ref (v 3), .ref (v 4), .int 0, .ref (v 5), .ref (v 6), .ref (v 7), .int 0, .int 0, .int 0, .int 0, .int 0, .ref (v 8), .ref (v 9), .ref (v 10), .ref (v 11), .ref (v 12), .ref (v 13)]))]) := by
  refine CtI.intro (cc := cX8_reads) (maxL := 3) (ret := (some .int)) rfl (by decide +kernel) (Nat.le_of_ble_eq_true rfl) ?_
  intro p e s m below meth c A ls C hmn hX hAe hT hl
  have hx := C.1.1
  have hb := C.1.2.1
  have hl : lv_has ls 3 [(0, .ref m0)] := hl
  have hin8 : ∀ w ∈ u_ws RX8 TX8 21, w ∈ wsX8_reads := by decide +kernel
  refine lv_iconst (v := 0) hx hb dX8_reads_0 (by decide +kernel) ?_
  refine lv_istore_n (lv' := [(1, .int 0), (0, .ref m0)]) hx hb dX8_reads_1 rfl hl (by decide +kernel) rfl (fun ls hl => ?_)
  refine z_loop (α := Nat → Int32) (N := 29) (fun i a => True) (fun i a => [(m0, .inr (8, [.ref (v 0), .int 0, .ref (v 1), .ref (v 2), .ref (v 3), .ref (v 4), .int 0, .ref (v 5), .ref (v 6), .ref (v 7), .int 0, .int 0, .int 0, .int 0, .int 0, .ref (v 8), .ref (v 9), .ref (v 10), .ref (v 11), .ref (v 12), .ref (v 13)])), ((v 1), .inl (g 0, 29, .inl ft)), ((v 2), .inl (g 0, 29, .inl a))]) (fun i a => [(1, .int (nI i)), (0, .ref m0)]) ?_ ?_ 0 fd (Nat.zero_le _) trivial _ _ _ hT (lv_sub hl [0, 1] rfl)
  · intro i a H locs ls hi hI hT hl ih
    have hT : Sit D (TY g) A s [(m0, .inr (8, [.ref (v 0), .int 0, .ref (v 1), .ref (v 2), .ref (v 3), .ref (v 4), .int 0, .ref (v 5), .ref (v 6), .ref (v 7), .int 0, .int 0, .int 0, .int 0, .int 0, .ref (v 8), .ref (v 9), .ref (v 10), .ref (v 11), .ref (v 12), .ref (v 13)])), ((v 1), .inl (g 0, 29, .inl ft)), ((v 2), .inl (g 0, 29, .inl a))] H locs := hT
    have hl : lv_has ls _ [(1, .int (nI i)), (0, .ref m0)] := hl
    refine lv_iload_n hx hb dX8_reads_2 rfl (lv_at hl 0 rfl) ?_
    refine lv_bipush (v := 29) hx hb dX8_reads_3 (by decide +kernel) ?_
    refine lv_icmp_ge (tgt := 26) hx hb dX8_reads_5 (by decide +kernel) (fun c9 => absurd c9 (lp_no (by decide +kernel) hi (by decide +kernel))) (fun _ => ?_)
    refine lv_aload_n hx hb dX8_reads_8 rfl (lv_at hl 1 rfl) ?_
    refine z_get C (ci := 8) (N := 21) rfl hin8 hT 0 3 rfl rfl (by decide +kernel) (by decide +kernel) dX8_reads_9 ?_
    refine lv_iload_n hx hb dX8_reads_12 rfl (lv_at hl 0 rfl) ?_
    refine lv_aload_n hx hb dX8_reads_13 rfl (lv_at hl 1 rfl) ?_
    refine z_get C (ci := 8) (N := 21) rfl hin8 hT 0 2 rfl rfl (by decide +kernel) (by decide +kernel) dX8_reads_14 ?_
    refine lv_iload_n hx hb dX8_reads_17 rfl (lv_at hl 0 rfl) ?_
    refine z_iald C hT 1 0 rfl rfl (vp_in_nI (by omega) (by decide +kernel)) (v := ft i) (congrArg _ (nI_clamp (by omega))) dX8_reads_18 ?_
    refine z_iast C hT 2 0 rfl rfl (vp_in_nI (by omega) (by decide +kernel)) dX8_reads_19 (upd a i (ft i)) (by rw [nI_clamp (by omega)]) [(m0, .inr (8, [.ref (v 0), .int 0, .ref (v 1), .ref (v 2), .ref (v 3), .ref (v 4), .int 0, .ref (v 5), .ref (v 6), .ref (v 7), .int 0, .int 0, .int 0, .int 0, .int 0, .ref (v 8), .ref (v 9), .ref (v 10), .ref (v 11), .ref (v 12), .ref (v 13)])), ((v 1), .inl (g 0, 29, .inl ft)), ((v 2), .inl (g 0, 29, .inl (upd a i (ft i))))] rfl (fun H locs hT => ?_)
    refine lv_iinc (v := nI (i + 1)) (lv' := [(1, .int (nI (i + 1))), (0, .ref m0)]) hx hb dX8_reads_20 hl (k := 0) rfl (inc1 _) (by decide +kernel) rfl (fun ls hl => ?_)
    refine lv_goto (tgt := 2) hx hb dX8_reads_23 (by decide +kernel) ?_
    exact ih (upd a i (ft i)) _ _ _ trivial hT (lv_sub hl [0, 1] rfl)
  · intro a H locs ls hI hT hl
    have hT : Sit D (TY g) A s [(m0, .inr (8, [.ref (v 0), .int 0, .ref (v 1), .ref (v 2), .ref (v 3), .ref (v 4), .int 0, .ref (v 5), .ref (v 6), .ref (v 7), .int 0, .int 0, .int 0, .int 0, .int 0, .ref (v 8), .ref (v 9), .ref (v 10), .ref (v 11), .ref (v 12), .ref (v 13)])), ((v 1), .inl (g 0, 29, .inl ft)), ((v 2), .inl (g 0, 29, .inl a))] H locs := hT
    have hl : lv_has ls _ [(1, .int (nI 29)), (0, .ref m0)] := hl
    refine lv_iload_n hx hb dX8_reads_2 rfl (lv_at hl 0 rfl) ?_
    refine lv_bipush (v := 29) hx hb dX8_reads_3 (by decide +kernel) ?_
    refine lv_icmp_ge (tgt := 26) hx hb dX8_reads_5 (by decide +kernel) (fun _ => ?_) (fun c9 => absurd (by decide +kernel) c9)
    refine lv_aload_n hx hb dX8_reads_26 rfl (lv_at hl 1 rfl) ?_
    refine lv_iconst (v := 0) hx hb dX8_reads_27 (by decide +kernel) ?_
    refine z_put C (ci := 8) (N := 21) rfl hin8 tyX8_ok nmX8 hT 0 11 rfl (Nat.le_of_ble_eq_true rfl) (by decide +kernel) (by decide +kernel) rfl rfl rfl dX8_reads_28 [(m0, .inr (8, [.ref (v 0), .int 0, .ref (v 1), .ref (v 2), .ref (v 3), .ref (v 4), .int 0, .ref (v 5), .ref (v 6), .ref (v 7), .int 0, .int 0, .int 0, .int 0, .int 0, .ref (v 8), .ref (v 9), .ref (v 10), .ref (v 11), .ref (v 12), .ref (v 13)])), ((v 1), .inl (g 0, 29, .inl ft)), ((v 2), .inl (g 0, 29, .inl a))] rfl (fun H locs hT => ?_)
    refine lv_iconst (v := 0) hx hb dX8_reads_31 (by decide +kernel) ?_
    refine lv_istore_n (lv' := [(1, .int 0), (0, .ref m0)]) hx hb dX8_reads_32 rfl hl (by decide +kernel) rfl (fun ls hl => ?_)
    refine lv_iconst (v := 1) hx hb dX8_reads_33 (by decide +kernel) ?_
    refine lv_istore_n (lv' := [(2, .int 1), (1, .int 0), (0, .ref m0)]) hx hb dX8_reads_34 rfl hl (by decide +kernel) rfl (fun ls hl => ?_)
    refine lv_iload_n hx hb dX8_reads_35 rfl (lv_at hl 0 rfl) ?_
    refine lv_if_eq (tgt := 106) hx hb dX8_reads_36 (by decide +kernel) (fun c9 => absurd c9 (by decide +kernel)) (fun _ => ?_)
    refine lv_aload_n hx hb dX8_reads_39 rfl (lv_at hl 2 rfl) ?_
    refine z_callVV (wr := [((v 1), .inl (g 0, 29, .inl ft)), ((v 2), .inl (g 0, 29, .inl a))]) (n := 0) C (c_M_token l D g m0 v) gX8_reads_X8_token rfl (by decide +kernel) ⟨Nat.le_of_ble_eq_true rfl, Nat.le_of_ble_eq_true rfl⟩ ⟨Nat.le_of_ble_eq_true rfl, Nat.le_of_ble_eq_true rfl⟩ blind_T (fun _ _ _ => trivial) hT [0] [1, 2] rfl rfl rfl rfl rfl 0 rfl rfl rfl rfl hl.1 rfl (Nat.le_of_ble_eq_true rfl) dX8_reads_40 (fun u_1 H locs hp_2 hT => ?_)
    have hT : Sit D (TY g) A s [((v 1), .inl (g 0, 29, .inl ft)), ((v 2), .inl (g 0, 29, .inl a)), (m0, .inr (8, [.ref (v 0), .int 0, .ref (v 1), .ref (v 2), .ref (v 3), .ref (v 4), .int 0, .ref (v 5), .ref (v 6), .ref (v 7), .int 0, .int 0, .int 0, .int 0, .int 0, .ref (v 8), .ref (v 9), .ref (v 10), .ref (v 11), .ref (v 12), .ref (v 13)]))] H _ := hT
    refine lv_aload_n hx hb dX8_reads_43 rfl (lv_at hl 2 rfl) ?_
    refine z_callVI (wr := [((v 1), .inl (g 0, 29, .inl ft)), ((v 2), .inl (g 0, 29, .inl a))]) (n := 0) C (c_M_readsClause l D g m0 v) gX8_reads_X8_readsClause rfl (by decide +kernel) ⟨Nat.le_of_ble_eq_true rfl, Nat.le_of_ble_eq_true rfl⟩ ⟨Nat.le_of_ble_eq_true rfl, Nat.le_of_ble_eq_true rfl⟩ blind_T (fun _ _ _ => trivial) hT [2] [0, 1] rfl rfl rfl rfl rfl 2 rfl rfl rfl rfl hl.1 rfl (Nat.le_of_ble_eq_true rfl) dX8_reads_44 (fun r_5 u_3 H locs hp_4 hT => ?_)
    have hT : Sit D (TY g) A s [((v 1), .inl (g 0, 29, .inl ft)), ((v 2), .inl (g 0, 29, .inl a)), (m0, .inr (8, [.ref (v 0), .int 0, .ref (v 1), .ref (v 2), .ref (v 3), .ref (v 4), .int 0, .ref (v 5), .ref (v 6), .ref (v 7), .int 0, .int 0, .int 0, .int 0, .int 0, .ref (v 8), .ref (v 9), .ref (v 10), .ref (v 11), .ref (v 12), .ref (v 13)]))] H _ := hT
    have hp_4 := hp_4.trans (show sM_readsClause = 0 from rfl)
    subst hp_4
    refine lv_if_ne (tgt := 52) hx hb dX8_reads_47 (by decide +kernel) (fun c9 => absurd c9 (by decide +kernel)) (fun _ => ?_)
    refine lv_iconst (v := (-1)) hx hb dX8_reads_50 (by decide +kernel) ?_
    exact z_iret C rfl hT () rfl [2] rfl rfl (Nat.le_of_ble_eq_true rfl) (Nat.le_of_ble_eq_true rfl) dX8_reads_51

def sM_fault  : Int32 := 0
set_option maxHeartbeats 4000000 in
set_option maxRecDepth 100000 in
/-- the model: fault, at first -/
theorem c_M_fault (l : Launch) (D : va_G) (g : Nat → ClassId) (m0 : Nat) (v : Nat → Nat) (ft fd : Nat → Int32) : CtI l yX8_fault wsX8_fault { frames := 3, cells := 0, slots := 0, locals := 120 } D (TY g) [.ref m0] (fun _ => True) [(m0, .inr (8, [.ref (v 0), .int 0, .ref (v 1), .ref (v 2), .ref (v 3), .ref (v 4), .int 0, .ref (v 5), .ref (v 6), .ref (v 7), .int 0, .int 0, .int 0, .int 0, .int 0, .ref (v 8), .ref (v 9), .ref (v 10), .ref (v 11), .ref (v 12), .ref (v 13)])), ((v 1), .inl (g 0, 29, .inl ft)), ((v 2), .inl (g 0, 29, .inl fd))] (fun r (_ : Unit) => r = sM_fault ) (fun _ => []) := by
  refine CtI.intro (cc := cX8_fault) (maxL := 1) (ret := (some .int)) rfl (by decide +kernel) (Nat.le_of_ble_eq_true rfl) ?_
  intro p e s m below meth c A ls C hmn hX hAe hT hl
  have hx := C.1.1
  have hb := C.1.2.1
  have hl : lv_has ls 1 [(0, .ref m0)] := hl
  have hin8 : ∀ w ∈ u_ws RX8 TX8 21, w ∈ wsX8_fault := by decide +kernel
  refine lv_aload_n hx hb dX8_fault_0 rfl (lv_at hl 0 rfl) ?_
  refine z_callVI (wr := []) (n := 0) C (c_M_reads l D g m0 v ft fd) gX8_fault_X8_reads rfl (by decide +kernel) ⟨Nat.le_of_ble_eq_true rfl, Nat.le_of_ble_eq_true rfl⟩ ⟨Nat.le_of_ble_eq_true rfl, Nat.le_of_ble_eq_true rfl⟩ blind_T (fun _ _ _ => trivial) hT [0, 1, 2] [] rfl rfl rfl rfl rfl 0 rfl rfl rfl rfl hl.1 rfl (Nat.le_of_ble_eq_true rfl) dX8_fault_1 (fun r_3 u_1 H locs hp_2 hT => ?_)
  have hT : Sit D (TY g) A s [(m0, .inr (8, [.ref (v 0), .int 0, .ref (v 1), .ref (v 2), .ref (v 3), .ref (v 4), .int 0, .ref (v 5), .ref (v 6), .ref (v 7), .int 0, .int 0, .int 0, .int 0, .int 0, .ref (v 8), .ref (v 9), .ref (v 10), .ref (v 11), .ref (v 12), .ref (v 13)]))] H _ := hT
  have hp_2 := hp_2.trans (show sM_reads = -1 from rfl)
  subst hp_2
  refine lv_iconst (v := (-1)) hx hb dX8_fault_4 (by decide +kernel) ?_
  refine lv_icmp_ne (tgt := 15) hx hb dX8_fault_5 (by decide +kernel) (fun c9 => absurd c9 (by decide +kernel)) (fun _ => ?_)
  refine lv_aload_n hx hb dX8_fault_8 rfl (lv_at hl 0 rfl) ?_
  refine z_get C (ci := 8) (N := 21) rfl hin8 hT 0 13 rfl rfl (by decide +kernel) (by decide +kernel) dX8_fault_9 ?_
  refine lv_goto (tgt := 16) hx hb dX8_fault_12 (by decide +kernel) ?_
  exact z_iret C rfl hT () rfl [] rfl rfl (Nat.le_of_ble_eq_true rfl) (Nat.le_of_ble_eq_true rfl) dX8_fault_16

def sM_hall  : Int32 := (-4)
set_option maxHeartbeats 4000000 in
set_option maxRecDepth 100000 in
/-- the model: hall, at first -/
theorem c_M_hall (l : Launch) (D : va_G) (g : Nat → ClassId) (m0 : Nat) (v : Nat → Nat) (ft fd : Nat → Int32) : CtI l yX8_hall wsX8_hall { frames := 3, cells := 0, slots := 0, locals := 120 } D (TY g) [.ref m0] (fun _ => True) [(m0, .inr (8, [.ref (v 0), .int 0, .ref (v 1), .ref (v 2), .ref (v 3), .ref (v 4), .int 0, .ref (v 5), .ref (v 6), .ref (v 7), .int 0, .int 0, .int 0, .int 0, .int 0, .ref (v 8), .ref (v 9), .ref (v 10), .ref (v 11), .ref (v 12), .ref (v 13)])), ((v 1), .inl (g 0, 29, .inl ft)), ((v 2), .inl (g 0, 29, .inl fd))] (fun r (_ : Unit) => r = sM_hall ) (fun _ => []) := by
  refine CtI.intro (cc := cX8_hall) (maxL := 3) (ret := (some .int)) rfl (by decide +kernel) (Nat.le_of_ble_eq_true rfl) ?_
  intro p e s m below meth c A ls C hmn hX hAe hT hl
  have hx := C.1.1
  have hb := C.1.2.1
  have hl : lv_has ls 3 [(0, .ref m0)] := hl
  refine lv_aload_n hx hb dX8_hall_0 rfl (lv_at hl 0 rfl) ?_
  refine z_callVI (wr := []) (n := 0) C (c_M_reads l D g m0 v ft fd) gX8_hall_X8_reads rfl (by decide +kernel) ⟨Nat.le_of_ble_eq_true rfl, Nat.le_of_ble_eq_true rfl⟩ ⟨Nat.le_of_ble_eq_true rfl, Nat.le_of_ble_eq_true rfl⟩ blind_T (fun _ _ _ => trivial) hT [0, 1, 2] [] rfl rfl rfl rfl rfl 0 rfl rfl rfl rfl hl.1 rfl (Nat.le_of_ble_eq_true rfl) dX8_hall_1 (fun r_3 u_1 H locs hp_2 hT => ?_)
  have hT : Sit D (TY g) A s [(m0, .inr (8, [.ref (v 0), .int 0, .ref (v 1), .ref (v 2), .ref (v 3), .ref (v 4), .int 0, .ref (v 5), .ref (v 6), .ref (v 7), .int 0, .int 0, .int 0, .int 0, .int 0, .ref (v 8), .ref (v 9), .ref (v 10), .ref (v 11), .ref (v 12), .ref (v 13)]))] H _ := hT
  have hp_2 := hp_2.trans (show sM_reads = -1 from rfl)
  subst hp_2
  refine lv_istore_n (lv' := [(1, .int (-1)), (0, .ref m0)]) hx hb dX8_hall_4 rfl hl (by decide +kernel) rfl (fun ls hl => ?_)
  refine lv_iload_n hx hb dX8_hall_5 rfl (lv_at hl 0 rfl) ?_
  refine lv_iconst (v := (-1)) hx hb dX8_hall_6 (by decide +kernel) ?_
  refine lv_icmp_ne (tgt := 13) hx hb dX8_hall_7 (by decide +kernel) (fun c9 => absurd c9 (by decide +kernel)) (fun _ => ?_)
  refine lv_bipush (v := (-4)) hx hb dX8_hall_10 (by decide +kernel) ?_
  exact z_iret C rfl hT () rfl [] rfl rfl (Nat.le_of_ble_eq_true rfl) (Nat.le_of_ble_eq_true rfl) dX8_hall_12
