theorem dX8_jointFor_0 : decode cX8_jointFor 0 = .ok (.iconst (-1), 1) := by decide +kernel
theorem dX8_jointFor_1 : decode cX8_jointFor 1 = .ok (.istore 6, 2) := by decide +kernel
theorem dX8_jointFor_3 : decode cX8_jointFor 3 = .ok (.iconst 0, 1) := by decide +kernel
theorem dX8_jointFor_4 : decode cX8_jointFor 4 = .ok (.istore 7, 2) := by decide +kernel
theorem dX8_jointFor_6 : decode cX8_jointFor 6 = .ok (.iload 7, 2) := by decide +kernel
theorem dX8_jointFor_8 : decode cX8_jointFor 8 = .ok (.aload_n 0, 1) := by decide +kernel
theorem dX8_jointFor_9 : decode cX8_jointFor 9 = .ok (.getfield 13, 3) := by decide +kernel
theorem dX8_jointFor_12 : decode cX8_jointFor 12 = .ok (.iconst 0, 1) := by decide +kernel
theorem dX8_jointFor_13 : decode cX8_jointFor 13 = .ok (.iaload, 1) := by decide +kernel
theorem dX8_jointFor_14 : decode cX8_jointFor 14 = .ok (.if_icmp .ge 62, 3) := by decide +kernel
theorem dX8_jointFor_17 : decode cX8_jointFor 17 = .ok (.iload 4, 2) := by decide +kernel
theorem dX8_jointFor_19 : decode cX8_jointFor 19 = .ok (.iload 7, 2) := by decide +kernel
theorem dX8_jointFor_21 : decode cX8_jointFor 21 = .ok (.ishr, 1) := by decide +kernel
theorem dX8_jointFor_22 : decode cX8_jointFor 22 = .ok (.iconst 1, 1) := by decide +kernel
theorem dX8_jointFor_23 : decode cX8_jointFor 23 = .ok (.iand, 1) := by decide +kernel
theorem dX8_jointFor_24 : decode cX8_jointFor 24 = .ok (.iconst 1, 1) := by decide +kernel
theorem dX8_jointFor_25 : decode cX8_jointFor 25 = .ok (.if_icmp .ne 28, 3) := by decide +kernel
theorem dX8_jointFor_28 : decode cX8_jointFor 28 = .ok (.iload 5, 2) := by decide +kernel
theorem dX8_jointFor_30 : decode cX8_jointFor 30 = .ok (.ifCond .ne 19, 3) := by decide +kernel
theorem dX8_jointFor_33 : decode cX8_jointFor 33 = .ok (.iload 6, 2) := by decide +kernel
theorem dX8_jointFor_35 : decode cX8_jointFor 35 = .ok (.iconst (-1), 1) := by decide +kernel
theorem dX8_jointFor_36 : decode cX8_jointFor 36 = .ok (.if_icmp .ne 17, 3) := by decide +kernel
theorem dX8_jointFor_39 : decode cX8_jointFor 39 = .ok (.iload_n 1, 1) := by decide +kernel
theorem dX8_jointFor_40 : decode cX8_jointFor 40 = .ok (.iload_n 2, 1) := by decide +kernel
theorem dX8_jointFor_41 : decode cX8_jointFor 41 = .ok (.iload 7, 2) := by decide +kernel
theorem dX8_jointFor_43 : decode cX8_jointFor 43 = .ok (.iload_n 3, 1) := by decide +kernel
theorem dX8_jointFor_44 : decode cX8_jointFor 44 = .ok (.imul, 1) := by decide +kernel
theorem dX8_jointFor_45 : decode cX8_jointFor 45 = .ok (.isub, 1) := by decide +kernel
theorem dX8_jointFor_46 : decode cX8_jointFor 46 = .ok (.if_icmp .lt 7, 3) := by decide +kernel
theorem dX8_jointFor_49 : decode cX8_jointFor 49 = .ok (.iconst 1, 1) := by decide +kernel
theorem dX8_jointFor_50 : decode cX8_jointFor 50 = .ok (.goto 4, 3) := by decide +kernel
theorem dX8_jointFor_53 : decode cX8_jointFor 53 = .ok (.iconst 0, 1) := by decide +kernel
theorem dX8_jointFor_54 : decode cX8_jointFor 54 = .ok (.istore 8, 2) := by decide +kernel
theorem dX8_jointFor_56 : decode cX8_jointFor 56 = .ok (.iload 8, 2) := by decide +kernel
theorem dX8_jointFor_58 : decode cX8_jointFor 58 = .ok (.ifCond .eq 8, 3) := by decide +kernel
theorem dX8_jointFor_61 : decode cX8_jointFor 61 = .ok (.iload 7, 2) := by decide +kernel
theorem dX8_jointFor_63 : decode cX8_jointFor 63 = .ok (.goto 5, 3) := by decide +kernel
theorem dX8_jointFor_66 : decode cX8_jointFor 66 = .ok (.iload 6, 2) := by decide +kernel
theorem dX8_jointFor_68 : decode cX8_jointFor 68 = .ok (.istore 6, 2) := by decide +kernel
theorem dX8_jointFor_70 : decode cX8_jointFor 70 = .ok (.iinc 7 1, 3) := by decide +kernel
theorem dX8_jointFor_73 : decode cX8_jointFor 73 = .ok (.goto (-67), 3) := by decide +kernel
theorem dX8_jointFor_76 : decode cX8_jointFor 76 = .ok (.iload 6, 2) := by decide +kernel
theorem dX8_jointFor_78 : decode cX8_jointFor 78 = .ok (.ireturn, 1) := by decide +kernel
set_option maxRecDepth 20000 in
theorem ggX8_jointBy_X8_jointFor : GoodIn wsX8_jointBy wsX8_jointFor := goodIn_r _ [6, 1, 7, 8, 9, 10, 11, 12, 13, 14, 15, 16, 17, 18, 19, 20, 21, 22, 23, 24, 25, 26, 27] (by decide +kernel) (by decide +kernel)
set_option maxRecDepth 20000 in
theorem gX8_jointBy_X8_jointFor : GoodIn wsX8_jointBy (wsV RX8 149 RX8 yX8_jointFor wsX8_jointFor) := goodIn_app (goodIn_of _ (by decide +kernel)) ggX8_jointBy_X8_jointFor
theorem dX8_jointBy_0 : decode cX8_jointBy 0 = .ok (.aload_n 0, 1) := by decide +kernel
theorem dX8_jointBy_1 : decode cX8_jointBy 1 = .ok (.iload_n 1, 1) := by decide +kernel
theorem dX8_jointBy_2 : decode cX8_jointBy 2 = .ok (.iload_n 2, 1) := by decide +kernel
theorem dX8_jointBy_3 : decode cX8_jointBy 3 = .ok (.iload_n 3, 1) := by decide +kernel
theorem dX8_jointBy_4 : decode cX8_jointBy 4 = .ok (.iconst 1, 1) := by decide +kernel
theorem dX8_jointBy_5 : decode cX8_jointBy 5 = .ok (.aload_n 0, 1) := by decide +kernel
theorem dX8_jointBy_6 : decode cX8_jointBy 6 = .ok (.getfield 13, 3) := by decide +kernel
theorem dX8_jointBy_9 : decode cX8_jointBy 9 = .ok (.iconst 0, 1) := by decide +kernel
theorem dX8_jointBy_10 : decode cX8_jointBy 10 = .ok (.iaload, 1) := by decide +kernel
theorem dX8_jointBy_11 : decode cX8_jointBy 11 = .ok (.ishl, 1) := by decide +kernel
theorem dX8_jointBy_12 : decode cX8_jointBy 12 = .ok (.iconst 1, 1) := by decide +kernel
theorem dX8_jointBy_13 : decode cX8_jointBy 13 = .ok (.isub, 1) := by decide +kernel
theorem dX8_jointBy_14 : decode cX8_jointBy 14 = .ok (.iconst 0, 1) := by decide +kernel
theorem dX8_jointBy_15 : decode cX8_jointBy 15 = .ok (.invokevirtual 149, 3) := by decide +kernel
theorem dX8_jointBy_18 : decode cX8_jointBy 18 = .ok (.ireturn, 1) := by decide +kernel
theorem dX8_isSo_0 : decode cX8_isSo 0 = .ok (.iconst 1, 1) := by decide +kernel
theorem dX8_isSo_1 : decode cX8_isSo 1 = .ok (.istore_n 3, 1) := by decide +kernel
theorem dX8_isSo_2 : decode cX8_isSo 2 = .ok (.iconst 0, 1) := by decide +kernel
theorem dX8_isSo_3 : decode cX8_isSo 3 = .ok (.istore 4, 2) := by decide +kernel
theorem dX8_isSo_5 : decode cX8_isSo 5 = .ok (.iload 4, 2) := by decide +kernel
theorem dX8_isSo_7 : decode cX8_isSo 7 = .ok (.aload_n 0, 1) := by decide +kernel
theorem dX8_isSo_8 : decode cX8_isSo 8 = .ok (.getfield 117, 3) := by decide +kernel
theorem dX8_isSo_11 : decode cX8_isSo 11 = .ok (.if_icmp .ge 50, 3) := by decide +kernel
theorem dX8_isSo_61 : decode cX8_isSo 61 = .ok (.iload_n 3, 1) := by decide +kernel
theorem dX8_isSo_62 : decode cX8_isSo 62 = .ok (.ireturn, 1) := by decide +kernel
set_option maxRecDepth 20000 in
theorem ggX8_scales_X8_in : GoodIn wsX8_scales wsX8_in := goodIn_r _ [4] (by decide +kernel) (by decide +kernel)
set_option maxRecDepth 20000 in
theorem gX8_scales_X8_in : GoodIn wsX8_scales (va_wsS RX8 60 yX8_in wsX8_in) := goodIn_app (goodIn_of _ (by decide +kernel)) ggX8_scales_X8_in
set_option maxRecDepth 20000 in
theorem ggX8_scales_X8_isSo : GoodIn wsX8_scales wsX8_isSo := goodIn_r _ [8, 9, 10, 11, 12, 13, 3, 14, 15, 16, 17, 18, 19, 20, 21, 22, 23, 24, 25, 26, 27, 28, 29, 30, 31, 32, 33, 34, 35, 36, 37, 38, 39, 40] (by decide +kernel) (by decide +kernel)
set_option maxRecDepth 20000 in
theorem gX8_scales_X8_isSo : GoodIn wsX8_scales (wsV RX8 169 RX8 yX8_isSo wsX8_isSo) := goodIn_app (goodIn_of _ (by decide +kernel)) ggX8_scales_X8_isSo
theorem dX8_scales_0 : decode cX8_scales 0 = .ok (.iload_n 1, 1) := by decide +kernel
theorem dX8_scales_1 : decode cX8_scales 1 = .ok (.iconst 0, 1) := by decide +kernel
theorem dX8_scales_2 : decode cX8_scales 2 = .ok (.iconst 2, 1) := by decide +kernel
theorem dX8_scales_3 : decode cX8_scales 3 = .ok (.invokestatic 60, 3) := by decide +kernel
theorem dX8_scales_6 : decode cX8_scales 6 = .ok (.ifCond .ne 6, 3) := by decide +kernel
theorem dX8_scales_9 : decode cX8_scales 9 = .ok (.bipush (-3), 2) := by decide +kernel
theorem dX8_scales_11 : decode cX8_scales 11 = .ok (.ireturn, 1) := by decide +kernel
theorem dX8_scales_12 : decode cX8_scales 12 = .ok (.iconst 0, 1) := by decide +kernel
theorem dX8_scales_13 : decode cX8_scales 13 = .ok (.istore_n 2, 1) := by decide +kernel
theorem dX8_scales_14 : decode cX8_scales 14 = .ok (.iconst (-1), 1) := by decide +kernel
theorem dX8_scales_15 : decode cX8_scales 15 = .ok (.istore_n 3, 1) := by decide +kernel
theorem dX8_scales_16 : decode cX8_scales 16 = .ok (.bipush 99, 2) := by decide +kernel
theorem dX8_scales_18 : decode cX8_scales 18 = .ok (.istore 4, 2) := by decide +kernel
theorem dX8_scales_20 : decode cX8_scales 20 = .ok (.iload 4, 2) := by decide +kernel
theorem dX8_scales_22 : decode cX8_scales 22 = .ok (.ifCond .lt 65, 3) := by decide +kernel
theorem dX8_scales_25 : decode cX8_scales 25 = .ok (.bipush 20, 2) := by decide +kernel
theorem dX8_scales_27 : decode cX8_scales 27 = .ok (.istore 5, 2) := by decide +kernel
theorem dX8_scales_29 : decode cX8_scales 29 = .ok (.iload 5, 2) := by decide +kernel
theorem dX8_scales_31 : decode cX8_scales 31 = .ok (.ifCond .le 50, 3) := by decide +kernel
theorem dX8_scales_34 : decode cX8_scales 34 = .ok (.aload_n 0, 1) := by decide +kernel
theorem dX8_scales_35 : decode cX8_scales 35 = .ok (.iload 4, 2) := by decide +kernel
theorem dX8_scales_37 : decode cX8_scales 37 = .ok (.iload 5, 2) := by decide +kernel
theorem dX8_scales_39 : decode cX8_scales 39 = .ok (.invokevirtual 169, 3) := by decide +kernel
theorem dX8_scales_42 : decode cX8_scales 42 = .ok (.istore 6, 2) := by decide +kernel
theorem dX8_scales_44 : decode cX8_scales 44 = .ok (.iload_n 2, 1) := by decide +kernel
theorem dX8_scales_45 : decode cX8_scales 45 = .ok (.iload 6, 2) := by decide +kernel
theorem dX8_scales_47 : decode cX8_scales 47 = .ok (.ifCond .eq 7, 3) := by decide +kernel
theorem dX8_scales_50 : decode cX8_scales 50 = .ok (.iconst 1, 1) := by decide +kernel
theorem dX8_scales_51 : decode cX8_scales 51 = .ok (.goto 4, 3) := by decide +kernel
theorem dX8_scales_55 : decode cX8_scales 55 = .ok (.iadd, 1) := by decide +kernel
theorem dX8_scales_56 : decode cX8_scales 56 = .ok (.istore_n 2, 1) := by decide +kernel
theorem dX8_scales_57 : decode cX8_scales 57 = .ok (.iload 6, 2) := by decide +kernel
theorem dX8_scales_59 : decode cX8_scales 59 = .ok (.ifCond .eq 14, 3) := by decide +kernel
theorem dX8_scales_62 : decode cX8_scales 62 = .ok (.bipush 32, 2) := by decide +kernel
theorem dX8_scales_64 : decode cX8_scales 64 = .ok (.iload 4, 2) := by decide +kernel
theorem dX8_scales_66 : decode cX8_scales 66 = .ok (.imul, 1) := by decide +kernel
theorem dX8_scales_67 : decode cX8_scales 67 = .ok (.iload 5, 2) := by decide +kernel
theorem dX8_scales_69 : decode cX8_scales 69 = .ok (.iadd, 1) := by decide +kernel
theorem dX8_scales_70 : decode cX8_scales 70 = .ok (.goto 4, 3) := by decide +kernel
theorem dX8_scales_74 : decode cX8_scales 74 = .ok (.istore_n 3, 1) := by decide +kernel
theorem dX8_scales_75 : decode cX8_scales 75 = .ok (.iinc 5 (-1), 3) := by decide +kernel
theorem dX8_scales_78 : decode cX8_scales 78 = .ok (.goto (-49), 3) := by decide +kernel
theorem dX8_scales_81 : decode cX8_scales 81 = .ok (.iinc 4 (-1), 3) := by decide +kernel
theorem dX8_scales_84 : decode cX8_scales 84 = .ok (.goto (-64), 3) := by decide +kernel
theorem dX8_scales_87 : decode cX8_scales 87 = .ok (.iload_n 1, 1) := by decide +kernel
theorem dX8_scales_88 : decode cX8_scales 88 = .ok (.ifCond .ne 7, 3) := by decide +kernel
theorem dX8_scales_91 : decode cX8_scales 91 = .ok (.iload_n 2, 1) := by decide +kernel
theorem dX8_scales_92 : decode cX8_scales 92 = .ok (.goto 28, 3) := by decide +kernel
theorem dX8_scales_95 : decode cX8_scales 95 = .ok (.iload_n 3, 1) := by decide +kernel
theorem dX8_scales_96 : decode cX8_scales 96 = .ok (.iconst (-1), 1) := by decide +kernel
theorem dX8_scales_97 : decode cX8_scales 97 = .ok (.if_icmp .ne 7, 3) := by decide +kernel
theorem dX8_scales_104 : decode cX8_scales 104 = .ok (.iload_n 1, 1) := by decide +kernel
theorem dX8_scales_105 : decode cX8_scales 105 = .ok (.iconst 1, 1) := by decide +kernel
theorem dX8_scales_106 : decode cX8_scales 106 = .ok (.if_icmp .ne 10, 3) := by decide +kernel
theorem dX8_scales_109 : decode cX8_scales 109 = .ok (.iload_n 3, 1) := by decide +kernel
theorem dX8_scales_110 : decode cX8_scales 110 = .ok (.bipush 32, 2) := by decide +kernel
theorem dX8_scales_112 : decode cX8_scales 112 = .ok (.idiv, 1) := by decide +kernel
theorem dX8_scales_113 : decode cX8_scales 113 = .ok (.goto 7, 3) := by decide +kernel
theorem dX8_scales_116 : decode cX8_scales 116 = .ok (.iload_n 3, 1) := by decide +kernel
theorem dX8_scales_117 : decode cX8_scales 117 = .ok (.bipush 32, 2) := by decide +kernel
theorem dX8_scales_119 : decode cX8_scales 119 = .ok (.irem, 1) := by decide +kernel
theorem dX8_scales_120 : decode cX8_scales 120 = .ok (.ireturn, 1) := by decide +kernel
set_option maxRecDepth 20000 in
theorem ggX8_tells_X8_isSo : GoodIn wsX8_tells wsX8_isSo := goodIn_r _ [7, 8, 9, 10, 11, 12, 6, 13, 14, 15, 16, 17, 18, 19, 20, 21, 22, 23, 24, 25, 26, 27, 28, 29, 30, 31, 32, 33, 34, 35, 36, 37, 38, 39] (by decide +kernel) (by decide +kernel)
set_option maxRecDepth 20000 in
theorem gX8_tells_X8_isSo : GoodIn wsX8_tells (wsV RX8 169 RX8 yX8_isSo wsX8_isSo) := goodIn_app (goodIn_of _ (by decide +kernel)) ggX8_tells_X8_isSo
set_option maxRecDepth 20000 in
theorem ggX8_tells_X8_jointBy : GoodIn wsX8_tells wsX8_jointBy := goodIn_r _ [13, 14, 15, 16, 17, 6, 18, 19, 20, 21, 22, 23, 24, 25, 26, 27, 28, 29, 30, 31, 32, 33, 34, 35, 36, 37, 38, 39] (by decide +kernel) (by decide +kernel)
set_option maxRecDepth 20000 in
theorem gX8_tells_X8_jointBy : GoodIn wsX8_tells (wsV RX8 165 RX8 yX8_jointBy wsX8_jointBy) := goodIn_app (goodIn_of _ (by decide +kernel)) ggX8_tells_X8_jointBy
theorem dX8_tells_0 : decode cX8_tells 0 = .ok (.iconst 0, 1) := by decide +kernel
theorem dX8_tells_1 : decode cX8_tells 1 = .ok (.istore_n 1, 1) := by decide +kernel
theorem dX8_tells_2 : decode cX8_tells 2 = .ok (.iconst 0, 1) := by decide +kernel
theorem dX8_tells_3 : decode cX8_tells 3 = .ok (.istore_n 2, 1) := by decide +kernel
theorem dX8_tells_4 : decode cX8_tells 4 = .ok (.iload_n 2, 1) := by decide +kernel
theorem dX8_tells_5 : decode cX8_tells 5 = .ok (.bipush 100, 2) := by decide +kernel
theorem dX8_tells_7 : decode cX8_tells 7 = .ok (.if_icmp .ge 64, 3) := by decide +kernel
theorem dX8_tells_10 : decode cX8_tells 10 = .ok (.aload_n 0, 1) := by decide +kernel
theorem dX8_tells_11 : decode cX8_tells 11 = .ok (.getfield 44, 3) := by decide +kernel
theorem dX8_tells_14 : decode cX8_tells 14 = .ok (.iload_n 2, 1) := by decide +kernel
theorem dX8_tells_15 : decode cX8_tells 15 = .ok (.iconst 0, 1) := by decide +kernel
theorem dX8_tells_16 : decode cX8_tells 16 = .ok (.iastore, 1) := by decide +kernel
theorem dX8_tells_17 : decode cX8_tells 17 = .ok (.iconst 1, 1) := by decide +kernel
theorem dX8_tells_18 : decode cX8_tells 18 = .ok (.istore_n 3, 1) := by decide +kernel
theorem dX8_tells_19 : decode cX8_tells 19 = .ok (.iload_n 3, 1) := by decide +kernel
theorem dX8_tells_20 : decode cX8_tells 20 = .ok (.bipush 21, 2) := by decide +kernel
theorem dX8_tells_22 : decode cX8_tells 22 = .ok (.if_icmp .ge 34, 3) := by decide +kernel
theorem dX8_tells_25 : decode cX8_tells 25 = .ok (.aload_n 0, 1) := by decide +kernel
theorem dX8_tells_26 : decode cX8_tells 26 = .ok (.getfield 44, 3) := by decide +kernel
theorem dX8_tells_29 : decode cX8_tells 29 = .ok (.iload_n 2, 1) := by decide +kernel
theorem dX8_tells_30 : decode cX8_tells 30 = .ok (.dup2, 1) := by decide +kernel
theorem dX8_tells_31 : decode cX8_tells 31 = .ok (.iaload, 1) := by decide +kernel
theorem dX8_tells_32 : decode cX8_tells 32 = .ok (.aload_n 0, 1) := by decide +kernel
theorem dX8_tells_33 : decode cX8_tells 33 = .ok (.iload_n 2, 1) := by decide +kernel
theorem dX8_tells_34 : decode cX8_tells 34 = .ok (.iload_n 3, 1) := by decide +kernel
theorem dX8_tells_35 : decode cX8_tells 35 = .ok (.invokevirtual 169, 3) := by decide +kernel
theorem dX8_tells_38 : decode cX8_tells 38 = .ok (.ifCond .eq 9, 3) := by decide +kernel
theorem dX8_tells_41 : decode cX8_tells 41 = .ok (.iconst 1, 1) := by decide +kernel
theorem dX8_tells_42 : decode cX8_tells 42 = .ok (.iload_n 3, 1) := by decide +kernel
theorem dX8_tells_43 : decode cX8_tells 43 = .ok (.ishl, 1) := by decide +kernel
theorem dX8_tells_44 : decode cX8_tells 44 = .ok (.goto 4, 3) := by decide +kernel
theorem dX8_tells_48 : decode cX8_tells 48 = .ok (.ior, 1) := by decide +kernel
theorem dX8_tells_49 : decode cX8_tells 49 = .ok (.iastore, 1) := by decide +kernel
theorem dX8_tells_50 : decode cX8_tells 50 = .ok (.iinc 3 1, 3) := by decide +kernel
theorem dX8_tells_53 : decode cX8_tells 53 = .ok (.goto (-34), 3) := by decide +kernel
theorem dX8_tells_56 : decode cX8_tells 56 = .ok (.iload_n 1, 1) := by decide +kernel
theorem dX8_tells_57 : decode cX8_tells 57 = .ok (.aload_n 0, 1) := by decide +kernel
theorem dX8_tells_58 : decode cX8_tells 58 = .ok (.getfield 44, 3) := by decide +kernel
theorem dX8_tells_61 : decode cX8_tells 61 = .ok (.iload_n 2, 1) := by decide +kernel
theorem dX8_tells_62 : decode cX8_tells 62 = .ok (.iaload, 1) := by decide +kernel
theorem dX8_tells_63 : decode cX8_tells 63 = .ok (.ior, 1) := by decide +kernel
theorem dX8_tells_64 : decode cX8_tells 64 = .ok (.istore_n 1, 1) := by decide +kernel
theorem dX8_tells_65 : decode cX8_tells 65 = .ok (.iinc 2 1, 3) := by decide +kernel
theorem dX8_tells_68 : decode cX8_tells 68 = .ok (.goto (-64), 3) := by decide +kernel
theorem dX8_tells_71 : decode cX8_tells 71 = .ok (.iconst (-1), 1) := by decide +kernel
theorem dX8_tells_72 : decode cX8_tells 72 = .ok (.istore_n 2, 1) := by decide +kernel
theorem dX8_tells_73 : decode cX8_tells 73 = .ok (.sipush 9999, 3) := by decide +kernel
theorem dX8_tells_76 : decode cX8_tells 76 = .ok (.istore_n 3, 1) := by decide +kernel
theorem dX8_tells_77 : decode cX8_tells 77 = .ok (.iconst 0, 1) := by decide +kernel
theorem dX8_tells_78 : decode cX8_tells 78 = .ok (.istore 4, 2) := by decide +kernel
theorem dX8_tells_80 : decode cX8_tells 80 = .ok (.iload 4, 2) := by decide +kernel
theorem dX8_tells_82 : decode cX8_tells 82 = .ok (.bipush 100, 2) := by decide +kernel
theorem dX8_tells_84 : decode cX8_tells 84 = .ok (.if_icmp .ge 175, 3) := by decide +kernel
theorem dX8_tells_87 : decode cX8_tells 87 = .ok (.iload_n 1, 1) := by decide +kernel
theorem dX8_tells_88 : decode cX8_tells 88 = .ok (.ifCond .eq 171, 3) := by decide +kernel
theorem dX8_tells_91 : decode cX8_tells 91 = .ok (.iconst 0, 1) := by decide +kernel
theorem dX8_tells_92 : decode cX8_tells 92 = .ok (.istore 5, 2) := by decide +kernel
theorem dX8_tells_94 : decode cX8_tells 94 = .ok (.iconst 0, 1) := by decide +kernel
theorem dX8_tells_95 : decode cX8_tells 95 = .ok (.istore 6, 2) := by decide +kernel
theorem dX8_tells_97 : decode cX8_tells 97 = .ok (.iload 6, 2) := by decide +kernel
theorem dX8_tells_99 : decode cX8_tells 99 = .ok (.bipush 10, 2) := by decide +kernel
theorem dX8_tells_101 : decode cX8_tells 101 = .ok (.if_icmp .ge 17, 3) := by decide +kernel
theorem dX8_tells_104 : decode cX8_tells 104 = .ok (.aload_n 0, 1) := by decide +kernel
theorem dX8_tells_105 : decode cX8_tells 105 = .ok (.getfield 47, 3) := by decide +kernel
theorem dX8_tells_108 : decode cX8_tells 108 = .ok (.iload 6, 2) := by decide +kernel
theorem dX8_tells_110 : decode cX8_tells 110 = .ok (.iconst 0, 1) := by decide +kernel
theorem dX8_tells_111 : decode cX8_tells 111 = .ok (.iastore, 1) := by decide +kernel
theorem dX8_tells_112 : decode cX8_tells 112 = .ok (.iinc 6 1, 3) := by decide +kernel
theorem dX8_tells_115 : decode cX8_tells 115 = .ok (.goto (-18), 3) := by decide +kernel
theorem dX8_tells_118 : decode cX8_tells 118 = .ok (.iconst 0, 1) := by decide +kernel
theorem dX8_tells_119 : decode cX8_tells 119 = .ok (.istore 6, 2) := by decide +kernel
theorem dX8_tells_121 : decode cX8_tells 121 = .ok (.iload 6, 2) := by decide +kernel
theorem dX8_tells_123 : decode cX8_tells 123 = .ok (.bipush 100, 2) := by decide +kernel
theorem dX8_tells_125 : decode cX8_tells 125 = .ok (.if_icmp .ge 102, 3) := by decide +kernel
theorem dX8_tells_128 : decode cX8_tells 128 = .ok (.iconst 1, 1) := by decide +kernel
theorem dX8_tells_129 : decode cX8_tells 129 = .ok (.istore 7, 2) := by decide +kernel
theorem dX8_tells_131 : decode cX8_tells 131 = .ok (.iload 7, 2) := by decide +kernel
theorem dX8_tells_133 : decode cX8_tells 133 = .ok (.bipush 21, 2) := by decide +kernel
theorem dX8_tells_135 : decode cX8_tells 135 = .ok (.if_icmp .ge 86, 3) := by decide +kernel
theorem dX8_tells_138 : decode cX8_tells 138 = .ok (.aload_n 0, 1) := by decide +kernel
theorem dX8_tells_139 : decode cX8_tells 139 = .ok (.getfield 44, 3) := by decide +kernel
theorem dX8_tells_142 : decode cX8_tells 142 = .ok (.iload 6, 2) := by decide +kernel
theorem dX8_tells_144 : decode cX8_tells 144 = .ok (.iaload, 1) := by decide +kernel
theorem dX8_tells_145 : decode cX8_tells 145 = .ok (.ifCond .eq 76, 3) := by decide +kernel
theorem dX8_tells_148 : decode cX8_tells 148 = .ok (.aload_n 0, 1) := by decide +kernel
theorem dX8_tells_149 : decode cX8_tells 149 = .ok (.getfield 44, 3) := by decide +kernel
theorem dX8_tells_152 : decode cX8_tells 152 = .ok (.iload 6, 2) := by decide +kernel
theorem dX8_tells_154 : decode cX8_tells 154 = .ok (.iaload, 1) := by decide +kernel
theorem dX8_tells_155 : decode cX8_tells 155 = .ok (.iload 7, 2) := by decide +kernel
theorem dX8_tells_157 : decode cX8_tells 157 = .ok (.ishr, 1) := by decide +kernel
theorem dX8_tells_158 : decode cX8_tells 158 = .ok (.iconst 1, 1) := by decide +kernel
theorem dX8_tells_159 : decode cX8_tells 159 = .ok (.iand, 1) := by decide +kernel
theorem dX8_tells_160 : decode cX8_tells 160 = .ok (.iconst 1, 1) := by decide +kernel
theorem dX8_tells_161 : decode cX8_tells 161 = .ok (.if_icmp .ne 54, 3) := by decide +kernel
theorem dX8_tells_164 : decode cX8_tells 164 = .ok (.aload_n 0, 1) := by decide +kernel
theorem dX8_tells_165 : decode cX8_tells 165 = .ok (.iload 4, 2) := by decide +kernel
theorem dX8_tells_167 : decode cX8_tells 167 = .ok (.iload 6, 2) := by decide +kernel
theorem dX8_tells_169 : decode cX8_tells 169 = .ok (.iload 7, 2) := by decide +kernel
theorem dX8_tells_171 : decode cX8_tells 171 = .ok (.invokevirtual 165, 3) := by decide +kernel
theorem dX8_tells_174 : decode cX8_tells 174 = .ok (.iconst 1, 1) := by decide +kernel
theorem dX8_tells_175 : decode cX8_tells 175 = .ok (.iadd, 1) := by decide +kernel
theorem dX8_tells_176 : decode cX8_tells 176 = .ok (.istore 8, 2) := by decide +kernel
theorem dX8_tells_178 : decode cX8_tells 178 = .ok (.aload_n 0, 1) := by decide +kernel
theorem dX8_tells_179 : decode cX8_tells 179 = .ok (.getfield 47, 3) := by decide +kernel
theorem dX8_tells_182 : decode cX8_tells 182 = .ok (.iload 8, 2) := by decide +kernel
theorem dX8_tells_184 : decode cX8_tells 184 = .ok (.dup2, 1) := by decide +kernel
theorem dX8_tells_185 : decode cX8_tells 185 = .ok (.iaload, 1) := by decide +kernel
theorem dX8_tells_186 : decode cX8_tells 186 = .ok (.iconst 1, 1) := by decide +kernel
theorem dX8_tells_187 : decode cX8_tells 187 = .ok (.iadd, 1) := by decide +kernel
theorem dX8_tells_188 : decode cX8_tells 188 = .ok (.iastore, 1) := by decide +kernel
theorem dX8_tells_189 : decode cX8_tells 189 = .ok (.aload_n 0, 1) := by decide +kernel
theorem dX8_tells_190 : decode cX8_tells 190 = .ok (.getfield 47, 3) := by decide +kernel
theorem dX8_tells_193 : decode cX8_tells 193 = .ok (.iload 8, 2) := by decide +kernel
theorem dX8_tells_195 : decode cX8_tells 195 = .ok (.iaload, 1) := by decide +kernel
theorem dX8_tells_196 : decode cX8_tells 196 = .ok (.iload 5, 2) := by decide +kernel
theorem dX8_tells_198 : decode cX8_tells 198 = .ok (.if_icmp .le 13, 3) := by decide +kernel
theorem dX8_tells_201 : decode cX8_tells 201 = .ok (.aload_n 0, 1) := by decide +kernel
theorem dX8_tells_202 : decode cX8_tells 202 = .ok (.getfield 47, 3) := by decide +kernel
theorem dX8_tells_205 : decode cX8_tells 205 = .ok (.iload 8, 2) := by decide +kernel
theorem dX8_tells_207 : decode cX8_tells 207 = .ok (.iaload, 1) := by decide +kernel
theorem dX8_tells_208 : decode cX8_tells 208 = .ok (.goto 5, 3) := by decide +kernel
theorem dX8_tells_211 : decode cX8_tells 211 = .ok (.iload 5, 2) := by decide +kernel
theorem dX8_tells_213 : decode cX8_tells 213 = .ok (.istore 5, 2) := by decide +kernel
theorem dX8_tells_215 : decode cX8_tells 215 = .ok (.iinc 7 1, 3) := by decide +kernel
theorem dX8_tells_218 : decode cX8_tells 218 = .ok (.goto (-87), 3) := by decide +kernel
theorem dX8_tells_221 : decode cX8_tells 221 = .ok (.iinc 6 1, 3) := by decide +kernel
theorem dX8_tells_224 : decode cX8_tells 224 = .ok (.goto (-103), 3) := by decide +kernel
theorem dX8_tells_227 : decode cX8_tells 227 = .ok (.iload 5, 2) := by decide +kernel
theorem dX8_tells_229 : decode cX8_tells 229 = .ok (.iload_n 3, 1) := by decide +kernel
theorem dX8_tells_230 : decode cX8_tells 230 = .ok (.if_icmp .ge 8, 3) := by decide +kernel
theorem dX8_tells_233 : decode cX8_tells 233 = .ok (.iload 4, 2) := by decide +kernel
theorem dX8_tells_235 : decode cX8_tells 235 = .ok (.goto 4, 3) := by decide +kernel
theorem dX8_tells_238 : decode cX8_tells 238 = .ok (.iload_n 2, 1) := by decide +kernel
theorem dX8_tells_239 : decode cX8_tells 239 = .ok (.istore_n 2, 1) := by decide +kernel
theorem dX8_tells_240 : decode cX8_tells 240 = .ok (.iload 5, 2) := by decide +kernel
theorem dX8_tells_242 : decode cX8_tells 242 = .ok (.iload_n 3, 1) := by decide +kernel
theorem dX8_tells_243 : decode cX8_tells 243 = .ok (.if_icmp .ge 8, 3) := by decide +kernel
theorem dX8_tells_246 : decode cX8_tells 246 = .ok (.iload 5, 2) := by decide +kernel
theorem dX8_tells_248 : decode cX8_tells 248 = .ok (.goto 4, 3) := by decide +kernel
theorem dX8_tells_251 : decode cX8_tells 251 = .ok (.iload_n 3, 1) := by decide +kernel
theorem dX8_tells_252 : decode cX8_tells 252 = .ok (.istore_n 3, 1) := by decide +kernel
theorem dX8_tells_253 : decode cX8_tells 253 = .ok (.iinc 4 1, 3) := by decide +kernel
theorem dX8_tells_256 : decode cX8_tells 256 = .ok (.goto (-176), 3) := by decide +kernel
theorem dX8_tells_259 : decode cX8_tells 259 = .ok (.iload_n 2, 1) := by decide +kernel
theorem dX8_tells_260 : decode cX8_tells 260 = .ok (.ireturn, 1) := by decide +kernel
def sM_jf (t B S : Nat) : Int32 := (if (nI t) < ((nI B) - (0 * (nI S))) then (if (nI t) < ((nI B) - (1 * (nI S))) then (if (nI t) < ((nI B) - (2 * (nI S))) then (if (nI t) < ((nI B) - (3 * (nI S))) then (if (nI t) < ((nI B) - (4 * (nI S))) then (-1) else 4) else 3) else 2) else 1) else 0)
set_option maxHeartbeats 4000000 in
set_option maxRecDepth 100000 in
theorem c_M_jointFor (l : Launch) (D : va_G) (g : Nat → ClassId) (m0 : Nat) (v : Nat → Nat) (ft : Nat → Int32) (hF : ∀ k, k < 29 → ft k = fr k) (t B S : Nat) : CtI l yX8_jointFor wsX8_jointFor { frames := 0, cells := 0, slots := 0, locals := 0 } D (TY g) [.ref m0, .int (nI t), .int (nI B), .int (nI S), .int 31, .int 0] (fun _ => True) [(m0, .inr (8, [.ref (v 0), .int 0, .ref (v 1), .ref (v 2), .ref (v 3), .ref (v 4), .int 0, .ref (v 5), .ref (v 6), .ref (v 7), .int 0, .int 0, .int 0, .int 0, .int 0, .ref (v 8), .ref (v 9), .ref (v 10), .ref (v 11), .ref (v 12), .ref (v 13)])), ((v 1), .inl (g 0, 29, .inl ft))] (fun r (_ : Unit) => r = sM_jf t B S) (fun _ => [(m0, .inr (8, [.ref (v 0), .int 0, .ref (v 1), .ref (v 2), .ref (v 3), .ref (v 4), .int 0, .ref (v 5), .ref (v 6), .ref (v 7), .int 0, .int 0, .int 0, .int 0, .int 0, .ref (v 8), .ref (v 9), .ref (v 10), .ref (v 11), .ref (v 12), .ref (v 13)])), ((v 1), .inl (g 0, 29, .inl ft))]) := by
  refine CtI.intro (cc := cX8_jointFor) (maxL := 9) (ret := (some .int)) rfl (by decide +kernel) (Nat.le_of_ble_eq_true rfl) ?_
  intro p e s m below meth c A ls C hmn hX hAe hT hl
  have hx := C.1.1
  have hb := C.1.2.1
  have hl : lv_has ls 9 [(0, .ref m0), (1, .int (nI t)), (2, .int (nI B)), (3, .int (nI S)), (4, .int 31), (5, .int 0)] := hl
  have hin8 : ∀ w ∈ u_ws RX8 TX8 21, w ∈ wsX8_jointFor := by decide +kernel
  refine lv_iconst (v := (-1)) hx hb dX8_jointFor_0 (by decide +kernel) ?_
  refine lv_istore (lv' := [(6, .int (-1)), (0, .ref m0), (1, .int (nI t)), (2, .int (nI B)), (3, .int (nI S)), (4, .int 31), (5, .int 0)]) hx hb dX8_jointFor_1 hl (by decide +kernel) rfl (fun ls hl => ?_)
  refine lv_iconst (v := 0) hx hb dX8_jointFor_3 (by decide +kernel) ?_
  refine lv_istore (lv' := [(7, .int 0), (6, .int (-1)), (0, .ref m0), (1, .int (nI t)), (2, .int (nI B)), (3, .int (nI S)), (4, .int 31), (5, .int 0)]) hx hb dX8_jointFor_4 hl (by decide +kernel) rfl (fun ls hl => ?_)
  refine lv_iload hx hb dX8_jointFor_6 (lv_at hl 0 rfl) ?_
  refine lv_aload_n hx hb dX8_jointFor_8 rfl (lv_at hl 2 rfl) ?_
  refine z_get C (ci := 8) (N := 21) rfl hin8 hT 0 2 rfl rfl (by decide +kernel) (by decide +kernel) dX8_jointFor_9 ?_
  refine lv_iconst (v := 0) hx hb dX8_jointFor_12 (by decide +kernel) ?_
  refine z_iald C hT 1 0 rfl rfl (vin rfl) (v := 5) ((hF 0 (by decide)).trans rfl) dX8_jointFor_13 ?_
  refine lv_icmp_ge (tgt := 76) hx hb dX8_jointFor_14 (by decide +kernel) (fun c9 => absurd c9 (by decide +kernel)) (fun _ => ?_)
  refine lv_iload hx hb dX8_jointFor_17 (lv_at hl 6 rfl) ?_
  refine lv_iload hx hb dX8_jointFor_19 (lv_at hl 0 rfl) ?_
  refine lv_ishr hx hb dX8_jointFor_21 ?_
  refine z_eq (y := 31) (by decide +kernel) ?_
  refine lv_iconst (v := 1) hx hb dX8_jointFor_22 (by decide +kernel) ?_
  refine lv_iand hx hb dX8_jointFor_23 ?_
  refine z_eq (y := 1) (by decide +kernel) ?_
  refine lv_iconst (v := 1) hx hb dX8_jointFor_24 (by decide +kernel) ?_
  refine lv_icmp_ne (tgt := 53) hx hb dX8_jointFor_25 (by decide +kernel) (fun c9 => absurd c9 (by decide +kernel)) (fun _ => ?_)
  refine lv_iload hx hb dX8_jointFor_28 (lv_at hl 7 rfl) ?_
  refine lv_if_ne (tgt := 49) hx hb dX8_jointFor_30 (by decide +kernel) (fun c9 => absurd c9 (by decide +kernel)) (fun _ => ?_)
  refine lv_iload hx hb dX8_jointFor_33 (lv_at hl 1 rfl) ?_
  refine lv_iconst (v := (-1)) hx hb dX8_jointFor_35 (by decide +kernel) ?_
  refine lv_icmp_ne (tgt := 53) hx hb dX8_jointFor_36 (by decide +kernel) (fun c9 => absurd c9 (by decide +kernel)) (fun _ => ?_)
  refine lv_iload_n hx hb dX8_jointFor_39 rfl (lv_at hl 3 rfl) ?_
  refine lv_iload_n hx hb dX8_jointFor_40 rfl (lv_at hl 4 rfl) ?_
  refine lv_iload hx hb dX8_jointFor_41 (lv_at hl 0 rfl) ?_
  refine lv_iload_n hx hb dX8_jointFor_43 rfl (lv_at hl 5 rfl) ?_
  refine lv_imul hx hb dX8_jointFor_44 ?_
  refine lv_isub hx hb dX8_jointFor_45 ?_
  refine lv_icmp_lt (tgt := 53) hx hb dX8_jointFor_46 (by decide +kernel) (fun c_46 => ?_) (fun c_46 => ?_)
  · refine lv_iconst (v := 0) hx hb dX8_jointFor_53 (by decide +kernel) ?_
    refine lv_istore (lv' := [(8, .int 0), (7, .int 0), (6, .int (-1)), (0, .ref m0), (1, .int (nI t)), (2, .int (nI B)), (3, .int (nI S)), (4, .int 31), (5, .int 0)]) hx hb dX8_jointFor_54 hl (by decide +kernel) rfl (fun ls hl => ?_)
    refine lv_iload hx hb dX8_jointFor_56 (lv_at hl 0 rfl) ?_
    refine lv_if_eq (tgt := 66) hx hb dX8_jointFor_58 (by decide +kernel) (fun _ => ?_) (fun c9 => absurd (by decide +kernel) c9)
    refine lv_iload hx hb dX8_jointFor_66 (lv_at hl 2 rfl) ?_
    refine lv_istore (lv' := [(6, .int (-1)), (8, .int 0), (7, .int 0), (0, .ref m0), (1, .int (nI t)), (2, .int (nI B)), (3, .int (nI S)), (4, .int 31), (5, .int 0)]) hx hb dX8_jointFor_68 hl (by decide +kernel) rfl (fun ls hl => ?_)
    refine lv_iinc (v := 1) (lv' := [(7, .int 1), (6, .int (-1)), (8, .int 0), (0, .ref m0), (1, .int (nI t)), (2, .int (nI B)), (3, .int (nI S)), (4, .int 31), (5, .int 0)]) hx hb dX8_jointFor_70 hl (k := 2) rfl (by decide +kernel) (by decide +kernel) rfl (fun ls hl => ?_)
    refine lv_goto (tgt := 6) hx hb dX8_jointFor_73 (by decide +kernel) ?_
    refine lv_iload hx hb dX8_jointFor_6 (lv_at hl 0 rfl) ?_
    refine lv_aload_n hx hb dX8_jointFor_8 rfl (lv_at hl 3 rfl) ?_
    refine z_get C (ci := 8) (N := 21) rfl hin8 hT 0 2 rfl rfl (by decide +kernel) (by decide +kernel) dX8_jointFor_9 ?_
    refine lv_iconst (v := 0) hx hb dX8_jointFor_12 (by decide +kernel) ?_
    refine z_iald C hT 1 0 rfl rfl (vin rfl) (v := 5) ((hF 0 (by decide)).trans rfl) dX8_jointFor_13 ?_
    refine lv_icmp_ge (tgt := 76) hx hb dX8_jointFor_14 (by decide +kernel) (fun c9 => absurd c9 (by decide +kernel)) (fun _ => ?_)
    refine lv_iload hx hb dX8_jointFor_17 (lv_at hl 7 rfl) ?_
    refine lv_iload hx hb dX8_jointFor_19 (lv_at hl 0 rfl) ?_
    refine lv_ishr hx hb dX8_jointFor_21 ?_
    refine z_eq (y := 15) (by decide +kernel) ?_
    refine lv_iconst (v := 1) hx hb dX8_jointFor_22 (by decide +kernel) ?_
    refine lv_iand hx hb dX8_jointFor_23 ?_
    refine z_eq (y := 1) (by decide +kernel) ?_
    refine lv_iconst (v := 1) hx hb dX8_jointFor_24 (by decide +kernel) ?_
    refine lv_icmp_ne (tgt := 53) hx hb dX8_jointFor_25 (by decide +kernel) (fun c9 => absurd c9 (by decide +kernel)) (fun _ => ?_)
    refine lv_iload hx hb dX8_jointFor_28 (lv_at hl 8 rfl) ?_
    refine lv_if_ne (tgt := 49) hx hb dX8_jointFor_30 (by decide +kernel) (fun c9 => absurd c9 (by decide +kernel)) (fun _ => ?_)
    refine lv_iload hx hb dX8_jointFor_33 (lv_at hl 1 rfl) ?_
    refine lv_iconst (v := (-1)) hx hb dX8_jointFor_35 (by decide +kernel) ?_
    refine lv_icmp_ne (tgt := 53) hx hb dX8_jointFor_36 (by decide +kernel) (fun c9 => absurd c9 (by decide +kernel)) (fun _ => ?_)
    refine lv_iload_n hx hb dX8_jointFor_39 rfl (lv_at hl 4 rfl) ?_
    refine lv_iload_n hx hb dX8_jointFor_40 rfl (lv_at hl 5 rfl) ?_
    refine lv_iload hx hb dX8_jointFor_41 (lv_at hl 0 rfl) ?_
    refine lv_iload_n hx hb dX8_jointFor_43 rfl (lv_at hl 6 rfl) ?_
    refine lv_imul hx hb dX8_jointFor_44 ?_
    refine lv_isub hx hb dX8_jointFor_45 ?_
    refine lv_icmp_lt (tgt := 53) hx hb dX8_jointFor_46 (by decide +kernel) (fun c_46x => ?_) (fun c_46x => ?_)
    · refine lv_iconst (v := 0) hx hb dX8_jointFor_53 (by decide +kernel) ?_
      refine lv_istore (lv' := [(8, .int 0), (7, .int 1), (6, .int (-1)), (0, .ref m0), (1, .int (nI t)), (2, .int (nI B)), (3, .int (nI S)), (4, .int 31), (5, .int 0)]) hx hb dX8_jointFor_54 hl (by decide +kernel) rfl (fun ls hl => ?_)
      refine lv_iload hx hb dX8_jointFor_56 (lv_at hl 0 rfl) ?_
      refine lv_if_eq (tgt := 66) hx hb dX8_jointFor_58 (by decide +kernel) (fun _ => ?_) (fun c9 => absurd (by decide +kernel) c9)
      refine lv_iload hx hb dX8_jointFor_66 (lv_at hl 2 rfl) ?_
      refine lv_istore (lv' := [(6, .int (-1)), (8, .int 0), (7, .int 1), (0, .ref m0), (1, .int (nI t)), (2, .int (nI B)), (3, .int (nI S)), (4, .int 31), (5, .int 0)]) hx hb dX8_jointFor_68 hl (by decide +kernel) rfl (fun ls hl => ?_)
      refine lv_iinc (v := 2) (lv' := [(7, .int 2), (6, .int (-1)), (8, .int 0), (0, .ref m0), (1, .int (nI t)), (2, .int (nI B)), (3, .int (nI S)), (4, .int 31), (5, .int 0)]) hx hb dX8_jointFor_70 hl (k := 2) rfl (by decide +kernel) (by decide +kernel) rfl (fun ls hl => ?_)
      refine lv_goto (tgt := 6) hx hb dX8_jointFor_73 (by decide +kernel) ?_
      refine lv_iload hx hb dX8_jointFor_6 (lv_at hl 0 rfl) ?_
      refine lv_aload_n hx hb dX8_jointFor_8 rfl (lv_at hl 3 rfl) ?_
      refine z_get C (ci := 8) (N := 21) rfl hin8 hT 0 2 rfl rfl (by decide +kernel) (by decide +kernel) dX8_jointFor_9 ?_
      refine lv_iconst (v := 0) hx hb dX8_jointFor_12 (by decide +kernel) ?_
      refine z_iald C hT 1 0 rfl rfl (vin rfl) (v := 5) ((hF 0 (by decide)).trans rfl) dX8_jointFor_13 ?_
      refine lv_icmp_ge (tgt := 76) hx hb dX8_jointFor_14 (by decide +kernel) (fun c9 => absurd c9 (by decide +kernel)) (fun _ => ?_)
      refine lv_iload hx hb dX8_jointFor_17 (lv_at hl 7 rfl) ?_
      refine lv_iload hx hb dX8_jointFor_19 (lv_at hl 0 rfl) ?_
      refine lv_ishr hx hb dX8_jointFor_21 ?_
      refine z_eq (y := 7) (by decide +kernel) ?_
      refine lv_iconst (v := 1) hx hb dX8_jointFor_22 (by decide +kernel) ?_
      refine lv_iand hx hb dX8_jointFor_23 ?_
      refine z_eq (y := 1) (by decide +kernel) ?_
      refine lv_iconst (v := 1) hx hb dX8_jointFor_24 (by decide +kernel) ?_
      refine lv_icmp_ne (tgt := 53) hx hb dX8_jointFor_25 (by decide +kernel) (fun c9 => absurd c9 (by decide +kernel)) (fun _ => ?_)
      refine lv_iload hx hb dX8_jointFor_28 (lv_at hl 8 rfl) ?_
      refine lv_if_ne (tgt := 49) hx hb dX8_jointFor_30 (by decide +kernel) (fun c9 => absurd c9 (by decide +kernel)) (fun _ => ?_)
      refine lv_iload hx hb dX8_jointFor_33 (lv_at hl 1 rfl) ?_
      refine lv_iconst (v := (-1)) hx hb dX8_jointFor_35 (by decide +kernel) ?_
      refine lv_icmp_ne (tgt := 53) hx hb dX8_jointFor_36 (by decide +kernel) (fun c9 => absurd c9 (by decide +kernel)) (fun _ => ?_)
      refine lv_iload_n hx hb dX8_jointFor_39 rfl (lv_at hl 4 rfl) ?_
      refine lv_iload_n hx hb dX8_jointFor_40 rfl (lv_at hl 5 rfl) ?_
      refine lv_iload hx hb dX8_jointFor_41 (lv_at hl 0 rfl) ?_
      refine lv_iload_n hx hb dX8_jointFor_43 rfl (lv_at hl 6 rfl) ?_
      refine lv_imul hx hb dX8_jointFor_44 ?_
      refine lv_isub hx hb dX8_jointFor_45 ?_
      refine lv_icmp_lt (tgt := 53) hx hb dX8_jointFor_46 (by decide +kernel) (fun c_46xx => ?_) (fun c_46xx => ?_)
      · refine lv_iconst (v := 0) hx hb dX8_jointFor_53 (by decide +kernel) ?_
        refine lv_istore (lv' := [(8, .int 0), (7, .int 2), (6, .int (-1)), (0, .ref m0), (1, .int (nI t)), (2, .int (nI B)), (3, .int (nI S)), (4, .int 31), (5, .int 0)]) hx hb dX8_jointFor_54 hl (by decide +kernel) rfl (fun ls hl => ?_)
        refine lv_iload hx hb dX8_jointFor_56 (lv_at hl 0 rfl) ?_
        refine lv_if_eq (tgt := 66) hx hb dX8_jointFor_58 (by decide +kernel) (fun _ => ?_) (fun c9 => absurd (by decide +kernel) c9)
        refine lv_iload hx hb dX8_jointFor_66 (lv_at hl 2 rfl) ?_
        refine lv_istore (lv' := [(6, .int (-1)), (8, .int 0), (7, .int 2), (0, .ref m0), (1, .int (nI t)), (2, .int (nI B)), (3, .int (nI S)), (4, .int 31), (5, .int 0)]) hx hb dX8_jointFor_68 hl (by decide +kernel) rfl (fun ls hl => ?_)
        refine lv_iinc (v := 3) (lv' := [(7, .int 3), (6, .int (-1)), (8, .int 0), (0, .ref m0), (1, .int (nI t)), (2, .int (nI B)), (3, .int (nI S)), (4, .int 31), (5, .int 0)]) hx hb dX8_jointFor_70 hl (k := 2) rfl (by decide +kernel) (by decide +kernel) rfl (fun ls hl => ?_)
        refine lv_goto (tgt := 6) hx hb dX8_jointFor_73 (by decide +kernel) ?_
        refine lv_iload hx hb dX8_jointFor_6 (lv_at hl 0 rfl) ?_
        refine lv_aload_n hx hb dX8_jointFor_8 rfl (lv_at hl 3 rfl) ?_
        refine z_get C (ci := 8) (N := 21) rfl hin8 hT 0 2 rfl rfl (by decide +kernel) (by decide +kernel) dX8_jointFor_9 ?_
        refine lv_iconst (v := 0) hx hb dX8_jointFor_12 (by decide +kernel) ?_
        refine z_iald C hT 1 0 rfl rfl (vin rfl) (v := 5) ((hF 0 (by decide)).trans rfl) dX8_jointFor_13 ?_
        refine lv_icmp_ge (tgt := 76) hx hb dX8_jointFor_14 (by decide +kernel) (fun c9 => absurd c9 (by decide +kernel)) (fun _ => ?_)
        refine lv_iload hx hb dX8_jointFor_17 (lv_at hl 7 rfl) ?_
        refine lv_iload hx hb dX8_jointFor_19 (lv_at hl 0 rfl) ?_
        refine lv_ishr hx hb dX8_jointFor_21 ?_
        refine z_eq (y := 3) (by decide +kernel) ?_
        refine lv_iconst (v := 1) hx hb dX8_jointFor_22 (by decide +kernel) ?_
        refine lv_iand hx hb dX8_jointFor_23 ?_
        refine z_eq (y := 1) (by decide +kernel) ?_
        refine lv_iconst (v := 1) hx hb dX8_jointFor_24 (by decide +kernel) ?_
        refine lv_icmp_ne (tgt := 53) hx hb dX8_jointFor_25 (by decide +kernel) (fun c9 => absurd c9 (by decide +kernel)) (fun _ => ?_)
        refine lv_iload hx hb dX8_jointFor_28 (lv_at hl 8 rfl) ?_
        refine lv_if_ne (tgt := 49) hx hb dX8_jointFor_30 (by decide +kernel) (fun c9 => absurd c9 (by decide +kernel)) (fun _ => ?_)
        refine lv_iload hx hb dX8_jointFor_33 (lv_at hl 1 rfl) ?_
        refine lv_iconst (v := (-1)) hx hb dX8_jointFor_35 (by decide +kernel) ?_
        refine lv_icmp_ne (tgt := 53) hx hb dX8_jointFor_36 (by decide +kernel) (fun c9 => absurd c9 (by decide +kernel)) (fun _ => ?_)
        refine lv_iload_n hx hb dX8_jointFor_39 rfl (lv_at hl 4 rfl) ?_
        refine lv_iload_n hx hb dX8_jointFor_40 rfl (lv_at hl 5 rfl) ?_
        refine lv_iload hx hb dX8_jointFor_41 (lv_at hl 0 rfl) ?_
        refine lv_iload_n hx hb dX8_jointFor_43 rfl (lv_at hl 6 rfl) ?_
        refine lv_imul hx hb dX8_jointFor_44 ?_
        refine lv_isub hx hb dX8_jointFor_45 ?_
        refine lv_icmp_lt (tgt := 53) hx hb dX8_jointFor_46 (by decide +kernel) (fun c_46xxx => ?_) (fun c_46xxx => ?_)
        · refine lv_iconst (v := 0) hx hb dX8_jointFor_53 (by decide +kernel) ?_
          refine lv_istore (lv' := [(8, .int 0), (7, .int 3), (6, .int (-1)), (0, .ref m0), (1, .int (nI t)), (2, .int (nI B)), (3, .int (nI S)), (4, .int 31), (5, .int 0)]) hx hb dX8_jointFor_54 hl (by decide +kernel) rfl (fun ls hl => ?_)
          refine lv_iload hx hb dX8_jointFor_56 (lv_at hl 0 rfl) ?_
          refine lv_if_eq (tgt := 66) hx hb dX8_jointFor_58 (by decide +kernel) (fun _ => ?_) (fun c9 => absurd (by decide +kernel) c9)
          refine lv_iload hx hb dX8_jointFor_66 (lv_at hl 2 rfl) ?_
          refine lv_istore (lv' := [(6, .int (-1)), (8, .int 0), (7, .int 3), (0, .ref m0), (1, .int (nI t)), (2, .int (nI B)), (3, .int (nI S)), (4, .int 31), (5, .int 0)]) hx hb dX8_jointFor_68 hl (by decide +kernel) rfl (fun ls hl => ?_)
          refine lv_iinc (v := 4) (lv' := [(7, .int 4), (6, .int (-1)), (8, .int 0), (0, .ref m0), (1, .int (nI t)), (2, .int (nI B)), (3, .int (nI S)), (4, .int 31), (5, .int 0)]) hx hb dX8_jointFor_70 hl (k := 2) rfl (by decide +kernel) (by decide +kernel) rfl (fun ls hl => ?_)
          refine lv_goto (tgt := 6) hx hb dX8_jointFor_73 (by decide +kernel) ?_
          refine lv_iload hx hb dX8_jointFor_6 (lv_at hl 0 rfl) ?_
          refine lv_aload_n hx hb dX8_jointFor_8 rfl (lv_at hl 3 rfl) ?_
          refine z_get C (ci := 8) (N := 21) rfl hin8 hT 0 2 rfl rfl (by decide +kernel) (by decide +kernel) dX8_jointFor_9 ?_
          refine lv_iconst (v := 0) hx hb dX8_jointFor_12 (by decide +kernel) ?_
          refine z_iald C hT 1 0 rfl rfl (vin rfl) (v := 5) ((hF 0 (by decide)).trans rfl) dX8_jointFor_13 ?_
          refine lv_icmp_ge (tgt := 76) hx hb dX8_jointFor_14 (by decide +kernel) (fun c9 => absurd c9 (by decide +kernel)) (fun _ => ?_)
          refine lv_iload hx hb dX8_jointFor_17 (lv_at hl 7 rfl) ?_
          refine lv_iload hx hb dX8_jointFor_19 (lv_at hl 0 rfl) ?_
          refine lv_ishr hx hb dX8_jointFor_21 ?_
          refine z_eq (y := 1) (by decide +kernel) ?_
          refine lv_iconst (v := 1) hx hb dX8_jointFor_22 (by decide +kernel) ?_
          refine lv_iand hx hb dX8_jointFor_23 ?_
          refine z_eq (y := 1) (by decide +kernel) ?_
          refine lv_iconst (v := 1) hx hb dX8_jointFor_24 (by decide +kernel) ?_
          refine lv_icmp_ne (tgt := 53) hx hb dX8_jointFor_25 (by decide +kernel) (fun c9 => absurd c9 (by decide +kernel)) (fun _ => ?_)
          refine lv_iload hx hb dX8_jointFor_28 (lv_at hl 8 rfl) ?_
          refine lv_if_ne (tgt := 49) hx hb dX8_jointFor_30 (by decide +kernel) (fun c9 => absurd c9 (by decide +kernel)) (fun _ => ?_)
          refine lv_iload hx hb dX8_jointFor_33 (lv_at hl 1 rfl) ?_
          refine lv_iconst (v := (-1)) hx hb dX8_jointFor_35 (by decide +kernel) ?_
          refine lv_icmp_ne (tgt := 53) hx hb dX8_jointFor_36 (by decide +kernel) (fun c9 => absurd c9 (by decide +kernel)) (fun _ => ?_)
          refine lv_iload_n hx hb dX8_jointFor_39 rfl (lv_at hl 4 rfl) ?_
          refine lv_iload_n hx hb dX8_jointFor_40 rfl (lv_at hl 5 rfl) ?_
          refine lv_iload hx hb dX8_jointFor_41 (lv_at hl 0 rfl) ?_
          refine lv_iload_n hx hb dX8_jointFor_43 rfl (lv_at hl 6 rfl) ?_
          refine lv_imul hx hb dX8_jointFor_44 ?_
          refine lv_isub hx hb dX8_jointFor_45 ?_
          refine lv_icmp_lt (tgt := 53) hx hb dX8_jointFor_46 (by decide +kernel) (fun c_46xxxx => ?_) (fun c_46xxxx => ?_)
          · refine lv_iconst (v := 0) hx hb dX8_jointFor_53 (by decide +kernel) ?_
            refine lv_istore (lv' := [(8, .int 0), (7, .int 4), (6, .int (-1)), (0, .ref m0), (1, .int (nI t)), (2, .int (nI B)), (3, .int (nI S)), (4, .int 31), (5, .int 0)]) hx hb dX8_jointFor_54 hl (by decide +kernel) rfl (fun ls hl => ?_)
            refine lv_iload hx hb dX8_jointFor_56 (lv_at hl 0 rfl) ?_
            refine lv_if_eq (tgt := 66) hx hb dX8_jointFor_58 (by decide +kernel) (fun _ => ?_) (fun c9 => absurd (by decide +kernel) c9)
            refine lv_iload hx hb dX8_jointFor_66 (lv_at hl 2 rfl) ?_
            refine lv_istore (lv' := [(6, .int (-1)), (8, .int 0), (7, .int 4), (0, .ref m0), (1, .int (nI t)), (2, .int (nI B)), (3, .int (nI S)), (4, .int 31), (5, .int 0)]) hx hb dX8_jointFor_68 hl (by decide +kernel) rfl (fun ls hl => ?_)
            refine lv_iinc (v := 5) (lv' := [(7, .int 5), (6, .int (-1)), (8, .int 0), (0, .ref m0), (1, .int (nI t)), (2, .int (nI B)), (3, .int (nI S)), (4, .int 31), (5, .int 0)]) hx hb dX8_jointFor_70 hl (k := 2) rfl (by decide +kernel) (by decide +kernel) rfl (fun ls hl => ?_)
            refine lv_goto (tgt := 6) hx hb dX8_jointFor_73 (by decide +kernel) ?_
            refine lv_iload hx hb dX8_jointFor_6 (lv_at hl 0 rfl) ?_
            refine lv_aload_n hx hb dX8_jointFor_8 rfl (lv_at hl 3 rfl) ?_
            refine z_get C (ci := 8) (N := 21) rfl hin8 hT 0 2 rfl rfl (by decide +kernel) (by decide +kernel) dX8_jointFor_9 ?_
            refine lv_iconst (v := 0) hx hb dX8_jointFor_12 (by decide +kernel) ?_
            refine z_iald C hT 1 0 rfl rfl (vin rfl) (v := 5) ((hF 0 (by decide)).trans rfl) dX8_jointFor_13 ?_
            refine lv_icmp_ge (tgt := 76) hx hb dX8_jointFor_14 (by decide +kernel) (fun _ => ?_) (fun c9 => absurd (by decide +kernel) c9)
            refine lv_iload hx hb dX8_jointFor_76 (lv_at hl 1 rfl) ?_
            exact z_iret C rfl hT () (by unfold sM_jf; rw [if_pos c_46, if_pos c_46x, if_pos c_46xx, if_pos c_46xxx, if_pos c_46xxxx]) [0, 1] rfl rfl (Nat.le_of_ble_eq_true rfl) (Nat.le_of_ble_eq_true rfl) dX8_jointFor_78
          · refine lv_iconst (v := 1) hx hb dX8_jointFor_49 (by decide +kernel) ?_
            refine lv_goto (tgt := 54) hx hb dX8_jointFor_50 (by decide +kernel) ?_
            refine lv_istore (lv' := [(8, .int 1), (7, .int 4), (6, .int (-1)), (0, .ref m0), (1, .int (nI t)), (2, .int (nI B)), (3, .int (nI S)), (4, .int 31), (5, .int 0)]) hx hb dX8_jointFor_54 hl (by decide +kernel) rfl (fun ls hl => ?_)
            refine lv_iload hx hb dX8_jointFor_56 (lv_at hl 0 rfl) ?_
            refine lv_if_eq (tgt := 66) hx hb dX8_jointFor_58 (by decide +kernel) (fun c9 => absurd c9 (by decide +kernel)) (fun _ => ?_)
            refine lv_iload hx hb dX8_jointFor_61 (lv_at hl 1 rfl) ?_
            refine lv_goto (tgt := 68) hx hb dX8_jointFor_63 (by decide +kernel) ?_
            refine lv_istore (lv' := [(6, .int 4), (8, .int 1), (7, .int 4), (0, .ref m0), (1, .int (nI t)), (2, .int (nI B)), (3, .int (nI S)), (4, .int 31), (5, .int 0)]) hx hb dX8_jointFor_68 hl (by decide +kernel) rfl (fun ls hl => ?_)
            refine lv_iinc (v := 5) (lv' := [(7, .int 5), (6, .int 4), (8, .int 1), (0, .ref m0), (1, .int (nI t)), (2, .int (nI B)), (3, .int (nI S)), (4, .int 31), (5, .int 0)]) hx hb dX8_jointFor_70 hl (k := 2) rfl (by decide +kernel) (by decide +kernel) rfl (fun ls hl => ?_)
            refine lv_goto (tgt := 6) hx hb dX8_jointFor_73 (by decide +kernel) ?_
            refine lv_iload hx hb dX8_jointFor_6 (lv_at hl 0 rfl) ?_
            refine lv_aload_n hx hb dX8_jointFor_8 rfl (lv_at hl 3 rfl) ?_
            refine z_get C (ci := 8) (N := 21) rfl hin8 hT 0 2 rfl rfl (by decide +kernel) (by decide +kernel) dX8_jointFor_9 ?_
            refine lv_iconst (v := 0) hx hb dX8_jointFor_12 (by decide +kernel) ?_
            refine z_iald C hT 1 0 rfl rfl (vin rfl) (v := 5) ((hF 0 (by decide)).trans rfl) dX8_jointFor_13 ?_
            refine lv_icmp_ge (tgt := 76) hx hb dX8_jointFor_14 (by decide +kernel) (fun _ => ?_) (fun c9 => absurd (by decide +kernel) c9)
            refine lv_iload hx hb dX8_jointFor_76 (lv_at hl 1 rfl) ?_
            exact z_iret C rfl hT () (by unfold sM_jf; rw [if_pos c_46, if_pos c_46x, if_pos c_46xx, if_pos c_46xxx, if_neg c_46xxxx]) [0, 1] rfl rfl (Nat.le_of_ble_eq_true rfl) (Nat.le_of_ble_eq_true rfl) dX8_jointFor_78
        · refine lv_iconst (v := 1) hx hb dX8_jointFor_49 (by decide +kernel) ?_
          refine lv_goto (tgt := 54) hx hb dX8_jointFor_50 (by decide +kernel) ?_
          refine lv_istore (lv' := [(8, .int 1), (7, .int 3), (6, .int (-1)), (0, .ref m0), (1, .int (nI t)), (2, .int (nI B)), (3, .int (nI S)), (4, .int 31), (5, .int 0)]) hx hb dX8_jointFor_54 hl (by decide +kernel) rfl (fun ls hl => ?_)
          refine lv_iload hx hb dX8_jointFor_56 (lv_at hl 0 rfl) ?_
          refine lv_if_eq (tgt := 66) hx hb dX8_jointFor_58 (by decide +kernel) (fun c9 => absurd c9 (by decide +kernel)) (fun _ => ?_)
          refine lv_iload hx hb dX8_jointFor_61 (lv_at hl 1 rfl) ?_
          refine lv_goto (tgt := 68) hx hb dX8_jointFor_63 (by decide +kernel) ?_
          refine lv_istore (lv' := [(6, .int 3), (8, .int 1), (7, .int 3), (0, .ref m0), (1, .int (nI t)), (2, .int (nI B)), (3, .int (nI S)), (4, .int 31), (5, .int 0)]) hx hb dX8_jointFor_68 hl (by decide +kernel) rfl (fun ls hl => ?_)
          refine lv_iinc (v := 4) (lv' := [(7, .int 4), (6, .int 3), (8, .int 1), (0, .ref m0), (1, .int (nI t)), (2, .int (nI B)), (3, .int (nI S)), (4, .int 31), (5, .int 0)]) hx hb dX8_jointFor_70 hl (k := 2) rfl (by decide +kernel) (by decide +kernel) rfl (fun ls hl => ?_)
          refine lv_goto (tgt := 6) hx hb dX8_jointFor_73 (by decide +kernel) ?_
          refine lv_iload hx hb dX8_jointFor_6 (lv_at hl 0 rfl) ?_
          refine lv_aload_n hx hb dX8_jointFor_8 rfl (lv_at hl 3 rfl) ?_
          refine z_get C (ci := 8) (N := 21) rfl hin8 hT 0 2 rfl rfl (by decide +kernel) (by decide +kernel) dX8_jointFor_9 ?_
          refine lv_iconst (v := 0) hx hb dX8_jointFor_12 (by decide +kernel) ?_
          refine z_iald C hT 1 0 rfl rfl (vin rfl) (v := 5) ((hF 0 (by decide)).trans rfl) dX8_jointFor_13 ?_
          refine lv_icmp_ge (tgt := 76) hx hb dX8_jointFor_14 (by decide +kernel) (fun c9 => absurd c9 (by decide +kernel)) (fun _ => ?_)
          refine lv_iload hx hb dX8_jointFor_17 (lv_at hl 7 rfl) ?_
          refine lv_iload hx hb dX8_jointFor_19 (lv_at hl 0 rfl) ?_
          refine lv_ishr hx hb dX8_jointFor_21 ?_
          refine z_eq (y := 1) (by decide +kernel) ?_
          refine lv_iconst (v := 1) hx hb dX8_jointFor_22 (by decide +kernel) ?_
          refine lv_iand hx hb dX8_jointFor_23 ?_
          refine z_eq (y := 1) (by decide +kernel) ?_
          refine lv_iconst (v := 1) hx hb dX8_jointFor_24 (by decide +kernel) ?_
          refine lv_icmp_ne (tgt := 53) hx hb dX8_jointFor_25 (by decide +kernel) (fun c9 => absurd c9 (by decide +kernel)) (fun _ => ?_)
          refine lv_iload hx hb dX8_jointFor_28 (lv_at hl 8 rfl) ?_
          refine lv_if_ne (tgt := 49) hx hb dX8_jointFor_30 (by decide +kernel) (fun c9 => absurd c9 (by decide +kernel)) (fun _ => ?_)
          refine lv_iload hx hb dX8_jointFor_33 (lv_at hl 1 rfl) ?_
          refine lv_iconst (v := (-1)) hx hb dX8_jointFor_35 (by decide +kernel) ?_
          refine lv_icmp_ne (tgt := 53) hx hb dX8_jointFor_36 (by decide +kernel) (fun _ => ?_) (fun c9 => absurd c9 (by decide +kernel))
          refine lv_iconst (v := 0) hx hb dX8_jointFor_53 (by decide +kernel) ?_
          refine lv_istore (lv' := [(8, .int 0), (7, .int 4), (6, .int 3), (0, .ref m0), (1, .int (nI t)), (2, .int (nI B)), (3, .int (nI S)), (4, .int 31), (5, .int 0)]) hx hb dX8_jointFor_54 hl (by decide +kernel) rfl (fun ls hl => ?_)
          refine lv_iload hx hb dX8_jointFor_56 (lv_at hl 0 rfl) ?_
          refine lv_if_eq (tgt := 66) hx hb dX8_jointFor_58 (by decide +kernel) (fun _ => ?_) (fun c9 => absurd (by decide +kernel) c9)
          refine lv_iload hx hb dX8_jointFor_66 (lv_at hl 2 rfl) ?_
          refine lv_istore (lv' := [(6, .int 3), (8, .int 0), (7, .int 4), (0, .ref m0), (1, .int (nI t)), (2, .int (nI B)), (3, .int (nI S)), (4, .int 31), (5, .int 0)]) hx hb dX8_jointFor_68 hl (by decide +kernel) rfl (fun ls hl => ?_)
          refine lv_iinc (v := 5) (lv' := [(7, .int 5), (6, .int 3), (8, .int 0), (0, .ref m0), (1, .int (nI t)), (2, .int (nI B)), (3, .int (nI S)), (4, .int 31), (5, .int 0)]) hx hb dX8_jointFor_70 hl (k := 2) rfl (by decide +kernel) (by decide +kernel) rfl (fun ls hl => ?_)
          refine lv_goto (tgt := 6) hx hb dX8_jointFor_73 (by decide +kernel) ?_
          refine lv_iload hx hb dX8_jointFor_6 (lv_at hl 0 rfl) ?_
          refine lv_aload_n hx hb dX8_jointFor_8 rfl (lv_at hl 3 rfl) ?_
          refine z_get C (ci := 8) (N := 21) rfl hin8 hT 0 2 rfl rfl (by decide +kernel) (by decide +kernel) dX8_jointFor_9 ?_
          refine lv_iconst (v := 0) hx hb dX8_jointFor_12 (by decide +kernel) ?_
          refine z_iald C hT 1 0 rfl rfl (vin rfl) (v := 5) ((hF 0 (by decide)).trans rfl) dX8_jointFor_13 ?_
          refine lv_icmp_ge (tgt := 76) hx hb dX8_jointFor_14 (by decide +kernel) (fun _ => ?_) (fun c9 => absurd (by decide +kernel) c9)
          refine lv_iload hx hb dX8_jointFor_76 (lv_at hl 1 rfl) ?_
          exact z_iret C rfl hT () (by unfold sM_jf; rw [if_pos c_46, if_pos c_46x, if_pos c_46xx, if_neg c_46xxx]) [0, 1] rfl rfl (Nat.le_of_ble_eq_true rfl) (Nat.le_of_ble_eq_true rfl) dX8_jointFor_78
      · refine lv_iconst (v := 1) hx hb dX8_jointFor_49 (by decide +kernel) ?_
        refine lv_goto (tgt := 54) hx hb dX8_jointFor_50 (by decide +kernel) ?_
        refine lv_istore (lv' := [(8, .int 1), (7, .int 2), (6, .int (-1)), (0, .ref m0), (1, .int (nI t)), (2, .int (nI B)), (3, .int (nI S)), (4, .int 31), (5, .int 0)]) hx hb dX8_jointFor_54 hl (by decide +kernel) rfl (fun ls hl => ?_)
        refine lv_iload hx hb dX8_jointFor_56 (lv_at hl 0 rfl) ?_
        refine lv_if_eq (tgt := 66) hx hb dX8_jointFor_58 (by decide +kernel) (fun c9 => absurd c9 (by decide +kernel)) (fun _ => ?_)
        refine lv_iload hx hb dX8_jointFor_61 (lv_at hl 1 rfl) ?_
        refine lv_goto (tgt := 68) hx hb dX8_jointFor_63 (by decide +kernel) ?_
        refine lv_istore (lv' := [(6, .int 2), (8, .int 1), (7, .int 2), (0, .ref m0), (1, .int (nI t)), (2, .int (nI B)), (3, .int (nI S)), (4, .int 31), (5, .int 0)]) hx hb dX8_jointFor_68 hl (by decide +kernel) rfl (fun ls hl => ?_)
        refine lv_iinc (v := 3) (lv' := [(7, .int 3), (6, .int 2), (8, .int 1), (0, .ref m0), (1, .int (nI t)), (2, .int (nI B)), (3, .int (nI S)), (4, .int 31), (5, .int 0)]) hx hb dX8_jointFor_70 hl (k := 2) rfl (by decide +kernel) (by decide +kernel) rfl (fun ls hl => ?_)
        refine lv_goto (tgt := 6) hx hb dX8_jointFor_73 (by decide +kernel) ?_
        refine lv_iload hx hb dX8_jointFor_6 (lv_at hl 0 rfl) ?_
        refine lv_aload_n hx hb dX8_jointFor_8 rfl (lv_at hl 3 rfl) ?_
        refine z_get C (ci := 8) (N := 21) rfl hin8 hT 0 2 rfl rfl (by decide +kernel) (by decide +kernel) dX8_jointFor_9 ?_
        refine lv_iconst (v := 0) hx hb dX8_jointFor_12 (by decide +kernel) ?_
        refine z_iald C hT 1 0 rfl rfl (vin rfl) (v := 5) ((hF 0 (by decide)).trans rfl) dX8_jointFor_13 ?_
        refine lv_icmp_ge (tgt := 76) hx hb dX8_jointFor_14 (by decide +kernel) (fun c9 => absurd c9 (by decide +kernel)) (fun _ => ?_)
        refine lv_iload hx hb dX8_jointFor_17 (lv_at hl 7 rfl) ?_
        refine lv_iload hx hb dX8_jointFor_19 (lv_at hl 0 rfl) ?_
        refine lv_ishr hx hb dX8_jointFor_21 ?_
        refine z_eq (y := 3) (by decide +kernel) ?_
        refine lv_iconst (v := 1) hx hb dX8_jointFor_22 (by decide +kernel) ?_
        refine lv_iand hx hb dX8_jointFor_23 ?_
        refine z_eq (y := 1) (by decide +kernel) ?_
        refine lv_iconst (v := 1) hx hb dX8_jointFor_24 (by decide +kernel) ?_
        refine lv_icmp_ne (tgt := 53) hx hb dX8_jointFor_25 (by decide +kernel) (fun c9 => absurd c9 (by decide +kernel)) (fun _ => ?_)
        refine lv_iload hx hb dX8_jointFor_28 (lv_at hl 8 rfl) ?_
        refine lv_if_ne (tgt := 49) hx hb dX8_jointFor_30 (by decide +kernel) (fun c9 => absurd c9 (by decide +kernel)) (fun _ => ?_)
        refine lv_iload hx hb dX8_jointFor_33 (lv_at hl 1 rfl) ?_
        refine lv_iconst (v := (-1)) hx hb dX8_jointFor_35 (by decide +kernel) ?_
        refine lv_icmp_ne (tgt := 53) hx hb dX8_jointFor_36 (by decide +kernel) (fun _ => ?_) (fun c9 => absurd c9 (by decide +kernel))
        refine lv_iconst (v := 0) hx hb dX8_jointFor_53 (by decide +kernel) ?_
        refine lv_istore (lv' := [(8, .int 0), (7, .int 3), (6, .int 2), (0, .ref m0), (1, .int (nI t)), (2, .int (nI B)), (3, .int (nI S)), (4, .int 31), (5, .int 0)]) hx hb dX8_jointFor_54 hl (by decide +kernel) rfl (fun ls hl => ?_)
        refine lv_iload hx hb dX8_jointFor_56 (lv_at hl 0 rfl) ?_
        refine lv_if_eq (tgt := 66) hx hb dX8_jointFor_58 (by decide +kernel) (fun _ => ?_) (fun c9 => absurd (by decide +kernel) c9)
        refine lv_iload hx hb dX8_jointFor_66 (lv_at hl 2 rfl) ?_
        refine lv_istore (lv' := [(6, .int 2), (8, .int 0), (7, .int 3), (0, .ref m0), (1, .int (nI t)), (2, .int (nI B)), (3, .int (nI S)), (4, .int 31), (5, .int 0)]) hx hb dX8_jointFor_68 hl (by decide +kernel) rfl (fun ls hl => ?_)
        refine lv_iinc (v := 4) (lv' := [(7, .int 4), (6, .int 2), (8, .int 0), (0, .ref m0), (1, .int (nI t)), (2, .int (nI B)), (3, .int (nI S)), (4, .int 31), (5, .int 0)]) hx hb dX8_jointFor_70 hl (k := 2) rfl (by decide +kernel) (by decide +kernel) rfl (fun ls hl => ?_)
        refine lv_goto (tgt := 6) hx hb dX8_jointFor_73 (by decide +kernel) ?_
        refine lv_iload hx hb dX8_jointFor_6 (lv_at hl 0 rfl) ?_
        refine lv_aload_n hx hb dX8_jointFor_8 rfl (lv_at hl 3 rfl) ?_
        refine z_get C (ci := 8) (N := 21) rfl hin8 hT 0 2 rfl rfl (by decide +kernel) (by decide +kernel) dX8_jointFor_9 ?_
        refine lv_iconst (v := 0) hx hb dX8_jointFor_12 (by decide +kernel) ?_
        refine z_iald C hT 1 0 rfl rfl (vin rfl) (v := 5) ((hF 0 (by decide)).trans rfl) dX8_jointFor_13 ?_
        refine lv_icmp_ge (tgt := 76) hx hb dX8_jointFor_14 (by decide +kernel) (fun c9 => absurd c9 (by decide +kernel)) (fun _ => ?_)
        refine lv_iload hx hb dX8_jointFor_17 (lv_at hl 7 rfl) ?_
        refine lv_iload hx hb dX8_jointFor_19 (lv_at hl 0 rfl) ?_
        refine lv_ishr hx hb dX8_jointFor_21 ?_
        refine z_eq (y := 1) (by decide +kernel) ?_
        refine lv_iconst (v := 1) hx hb dX8_jointFor_22 (by decide +kernel) ?_
        refine lv_iand hx hb dX8_jointFor_23 ?_
        refine z_eq (y := 1) (by decide +kernel) ?_
        refine lv_iconst (v := 1) hx hb dX8_jointFor_24 (by decide +kernel) ?_
        refine lv_icmp_ne (tgt := 53) hx hb dX8_jointFor_25 (by decide +kernel) (fun c9 => absurd c9 (by decide +kernel)) (fun _ => ?_)
        refine lv_iload hx hb dX8_jointFor_28 (lv_at hl 8 rfl) ?_
        refine lv_if_ne (tgt := 49) hx hb dX8_jointFor_30 (by decide +kernel) (fun c9 => absurd c9 (by decide +kernel)) (fun _ => ?_)
        refine lv_iload hx hb dX8_jointFor_33 (lv_at hl 1 rfl) ?_
        refine lv_iconst (v := (-1)) hx hb dX8_jointFor_35 (by decide +kernel) ?_
        refine lv_icmp_ne (tgt := 53) hx hb dX8_jointFor_36 (by decide +kernel) (fun _ => ?_) (fun c9 => absurd c9 (by decide +kernel))
        refine lv_iconst (v := 0) hx hb dX8_jointFor_53 (by decide +kernel) ?_
        refine lv_istore (lv' := [(8, .int 0), (7, .int 4), (6, .int 2), (0, .ref m0), (1, .int (nI t)), (2, .int (nI B)), (3, .int (nI S)), (4, .int 31), (5, .int 0)]) hx hb dX8_jointFor_54 hl (by decide +kernel) rfl (fun ls hl => ?_)
        refine lv_iload hx hb dX8_jointFor_56 (lv_at hl 0 rfl) ?_
        refine lv_if_eq (tgt := 66) hx hb dX8_jointFor_58 (by decide +kernel) (fun _ => ?_) (fun c9 => absurd (by decide +kernel) c9)
        refine lv_iload hx hb dX8_jointFor_66 (lv_at hl 2 rfl) ?_
        refine lv_istore (lv' := [(6, .int 2), (8, .int 0), (7, .int 4), (0, .ref m0), (1, .int (nI t)), (2, .int (nI B)), (3, .int (nI S)), (4, .int 31), (5, .int 0)]) hx hb dX8_jointFor_68 hl (by decide +kernel) rfl (fun ls hl => ?_)
        refine lv_iinc (v := 5) (lv' := [(7, .int 5), (6, .int 2), (8, .int 0), (0, .ref m0), (1, .int (nI t)), (2, .int (nI B)), (3, .int (nI S)), (4, .int 31), (5, .int 0)]) hx hb dX8_jointFor_70 hl (k := 2) rfl (by decide +kernel) (by decide +kernel) rfl (fun ls hl => ?_)
        refine lv_goto (tgt := 6) hx hb dX8_jointFor_73 (by decide +kernel) ?_
        refine lv_iload hx hb dX8_jointFor_6 (lv_at hl 0 rfl) ?_
        refine lv_aload_n hx hb dX8_jointFor_8 rfl (lv_at hl 3 rfl) ?_
        refine z_get C (ci := 8) (N := 21) rfl hin8 hT 0 2 rfl rfl (by decide +kernel) (by decide +kernel) dX8_jointFor_9 ?_
        refine lv_iconst (v := 0) hx hb dX8_jointFor_12 (by decide +kernel) ?_
        refine z_iald C hT 1 0 rfl rfl (vin rfl) (v := 5) ((hF 0 (by decide)).trans rfl) dX8_jointFor_13 ?_
        refine lv_icmp_ge (tgt := 76) hx hb dX8_jointFor_14 (by decide +kernel) (fun _ => ?_) (fun c9 => absurd (by decide +kernel) c9)
        refine lv_iload hx hb dX8_jointFor_76 (lv_at hl 1 rfl) ?_
        exact z_iret C rfl hT () (by unfold sM_jf; rw [if_pos c_46, if_pos c_46x, if_neg c_46xx]) [0, 1] rfl rfl (Nat.le_of_ble_eq_true rfl) (Nat.le_of_ble_eq_true rfl) dX8_jointFor_78
    · refine lv_iconst (v := 1) hx hb dX8_jointFor_49 (by decide +kernel) ?_
      refine lv_goto (tgt := 54) hx hb dX8_jointFor_50 (by decide +kernel) ?_
      refine lv_istore (lv' := [(8, .int 1), (7, .int 1), (6, .int (-1)), (0, .ref m0), (1, .int (nI t)), (2, .int (nI B)), (3, .int (nI S)), (4, .int 31), (5, .int 0)]) hx hb dX8_jointFor_54 hl (by decide +kernel) rfl (fun ls hl => ?_)
      refine lv_iload hx hb dX8_jointFor_56 (lv_at hl 0 rfl) ?_
      refine lv_if_eq (tgt := 66) hx hb dX8_jointFor_58 (by decide +kernel) (fun c9 => absurd c9 (by decide +kernel)) (fun _ => ?_)
      refine lv_iload hx hb dX8_jointFor_61 (lv_at hl 1 rfl) ?_
      refine lv_goto (tgt := 68) hx hb dX8_jointFor_63 (by decide +kernel) ?_
      refine lv_istore (lv' := [(6, .int 1), (8, .int 1), (7, .int 1), (0, .ref m0), (1, .int (nI t)), (2, .int (nI B)), (3, .int (nI S)), (4, .int 31), (5, .int 0)]) hx hb dX8_jointFor_68 hl (by decide +kernel) rfl (fun ls hl => ?_)
      refine lv_iinc (v := 2) (lv' := [(7, .int 2), (6, .int 1), (8, .int 1), (0, .ref m0), (1, .int (nI t)), (2, .int (nI B)), (3, .int (nI S)), (4, .int 31), (5, .int 0)]) hx hb dX8_jointFor_70 hl (k := 2) rfl (by decide +kernel) (by decide +kernel) rfl (fun ls hl => ?_)
      refine lv_goto (tgt := 6) hx hb dX8_jointFor_73 (by decide +kernel) ?_
      refine lv_iload hx hb dX8_jointFor_6 (lv_at hl 0 rfl) ?_
      refine lv_aload_n hx hb dX8_jointFor_8 rfl (lv_at hl 3 rfl) ?_
      refine z_get C (ci := 8) (N := 21) rfl hin8 hT 0 2 rfl rfl (by decide +kernel) (by decide +kernel) dX8_jointFor_9 ?_
      refine lv_iconst (v := 0) hx hb dX8_jointFor_12 (by decide +kernel) ?_
      refine z_iald C hT 1 0 rfl rfl (vin rfl) (v := 5) ((hF 0 (by decide)).trans rfl) dX8_jointFor_13 ?_
      refine lv_icmp_ge (tgt := 76) hx hb dX8_jointFor_14 (by decide +kernel) (fun c9 => absurd c9 (by decide +kernel)) (fun _ => ?_)
      refine lv_iload hx hb dX8_jointFor_17 (lv_at hl 7 rfl) ?_
      refine lv_iload hx hb dX8_jointFor_19 (lv_at hl 0 rfl) ?_
      refine lv_ishr hx hb dX8_jointFor_21 ?_
      refine z_eq (y := 7) (by decide +kernel) ?_
      refine lv_iconst (v := 1) hx hb dX8_jointFor_22 (by decide +kernel) ?_
      refine lv_iand hx hb dX8_jointFor_23 ?_
      refine z_eq (y := 1) (by decide +kernel) ?_
      refine lv_iconst (v := 1) hx hb dX8_jointFor_24 (by decide +kernel) ?_
      refine lv_icmp_ne (tgt := 53) hx hb dX8_jointFor_25 (by decide +kernel) (fun c9 => absurd c9 (by decide +kernel)) (fun _ => ?_)
      refine lv_iload hx hb dX8_jointFor_28 (lv_at hl 8 rfl) ?_
      refine lv_if_ne (tgt := 49) hx hb dX8_jointFor_30 (by decide +kernel) (fun c9 => absurd c9 (by decide +kernel)) (fun _ => ?_)
      refine lv_iload hx hb dX8_jointFor_33 (lv_at hl 1 rfl) ?_
      refine lv_iconst (v := (-1)) hx hb dX8_jointFor_35 (by decide +kernel) ?_
      refine lv_icmp_ne (tgt := 53) hx hb dX8_jointFor_36 (by decide +kernel) (fun _ => ?_) (fun c9 => absurd c9 (by decide +kernel))
      refine lv_iconst (v := 0) hx hb dX8_jointFor_53 (by decide +kernel) ?_
      refine lv_istore (lv' := [(8, .int 0), (7, .int 2), (6, .int 1), (0, .ref m0), (1, .int (nI t)), (2, .int (nI B)), (3, .int (nI S)), (4, .int 31), (5, .int 0)]) hx hb dX8_jointFor_54 hl (by decide +kernel) rfl (fun ls hl => ?_)
      refine lv_iload hx hb dX8_jointFor_56 (lv_at hl 0 rfl) ?_
      refine lv_if_eq (tgt := 66) hx hb dX8_jointFor_58 (by decide +kernel) (fun _ => ?_) (fun c9 => absurd (by decide +kernel) c9)
      refine lv_iload hx hb dX8_jointFor_66 (lv_at hl 2 rfl) ?_
      refine lv_istore (lv' := [(6, .int 1), (8, .int 0), (7, .int 2), (0, .ref m0), (1, .int (nI t)), (2, .int (nI B)), (3, .int (nI S)), (4, .int 31), (5, .int 0)]) hx hb dX8_jointFor_68 hl (by decide +kernel) rfl (fun ls hl => ?_)
      refine lv_iinc (v := 3) (lv' := [(7, .int 3), (6, .int 1), (8, .int 0), (0, .ref m0), (1, .int (nI t)), (2, .int (nI B)), (3, .int (nI S)), (4, .int 31), (5, .int 0)]) hx hb dX8_jointFor_70 hl (k := 2) rfl (by decide +kernel) (by decide +kernel) rfl (fun ls hl => ?_)
      refine lv_goto (tgt := 6) hx hb dX8_jointFor_73 (by decide +kernel) ?_
      refine lv_iload hx hb dX8_jointFor_6 (lv_at hl 0 rfl) ?_
      refine lv_aload_n hx hb dX8_jointFor_8 rfl (lv_at hl 3 rfl) ?_
      refine z_get C (ci := 8) (N := 21) rfl hin8 hT 0 2 rfl rfl (by decide +kernel) (by decide +kernel) dX8_jointFor_9 ?_
      refine lv_iconst (v := 0) hx hb dX8_jointFor_12 (by decide +kernel) ?_
      refine z_iald C hT 1 0 rfl rfl (vin rfl) (v := 5) ((hF 0 (by decide)).trans rfl) dX8_jointFor_13 ?_
      refine lv_icmp_ge (tgt := 76) hx hb dX8_jointFor_14 (by decide +kernel) (fun c9 => absurd c9 (by decide +kernel)) (fun _ => ?_)
      refine lv_iload hx hb dX8_jointFor_17 (lv_at hl 7 rfl) ?_
      refine lv_iload hx hb dX8_jointFor_19 (lv_at hl 0 rfl) ?_
      refine lv_ishr hx hb dX8_jointFor_21 ?_
      refine z_eq (y := 3) (by decide +kernel) ?_
      refine lv_iconst (v := 1) hx hb dX8_jointFor_22 (by decide +kernel) ?_
      refine lv_iand hx hb dX8_jointFor_23 ?_
      refine z_eq (y := 1) (by decide +kernel) ?_
      refine lv_iconst (v := 1) hx hb dX8_jointFor_24 (by decide +kernel) ?_
      refine lv_icmp_ne (tgt := 53) hx hb dX8_jointFor_25 (by decide +kernel) (fun c9 => absurd c9 (by decide +kernel)) (fun _ => ?_)
      refine lv_iload hx hb dX8_jointFor_28 (lv_at hl 8 rfl) ?_
      refine lv_if_ne (tgt := 49) hx hb dX8_jointFor_30 (by decide +kernel) (fun c9 => absurd c9 (by decide +kernel)) (fun _ => ?_)
      refine lv_iload hx hb dX8_jointFor_33 (lv_at hl 1 rfl) ?_
      refine lv_iconst (v := (-1)) hx hb dX8_jointFor_35 (by decide +kernel) ?_
      refine lv_icmp_ne (tgt := 53) hx hb dX8_jointFor_36 (by decide +kernel) (fun _ => ?_) (fun c9 => absurd c9 (by decide +kernel))
      refine lv_iconst (v := 0) hx hb dX8_jointFor_53 (by decide +kernel) ?_
      refine lv_istore (lv' := [(8, .int 0), (7, .int 3), (6, .int 1), (0, .ref m0), (1, .int (nI t)), (2, .int (nI B)), (3, .int (nI S)), (4, .int 31), (5, .int 0)]) hx hb dX8_jointFor_54 hl (by decide +kernel) rfl (fun ls hl => ?_)
      refine lv_iload hx hb dX8_jointFor_56 (lv_at hl 0 rfl) ?_
      refine lv_if_eq (tgt := 66) hx hb dX8_jointFor_58 (by decide +kernel) (fun _ => ?_) (fun c9 => absurd (by decide +kernel) c9)
      refine lv_iload hx hb dX8_jointFor_66 (lv_at hl 2 rfl) ?_
      refine lv_istore (lv' := [(6, .int 1), (8, .int 0), (7, .int 3), (0, .ref m0), (1, .int (nI t)), (2, .int (nI B)), (3, .int (nI S)), (4, .int 31), (5, .int 0)]) hx hb dX8_jointFor_68 hl (by decide +kernel) rfl (fun ls hl => ?_)
      refine lv_iinc (v := 4) (lv' := [(7, .int 4), (6, .int 1), (8, .int 0), (0, .ref m0), (1, .int (nI t)), (2, .int (nI B)), (3, .int (nI S)), (4, .int 31), (5, .int 0)]) hx hb dX8_jointFor_70 hl (k := 2) rfl (by decide +kernel) (by decide +kernel) rfl (fun ls hl => ?_)
      refine lv_goto (tgt := 6) hx hb dX8_jointFor_73 (by decide +kernel) ?_
      refine lv_iload hx hb dX8_jointFor_6 (lv_at hl 0 rfl) ?_
      refine lv_aload_n hx hb dX8_jointFor_8 rfl (lv_at hl 3 rfl) ?_
      refine z_get C (ci := 8) (N := 21) rfl hin8 hT 0 2 rfl rfl (by decide +kernel) (by decide +kernel) dX8_jointFor_9 ?_
      refine lv_iconst (v := 0) hx hb dX8_jointFor_12 (by decide +kernel) ?_
      refine z_iald C hT 1 0 rfl rfl (vin rfl) (v := 5) ((hF 0 (by decide)).trans rfl) dX8_jointFor_13 ?_
      refine lv_icmp_ge (tgt := 76) hx hb dX8_jointFor_14 (by decide +kernel) (fun c9 => absurd c9 (by decide +kernel)) (fun _ => ?_)
      refine lv_iload hx hb dX8_jointFor_17 (lv_at hl 7 rfl) ?_
      refine lv_iload hx hb dX8_jointFor_19 (lv_at hl 0 rfl) ?_
      refine lv_ishr hx hb dX8_jointFor_21 ?_
      refine z_eq (y := 1) (by decide +kernel) ?_
      refine lv_iconst (v := 1) hx hb dX8_jointFor_22 (by decide +kernel) ?_
      refine lv_iand hx hb dX8_jointFor_23 ?_
      refine z_eq (y := 1) (by decide +kernel) ?_
      refine lv_iconst (v := 1) hx hb dX8_jointFor_24 (by decide +kernel) ?_
      refine lv_icmp_ne (tgt := 53) hx hb dX8_jointFor_25 (by decide +kernel) (fun c9 => absurd c9 (by decide +kernel)) (fun _ => ?_)
      refine lv_iload hx hb dX8_jointFor_28 (lv_at hl 8 rfl) ?_
      refine lv_if_ne (tgt := 49) hx hb dX8_jointFor_30 (by decide +kernel) (fun c9 => absurd c9 (by decide +kernel)) (fun _ => ?_)
      refine lv_iload hx hb dX8_jointFor_33 (lv_at hl 1 rfl) ?_
      refine lv_iconst (v := (-1)) hx hb dX8_jointFor_35 (by decide +kernel) ?_
      refine lv_icmp_ne (tgt := 53) hx hb dX8_jointFor_36 (by decide +kernel) (fun _ => ?_) (fun c9 => absurd c9 (by decide +kernel))
      refine lv_iconst (v := 0) hx hb dX8_jointFor_53 (by decide +kernel) ?_
      refine lv_istore (lv' := [(8, .int 0), (7, .int 4), (6, .int 1), (0, .ref m0), (1, .int (nI t)), (2, .int (nI B)), (3, .int (nI S)), (4, .int 31), (5, .int 0)]) hx hb dX8_jointFor_54 hl (by decide +kernel) rfl (fun ls hl => ?_)
      refine lv_iload hx hb dX8_jointFor_56 (lv_at hl 0 rfl) ?_
      refine lv_if_eq (tgt := 66) hx hb dX8_jointFor_58 (by decide +kernel) (fun _ => ?_) (fun c9 => absurd (by decide +kernel) c9)
      refine lv_iload hx hb dX8_jointFor_66 (lv_at hl 2 rfl) ?_
      refine lv_istore (lv' := [(6, .int 1), (8, .int 0), (7, .int 4), (0, .ref m0), (1, .int (nI t)), (2, .int (nI B)), (3, .int (nI S)), (4, .int 31), (5, .int 0)]) hx hb dX8_jointFor_68 hl (by decide +kernel) rfl (fun ls hl => ?_)
      refine lv_iinc (v := 5) (lv' := [(7, .int 5), (6, .int 1), (8, .int 0), (0, .ref m0), (1, .int (nI t)), (2, .int (nI B)), (3, .int (nI S)), (4, .int 31), (5, .int 0)]) hx hb dX8_jointFor_70 hl (k := 2) rfl (by decide +kernel) (by decide +kernel) rfl (fun ls hl => ?_)
      refine lv_goto (tgt := 6) hx hb dX8_jointFor_73 (by decide +kernel) ?_
      refine lv_iload hx hb dX8_jointFor_6 (lv_at hl 0 rfl) ?_
      refine lv_aload_n hx hb dX8_jointFor_8 rfl (lv_at hl 3 rfl) ?_
      refine z_get C (ci := 8) (N := 21) rfl hin8 hT 0 2 rfl rfl (by decide +kernel) (by decide +kernel) dX8_jointFor_9 ?_
      refine lv_iconst (v := 0) hx hb dX8_jointFor_12 (by decide +kernel) ?_
      refine z_iald C hT 1 0 rfl rfl (vin rfl) (v := 5) ((hF 0 (by decide)).trans rfl) dX8_jointFor_13 ?_
      refine lv_icmp_ge (tgt := 76) hx hb dX8_jointFor_14 (by decide +kernel) (fun _ => ?_) (fun c9 => absurd (by decide +kernel) c9)
      refine lv_iload hx hb dX8_jointFor_76 (lv_at hl 1 rfl) ?_
      exact z_iret C rfl hT () (by unfold sM_jf; rw [if_pos c_46, if_neg c_46x]) [0, 1] rfl rfl (Nat.le_of_ble_eq_true rfl) (Nat.le_of_ble_eq_true rfl) dX8_jointFor_78
  · refine lv_iconst (v := 1) hx hb dX8_jointFor_49 (by decide +kernel) ?_
    refine lv_goto (tgt := 54) hx hb dX8_jointFor_50 (by decide +kernel) ?_
    refine lv_istore (lv' := [(8, .int 1), (7, .int 0), (6, .int (-1)), (0, .ref m0), (1, .int (nI t)), (2, .int (nI B)), (3, .int (nI S)), (4, .int 31), (5, .int 0)]) hx hb dX8_jointFor_54 hl (by decide +kernel) rfl (fun ls hl => ?_)
    refine lv_iload hx hb dX8_jointFor_56 (lv_at hl 0 rfl) ?_
    refine lv_if_eq (tgt := 66) hx hb dX8_jointFor_58 (by decide +kernel) (fun c9 => absurd c9 (by decide +kernel)) (fun _ => ?_)
    refine lv_iload hx hb dX8_jointFor_61 (lv_at hl 1 rfl) ?_
    refine lv_goto (tgt := 68) hx hb dX8_jointFor_63 (by decide +kernel) ?_
    refine lv_istore (lv' := [(6, .int 0), (8, .int 1), (7, .int 0), (0, .ref m0), (1, .int (nI t)), (2, .int (nI B)), (3, .int (nI S)), (4, .int 31), (5, .int 0)]) hx hb dX8_jointFor_68 hl (by decide +kernel) rfl (fun ls hl => ?_)
    refine lv_iinc (v := 1) (lv' := [(7, .int 1), (6, .int 0), (8, .int 1), (0, .ref m0), (1, .int (nI t)), (2, .int (nI B)), (3, .int (nI S)), (4, .int 31), (5, .int 0)]) hx hb dX8_jointFor_70 hl (k := 2) rfl (by decide +kernel) (by decide +kernel) rfl (fun ls hl => ?_)
    refine lv_goto (tgt := 6) hx hb dX8_jointFor_73 (by decide +kernel) ?_
    refine lv_iload hx hb dX8_jointFor_6 (lv_at hl 0 rfl) ?_
    refine lv_aload_n hx hb dX8_jointFor_8 rfl (lv_at hl 3 rfl) ?_
    refine z_get C (ci := 8) (N := 21) rfl hin8 hT 0 2 rfl rfl (by decide +kernel) (by decide +kernel) dX8_jointFor_9 ?_
    refine lv_iconst (v := 0) hx hb dX8_jointFor_12 (by decide +kernel) ?_
    refine z_iald C hT 1 0 rfl rfl (vin rfl) (v := 5) ((hF 0 (by decide)).trans rfl) dX8_jointFor_13 ?_
    refine lv_icmp_ge (tgt := 76) hx hb dX8_jointFor_14 (by decide +kernel) (fun c9 => absurd c9 (by decide +kernel)) (fun _ => ?_)
    refine lv_iload hx hb dX8_jointFor_17 (lv_at hl 7 rfl) ?_
    refine lv_iload hx hb dX8_jointFor_19 (lv_at hl 0 rfl) ?_
    refine lv_ishr hx hb dX8_jointFor_21 ?_
    refine z_eq (y := 15) (by decide +kernel) ?_
    refine lv_iconst (v := 1) hx hb dX8_jointFor_22 (by decide +kernel) ?_
    refine lv_iand hx hb dX8_jointFor_23 ?_
    refine z_eq (y := 1) (by decide +kernel) ?_
    refine lv_iconst (v := 1) hx hb dX8_jointFor_24 (by decide +kernel) ?_
    refine lv_icmp_ne (tgt := 53) hx hb dX8_jointFor_25 (by decide +kernel) (fun c9 => absurd c9 (by decide +kernel)) (fun _ => ?_)
    refine lv_iload hx hb dX8_jointFor_28 (lv_at hl 8 rfl) ?_
    refine lv_if_ne (tgt := 49) hx hb dX8_jointFor_30 (by decide +kernel) (fun c9 => absurd c9 (by decide +kernel)) (fun _ => ?_)
    refine lv_iload hx hb dX8_jointFor_33 (lv_at hl 1 rfl) ?_
    refine lv_iconst (v := (-1)) hx hb dX8_jointFor_35 (by decide +kernel) ?_
    refine lv_icmp_ne (tgt := 53) hx hb dX8_jointFor_36 (by decide +kernel) (fun _ => ?_) (fun c9 => absurd c9 (by decide +kernel))
    refine lv_iconst (v := 0) hx hb dX8_jointFor_53 (by decide +kernel) ?_
    refine lv_istore (lv' := [(8, .int 0), (7, .int 1), (6, .int 0), (0, .ref m0), (1, .int (nI t)), (2, .int (nI B)), (3, .int (nI S)), (4, .int 31), (5, .int 0)]) hx hb dX8_jointFor_54 hl (by decide +kernel) rfl (fun ls hl => ?_)
    refine lv_iload hx hb dX8_jointFor_56 (lv_at hl 0 rfl) ?_
    refine lv_if_eq (tgt := 66) hx hb dX8_jointFor_58 (by decide +kernel) (fun _ => ?_) (fun c9 => absurd (by decide +kernel) c9)
    refine lv_iload hx hb dX8_jointFor_66 (lv_at hl 2 rfl) ?_
    refine lv_istore (lv' := [(6, .int 0), (8, .int 0), (7, .int 1), (0, .ref m0), (1, .int (nI t)), (2, .int (nI B)), (3, .int (nI S)), (4, .int 31), (5, .int 0)]) hx hb dX8_jointFor_68 hl (by decide +kernel) rfl (fun ls hl => ?_)
    refine lv_iinc (v := 2) (lv' := [(7, .int 2), (6, .int 0), (8, .int 0), (0, .ref m0), (1, .int (nI t)), (2, .int (nI B)), (3, .int (nI S)), (4, .int 31), (5, .int 0)]) hx hb dX8_jointFor_70 hl (k := 2) rfl (by decide +kernel) (by decide +kernel) rfl (fun ls hl => ?_)
    refine lv_goto (tgt := 6) hx hb dX8_jointFor_73 (by decide +kernel) ?_
    refine lv_iload hx hb dX8_jointFor_6 (lv_at hl 0 rfl) ?_
    refine lv_aload_n hx hb dX8_jointFor_8 rfl (lv_at hl 3 rfl) ?_
    refine z_get C (ci := 8) (N := 21) rfl hin8 hT 0 2 rfl rfl (by decide +kernel) (by decide +kernel) dX8_jointFor_9 ?_
    refine lv_iconst (v := 0) hx hb dX8_jointFor_12 (by decide +kernel) ?_
    refine z_iald C hT 1 0 rfl rfl (vin rfl) (v := 5) ((hF 0 (by decide)).trans rfl) dX8_jointFor_13 ?_
    refine lv_icmp_ge (tgt := 76) hx hb dX8_jointFor_14 (by decide +kernel) (fun c9 => absurd c9 (by decide +kernel)) (fun _ => ?_)
    refine lv_iload hx hb dX8_jointFor_17 (lv_at hl 7 rfl) ?_
    refine lv_iload hx hb dX8_jointFor_19 (lv_at hl 0 rfl) ?_
    refine lv_ishr hx hb dX8_jointFor_21 ?_
    refine z_eq (y := 7) (by decide +kernel) ?_
    refine lv_iconst (v := 1) hx hb dX8_jointFor_22 (by decide +kernel) ?_
    refine lv_iand hx hb dX8_jointFor_23 ?_
    refine z_eq (y := 1) (by decide +kernel) ?_
    refine lv_iconst (v := 1) hx hb dX8_jointFor_24 (by decide +kernel) ?_
    refine lv_icmp_ne (tgt := 53) hx hb dX8_jointFor_25 (by decide +kernel) (fun c9 => absurd c9 (by decide +kernel)) (fun _ => ?_)
    refine lv_iload hx hb dX8_jointFor_28 (lv_at hl 8 rfl) ?_
    refine lv_if_ne (tgt := 49) hx hb dX8_jointFor_30 (by decide +kernel) (fun c9 => absurd c9 (by decide +kernel)) (fun _ => ?_)
    refine lv_iload hx hb dX8_jointFor_33 (lv_at hl 1 rfl) ?_
    refine lv_iconst (v := (-1)) hx hb dX8_jointFor_35 (by decide +kernel) ?_
    refine lv_icmp_ne (tgt := 53) hx hb dX8_jointFor_36 (by decide +kernel) (fun _ => ?_) (fun c9 => absurd c9 (by decide +kernel))
    refine lv_iconst (v := 0) hx hb dX8_jointFor_53 (by decide +kernel) ?_
    refine lv_istore (lv' := [(8, .int 0), (7, .int 2), (6, .int 0), (0, .ref m0), (1, .int (nI t)), (2, .int (nI B)), (3, .int (nI S)), (4, .int 31), (5, .int 0)]) hx hb dX8_jointFor_54 hl (by decide +kernel) rfl (fun ls hl => ?_)
    refine lv_iload hx hb dX8_jointFor_56 (lv_at hl 0 rfl) ?_
    refine lv_if_eq (tgt := 66) hx hb dX8_jointFor_58 (by decide +kernel) (fun _ => ?_) (fun c9 => absurd (by decide +kernel) c9)
    refine lv_iload hx hb dX8_jointFor_66 (lv_at hl 2 rfl) ?_
    refine lv_istore (lv' := [(6, .int 0), (8, .int 0), (7, .int 2), (0, .ref m0), (1, .int (nI t)), (2, .int (nI B)), (3, .int (nI S)), (4, .int 31), (5, .int 0)]) hx hb dX8_jointFor_68 hl (by decide +kernel) rfl (fun ls hl => ?_)
    refine lv_iinc (v := 3) (lv' := [(7, .int 3), (6, .int 0), (8, .int 0), (0, .ref m0), (1, .int (nI t)), (2, .int (nI B)), (3, .int (nI S)), (4, .int 31), (5, .int 0)]) hx hb dX8_jointFor_70 hl (k := 2) rfl (by decide +kernel) (by decide +kernel) rfl (fun ls hl => ?_)
    refine lv_goto (tgt := 6) hx hb dX8_jointFor_73 (by decide +kernel) ?_
    refine lv_iload hx hb dX8_jointFor_6 (lv_at hl 0 rfl) ?_
    refine lv_aload_n hx hb dX8_jointFor_8 rfl (lv_at hl 3 rfl) ?_
    refine z_get C (ci := 8) (N := 21) rfl hin8 hT 0 2 rfl rfl (by decide +kernel) (by decide +kernel) dX8_jointFor_9 ?_
    refine lv_iconst (v := 0) hx hb dX8_jointFor_12 (by decide +kernel) ?_
    refine z_iald C hT 1 0 rfl rfl (vin rfl) (v := 5) ((hF 0 (by decide)).trans rfl) dX8_jointFor_13 ?_
    refine lv_icmp_ge (tgt := 76) hx hb dX8_jointFor_14 (by decide +kernel) (fun c9 => absurd c9 (by decide +kernel)) (fun _ => ?_)
    refine lv_iload hx hb dX8_jointFor_17 (lv_at hl 7 rfl) ?_
    refine lv_iload hx hb dX8_jointFor_19 (lv_at hl 0 rfl) ?_
    refine lv_ishr hx hb dX8_jointFor_21 ?_
    refine z_eq (y := 3) (by decide +kernel) ?_
    refine lv_iconst (v := 1) hx hb dX8_jointFor_22 (by decide +kernel) ?_
    refine lv_iand hx hb dX8_jointFor_23 ?_
    refine z_eq (y := 1) (by decide +kernel) ?_
    refine lv_iconst (v := 1) hx hb dX8_jointFor_24 (by decide +kernel) ?_
    refine lv_icmp_ne (tgt := 53) hx hb dX8_jointFor_25 (by decide +kernel) (fun c9 => absurd c9 (by decide +kernel)) (fun _ => ?_)
    refine lv_iload hx hb dX8_jointFor_28 (lv_at hl 8 rfl) ?_
    refine lv_if_ne (tgt := 49) hx hb dX8_jointFor_30 (by decide +kernel) (fun c9 => absurd c9 (by decide +kernel)) (fun _ => ?_)
    refine lv_iload hx hb dX8_jointFor_33 (lv_at hl 1 rfl) ?_
    refine lv_iconst (v := (-1)) hx hb dX8_jointFor_35 (by decide +kernel) ?_
    refine lv_icmp_ne (tgt := 53) hx hb dX8_jointFor_36 (by decide +kernel) (fun _ => ?_) (fun c9 => absurd c9 (by decide +kernel))
    refine lv_iconst (v := 0) hx hb dX8_jointFor_53 (by decide +kernel) ?_
    refine lv_istore (lv' := [(8, .int 0), (7, .int 3), (6, .int 0), (0, .ref m0), (1, .int (nI t)), (2, .int (nI B)), (3, .int (nI S)), (4, .int 31), (5, .int 0)]) hx hb dX8_jointFor_54 hl (by decide +kernel) rfl (fun ls hl => ?_)
    refine lv_iload hx hb dX8_jointFor_56 (lv_at hl 0 rfl) ?_
    refine lv_if_eq (tgt := 66) hx hb dX8_jointFor_58 (by decide +kernel) (fun _ => ?_) (fun c9 => absurd (by decide +kernel) c9)
    refine lv_iload hx hb dX8_jointFor_66 (lv_at hl 2 rfl) ?_
    refine lv_istore (lv' := [(6, .int 0), (8, .int 0), (7, .int 3), (0, .ref m0), (1, .int (nI t)), (2, .int (nI B)), (3, .int (nI S)), (4, .int 31), (5, .int 0)]) hx hb dX8_jointFor_68 hl (by decide +kernel) rfl (fun ls hl => ?_)
    refine lv_iinc (v := 4) (lv' := [(7, .int 4), (6, .int 0), (8, .int 0), (0, .ref m0), (1, .int (nI t)), (2, .int (nI B)), (3, .int (nI S)), (4, .int 31), (5, .int 0)]) hx hb dX8_jointFor_70 hl (k := 2) rfl (by decide +kernel) (by decide +kernel) rfl (fun ls hl => ?_)
    refine lv_goto (tgt := 6) hx hb dX8_jointFor_73 (by decide +kernel) ?_
    refine lv_iload hx hb dX8_jointFor_6 (lv_at hl 0 rfl) ?_
    refine lv_aload_n hx hb dX8_jointFor_8 rfl (lv_at hl 3 rfl) ?_
    refine z_get C (ci := 8) (N := 21) rfl hin8 hT 0 2 rfl rfl (by decide +kernel) (by decide +kernel) dX8_jointFor_9 ?_
    refine lv_iconst (v := 0) hx hb dX8_jointFor_12 (by decide +kernel) ?_
    refine z_iald C hT 1 0 rfl rfl (vin rfl) (v := 5) ((hF 0 (by decide)).trans rfl) dX8_jointFor_13 ?_
    refine lv_icmp_ge (tgt := 76) hx hb dX8_jointFor_14 (by decide +kernel) (fun c9 => absurd c9 (by decide +kernel)) (fun _ => ?_)
    refine lv_iload hx hb dX8_jointFor_17 (lv_at hl 7 rfl) ?_
    refine lv_iload hx hb dX8_jointFor_19 (lv_at hl 0 rfl) ?_
    refine lv_ishr hx hb dX8_jointFor_21 ?_
    refine z_eq (y := 1) (by decide +kernel) ?_
    refine lv_iconst (v := 1) hx hb dX8_jointFor_22 (by decide +kernel) ?_
    refine lv_iand hx hb dX8_jointFor_23 ?_
    refine z_eq (y := 1) (by decide +kernel) ?_
    refine lv_iconst (v := 1) hx hb dX8_jointFor_24 (by decide +kernel) ?_
    refine lv_icmp_ne (tgt := 53) hx hb dX8_jointFor_25 (by decide +kernel) (fun c9 => absurd c9 (by decide +kernel)) (fun _ => ?_)
    refine lv_iload hx hb dX8_jointFor_28 (lv_at hl 8 rfl) ?_
    refine lv_if_ne (tgt := 49) hx hb dX8_jointFor_30 (by decide +kernel) (fun c9 => absurd c9 (by decide +kernel)) (fun _ => ?_)
    refine lv_iload hx hb dX8_jointFor_33 (lv_at hl 1 rfl) ?_
    refine lv_iconst (v := (-1)) hx hb dX8_jointFor_35 (by decide +kernel) ?_
    refine lv_icmp_ne (tgt := 53) hx hb dX8_jointFor_36 (by decide +kernel) (fun _ => ?_) (fun c9 => absurd c9 (by decide +kernel))
    refine lv_iconst (v := 0) hx hb dX8_jointFor_53 (by decide +kernel) ?_
    refine lv_istore (lv' := [(8, .int 0), (7, .int 4), (6, .int 0), (0, .ref m0), (1, .int (nI t)), (2, .int (nI B)), (3, .int (nI S)), (4, .int 31), (5, .int 0)]) hx hb dX8_jointFor_54 hl (by decide +kernel) rfl (fun ls hl => ?_)
    refine lv_iload hx hb dX8_jointFor_56 (lv_at hl 0 rfl) ?_
    refine lv_if_eq (tgt := 66) hx hb dX8_jointFor_58 (by decide +kernel) (fun _ => ?_) (fun c9 => absurd (by decide +kernel) c9)
    refine lv_iload hx hb dX8_jointFor_66 (lv_at hl 2 rfl) ?_
    refine lv_istore (lv' := [(6, .int 0), (8, .int 0), (7, .int 4), (0, .ref m0), (1, .int (nI t)), (2, .int (nI B)), (3, .int (nI S)), (4, .int 31), (5, .int 0)]) hx hb dX8_jointFor_68 hl (by decide +kernel) rfl (fun ls hl => ?_)
    refine lv_iinc (v := 5) (lv' := [(7, .int 5), (6, .int 0), (8, .int 0), (0, .ref m0), (1, .int (nI t)), (2, .int (nI B)), (3, .int (nI S)), (4, .int 31), (5, .int 0)]) hx hb dX8_jointFor_70 hl (k := 2) rfl (by decide +kernel) (by decide +kernel) rfl (fun ls hl => ?_)
    refine lv_goto (tgt := 6) hx hb dX8_jointFor_73 (by decide +kernel) ?_
    refine lv_iload hx hb dX8_jointFor_6 (lv_at hl 0 rfl) ?_
    refine lv_aload_n hx hb dX8_jointFor_8 rfl (lv_at hl 3 rfl) ?_
    refine z_get C (ci := 8) (N := 21) rfl hin8 hT 0 2 rfl rfl (by decide +kernel) (by decide +kernel) dX8_jointFor_9 ?_
    refine lv_iconst (v := 0) hx hb dX8_jointFor_12 (by decide +kernel) ?_
    refine z_iald C hT 1 0 rfl rfl (vin rfl) (v := 5) ((hF 0 (by decide)).trans rfl) dX8_jointFor_13 ?_
    refine lv_icmp_ge (tgt := 76) hx hb dX8_jointFor_14 (by decide +kernel) (fun _ => ?_) (fun c9 => absurd (by decide +kernel) c9)
    refine lv_iload hx hb dX8_jointFor_76 (lv_at hl 1 rfl) ?_
    exact z_iret C rfl hT () (by unfold sM_jf; rw [if_neg c_46]) [0, 1] rfl rfl (Nat.le_of_ble_eq_true rfl) (Nat.le_of_ble_eq_true rfl) dX8_jointFor_78

def sM_jb (t B S : Nat) : Int32 := sM_jf t B S
set_option maxHeartbeats 4000000 in
set_option maxRecDepth 100000 in
theorem c_M_jointBy (l : Launch) (D : va_G) (g : Nat → ClassId) (m0 : Nat) (v : Nat → Nat) (ft : Nat → Int32) (hF : ∀ k, k < 29 → ft k = fr k) (t B S : Nat) : CtI l yX8_jointBy wsX8_jointBy { frames := 1, cells := 0, slots := 0, locals := 40 } D (TY g) [.ref m0, .int (nI t), .int (nI B), .int (nI S)] (fun _ => True) [(m0, .inr (8, [.ref (v 0), .int 0, .ref (v 1), .ref (v 2), .ref (v 3), .ref (v 4), .int 0, .ref (v 5), .ref (v 6), .ref (v 7), .int 0, .int 0, .int 0, .int 0, .int 0, .ref (v 8), .ref (v 9), .ref (v 10), .ref (v 11), .ref (v 12), .ref (v 13)])), ((v 1), .inl (g 0, 29, .inl ft))] (fun r (_ : Unit) => r = sM_jb t B S) (fun _ => [(m0, .inr (8, [.ref (v 0), .int 0, .ref (v 1), .ref (v 2), .ref (v 3), .ref (v 4), .int 0, .ref (v 5), .ref (v 6), .ref (v 7), .int 0, .int 0, .int 0, .int 0, .int 0, .ref (v 8), .ref (v 9), .ref (v 10), .ref (v 11), .ref (v 12), .ref (v 13)])), ((v 1), .inl (g 0, 29, .inl ft))]) := by
  refine CtI.intro (cc := cX8_jointBy) (maxL := 4) (ret := (some .int)) rfl (by decide +kernel) (Nat.le_of_ble_eq_true rfl) ?_
  intro p e s m below meth c A ls C hmn hX hAe hT hl
  have hx := C.1.1
  have hb := C.1.2.1
  have hl : lv_has ls 4 [(0, .ref m0), (1, .int (nI t)), (2, .int (nI B)), (3, .int (nI S))] := hl
  have hin8 : ∀ w ∈ u_ws RX8 TX8 21, w ∈ wsX8_jointBy := by decide +kernel
  refine lv_aload_n hx hb dX8_jointBy_0 rfl (lv_at hl 0 rfl) ?_
  refine lv_iload_n hx hb dX8_jointBy_1 rfl (lv_at hl 1 rfl) ?_
  refine lv_iload_n hx hb dX8_jointBy_2 rfl (lv_at hl 2 rfl) ?_
  refine lv_iload_n hx hb dX8_jointBy_3 rfl (lv_at hl 3 rfl) ?_
  refine lv_iconst (v := 1) hx hb dX8_jointBy_4 (by decide +kernel) ?_
  refine lv_aload_n hx hb dX8_jointBy_5 rfl (lv_at hl 0 rfl) ?_
  refine z_get C (ci := 8) (N := 21) rfl hin8 hT 0 2 rfl rfl (by decide +kernel) (by decide +kernel) dX8_jointBy_6 ?_
  refine lv_iconst (v := 0) hx hb dX8_jointBy_9 (by decide +kernel) ?_
  refine z_iald C hT 1 0 rfl rfl (vin rfl) (v := 5) ((hF 0 (by decide)).trans rfl) dX8_jointBy_10 ?_
  refine lv_ishl hx hb dX8_jointBy_11 ?_
  refine z_eq (y := 32) (by decide +kernel) ?_
  refine lv_iconst (v := 1) hx hb dX8_jointBy_12 (by decide +kernel) ?_
  refine lv_isub hx hb dX8_jointBy_13 ?_
  refine z_eq (y := 31) (by decide +kernel) ?_
  refine lv_iconst (v := 0) hx hb dX8_jointBy_14 (by decide +kernel) ?_
  refine z_callVI (wr := []) (n := 5) C (c_M_jointFor l D g m0 v ft hF t B S) gX8_jointBy_X8_jointFor rfl (by decide +kernel) ⟨Nat.le_of_ble_eq_true rfl, Nat.le_of_ble_eq_true rfl⟩ ⟨Nat.le_of_ble_eq_true rfl, Nat.le_of_ble_eq_true rfl⟩ blind_T (fun _ _ _ => trivial) hT [0, 1] [] rfl rfl rfl rfl rfl 0 rfl rfl rfl rfl hl.1 rfl (Nat.le_of_ble_eq_true rfl) dX8_jointBy_15 (fun r_3 u_1 H locs hp_2 hT => ?_)
  have hT : Sit D (TY g) A s [(m0, .inr (8, [.ref (v 0), .int 0, .ref (v 1), .ref (v 2), .ref (v 3), .ref (v 4), .int 0, .ref (v 5), .ref (v 6), .ref (v 7), .int 0, .int 0, .int 0, .int 0, .int 0, .ref (v 8), .ref (v 9), .ref (v 10), .ref (v 11), .ref (v 12), .ref (v 13)])), ((v 1), .inl (g 0, 29, .inl ft))] H _ := hT
  subst hp_2
  exact z_iret C rfl hT () rfl [0, 1] rfl rfl (Nat.le_of_ble_eq_true rfl) (Nat.le_of_ble_eq_true rfl) dX8_jointBy_18

def sM_isSo  : Int32 := 1
set_option maxHeartbeats 4000000 in
set_option maxRecDepth 100000 in
theorem c_M_isSo (l : Launch) (D : va_G) (g : Nat → ClassId) (m0 : Nat) (v : Nat → Nat) (p0 p1 : Int32) : CtI l yX8_isSo wsX8_isSo { frames := 0, cells := 0, slots := 0, locals := 0 } D (TY g) [.ref m0, .int p0, .int p1] (fun _ => True) [(m0, .inr (8, [.ref (v 0), .int 0, .ref (v 1), .ref (v 2), .ref (v 3), .ref (v 4), .int 0, .ref (v 5), .ref (v 6), .ref (v 7), .int 0, .int 0, .int 0, .int 0, .int 0, .ref (v 8), .ref (v 9), .ref (v 10), .ref (v 11), .ref (v 12), .ref (v 13)]))] (fun r (_ : Unit) => r = sM_isSo ) (fun _ => [(m0, .inr (8, [.ref (v 0), .int 0, .ref (v 1), .ref (v 2), .ref (v 3), .ref (v 4), .int 0, .ref (v 5), .ref (v 6), .ref (v 7), .int 0, .int 0, .int 0, .int 0, .int 0, .ref (v 8), .ref (v 9), .ref (v 10), .ref (v 11), .ref (v 12), .ref (v 13)]))]) := by
  refine CtI.intro (cc := cX8_isSo) (maxL := 5) (ret := (some .boolean)) rfl (by decide +kernel) (Nat.le_of_ble_eq_true rfl) ?_
  intro p e s m below meth c A ls C hmn hX hAe hT hl
  have hx := C.1.1
  have hb := C.1.2.1
  have hl : lv_has ls 5 [(0, .ref m0), (1, .int p0), (2, .int p1)] := hl
  have hin8 : ∀ w ∈ u_ws RX8 TX8 21, w ∈ wsX8_isSo := by decide +kernel
  refine lv_iconst (v := 1) hx hb dX8_isSo_0 (by decide +kernel) ?_
  refine lv_istore_n (lv' := [(3, .int 1), (0, .ref m0), (1, .int p0), (2, .int p1)]) hx hb dX8_isSo_1 rfl hl (by decide +kernel) rfl (fun ls hl => ?_)
  refine lv_iconst (v := 0) hx hb dX8_isSo_2 (by decide +kernel) ?_
  refine lv_istore (lv' := [(4, .int 0), (3, .int 1), (0, .ref m0), (1, .int p0), (2, .int p1)]) hx hb dX8_isSo_3 hl (by decide +kernel) rfl (fun ls hl => ?_)
  refine lv_iload hx hb dX8_isSo_5 (lv_at hl 0 rfl) ?_
  refine lv_aload_n hx hb dX8_isSo_7 rfl (lv_at hl 2 rfl) ?_
  refine z_get C (ci := 8) (N := 21) rfl hin8 hT 0 10 rfl rfl (by decide +kernel) (by decide +kernel) dX8_isSo_8 ?_
  refine lv_icmp_ge (tgt := 61) hx hb dX8_isSo_11 (by decide +kernel) (fun _ => ?_) (fun c9 => absurd (by decide +kernel) c9)
  refine lv_iload_n hx hb dX8_isSo_61 rfl (lv_at hl 1 rfl) ?_
  exact z_zret C rfl (by first | rfl | (split <;> rfl)) hT () rfl [0] rfl rfl (Nat.le_of_ble_eq_true rfl) (Nat.le_of_ble_eq_true rfl) dX8_isSo_62

theorem jb_is {t i j : Nat} (ht : t < 100) (hi : i < 100) (hj : j < 20) : sM_jb t i (j + 1) + 1 = nI (jv t (20 * i + j)) := by
  have e : ∀ k, tr k (20 * i + j) = i - k * (j + 1) := fun k => tr_at k i j hj
  unfold sM_jb sM_jf jv
  rw [e 0, e 1, e 2, e 3, e 4]
  by_cases c0 : i - 0 * (j + 1) ≤ t
  · rw [if_pos c0, if_neg (fun q => ((ltb (k := 0) (kk := 0) ht hi (by omega) (by decide) rfl).mp q) c0)]
    rfl
  · rw [if_neg c0, if_pos ((ltb (k := 0) (kk := 0) ht hi (by omega) (by decide) rfl).mpr c0)]
    by_cases c1 : i - 1 * (j + 1) ≤ t
    · rw [if_pos c1, if_neg (fun q => ((ltb (k := 1) (kk := 1) ht hi (by omega) (by decide) rfl).mp q) c1)]
      rfl
    · rw [if_neg c1, if_pos ((ltb (k := 1) (kk := 1) ht hi (by omega) (by decide) rfl).mpr c1)]
      by_cases c2 : i - 2 * (j + 1) ≤ t
      · rw [if_pos c2, if_neg (fun q => ((ltb (k := 2) (kk := 2) ht hi (by omega) (by decide) rfl).mp q) c2)]
        rfl
      · rw [if_neg c2, if_pos ((ltb (k := 2) (kk := 2) ht hi (by omega) (by decide) rfl).mpr c2)]
        by_cases c3 : i - 3 * (j + 1) ≤ t
        · rw [if_pos c3, if_neg (fun q => ((ltb (k := 3) (kk := 3) ht hi (by omega) (by decide) rfl).mp q) c3)]
          rfl
        · rw [if_neg c3, if_pos ((ltb (k := 3) (kk := 3) ht hi (by omega) (by decide) rfl).mpr c3)]
          by_cases c4 : i - 4 * (j + 1) ≤ t
          · rw [if_pos c4, if_neg (fun q => ((ltb (k := 4) (kk := 4) ht hi (by omega) (by decide) rfl).mp q) c4)]
            rfl
          · rw [if_neg c4, if_pos ((ltb (k := 4) (kk := 4) ht hi (by omega) (by decide) rfl).mpr c4)]
            rfl

def sM_scales (p0 : Int32) : Int32 := (if (if 0 ≤ p0 ∧ p0 ≤ 2 then (1 : Int32) else 0) = 0 then (-3) else (if p0 = 0 then nI 2000 else (if p0 = 1 then 0 else 1)))
set_option maxHeartbeats 4000000 in
set_option maxRecDepth 100000 in
/-- the model: scales, at first -/
theorem c_M_scales (l : Launch) (D : va_G) (g : Nat → ClassId) (m0 : Nat) (v : Nat → Nat) (p0 : Int32) : CtI l yX8_scales wsX8_scales { frames := 1, cells := 0, slots := 0, locals := 40 } D (TY g) [.ref m0, .int p0] (fun _ => True) [(m0, .inr (8, [.ref (v 0), .int 0, .ref (v 1), .ref (v 2), .ref (v 3), .ref (v 4), .int 0, .ref (v 5), .ref (v 6), .ref (v 7), .int 0, .int 0, .int 0, .int 0, .int 0, .ref (v 8), .ref (v 9), .ref (v 10), .ref (v 11), .ref (v 12), .ref (v 13)]))] (fun r (_ : Unit) => r = sM_scales p0) (fun _ => []) := by
  refine CtI.intro (cc := cX8_scales) (maxL := 7) (ret := (some .int)) rfl (by decide +kernel) (Nat.le_of_ble_eq_true rfl) ?_
  intro p e s m below meth c A ls C hmn hX hAe hT hl
  have hx := C.1.1
  have hb := C.1.2.1
  have hl : lv_has ls 7 [(0, .ref m0), (1, .int p0)] := hl
  refine lv_iload_n hx hb dX8_scales_0 rfl (lv_at hl 1 rfl) ?_
  refine lv_iconst (v := 0) hx hb dX8_scales_1 (by decide +kernel) ?_
  refine lv_iconst (v := 2) hx hb dX8_scales_2 (by decide +kernel) ?_
  refine z_callSI (wr := [(m0, .inr (8, [.ref (v 0), .int 0, .ref (v 1), .ref (v 2), .ref (v 3), .ref (v 4), .int 0, .ref (v 5), .ref (v 6), .ref (v 7), .int 0, .int 0, .int 0, .int 0, .int 0, .ref (v 8), .ref (v 9), .ref (v 10), .ref (v 11), .ref (v 12), .ref (v 13)]))]) (n := 3) (As := [.int p0, .int 0, .int 2]) C (c_M_in l D g p0 0 2) gX8_scales_X8_in rfl (by decide +kernel) ⟨Nat.le_of_ble_eq_true rfl, Nat.le_of_ble_eq_true rfl⟩ ⟨Nat.le_of_ble_eq_true rfl, Nat.le_of_ble_eq_true rfl⟩ blind_T (fun _ _ _ => trivial) hT [] [0] rfl rfl rfl rfl rfl rfl hl.1 rfl (Nat.le_of_ble_eq_true rfl) dX8_scales_3 (fun r_3 u_1 H locs hp_2 hT => ?_)
  have hT : Sit D (TY g) A s [(m0, .inr (8, [.ref (v 0), .int 0, .ref (v 1), .ref (v 2), .ref (v 3), .ref (v 4), .int 0, .ref (v 5), .ref (v 6), .ref (v 7), .int 0, .int 0, .int 0, .int 0, .int 0, .ref (v 8), .ref (v 9), .ref (v 10), .ref (v 11), .ref (v 12), .ref (v 13)]))] H _ := hT
  subst hp_2
  refine lv_if_ne (tgt := 12) hx hb dX8_scales_6 (by decide +kernel) (fun c_6 => ?_) (fun c_6 => ?_)
  · refine lv_iconst (v := 0) hx hb dX8_scales_12 (by decide +kernel) ?_
    refine lv_istore_n (lv' := [(2, .int 0), (0, .ref m0), (1, .int p0)]) hx hb dX8_scales_13 rfl hl (by decide +kernel) rfl (fun ls hl => ?_)
    refine lv_iconst (v := (-1)) hx hb dX8_scales_14 (by decide +kernel) ?_
    refine lv_istore_n (lv' := [(3, .int (-1)), (2, .int 0), (0, .ref m0), (1, .int p0)]) hx hb dX8_scales_15 rfl hl (by decide +kernel) rfl (fun ls hl => ?_)
    refine lv_bipush (v := 99) hx hb dX8_scales_16 (by decide +kernel) ?_
    refine lv_istore (lv' := [(4, .int 99), (3, .int (-1)), (2, .int 0), (0, .ref m0), (1, .int p0)]) hx hb dX8_scales_18 hl (by decide +kernel) rfl (fun ls hl => ?_)
    refine z_loop (α := Int32) (N := 100) (fun i a => 0 < i → a = 32 * nI (100 - i) + 1) (fun i a => [(m0, .inr (8, [.ref (v 0), .int 0, .ref (v 1), .ref (v 2), .ref (v 3), .ref (v 4), .int 0, .ref (v 5), .ref (v 6), .ref (v 7), .int 0, .int 0, .int 0, .int 0, .int 0, .ref (v 8), .ref (v 9), .ref (v 10), .ref (v 11), .ref (v 12), .ref (v 13)]))]) (fun i a => [(4, .int (nI (100 - i) + (-1))), (3, .int a), (2, .int (nI (20 * i))), (1, .int p0), (0, .ref m0)]) ?_ ?_ 0 (-1) (Nat.zero_le _) (fun h => absurd h (Nat.lt_irrefl 0)) _ _ _ hT (lv_sub hl [0, 1, 2, 4, 3] rfl)
    · intro i a H locs ls hi hI hT hl ih
      have hT : Sit D (TY g) A s [(m0, .inr (8, [.ref (v 0), .int 0, .ref (v 1), .ref (v 2), .ref (v 3), .ref (v 4), .int 0, .ref (v 5), .ref (v 6), .ref (v 7), .int 0, .int 0, .int 0, .int 0, .int 0, .ref (v 8), .ref (v 9), .ref (v 10), .ref (v 11), .ref (v 12), .ref (v 13)]))] H locs := hT
      have hl : lv_has ls _ [(4, .int (nI (100 - i) + (-1))), (3, .int a), (2, .int (nI (20 * i))), (1, .int p0), (0, .ref m0)] := hl
      have eb : nI (100 - i) + (-1) = nI (99 - i) := by rw [show 100 - i = (99 - i) + 1 by omega]; exact pk_m1 _
      rw [eb] at hl
      have hO := hI
      refine lv_iload hx hb dX8_scales_20 (lv_at hl 0 rfl) ?_
      refine lv_if_lt (tgt := 87) hx hb dX8_scales_22 (by decide +kernel) (fun c9 => absurd c9 (nI_pos (by omega))) (fun _ => ?_)
      refine lv_bipush (v := 20) hx hb dX8_scales_25 (by decide +kernel) ?_
      refine lv_istore (lv' := [(5, .int 20), (4, .int (nI (99 - i))), (3, .int a), (2, .int (nI (20 * i))), (1, .int p0), (0, .ref m0)]) hx hb dX8_scales_27 hl (by decide +kernel) rfl (fun ls hl => ?_)
      refine z_loop (α := Int32) (N := 20) (fun j a => 0 < j → a = 32 * nI (99 - i) + nI (21 - j)) (fun j a => [(m0, .inr (8, [.ref (v 0), .int 0, .ref (v 1), .ref (v 2), .ref (v 3), .ref (v 4), .int 0, .ref (v 5), .ref (v 6), .ref (v 7), .int 0, .int 0, .int 0, .int 0, .int 0, .ref (v 8), .ref (v 9), .ref (v 10), .ref (v 11), .ref (v 12), .ref (v 13)]))]) (fun j a => [(5, .int (nI (20 - j))), (4, .int (nI (99 - i))), (3, .int a), (2, .int (nI (20 * i + j))), (1, .int p0), (0, .ref m0)]) ?_ ?_ 0 a (Nat.zero_le _) (fun h => absurd h (Nat.lt_irrefl 0)) _ _ _ hT (lv_sub hl [0, 1, 2, 3, 4, 5] rfl)
      · intro j a H locs ls hj hI hT hl ih
        have hT : Sit D (TY g) A s [(m0, .inr (8, [.ref (v 0), .int 0, .ref (v 1), .ref (v 2), .ref (v 3), .ref (v 4), .int 0, .ref (v 5), .ref (v 6), .ref (v 7), .int 0, .int 0, .int 0, .int 0, .int 0, .ref (v 8), .ref (v 9), .ref (v 10), .ref (v 11), .ref (v 12), .ref (v 13)]))] H locs := hT
        have hl : lv_has ls _ [(5, .int (nI (20 - j))), (4, .int (nI (99 - i))), (3, .int a), (2, .int (nI (20 * i + j))), (1, .int p0), (0, .ref m0)] := hl
        refine lv_iload hx hb dX8_scales_29 (lv_at hl 0 rfl) ?_
        refine lv_if_le (tgt := 81) hx hb dX8_scales_31 (by decide +kernel) (fun c9 => absurd c9 (nI_nle (by omega) (by omega))) (fun _ => ?_)
        refine lv_aload_n hx hb dX8_scales_34 rfl (lv_at hl 5 rfl) ?_
        refine lv_iload hx hb dX8_scales_35 (lv_at hl 1 rfl) ?_
        refine lv_iload hx hb dX8_scales_37 (lv_at hl 0 rfl) ?_
        refine z_callVI (wr := []) (n := 2) C (c_M_isSo l D g m0 v (nI (99 - i)) (nI (20 - j))) gX8_scales_X8_isSo rfl (by decide +kernel) ⟨Nat.le_of_ble_eq_true rfl, Nat.le_of_ble_eq_true rfl⟩ ⟨Nat.le_of_ble_eq_true rfl, Nat.le_of_ble_eq_true rfl⟩ blind_T (fun _ _ _ => trivial) hT [0] [] rfl rfl rfl rfl rfl 0 rfl rfl rfl rfl hl.1 rfl (Nat.le_of_ble_eq_true rfl) dX8_scales_39 (fun r_6 u_4 H locs hp_5 hT => ?_)
        have hT : Sit D (TY g) A s [(m0, .inr (8, [.ref (v 0), .int 0, .ref (v 1), .ref (v 2), .ref (v 3), .ref (v 4), .int 0, .ref (v 5), .ref (v 6), .ref (v 7), .int 0, .int 0, .int 0, .int 0, .int 0, .ref (v 8), .ref (v 9), .ref (v 10), .ref (v 11), .ref (v 12), .ref (v 13)]))] H _ := hT
        have hp_5 := hp_5.trans (show sM_isSo = 1 from rfl)
        subst hp_5
        refine lv_istore (lv' := [(6, .int 1), (5, .int (nI (20 - j))), (4, .int (nI (99 - i))), (3, .int a), (2, .int (nI (20 * i + j))), (1, .int p0), (0, .ref m0)]) hx hb dX8_scales_42 hl (by decide +kernel) rfl (fun ls hl => ?_)
        refine lv_iload_n hx hb dX8_scales_44 rfl (lv_at hl 4 rfl) ?_
        refine lv_iload hx hb dX8_scales_45 (lv_at hl 0 rfl) ?_
        refine lv_if_eq (tgt := 54) hx hb dX8_scales_47 (by decide +kernel) (fun c9 => absurd c9 (by decide +kernel)) (fun _ => ?_)
        refine lv_iconst (v := 1) hx hb dX8_scales_50 (by decide +kernel) ?_
        refine lv_goto (tgt := 55) hx hb dX8_scales_51 (by decide +kernel) ?_
        refine lv_iadd hx hb dX8_scales_55 ?_
        refine z_eq (y := nI (20 * i + j + 1)) (nI_1 _) ?_
        refine lv_istore_n (lv' := [(2, .int (nI (20 * i + j + 1))), (6, .int 1), (5, .int (nI (20 - j))), (4, .int (nI (99 - i))), (3, .int a), (1, .int p0), (0, .ref m0)]) hx hb dX8_scales_56 rfl hl (by decide +kernel) rfl (fun ls hl => ?_)
        refine lv_iload hx hb dX8_scales_57 (lv_at hl 1 rfl) ?_
        refine lv_if_eq (tgt := 73) hx hb dX8_scales_59 (by decide +kernel) (fun c9 => absurd c9 (by decide +kernel)) (fun _ => ?_)
        refine lv_bipush (v := 32) hx hb dX8_scales_62 (by decide +kernel) ?_
        refine lv_iload hx hb dX8_scales_64 (lv_at hl 3 rfl) ?_
        refine lv_imul hx hb dX8_scales_66 ?_
        refine lv_iload hx hb dX8_scales_67 (lv_at hl 2 rfl) ?_
        refine lv_iadd hx hb dX8_scales_69 ?_
        refine lv_goto (tgt := 74) hx hb dX8_scales_70 (by decide +kernel) ?_
        refine lv_istore_n (lv' := [(3, .int ((32 * (nI (99 - i))) + (nI (20 - j)))), (2, .int (nI (20 * i + j + 1))), (6, .int 1), (5, .int (nI (20 - j))), (4, .int (nI (99 - i))), (1, .int p0), (0, .ref m0)]) hx hb dX8_scales_74 rfl hl (by decide +kernel) rfl (fun ls hl => ?_)
        refine lv_iinc (v := nI (20 - (j + 1))) (lv' := [(5, .int (nI (20 - (j + 1)))), (3, .int ((32 * (nI (99 - i))) + (nI (20 - j)))), (2, .int (nI (20 * i + j + 1))), (6, .int 1), (4, .int (nI (99 - i))), (1, .int p0), (0, .ref m0)]) hx hb dX8_scales_75 hl (k := 3) rfl (by rw [show 20 - j = (20 - (j + 1)) + 1 by omega]; exact dec1 _) (by decide +kernel) rfl (fun ls hl => ?_)
        refine lv_goto (tgt := 29) hx hb dX8_scales_78 (by decide +kernel) ?_
        exact ih ((32 * (nI (99 - i))) + (nI (20 - j))) _ _ _ (fun _ => by rw [show 21 - (j + 1) = 20 - j by omega]) hT (lv_sub hl [0, 4, 1, 2, 5, 6] rfl)
      · intro a H locs ls hI hT hl
        have hT : Sit D (TY g) A s [(m0, .inr (8, [.ref (v 0), .int 0, .ref (v 1), .ref (v 2), .ref (v 3), .ref (v 4), .int 0, .ref (v 5), .ref (v 6), .ref (v 7), .int 0, .int 0, .int 0, .int 0, .int 0, .ref (v 8), .ref (v 9), .ref (v 10), .ref (v 11), .ref (v 12), .ref (v 13)]))] H locs := hT
        have hl : lv_has ls _ [(5, .int (nI 0)), (4, .int (nI (99 - i))), (3, .int a), (2, .int (nI (20 * i + 20))), (1, .int p0), (0, .ref m0)] := hl
        refine lv_iload hx hb dX8_scales_29 (lv_at hl 0 rfl) ?_
        refine lv_if_le (tgt := 81) hx hb dX8_scales_31 (by decide +kernel) (fun _ => ?_) (fun c9 => absurd (by decide +kernel) c9)
        refine lv_iinc (v := nI (100 - (i + 1)) + (-1)) (lv' := [(4, .int (nI (100 - (i + 1)) + (-1))), (5, .int (nI 0)), (3, .int a), (2, .int (nI (20 * i + 20))), (1, .int p0), (0, .ref m0)]) hx hb dX8_scales_81 hl (k := 1) rfl (by rw [show 99 - i = 100 - (i + 1) by omega, show Int32.ofInt (-1) = -1 from by decide +kernel]) (by decide +kernel) rfl (fun ls hl => ?_)
        refine lv_goto (tgt := 20) hx hb dX8_scales_84 (by decide +kernel) ?_
        exact ih a _ _ _ (fun _ => by rw [hI (by decide), show 99 - i = 100 - (i + 1) by omega]; rfl) hT (lv_sub hl [0, 2, 3, 4, 5] rfl)
    · intro a H locs ls hI hT hl
      have hT : Sit D (TY g) A s [(m0, .inr (8, [.ref (v 0), .int 0, .ref (v 1), .ref (v 2), .ref (v 3), .ref (v 4), .int 0, .ref (v 5), .ref (v 6), .ref (v 7), .int 0, .int 0, .int 0, .int 0, .int 0, .ref (v 8), .ref (v 9), .ref (v 10), .ref (v 11), .ref (v 12), .ref (v 13)]))] H locs := hT
      have hl : lv_has ls _ [(4, .int (-1)), (3, .int a), (2, .int (nI 2000)), (1, .int p0), (0, .ref m0)] := hl
      have e1 : a = 1 := by rw [hI (by decide)]; decide +kernel
      subst e1
      have hl : lv_has ls _ [(4, .int (-1)), (3, .int 1), (2, .int (nI 2000)), (1, .int p0), (0, .ref m0)] := hl
      refine lv_iload hx hb dX8_scales_20 (lv_at hl 0 rfl) ?_
      refine lv_if_lt (tgt := 87) hx hb dX8_scales_22 (by decide +kernel) (fun _ => ?_) (fun c9 => absurd (by decide +kernel) c9)
      refine lv_iload_n hx hb dX8_scales_87 rfl (lv_at hl 3 rfl) ?_
      refine lv_if_ne (tgt := 95) hx hb dX8_scales_88 (by decide +kernel) (fun c_88 => ?_) (fun c_88 => ?_)
      · refine lv_iload_n hx hb dX8_scales_95 rfl (lv_at hl 1 rfl) ?_
        refine lv_iconst (v := (-1)) hx hb dX8_scales_96 (by decide +kernel) ?_
        refine lv_icmp_ne (tgt := 104) hx hb dX8_scales_97 (by decide +kernel) (fun _ => ?_) (fun c9 => absurd c9 (by decide +kernel))
        refine lv_iload_n hx hb dX8_scales_104 rfl (lv_at hl 3 rfl) ?_
        refine lv_iconst (v := 1) hx hb dX8_scales_105 (by decide +kernel) ?_
        refine lv_icmp_ne (tgt := 116) hx hb dX8_scales_106 (by decide +kernel) (fun c_106 => ?_) (fun c_106 => ?_)
        · refine lv_iload_n hx hb dX8_scales_116 rfl (lv_at hl 1 rfl) ?_
          refine lv_bipush (v := 32) hx hb dX8_scales_117 (by decide +kernel) ?_
          refine lv_irem hx hb dX8_scales_119 (by decide +kernel) ?_
          refine z_eq (y := 1) (by decide +kernel) ?_
          exact z_iret C rfl hT () (by unfold sM_scales; rw [if_neg c_6, if_neg c_88, if_neg c_106]) [] rfl rfl (Nat.le_of_ble_eq_true rfl) (Nat.le_of_ble_eq_true rfl) dX8_scales_120
        · refine lv_iload_n hx hb dX8_scales_109 rfl (lv_at hl 1 rfl) ?_
          refine lv_bipush (v := 32) hx hb dX8_scales_110 (by decide +kernel) ?_
          refine lv_idiv hx hb dX8_scales_112 (by decide +kernel) ?_
          refine z_eq (y := 0) (by decide +kernel) ?_
          refine lv_goto (tgt := 120) hx hb dX8_scales_113 (by decide +kernel) ?_
          exact z_iret C rfl hT () (by unfold sM_scales; rw [if_neg c_6, if_neg c_88, if_pos c_106]) [] rfl rfl (Nat.le_of_ble_eq_true rfl) (Nat.le_of_ble_eq_true rfl) dX8_scales_120
      · refine lv_iload_n hx hb dX8_scales_91 rfl (lv_at hl 2 rfl) ?_
        refine lv_goto (tgt := 120) hx hb dX8_scales_92 (by decide +kernel) ?_
        exact z_iret C rfl hT () (by unfold sM_scales; rw [if_neg c_6, if_pos c_88]) [] rfl rfl (Nat.le_of_ble_eq_true rfl) (Nat.le_of_ble_eq_true rfl) dX8_scales_120
  · refine lv_bipush (v := (-3)) hx hb dX8_scales_9 (by decide +kernel) ?_
    exact z_iret C rfl hT () (by unfold sM_scales; rw [if_pos c_6]) [] rfl rfl (Nat.le_of_ble_eq_true rfl) (Nat.le_of_ble_eq_true rfl) dX8_scales_11

theorem upd_fit {a : Nat → Int32} {i : Nat} (h : ∀ k, k < i → a k = 2097150) (h2 : a i = nI (2 ^ (20 + 1) - 2)) : ∀ k, k < i + 1 → a k = 2097150 := by
  intro k hk
  by_cases e : k = i
  · subst e
    rw [h2]
    decide +kernel
  · exact h k (by omega)
theorem grp_step {t n : Nat} {g : Nat → Int32} (h : ∀ q, q < 10 → g q = nI (gc q t n)) : ∀ q, q < 10 → upd g (jv t n) (nI (gc (jv t n) t (n + 1))) q = nI (gc q t (n + 1)) := by
  intro q hq
  by_cases e : q = jv t n
  · subst e
    exact upd_ss _ _ _
  · rw [upd_no _ e, gc_miss e]
    exact h q hq
theorem tg_fst {N : Nat} (hN : N = 100) : (tg N).1 = (tf N).1 := by
  obtain ⟨n, rfl⟩ : ∃ n, N = n + 1 := ⟨N - 1, by omega⟩
  rw [tg_tf]

set_option maxHeartbeats 4000000 in
set_option maxRecDepth 100000 in
/-- the model: tells, at first -/
theorem c_M_tells (l : Launch) (D : va_G) (g : Nat → ClassId) (m0 : Nat) (v : Nat → Nat) (ft : Nat → Int32) (hF : ∀ k, k < 29 → ft k = fr k) (N : Nat) (hN : N = 100) : CtI l yX8_tells wsX8_tells { frames := 2, cells := 0, slots := 0, locals := 80 } D (TY g) [.ref m0] (fun _ => True) [(m0, .inr (8, [.ref (v 0), .int 0, .ref (v 1), .ref (v 2), .ref (v 3), .ref (v 4), .int 0, .ref (v 5), .ref (v 6), .ref (v 7), .int 0, .int 0, .int 0, .int 0, .int 0, .ref (v 8), .ref (v 9), .ref (v 10), .ref (v 11), .ref (v 12), .ref (v 13)])), ((v 1), .inl (g 0, 29, .inl ft)), ((v 11), .inl (g 0, 100, .inl (fun _ => 0))), ((v 12), .inl (g 0, 10, .inl (fun _ => 0)))] (fun q (_ : Unit) => q = (tf N).1) (fun _ => []) := by
  refine CtI.intro (cc := cX8_tells) (maxL := 9) (ret := (some .int)) rfl (by decide +kernel) (Nat.le_of_ble_eq_true rfl) ?_
  intro p e s m below meth c A ls C hmn hX hAe hT hl
  have hx := C.1.1
  have hb := C.1.2.1
  have hl : lv_has ls 9 [(0, .ref m0)] := hl
  have hin8 : ∀ w ∈ u_ws RX8 TX8 21, w ∈ wsX8_tells := by decide +kernel
  refine lv_iconst (v := 0) hx hb dX8_tells_0 (by decide +kernel) ?_
  refine lv_istore_n (lv' := [(1, .int 0), (0, .ref m0)]) hx hb dX8_tells_1 rfl hl (by decide +kernel) rfl (fun ls hl => ?_)
  refine lv_iconst (v := 0) hx hb dX8_tells_2 (by decide +kernel) ?_
  refine lv_istore_n (lv' := [(2, .int 0), (1, .int 0), (0, .ref m0)]) hx hb dX8_tells_3 rfl hl (by decide +kernel) rfl (fun ls hl => ?_)
  refine z_loop (α := (Nat → Int32) × Int32) (N := 100) (fun i a => (∀ k, k < i → a.1 k = 2097150) ∧ a.2 = if i = 0 then 0 else 2097150) (fun i a => [(m0, .inr (8, [.ref (v 0), .int 0, .ref (v 1), .ref (v 2), .ref (v 3), .ref (v 4), .int 0, .ref (v 5), .ref (v 6), .ref (v 7), .int 0, .int 0, .int 0, .int 0, .int 0, .ref (v 8), .ref (v 9), .ref (v 10), .ref (v 11), .ref (v 12), .ref (v 13)])), ((v 1), .inl (g 0, 29, .inl ft)), ((v 11), .inl (g 0, 100, .inl a.1)), ((v 12), .inl (g 0, 10, .inl (fun _ => 0)))]) (fun i a => [(2, .int (nI i)), (1, .int a.2), (0, .ref m0)]) ?_ ?_ 0 ((fun _ => 0), 0) (Nat.zero_le _) (⟨fun k h => absurd h (Nat.not_lt_zero k), rfl⟩) _ _ _ hT (lv_sub hl [0, 1, 2] rfl)
  · intro i a H locs ls hi hI hT hl ih
    have hT : Sit D (TY g) A s [(m0, .inr (8, [.ref (v 0), .int 0, .ref (v 1), .ref (v 2), .ref (v 3), .ref (v 4), .int 0, .ref (v 5), .ref (v 6), .ref (v 7), .int 0, .int 0, .int 0, .int 0, .int 0, .ref (v 8), .ref (v 9), .ref (v 10), .ref (v 11), .ref (v 12), .ref (v 13)])), ((v 1), .inl (g 0, 29, .inl ft)), ((v 11), .inl (g 0, 100, .inl a.1)), ((v 12), .inl (g 0, 10, .inl (fun _ => 0)))] H locs := hT
    have hl : lv_has ls _ [(2, .int (nI i)), (1, .int a.2), (0, .ref m0)] := hl
    have hO := hI
    obtain ⟨b0, eb0⟩ : ∃ z, z = a := ⟨_, rfl⟩
    rw [← eb0] at hT hl hI hO
    clear eb0
    refine lv_iload_n hx hb dX8_tells_4 rfl (lv_at hl 0 rfl) ?_
    refine lv_bipush (v := 100) hx hb dX8_tells_5 (by decide +kernel) ?_
    refine lv_icmp_ge (tgt := 71) hx hb dX8_tells_7 (by decide +kernel) (fun c9 => absurd c9 (lp_no (N := 100) (by decide +kernel) (by omega) (by decide +kernel))) (fun _ => ?_)
    refine lv_aload_n hx hb dX8_tells_10 rfl (lv_at hl 2 rfl) ?_
    refine z_get C (ci := 8) (N := 21) rfl hin8 hT 0 18 rfl rfl (by decide +kernel) (by decide +kernel) dX8_tells_11 ?_
    refine lv_iload_n hx hb dX8_tells_14 rfl (lv_at hl 0 rfl) ?_
    refine lv_iconst (v := 0) hx hb dX8_tells_15 (by decide +kernel) ?_
    refine z_iast C hT 2 0 rfl rfl (vp_in_nI (by omega) (by decide +kernel)) dX8_tells_16 (upd b0.1 i 0) (by rw [nI_clamp (by omega)]) [(m0, .inr (8, [.ref (v 0), .int 0, .ref (v 1), .ref (v 2), .ref (v 3), .ref (v 4), .int 0, .ref (v 5), .ref (v 6), .ref (v 7), .int 0, .int 0, .int 0, .int 0, .int 0, .ref (v 8), .ref (v 9), .ref (v 10), .ref (v 11), .ref (v 12), .ref (v 13)])), ((v 1), .inl (g 0, 29, .inl ft)), ((v 11), .inl (g 0, 100, .inl (upd b0.1 i 0))), ((v 12), .inl (g 0, 10, .inl (fun _ => 0)))] rfl (fun H locs hT => ?_)
    refine lv_iconst (v := 1) hx hb dX8_tells_17 (by decide +kernel) ?_
    refine lv_istore_n (lv' := [(3, .int 1), (2, .int (nI i)), (1, .int b0.2), (0, .ref m0)]) hx hb dX8_tells_18 rfl hl (by decide +kernel) rfl (fun ls hl => ?_)
    refine z_loop (α := Nat → Int32) (N := 20) (fun j a => (∀ k, k < i → a k = 2097150) ∧ a i = nI (2 ^ (j + 1) - 2)) (fun j a => [(m0, .inr (8, [.ref (v 0), .int 0, .ref (v 1), .ref (v 2), .ref (v 3), .ref (v 4), .int 0, .ref (v 5), .ref (v 6), .ref (v 7), .int 0, .int 0, .int 0, .int 0, .int 0, .ref (v 8), .ref (v 9), .ref (v 10), .ref (v 11), .ref (v 12), .ref (v 13)])), ((v 1), .inl (g 0, 29, .inl ft)), ((v 11), .inl (g 0, 100, .inl a)), ((v 12), .inl (g 0, 10, .inl (fun _ => 0)))]) (fun j a => [(3, .int (nI (j + 1))), (2, .int (nI i)), (1, .int b0.2), (0, .ref m0)]) ?_ ?_ 0 (upd b0.1 i 0) (Nat.zero_le _) (⟨fun k hk => (upd_no _ (by omega)).trans (hI.1 k hk), upd_ss _ _ _⟩) _ _ _ hT (lv_sub hl [0, 1, 2, 3] rfl)
    · intro j a H locs ls hj hI hT hl ih
      have hT : Sit D (TY g) A s [(m0, .inr (8, [.ref (v 0), .int 0, .ref (v 1), .ref (v 2), .ref (v 3), .ref (v 4), .int 0, .ref (v 5), .ref (v 6), .ref (v 7), .int 0, .int 0, .int 0, .int 0, .int 0, .ref (v 8), .ref (v 9), .ref (v 10), .ref (v 11), .ref (v 12), .ref (v 13)])), ((v 1), .inl (g 0, 29, .inl ft)), ((v 11), .inl (g 0, 100, .inl a)), ((v 12), .inl (g 0, 10, .inl (fun _ => 0)))] H locs := hT
      have hl : lv_has ls _ [(3, .int (nI (j + 1))), (2, .int (nI i)), (1, .int b0.2), (0, .ref m0)] := hl
      refine lv_iload_n hx hb dX8_tells_19 rfl (lv_at hl 0 rfl) ?_
      refine lv_bipush (v := 21) hx hb dX8_tells_20 (by decide +kernel) ?_
      refine lv_icmp_ge (tgt := 56) hx hb dX8_tells_22 (by decide +kernel) (fun c9 => absurd c9 (lp_no (N := 21) (by decide +kernel) (by omega) (by decide +kernel))) (fun _ => ?_)
      refine lv_aload_n hx hb dX8_tells_25 rfl (lv_at hl 3 rfl) ?_
      refine z_get C (ci := 8) (N := 21) rfl hin8 hT 0 18 rfl rfl (by decide +kernel) (by decide +kernel) dX8_tells_26 ?_
      refine lv_iload_n hx hb dX8_tells_29 rfl (lv_at hl 1 rfl) ?_
      refine lv_dup2_11 hx hb dX8_tells_30 rfl rfl ?_
      refine z_iald C hT 2 0 rfl rfl (vp_in_nI (by omega) (by decide +kernel)) (v := nI (2 ^ (j + 1) - 2)) ((congrArg _ (nI_clamp (by omega))).trans hI.2) dX8_tells_31 ?_
      refine lv_aload_n hx hb dX8_tells_32 rfl (lv_at hl 3 rfl) ?_
      refine lv_iload_n hx hb dX8_tells_33 rfl (lv_at hl 1 rfl) ?_
      refine lv_iload_n hx hb dX8_tells_34 rfl (lv_at hl 0 rfl) ?_
      refine z_callVI (wr := [((v 1), .inl (g 0, 29, .inl ft)), ((v 11), .inl (g 0, 100, .inl a)), ((v 12), .inl (g 0, 10, .inl (fun _ => 0)))]) (n := 2) C (c_M_isSo l D g m0 v (nI i) (nI (j + 1))) gX8_tells_X8_isSo rfl (by decide +kernel) ⟨Nat.le_of_ble_eq_true rfl, Nat.le_of_ble_eq_true rfl⟩ ⟨Nat.le_of_ble_eq_true rfl, Nat.le_of_ble_eq_true rfl⟩ blind_T (fun _ _ _ => trivial) hT [0] [1, 2, 3] rfl rfl rfl rfl rfl 0 rfl rfl rfl rfl hl.1 rfl (Nat.le_of_ble_eq_true rfl) dX8_tells_35 (fun r_3 u_1 H locs hp_2 hT => ?_)
      have hT : Sit D (TY g) A s [((v 1), .inl (g 0, 29, .inl ft)), ((v 11), .inl (g 0, 100, .inl a)), ((v 12), .inl (g 0, 10, .inl (fun _ => 0))), (m0, .inr (8, [.ref (v 0), .int 0, .ref (v 1), .ref (v 2), .ref (v 3), .ref (v 4), .int 0, .ref (v 5), .ref (v 6), .ref (v 7), .int 0, .int 0, .int 0, .int 0, .int 0, .ref (v 8), .ref (v 9), .ref (v 10), .ref (v 11), .ref (v 12), .ref (v 13)]))] H _ := hT
      have hp_2 := hp_2.trans (show sM_isSo = 1 from rfl)
      subst hp_2
      refine lv_if_eq (tgt := 47) hx hb dX8_tells_38 (by decide +kernel) (fun c9 => absurd c9 (by decide +kernel)) (fun _ => ?_)
      refine lv_iconst (v := 1) hx hb dX8_tells_41 (by decide +kernel) ?_
      refine lv_iload_n hx hb dX8_tells_42 rfl (lv_at hl 0 rfl) ?_
      refine lv_ishl hx hb dX8_tells_43 ?_
      refine lv_goto (tgt := 48) hx hb dX8_tells_44 (by decide +kernel) ?_
      refine lv_ior hx hb dX8_tells_48 ?_
      refine z_iast C hT 1 0 rfl rfl (vp_in_nI (by omega) (by decide +kernel)) dX8_tells_49 (upd a i ((nI (2 ^ (j + 1) - 2)) ||| (1 <<< ((nI (j + 1)) &&& 31)))) (by rw [nI_clamp (by omega)]) [((v 1), .inl (g 0, 29, .inl ft)), ((v 11), .inl (g 0, 100, .inl (upd a i ((nI (2 ^ (j + 1) - 2)) ||| (1 <<< ((nI (j + 1)) &&& 31)))))), ((v 12), .inl (g 0, 10, .inl (fun _ => 0))), (m0, .inr (8, [.ref (v 0), .int 0, .ref (v 1), .ref (v 2), .ref (v 3), .ref (v 4), .int 0, .ref (v 5), .ref (v 6), .ref (v 7), .int 0, .int 0, .int 0, .int 0, .int 0, .ref (v 8), .ref (v 9), .ref (v 10), .ref (v 11), .ref (v 12), .ref (v 13)]))] rfl (fun H locs hT => ?_)
      refine lv_iinc (v := nI ((j + 1) + 1)) (lv' := [(3, .int (nI ((j + 1) + 1))), (2, .int (nI i)), (1, .int b0.2), (0, .ref m0)]) hx hb dX8_tells_50 hl (k := 0) rfl (inc1 _) (by decide +kernel) rfl (fun ls hl => ?_)
      refine lv_goto (tgt := 19) hx hb dX8_tells_53 (by decide +kernel) ?_
      exact ih (upd a i ((nI (2 ^ (j + 1) - 2)) ||| (1 <<< ((nI (j + 1)) &&& 31)))) _ _ _ (⟨fun k hk => (upd_no _ (by omega)).trans (hI.1 k hk), (upd_ss _ _ _).trans (orb j hj)⟩) (hT.sub [(m0, .inr (8, [.ref (v 0), .int 0, .ref (v 1), .ref (v 2), .ref (v 3), .ref (v 4), .int 0, .ref (v 5), .ref (v 6), .ref (v 7), .int 0, .int 0, .int 0, .int 0, .int 0, .ref (v 8), .ref (v 9), .ref (v 10), .ref (v 11), .ref (v 12), .ref (v 13)])), ((v 1), .inl (g 0, 29, .inl ft)), ((v 11), .inl (g 0, 100, .inl (upd a i ((nI (2 ^ (j + 1) - 2)) ||| (1 <<< ((nI (j + 1)) &&& 31)))))), ((v 12), .inl (g 0, 10, .inl (fun _ => 0)))] [3, 0, 1, 2] rfl rfl) (lv_sub hl [0, 1, 2, 3] rfl)
    · intro a H locs ls hI hT hl
      have hT : Sit D (TY g) A s [(m0, .inr (8, [.ref (v 0), .int 0, .ref (v 1), .ref (v 2), .ref (v 3), .ref (v 4), .int 0, .ref (v 5), .ref (v 6), .ref (v 7), .int 0, .int 0, .int 0, .int 0, .int 0, .ref (v 8), .ref (v 9), .ref (v 10), .ref (v 11), .ref (v 12), .ref (v 13)])), ((v 1), .inl (g 0, 29, .inl ft)), ((v 11), .inl (g 0, 100, .inl a)), ((v 12), .inl (g 0, 10, .inl (fun _ => 0)))] H locs := hT
      have hl : lv_has ls _ [(3, .int (nI 21)), (2, .int (nI i)), (1, .int b0.2), (0, .ref m0)] := hl
      refine lv_iload_n hx hb dX8_tells_19 rfl (lv_at hl 0 rfl) ?_
      refine lv_bipush (v := 21) hx hb dX8_tells_20 (by decide +kernel) ?_
      refine lv_icmp_ge (tgt := 56) hx hb dX8_tells_22 (by decide +kernel) (fun _ => ?_) (fun c9 => absurd (by decide +kernel) c9)
      refine lv_iload_n hx hb dX8_tells_56 rfl (lv_at hl 2 rfl) ?_
      refine lv_aload_n hx hb dX8_tells_57 rfl (lv_at hl 3 rfl) ?_
      refine z_get C (ci := 8) (N := 21) rfl hin8 hT 0 18 rfl rfl (by decide +kernel) (by decide +kernel) dX8_tells_58 ?_
      refine lv_iload_n hx hb dX8_tells_61 rfl (lv_at hl 1 rfl) ?_
      refine z_iald C hT 2 0 rfl rfl (vp_in_nI (by omega) (by decide +kernel)) (v := 2097150) ((congrArg _ (nI_clamp (by omega))).trans (hI.2.trans (by decide +kernel))) dX8_tells_62 ?_
      refine lv_ior hx hb dX8_tells_63 ?_
      refine lv_istore_n (lv' := [(1, .int (b0.2 ||| 2097150)), (3, .int (nI 21)), (2, .int (nI i)), (0, .ref m0)]) hx hb dX8_tells_64 rfl hl (by decide +kernel) rfl (fun ls hl => ?_)
      refine lv_iinc (v := nI (i + 1)) (lv' := [(2, .int (nI (i + 1))), (1, .int (b0.2 ||| 2097150)), (3, .int (nI 21)), (0, .ref m0)]) hx hb dX8_tells_65 hl (k := 2) rfl (inc1 _) (by decide +kernel) rfl (fun ls hl => ?_)
      refine lv_goto (tgt := 4) hx hb dX8_tells_68 (by decide +kernel) ?_
      exact ih (a, b0.2 ||| 2097150) _ _ _ (⟨upd_fit hI.1 hI.2, fits_all hO.2⟩) hT (lv_sub hl [0, 1, 3] rfl)
  · intro a H locs ls hI hT hl
    have hT : Sit D (TY g) A s [(m0, .inr (8, [.ref (v 0), .int 0, .ref (v 1), .ref (v 2), .ref (v 3), .ref (v 4), .int 0, .ref (v 5), .ref (v 6), .ref (v 7), .int 0, .int 0, .int 0, .int 0, .int 0, .ref (v 8), .ref (v 9), .ref (v 10), .ref (v 11), .ref (v 12), .ref (v 13)])), ((v 1), .inl (g 0, 29, .inl ft)), ((v 11), .inl (g 0, 100, .inl a.1)), ((v 12), .inl (g 0, 10, .inl (fun _ => 0)))] H locs := hT
    have hl : lv_has ls _ [(2, .int (nI 100)), (1, .int a.2), (0, .ref m0)] := hl
    obtain ⟨fit, al⟩ := a
    have e2 : al = 2097150 := hI.2
    subst e2
    have hfit : ∀ k, k < 100 → fit k = 2097150 := hI.1
    have hl : lv_has ls _ [(2, .int (nI 100)), (1, .int 2097150), (0, .ref m0)] := hl
    have hT : Sit D (TY g) A s [(m0, .inr (8, [.ref (v 0), .int 0, .ref (v 1), .ref (v 2), .ref (v 3), .ref (v 4), .int 0, .ref (v 5), .ref (v 6), .ref (v 7), .int 0, .int 0, .int 0, .int 0, .int 0, .ref (v 8), .ref (v 9), .ref (v 10), .ref (v 11), .ref (v 12), .ref (v 13)])), ((v 1), .inl (g 0, 29, .inl ft)), ((v 11), .inl (g 0, 100, .inl fit)), ((v 12), .inl (g 0, 10, .inl (fun _ => 0)))] H _ := hT
    refine lv_iload_n hx hb dX8_tells_4 rfl (lv_at hl 0 rfl) ?_
    refine lv_bipush (v := 100) hx hb dX8_tells_5 (by decide +kernel) ?_
    refine lv_icmp_ge (tgt := 71) hx hb dX8_tells_7 (by decide +kernel) (fun _ => ?_) (fun c9 => absurd (by decide +kernel) c9)
    refine lv_iconst (v := (-1)) hx hb dX8_tells_71 (by decide +kernel) ?_
    refine lv_istore_n (lv' := [(2, .int (-1)), (1, .int 2097150), (0, .ref m0)]) hx hb dX8_tells_72 rfl hl (by decide +kernel) rfl (fun ls hl => ?_)
    refine lv_sipush (v := 9999) hx hb dX8_tells_73 (by decide +kernel) ?_
    refine lv_istore_n (lv' := [(3, .int 9999), (2, .int (-1)), (1, .int 2097150), (0, .ref m0)]) hx hb dX8_tells_76 rfl hl (by decide +kernel) rfl (fun ls hl => ?_)
    refine lv_iconst (v := 0) hx hb dX8_tells_77 (by decide +kernel) ?_
    refine lv_istore (lv' := [(4, .int 0), (3, .int 9999), (2, .int (-1)), (1, .int 2097150), (0, .ref m0)]) hx hb dX8_tells_78 hl (by decide +kernel) rfl (fun ls hl => ?_)
    refine z_loop (α := Int32 × Nat × (Nat → Int32)) (N := 100) (fun t a => ∀ M : Nat, M = t → (a.1, a.2.1) = tg M) (fun t a => [(m0, .inr (8, [.ref (v 0), .int 0, .ref (v 1), .ref (v 2), .ref (v 3), .ref (v 4), .int 0, .ref (v 5), .ref (v 6), .ref (v 7), .int 0, .int 0, .int 0, .int 0, .int 0, .ref (v 8), .ref (v 9), .ref (v 10), .ref (v 11), .ref (v 12), .ref (v 13)])), ((v 1), .inl (g 0, 29, .inl ft)), ((v 11), .inl (g 0, 100, .inl fit)), ((v 12), .inl (g 0, 10, .inl a.2.2))]) (fun t a => [(4, .int (nI t)), (3, .int (nI a.2.1)), (2, .int a.1), (1, .int 2097150), (0, .ref m0)]) ?_ ?_ 0 ((-1), 9999, (fun _ => 0)) (Nat.zero_le _) (fun M hM => by subst hM; rfl) _ _ _ hT (lv_sub hl [0, 1, 2, 3, 4] rfl)
    · intro t a H locs ls ht hI hT hl ih
      have hT : Sit D (TY g) A s [(m0, .inr (8, [.ref (v 0), .int 0, .ref (v 1), .ref (v 2), .ref (v 3), .ref (v 4), .int 0, .ref (v 5), .ref (v 6), .ref (v 7), .int 0, .int 0, .int 0, .int 0, .int 0, .ref (v 8), .ref (v 9), .ref (v 10), .ref (v 11), .ref (v 12), .ref (v 13)])), ((v 1), .inl (g 0, 29, .inl ft)), ((v 11), .inl (g 0, 100, .inl fit)), ((v 12), .inl (g 0, 10, .inl a.2.2))] H locs := hT
      have hl : lv_has ls _ [(4, .int (nI t)), (3, .int (nI a.2.1)), (2, .int a.1), (1, .int 2097150), (0, .ref m0)] := hl
      obtain ⟨fnd, few, gr⟩ := a
      have hJ : (fnd, few) = tg t := hI t rfl
      have hl : lv_has ls _ [(4, .int (nI t)), (3, .int (nI few)), (2, .int fnd), (1, .int 2097150), (0, .ref m0)] := hl
      have hT : Sit D (TY g) A s [(m0, .inr (8, [.ref (v 0), .int 0, .ref (v 1), .ref (v 2), .ref (v 3), .ref (v 4), .int 0, .ref (v 5), .ref (v 6), .ref (v 7), .int 0, .int 0, .int 0, .int 0, .int 0, .ref (v 8), .ref (v 9), .ref (v 10), .ref (v 11), .ref (v 12), .ref (v 13)])), ((v 1), .inl (g 0, 29, .inl ft)), ((v 11), .inl (g 0, 100, .inl fit)), ((v 12), .inl (g 0, 10, .inl gr))] H _ := hT
      refine lv_iload hx hb dX8_tells_80 (lv_at hl 0 rfl) ?_
      refine lv_bipush (v := 100) hx hb dX8_tells_82 (by decide +kernel) ?_
      refine lv_icmp_ge (tgt := 259) hx hb dX8_tells_84 (by decide +kernel) (fun c9 => absurd c9 (lp_no (N := 100) (by decide +kernel) (by omega) (by decide +kernel))) (fun _ => ?_)
      refine lv_iload_n hx hb dX8_tells_87 rfl (lv_at hl 3 rfl) ?_
      refine lv_if_eq (tgt := 259) hx hb dX8_tells_88 (by decide +kernel) (fun c9 => absurd c9 (by decide +kernel)) (fun _ => ?_)
      refine lv_iconst (v := 0) hx hb dX8_tells_91 (by decide +kernel) ?_
      refine lv_istore (lv' := [(5, .int 0), (4, .int (nI t)), (3, .int (nI few)), (2, .int fnd), (1, .int 2097150), (0, .ref m0)]) hx hb dX8_tells_92 hl (by decide +kernel) rfl (fun ls hl => ?_)
      refine lv_iconst (v := 0) hx hb dX8_tells_94 (by decide +kernel) ?_
      refine lv_istore (lv' := [(6, .int 0), (5, .int 0), (4, .int (nI t)), (3, .int (nI few)), (2, .int fnd), (1, .int 2097150), (0, .ref m0)]) hx hb dX8_tells_95 hl (by decide +kernel) rfl (fun ls hl => ?_)
      refine z_loop (α := Nat → Int32) (N := 10) (fun k a => ∀ q, q < k → a q = 0) (fun k a => [(m0, .inr (8, [.ref (v 0), .int 0, .ref (v 1), .ref (v 2), .ref (v 3), .ref (v 4), .int 0, .ref (v 5), .ref (v 6), .ref (v 7), .int 0, .int 0, .int 0, .int 0, .int 0, .ref (v 8), .ref (v 9), .ref (v 10), .ref (v 11), .ref (v 12), .ref (v 13)])), ((v 1), .inl (g 0, 29, .inl ft)), ((v 11), .inl (g 0, 100, .inl fit)), ((v 12), .inl (g 0, 10, .inl a))]) (fun k a => [(6, .int (nI k)), (5, .int 0), (4, .int (nI t)), (3, .int (nI few)), (2, .int fnd), (1, .int 2097150), (0, .ref m0)]) ?_ ?_ 0 gr (Nat.zero_le _) (fun k h => absurd h (Nat.not_lt_zero k)) _ _ _ hT (lv_sub hl [0, 1, 2, 3, 4, 5, 6] rfl)
      · intro k a H locs ls hk hI hT hl ih
        have hT : Sit D (TY g) A s [(m0, .inr (8, [.ref (v 0), .int 0, .ref (v 1), .ref (v 2), .ref (v 3), .ref (v 4), .int 0, .ref (v 5), .ref (v 6), .ref (v 7), .int 0, .int 0, .int 0, .int 0, .int 0, .ref (v 8), .ref (v 9), .ref (v 10), .ref (v 11), .ref (v 12), .ref (v 13)])), ((v 1), .inl (g 0, 29, .inl ft)), ((v 11), .inl (g 0, 100, .inl fit)), ((v 12), .inl (g 0, 10, .inl a))] H locs := hT
        have hl : lv_has ls _ [(6, .int (nI k)), (5, .int 0), (4, .int (nI t)), (3, .int (nI few)), (2, .int fnd), (1, .int 2097150), (0, .ref m0)] := hl
        refine lv_iload hx hb dX8_tells_97 (lv_at hl 0 rfl) ?_
        refine lv_bipush (v := 10) hx hb dX8_tells_99 (by decide +kernel) ?_
        refine lv_icmp_ge (tgt := 118) hx hb dX8_tells_101 (by decide +kernel) (fun c9 => absurd c9 (lp_no (N := 10) (by decide +kernel) (by omega) (by decide +kernel))) (fun _ => ?_)
        refine lv_aload_n hx hb dX8_tells_104 rfl (lv_at hl 6 rfl) ?_
        refine z_get C (ci := 8) (N := 21) rfl hin8 hT 0 19 rfl rfl (by decide +kernel) (by decide +kernel) dX8_tells_105 ?_
        refine lv_iload hx hb dX8_tells_108 (lv_at hl 0 rfl) ?_
        refine lv_iconst (v := 0) hx hb dX8_tells_110 (by decide +kernel) ?_
        refine z_iast C hT 3 0 rfl rfl (vp_in_nI (by omega) (by decide +kernel)) dX8_tells_111 (upd a k 0) (by rw [nI_clamp (by omega)]) [(m0, .inr (8, [.ref (v 0), .int 0, .ref (v 1), .ref (v 2), .ref (v 3), .ref (v 4), .int 0, .ref (v 5), .ref (v 6), .ref (v 7), .int 0, .int 0, .int 0, .int 0, .int 0, .ref (v 8), .ref (v 9), .ref (v 10), .ref (v 11), .ref (v 12), .ref (v 13)])), ((v 1), .inl (g 0, 29, .inl ft)), ((v 11), .inl (g 0, 100, .inl fit)), ((v 12), .inl (g 0, 10, .inl (upd a k 0)))] rfl (fun H locs hT => ?_)
        refine lv_iinc (v := nI (k + 1)) (lv' := [(6, .int (nI (k + 1))), (5, .int 0), (4, .int (nI t)), (3, .int (nI few)), (2, .int fnd), (1, .int 2097150), (0, .ref m0)]) hx hb dX8_tells_112 hl (k := 0) rfl (inc1 _) (by decide +kernel) rfl (fun ls hl => ?_)
        refine lv_goto (tgt := 97) hx hb dX8_tells_115 (by decide +kernel) ?_
        exact ih (upd a k 0) _ _ _ (upd_lt (F := fun _ => 0) hI rfl) hT (lv_sub hl [0, 1, 2, 3, 4, 5, 6] rfl)
      · intro a H locs ls hI hT hl
        have hT : Sit D (TY g) A s [(m0, .inr (8, [.ref (v 0), .int 0, .ref (v 1), .ref (v 2), .ref (v 3), .ref (v 4), .int 0, .ref (v 5), .ref (v 6), .ref (v 7), .int 0, .int 0, .int 0, .int 0, .int 0, .ref (v 8), .ref (v 9), .ref (v 10), .ref (v 11), .ref (v 12), .ref (v 13)])), ((v 1), .inl (g 0, 29, .inl ft)), ((v 11), .inl (g 0, 100, .inl fit)), ((v 12), .inl (g 0, 10, .inl a))] H locs := hT
        have hl : lv_has ls _ [(6, .int (nI 10)), (5, .int 0), (4, .int (nI t)), (3, .int (nI few)), (2, .int fnd), (1, .int 2097150), (0, .ref m0)] := hl
        refine lv_iload hx hb dX8_tells_97 (lv_at hl 0 rfl) ?_
        refine lv_bipush (v := 10) hx hb dX8_tells_99 (by decide +kernel) ?_
        refine lv_icmp_ge (tgt := 118) hx hb dX8_tells_101 (by decide +kernel) (fun _ => ?_) (fun c9 => absurd (by decide +kernel) c9)
        refine lv_iconst (v := 0) hx hb dX8_tells_118 (by decide +kernel) ?_
        refine lv_istore (lv' := [(6, .int 0), (5, .int 0), (4, .int (nI t)), (3, .int (nI few)), (2, .int fnd), (1, .int 2097150), (0, .ref m0)]) hx hb dX8_tells_119 hl (by decide +kernel) rfl (fun ls hl => ?_)
        refine z_loop (α := Nat × (Nat → Int32)) (N := 100) (fun i a => a.1 = gm t (20 * i) ∧ ∀ q, q < 10 → a.2 q = nI (gc q t (20 * i))) (fun i a => [(m0, .inr (8, [.ref (v 0), .int 0, .ref (v 1), .ref (v 2), .ref (v 3), .ref (v 4), .int 0, .ref (v 5), .ref (v 6), .ref (v 7), .int 0, .int 0, .int 0, .int 0, .int 0, .ref (v 8), .ref (v 9), .ref (v 10), .ref (v 11), .ref (v 12), .ref (v 13)])), ((v 1), .inl (g 0, 29, .inl ft)), ((v 11), .inl (g 0, 100, .inl fit)), ((v 12), .inl (g 0, 10, .inl a.2))]) (fun i a => [(6, .int (nI i)), (5, .int (nI a.1)), (4, .int (nI t)), (3, .int (nI few)), (2, .int fnd), (1, .int 2097150), (0, .ref m0)]) ?_ ?_ 0 (0, a) (Nat.zero_le _) (⟨rfl, fun q hq => hI q hq⟩) _ _ _ hT (lv_sub hl [0, 1, 2, 3, 4, 5, 6] rfl)
        · intro i a H locs ls hi hI hT hl ih
          have hT : Sit D (TY g) A s [(m0, .inr (8, [.ref (v 0), .int 0, .ref (v 1), .ref (v 2), .ref (v 3), .ref (v 4), .int 0, .ref (v 5), .ref (v 6), .ref (v 7), .int 0, .int 0, .int 0, .int 0, .int 0, .ref (v 8), .ref (v 9), .ref (v 10), .ref (v 11), .ref (v 12), .ref (v 13)])), ((v 1), .inl (g 0, 29, .inl ft)), ((v 11), .inl (g 0, 100, .inl fit)), ((v 12), .inl (g 0, 10, .inl a.2))] H locs := hT
          have hl : lv_has ls _ [(6, .int (nI i)), (5, .int (nI a.1)), (4, .int (nI t)), (3, .int (nI few)), (2, .int fnd), (1, .int 2097150), (0, .ref m0)] := hl
          refine lv_iload hx hb dX8_tells_121 (lv_at hl 0 rfl) ?_
          refine lv_bipush (v := 100) hx hb dX8_tells_123 (by decide +kernel) ?_
          refine lv_icmp_ge (tgt := 227) hx hb dX8_tells_125 (by decide +kernel) (fun c9 => absurd c9 (lp_no (N := 100) (by decide +kernel) (by omega) (by decide +kernel))) (fun _ => ?_)
          refine lv_iconst (v := 1) hx hb dX8_tells_128 (by decide +kernel) ?_
          refine lv_istore (lv' := [(7, .int 1), (6, .int (nI i)), (5, .int (nI a.1)), (4, .int (nI t)), (3, .int (nI few)), (2, .int fnd), (1, .int 2097150), (0, .ref m0)]) hx hb dX8_tells_129 hl (by decide +kernel) rfl (fun ls hl => ?_)
          refine z_loop (α := Nat × (Nat → Int32)) (N := 20) (fun j a => a.1 = gm t (20 * i + j) ∧ ∀ q, q < 10 → a.2 q = nI (gc q t (20 * i + j))) (fun j a => [(m0, .inr (8, [.ref (v 0), .int 0, .ref (v 1), .ref (v 2), .ref (v 3), .ref (v 4), .int 0, .ref (v 5), .ref (v 6), .ref (v 7), .int 0, .int 0, .int 0, .int 0, .int 0, .ref (v 8), .ref (v 9), .ref (v 10), .ref (v 11), .ref (v 12), .ref (v 13)])), ((v 1), .inl (g 0, 29, .inl ft)), ((v 11), .inl (g 0, 100, .inl fit)), ((v 12), .inl (g 0, 10, .inl a.2))]) (fun j a => [(7, .int (nI (j + 1))), (6, .int (nI i)), (5, .int (nI a.1)), (4, .int (nI t)), (3, .int (nI few)), (2, .int fnd), (1, .int 2097150), (0, .ref m0)]) ?_ ?_ 0 a (Nat.zero_le _) hI _ _ _ hT (lv_sub hl [0, 1, 2, 3, 4, 5, 6, 7] rfl)
          · intro j a H locs ls hj hI hT hl ih
            have hT : Sit D (TY g) A s [(m0, .inr (8, [.ref (v 0), .int 0, .ref (v 1), .ref (v 2), .ref (v 3), .ref (v 4), .int 0, .ref (v 5), .ref (v 6), .ref (v 7), .int 0, .int 0, .int 0, .int 0, .int 0, .ref (v 8), .ref (v 9), .ref (v 10), .ref (v 11), .ref (v 12), .ref (v 13)])), ((v 1), .inl (g 0, 29, .inl ft)), ((v 11), .inl (g 0, 100, .inl fit)), ((v 12), .inl (g 0, 10, .inl a.2))] H locs := hT
            have hl : lv_has ls _ [(7, .int (nI (j + 1))), (6, .int (nI i)), (5, .int (nI a.1)), (4, .int (nI t)), (3, .int (nI few)), (2, .int fnd), (1, .int 2097150), (0, .ref m0)] := hl
            have hjv := jv_le t (20 * i + j)
            refine lv_iload hx hb dX8_tells_131 (lv_at hl 0 rfl) ?_
            refine lv_bipush (v := 21) hx hb dX8_tells_133 (by decide +kernel) ?_
            refine lv_icmp_ge (tgt := 221) hx hb dX8_tells_135 (by decide +kernel) (fun c9 => absurd c9 (lp_no (N := 21) (by decide +kernel) (by omega) (by decide +kernel))) (fun _ => ?_)
            refine lv_aload_n hx hb dX8_tells_138 rfl (lv_at hl 7 rfl) ?_
            refine z_get C (ci := 8) (N := 21) rfl hin8 hT 0 18 rfl rfl (by decide +kernel) (by decide +kernel) dX8_tells_139 ?_
            refine lv_iload hx hb dX8_tells_142 (lv_at hl 1 rfl) ?_
            refine z_iald C hT 2 0 rfl rfl (vp_in_nI (by omega) (by decide +kernel)) (v := 2097150) ((congrArg _ (nI_clamp (by omega))).trans (hfit i hi)) dX8_tells_144 ?_
            refine lv_if_eq (tgt := 221) hx hb dX8_tells_145 (by decide +kernel) (fun c9 => absurd c9 (by decide +kernel)) (fun _ => ?_)
            refine lv_aload_n hx hb dX8_tells_148 rfl (lv_at hl 7 rfl) ?_
            refine z_get C (ci := 8) (N := 21) rfl hin8 hT 0 18 rfl rfl (by decide +kernel) (by decide +kernel) dX8_tells_149 ?_
            refine lv_iload hx hb dX8_tells_152 (lv_at hl 1 rfl) ?_
            refine z_iald C hT 2 0 rfl rfl (vp_in_nI (by omega) (by decide +kernel)) (v := 2097150) ((congrArg _ (nI_clamp (by omega))).trans (hfit i hi)) dX8_tells_154 ?_
            refine lv_iload hx hb dX8_tells_155 (lv_at hl 0 rfl) ?_
            refine lv_ishr hx hb dX8_tells_157 ?_
            refine lv_iconst (v := 1) hx hb dX8_tells_158 (by decide +kernel) ?_
            refine lv_iand hx hb dX8_tells_159 ?_
            refine z_eq (y := 1) (shb j hj) ?_
            refine lv_iconst (v := 1) hx hb dX8_tells_160 (by decide +kernel) ?_
            refine lv_icmp_ne (tgt := 215) hx hb dX8_tells_161 (by decide +kernel) (fun c9 => absurd c9 (by decide +kernel)) (fun _ => ?_)
            refine lv_aload_n hx hb dX8_tells_164 rfl (lv_at hl 7 rfl) ?_
            refine lv_iload hx hb dX8_tells_165 (lv_at hl 3 rfl) ?_
            refine lv_iload hx hb dX8_tells_167 (lv_at hl 1 rfl) ?_
            refine lv_iload hx hb dX8_tells_169 (lv_at hl 0 rfl) ?_
            refine z_callVI (wr := [((v 11), .inl (g 0, 100, .inl fit)), ((v 12), .inl (g 0, 10, .inl a.2))]) (n := 3) C (c_M_jointBy l D g m0 v ft hF t i (j + 1)) gX8_tells_X8_jointBy rfl (by decide +kernel) ⟨Nat.le_of_ble_eq_true rfl, Nat.le_of_ble_eq_true rfl⟩ ⟨Nat.le_of_ble_eq_true rfl, Nat.le_of_ble_eq_true rfl⟩ blind_T (fun _ _ _ => trivial) hT [0, 1] [2, 3] rfl rfl rfl rfl rfl 0 rfl rfl rfl rfl hl.1 rfl (Nat.le_of_ble_eq_true rfl) dX8_tells_171 (fun r_6 u_4 H locs hp_5 hT => ?_)
            have hT : Sit D (TY g) A s [((v 11), .inl (g 0, 100, .inl fit)), ((v 12), .inl (g 0, 10, .inl a.2)), (m0, .inr (8, [.ref (v 0), .int 0, .ref (v 1), .ref (v 2), .ref (v 3), .ref (v 4), .int 0, .ref (v 5), .ref (v 6), .ref (v 7), .int 0, .int 0, .int 0, .int 0, .int 0, .ref (v 8), .ref (v 9), .ref (v 10), .ref (v 11), .ref (v 12), .ref (v 13)])), ((v 1), .inl (g 0, 29, .inl ft))] H _ := hT
            subst hp_5
            refine lv_iconst (v := 1) hx hb dX8_tells_174 (by decide +kernel) ?_
            refine lv_iadd hx hb dX8_tells_175 ?_
            refine z_eq (y := nI (jv t (20 * i + j))) (jb_is ht hi hj) ?_
            refine lv_istore (lv' := [(8, .int (nI (jv t (20 * i + j)))), (7, .int (nI (j + 1))), (6, .int (nI i)), (5, .int (nI a.1)), (4, .int (nI t)), (3, .int (nI few)), (2, .int fnd), (1, .int 2097150), (0, .ref m0)]) hx hb dX8_tells_176 hl (by decide +kernel) rfl (fun ls hl => ?_)
            refine lv_aload_n hx hb dX8_tells_178 rfl (lv_at hl 8 rfl) ?_
            refine z_get C (ci := 8) (N := 21) rfl hin8 hT 2 19 rfl rfl (by decide +kernel) (by decide +kernel) dX8_tells_179 ?_
            refine lv_iload hx hb dX8_tells_182 (lv_at hl 0 rfl) ?_
            refine lv_dup2_11 hx hb dX8_tells_184 rfl rfl ?_
            refine z_iald C hT 1 0 rfl rfl (vp_in_nI (by omega) (by decide +kernel)) (v := nI (gc (jv t (20 * i + j)) t (20 * i + j))) ((congrArg _ (nI_clamp (by omega))).trans (hI.2 _ (by omega))) dX8_tells_185 ?_
            refine lv_iconst (v := 1) hx hb dX8_tells_186 (by decide +kernel) ?_
            refine lv_iadd hx hb dX8_tells_187 ?_
            refine z_eq (y := nI (gc (jv t (20 * i + j)) t ((20 * i + j) + 1))) (gc_hit t (20 * i + j)) ?_
            refine z_iast C hT 1 0 rfl rfl (vp_in_nI (by omega) (by decide +kernel)) dX8_tells_188 (upd a.2 (jv t (20 * i + j)) (nI (gc (jv t (20 * i + j)) t ((20 * i + j) + 1)))) (by rw [nI_clamp (by omega)]) [((v 11), .inl (g 0, 100, .inl fit)), ((v 12), .inl (g 0, 10, .inl (upd a.2 (jv t (20 * i + j)) (nI (gc (jv t (20 * i + j)) t ((20 * i + j) + 1)))))), (m0, .inr (8, [.ref (v 0), .int 0, .ref (v 1), .ref (v 2), .ref (v 3), .ref (v 4), .int 0, .ref (v 5), .ref (v 6), .ref (v 7), .int 0, .int 0, .int 0, .int 0, .int 0, .ref (v 8), .ref (v 9), .ref (v 10), .ref (v 11), .ref (v 12), .ref (v 13)])), ((v 1), .inl (g 0, 29, .inl ft))] rfl (fun H locs hT => ?_)
            refine lv_aload_n hx hb dX8_tells_189 rfl (lv_at hl 8 rfl) ?_
            refine z_get C (ci := 8) (N := 21) rfl hin8 hT 2 19 rfl rfl (by decide +kernel) (by decide +kernel) dX8_tells_190 ?_
            refine lv_iload hx hb dX8_tells_193 (lv_at hl 0 rfl) ?_
            refine z_iald C hT 1 0 rfl rfl (vp_in_nI (by omega) (by decide +kernel)) (v := nI (gc (jv t (20 * i + j)) t ((20 * i + j) + 1))) ((congrArg _ (nI_clamp (by omega))).trans (upd_ss _ _ _)) dX8_tells_195 ?_
            refine lv_iload hx hb dX8_tells_196 (lv_at hl 3 rfl) ?_
            have g1 := gc_le (jv t (20 * i + j)) t ((20 * i + j) + 1)
            have g2 : a.1 ≤ (20 * i + j) := by rw [hI.1]; exact gm_le t _
            refine lv_icmp_le (tgt := 211) hx hb dX8_tells_198 (by decide +kernel) (fun c_198 => ?_) (fun c_198 => ?_)
            · have hle : gc (jv t (20 * i + j)) t ((20 * i + j) + 1) ≤ gm t (20 * i + j) := by rw [← hI.1]; exact (nI_leI (by omega) (by omega)).mp c_198
              refine lv_iload hx hb dX8_tells_211 (lv_at hl 3 rfl) ?_
              refine lv_istore (lv' := [(5, .int (nI a.1)), (8, .int (nI (jv t (20 * i + j)))), (7, .int (nI (j + 1))), (6, .int (nI i)), (4, .int (nI t)), (3, .int (nI few)), (2, .int fnd), (1, .int 2097150), (0, .ref m0)]) hx hb dX8_tells_213 hl (by decide +kernel) rfl (fun ls hl => ?_)
              refine lv_iinc (v := nI ((j + 1) + 1)) (lv' := [(7, .int (nI ((j + 1) + 1))), (5, .int (nI a.1)), (8, .int (nI (jv t (20 * i + j)))), (6, .int (nI i)), (4, .int (nI t)), (3, .int (nI few)), (2, .int fnd), (1, .int 2097150), (0, .ref m0)]) hx hb dX8_tells_215 hl (k := 2) rfl (inc1 _) (by decide +kernel) rfl (fun ls hl => ?_)
              refine lv_goto (tgt := 131) hx hb dX8_tells_218 (by decide +kernel) ?_
              exact ih (a.1, upd a.2 (jv t (20 * i + j)) (nI (gc (jv t (20 * i + j)) t ((20 * i + j) + 1)))) _ _ _ (⟨by show _ = max (gm t (20 * i + j)) (gc (jv t (20 * i + j)) t ((20 * i + j) + 1)); first | (rw [Nat.max_eq_left hle]; exact hI.1) | rw [Nat.max_eq_right hle], grp_step hI.2⟩) (hT.sub [(m0, .inr (8, [.ref (v 0), .int 0, .ref (v 1), .ref (v 2), .ref (v 3), .ref (v 4), .int 0, .ref (v 5), .ref (v 6), .ref (v 7), .int 0, .int 0, .int 0, .int 0, .int 0, .ref (v 8), .ref (v 9), .ref (v 10), .ref (v 11), .ref (v 12), .ref (v 13)])), ((v 1), .inl (g 0, 29, .inl ft)), ((v 11), .inl (g 0, 100, .inl fit)), ((v 12), .inl (g 0, 10, .inl (upd a.2 (jv t (20 * i + j)) (nI (gc (jv t (20 * i + j)) t ((20 * i + j) + 1))))))] [2, 3, 0, 1] rfl rfl) (lv_sub hl [0, 3, 1, 4, 5, 6, 7, 8] rfl)
            · have hle : gm t (20 * i + j) ≤ gc (jv t (20 * i + j)) t ((20 * i + j) + 1) := by rw [← hI.1]; exact Nat.le_of_lt (Nat.lt_of_not_le (fun q => c_198 (nI_le q (by omega))))
              refine lv_aload_n hx hb dX8_tells_201 rfl (lv_at hl 8 rfl) ?_
              refine z_get C (ci := 8) (N := 21) rfl hin8 hT 2 19 rfl rfl (by decide +kernel) (by decide +kernel) dX8_tells_202 ?_
              refine lv_iload hx hb dX8_tells_205 (lv_at hl 0 rfl) ?_
              refine z_iald C hT 1 0 rfl rfl (vp_in_nI (by omega) (by decide +kernel)) (v := nI (gc (jv t (20 * i + j)) t ((20 * i + j) + 1))) ((congrArg _ (nI_clamp (by omega))).trans (upd_ss _ _ _)) dX8_tells_207 ?_
              refine lv_goto (tgt := 213) hx hb dX8_tells_208 (by decide +kernel) ?_
              refine lv_istore (lv' := [(5, .int (nI (gc (jv t (20 * i + j)) t ((20 * i + j) + 1)))), (8, .int (nI (jv t (20 * i + j)))), (7, .int (nI (j + 1))), (6, .int (nI i)), (4, .int (nI t)), (3, .int (nI few)), (2, .int fnd), (1, .int 2097150), (0, .ref m0)]) hx hb dX8_tells_213 hl (by decide +kernel) rfl (fun ls hl => ?_)
              refine lv_iinc (v := nI ((j + 1) + 1)) (lv' := [(7, .int (nI ((j + 1) + 1))), (5, .int (nI (gc (jv t (20 * i + j)) t ((20 * i + j) + 1)))), (8, .int (nI (jv t (20 * i + j)))), (6, .int (nI i)), (4, .int (nI t)), (3, .int (nI few)), (2, .int fnd), (1, .int 2097150), (0, .ref m0)]) hx hb dX8_tells_215 hl (k := 2) rfl (inc1 _) (by decide +kernel) rfl (fun ls hl => ?_)
              refine lv_goto (tgt := 131) hx hb dX8_tells_218 (by decide +kernel) ?_
              exact ih ((gc (jv t (20 * i + j)) t ((20 * i + j) + 1)), upd a.2 (jv t (20 * i + j)) (nI (gc (jv t (20 * i + j)) t ((20 * i + j) + 1)))) _ _ _ (⟨by show _ = max (gm t (20 * i + j)) (gc (jv t (20 * i + j)) t ((20 * i + j) + 1)); first | (rw [Nat.max_eq_left hle]; exact hI.1) | rw [Nat.max_eq_right hle], grp_step hI.2⟩) (hT.sub [(m0, .inr (8, [.ref (v 0), .int 0, .ref (v 1), .ref (v 2), .ref (v 3), .ref (v 4), .int 0, .ref (v 5), .ref (v 6), .ref (v 7), .int 0, .int 0, .int 0, .int 0, .int 0, .ref (v 8), .ref (v 9), .ref (v 10), .ref (v 11), .ref (v 12), .ref (v 13)])), ((v 1), .inl (g 0, 29, .inl ft)), ((v 11), .inl (g 0, 100, .inl fit)), ((v 12), .inl (g 0, 10, .inl (upd a.2 (jv t (20 * i + j)) (nI (gc (jv t (20 * i + j)) t ((20 * i + j) + 1))))))] [2, 3, 0, 1] rfl rfl) (lv_sub hl [0, 3, 1, 4, 5, 6, 7, 8] rfl)
          · intro a H locs ls hI hT hl
            have hT : Sit D (TY g) A s [(m0, .inr (8, [.ref (v 0), .int 0, .ref (v 1), .ref (v 2), .ref (v 3), .ref (v 4), .int 0, .ref (v 5), .ref (v 6), .ref (v 7), .int 0, .int 0, .int 0, .int 0, .int 0, .ref (v 8), .ref (v 9), .ref (v 10), .ref (v 11), .ref (v 12), .ref (v 13)])), ((v 1), .inl (g 0, 29, .inl ft)), ((v 11), .inl (g 0, 100, .inl fit)), ((v 12), .inl (g 0, 10, .inl a.2))] H locs := hT
            have hl : lv_has ls _ [(7, .int (nI 21)), (6, .int (nI i)), (5, .int (nI a.1)), (4, .int (nI t)), (3, .int (nI few)), (2, .int fnd), (1, .int 2097150), (0, .ref m0)] := hl
            refine lv_iload hx hb dX8_tells_131 (lv_at hl 0 rfl) ?_
            refine lv_bipush (v := 21) hx hb dX8_tells_133 (by decide +kernel) ?_
            refine lv_icmp_ge (tgt := 221) hx hb dX8_tells_135 (by decide +kernel) (fun _ => ?_) (fun c9 => absurd (by decide +kernel) c9)
            refine lv_iinc (v := nI (i + 1)) (lv' := [(6, .int (nI (i + 1))), (7, .int (nI 21)), (5, .int (nI a.1)), (4, .int (nI t)), (3, .int (nI few)), (2, .int fnd), (1, .int 2097150), (0, .ref m0)]) hx hb dX8_tells_221 hl (k := 1) rfl (inc1 _) (by decide +kernel) rfl (fun ls hl => ?_)
            refine lv_goto (tgt := 121) hx hb dX8_tells_224 (by decide +kernel) ?_
            exact ih a _ _ _ hI hT (lv_sub hl [0, 2, 3, 4, 5, 6, 7] rfl)
        · intro a H locs ls hI hT hl
          have hT : Sit D (TY g) A s [(m0, .inr (8, [.ref (v 0), .int 0, .ref (v 1), .ref (v 2), .ref (v 3), .ref (v 4), .int 0, .ref (v 5), .ref (v 6), .ref (v 7), .int 0, .int 0, .int 0, .int 0, .int 0, .ref (v 8), .ref (v 9), .ref (v 10), .ref (v 11), .ref (v 12), .ref (v 13)])), ((v 1), .inl (g 0, 29, .inl ft)), ((v 11), .inl (g 0, 100, .inl fit)), ((v 12), .inl (g 0, 10, .inl a.2))] H locs := hT
          have hl : lv_has ls _ [(6, .int (nI 100)), (5, .int (nI a.1)), (4, .int (nI t)), (3, .int (nI few)), (2, .int fnd), (1, .int 2097150), (0, .ref m0)] := hl
          obtain ⟨b, eb⟩ : ∃ z, z = a := ⟨_, rfl⟩
          rw [← eb] at hT hl hI
          have hmx : b.1 = mxv t := hI.1.trans (gm_mxv t)
          have m1 := mxv_le t
          have m2 : few ≤ 9999 := by rw [show few = (tg t).2 from congrArg Prod.snd hJ]; exact tg_le t
          refine lv_iload hx hb dX8_tells_121 (lv_at hl 0 rfl) ?_
          refine lv_bipush (v := 100) hx hb dX8_tells_123 (by decide +kernel) ?_
          refine lv_icmp_ge (tgt := 227) hx hb dX8_tells_125 (by decide +kernel) (fun _ => ?_) (fun c9 => absurd (by decide +kernel) c9)
          refine lv_iload hx hb dX8_tells_227 (lv_at hl 1 rfl) ?_
          refine lv_iload_n hx hb dX8_tells_229 rfl (lv_at hl 3 rfl) ?_
          refine lv_icmp_ge (tgt := 238) hx hb dX8_tells_230 (by decide +kernel) (fun c_230 => ?_) (fun c_230 => ?_)
          · have hlt : ¬ mxv t < (tg t).2 := by rw [← show few = (tg t).2 from congrArg Prod.snd hJ, ← hmx]; intro q; exact absurd c_230 (nI_ge q (by omega))
            refine lv_iload_n hx hb dX8_tells_238 rfl (lv_at hl 4 rfl) ?_
            refine lv_istore_n (lv' := [(2, .int fnd), (6, .int (nI 100)), (5, .int (nI b.1)), (4, .int (nI t)), (3, .int (nI few)), (1, .int 2097150), (0, .ref m0)]) hx hb dX8_tells_239 rfl hl (by decide +kernel) rfl (fun ls hl => ?_)
            refine lv_iload hx hb dX8_tells_240 (lv_at hl 2 rfl) ?_
            refine lv_iload_n hx hb dX8_tells_242 rfl (lv_at hl 4 rfl) ?_
            refine lv_icmp_ge (tgt := 251) hx hb dX8_tells_243 (by decide +kernel) (fun _ => ?_) (fun c9 => absurd c_230 c9)
            refine lv_iload_n hx hb dX8_tells_251 rfl (lv_at hl 4 rfl) ?_
            refine lv_istore_n (lv' := [(3, .int (nI few)), (2, .int fnd), (6, .int (nI 100)), (5, .int (nI b.1)), (4, .int (nI t)), (1, .int 2097150), (0, .ref m0)]) hx hb dX8_tells_252 rfl hl (by decide +kernel) rfl (fun ls hl => ?_)
            refine lv_iinc (v := nI (t + 1)) (lv' := [(4, .int (nI (t + 1))), (3, .int (nI few)), (2, .int fnd), (6, .int (nI 100)), (5, .int (nI b.1)), (1, .int 2097150), (0, .ref m0)]) hx hb dX8_tells_253 hl (k := 4) rfl (inc1 _) (by decide +kernel) rfl (fun ls hl => ?_)
            refine lv_goto (tgt := 80) hx hb dX8_tells_256 (by decide +kernel) ?_
            exact ih (fnd, few, b.2) _ _ _ (fun M hM => by subst hM; rw [tg]; first | (rw [if_pos hlt, ← hmx]; done) | (rw [if_neg hlt]; exact hJ)) hT (lv_sub hl [0, 1, 2, 5, 6] rfl)
          · have hlt : mxv t < (tg t).2 := by rw [← show few = (tg t).2 from congrArg Prod.snd hJ, ← hmx]; exact Nat.lt_of_not_le (fun q => c_230 (nI_le q (by omega)))
            refine lv_iload hx hb dX8_tells_233 (lv_at hl 2 rfl) ?_
            refine lv_goto (tgt := 239) hx hb dX8_tells_235 (by decide +kernel) ?_
            refine lv_istore_n (lv' := [(2, .int (nI t)), (6, .int (nI 100)), (5, .int (nI b.1)), (4, .int (nI t)), (3, .int (nI few)), (1, .int 2097150), (0, .ref m0)]) hx hb dX8_tells_239 rfl hl (by decide +kernel) rfl (fun ls hl => ?_)
            refine lv_iload hx hb dX8_tells_240 (lv_at hl 2 rfl) ?_
            refine lv_iload_n hx hb dX8_tells_242 rfl (lv_at hl 4 rfl) ?_
            refine lv_icmp_ge (tgt := 251) hx hb dX8_tells_243 (by decide +kernel) (fun c9 => absurd c9 c_230) (fun _ => ?_)
            refine lv_iload hx hb dX8_tells_246 (lv_at hl 2 rfl) ?_
            refine lv_goto (tgt := 252) hx hb dX8_tells_248 (by decide +kernel) ?_
            refine lv_istore_n (lv' := [(3, .int (nI b.1)), (2, .int (nI t)), (6, .int (nI 100)), (5, .int (nI b.1)), (4, .int (nI t)), (1, .int 2097150), (0, .ref m0)]) hx hb dX8_tells_252 rfl hl (by decide +kernel) rfl (fun ls hl => ?_)
            refine lv_iinc (v := nI (t + 1)) (lv' := [(4, .int (nI (t + 1))), (3, .int (nI b.1)), (2, .int (nI t)), (6, .int (nI 100)), (5, .int (nI b.1)), (1, .int 2097150), (0, .ref m0)]) hx hb dX8_tells_253 hl (k := 4) rfl (inc1 _) (by decide +kernel) rfl (fun ls hl => ?_)
            refine lv_goto (tgt := 80) hx hb dX8_tells_256 (by decide +kernel) ?_
            exact ih (nI t, b.1, b.2) _ _ _ (fun M hM => by subst hM; rw [tg]; first | (rw [if_pos hlt, ← hmx]; done) | (rw [if_neg hlt]; exact hJ)) hT (lv_sub hl [0, 1, 2, 5, 6] rfl)
    · intro a H locs ls hI hT hl
      have hT : Sit D (TY g) A s [(m0, .inr (8, [.ref (v 0), .int 0, .ref (v 1), .ref (v 2), .ref (v 3), .ref (v 4), .int 0, .ref (v 5), .ref (v 6), .ref (v 7), .int 0, .int 0, .int 0, .int 0, .int 0, .ref (v 8), .ref (v 9), .ref (v 10), .ref (v 11), .ref (v 12), .ref (v 13)])), ((v 1), .inl (g 0, 29, .inl ft)), ((v 11), .inl (g 0, 100, .inl fit)), ((v 12), .inl (g 0, 10, .inl a.2.2))] H locs := hT
      have hl : lv_has ls _ [(4, .int (nI 100)), (3, .int (nI a.2.1)), (2, .int a.1), (1, .int 2097150), (0, .ref m0)] := hl
      refine lv_iload hx hb dX8_tells_80 (lv_at hl 0 rfl) ?_
      refine lv_bipush (v := 100) hx hb dX8_tells_82 (by decide +kernel) ?_
      refine lv_icmp_ge (tgt := 259) hx hb dX8_tells_84 (by decide +kernel) (fun _ => ?_) (fun c9 => absurd (by decide +kernel) c9)
      refine lv_iload_n hx hb dX8_tells_259 rfl (lv_at hl 2 rfl) ?_
      exact z_iret C rfl hT () ((congrArg Prod.fst (hI N hN)).trans (tg_fst hN)) [] rfl rfl (Nat.le_of_ble_eq_true rfl) (Nat.le_of_ble_eq_true rfl) dX8_tells_260
