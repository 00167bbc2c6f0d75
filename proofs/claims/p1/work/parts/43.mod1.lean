set_option maxRecDepth 20000 in
theorem ggX8_isPerson_X8_in : GoodIn wsX8_isPerson wsX8_in := goodIn_r _ [5] (by decide +kernel) (by decide +kernel)
set_option maxRecDepth 20000 in
theorem gX8_isPerson_X8_in : GoodIn wsX8_isPerson (va_wsS RX8 60 yX8_in wsX8_in) := goodIn_app (goodIn_of _ (by decide +kernel)) ggX8_isPerson_X8_in
theorem dX8_isPerson_0 : decode cX8_isPerson 0 = .ok (.iload_n 1, 1) := by decide +kernel
theorem dX8_isPerson_1 : decode cX8_isPerson 1 = .ok (.iconst 0, 1) := by decide +kernel
theorem dX8_isPerson_2 : decode cX8_isPerson 2 = .ok (.aload_n 0, 1) := by decide +kernel
theorem dX8_isPerson_3 : decode cX8_isPerson 3 = .ok (.getfield 13, 3) := by decide +kernel
theorem dX8_isPerson_6 : decode cX8_isPerson 6 = .ok (.iconst 3, 1) := by decide +kernel
theorem dX8_isPerson_7 : decode cX8_isPerson 7 = .ok (.iaload, 1) := by decide +kernel
theorem dX8_isPerson_8 : decode cX8_isPerson 8 = .ok (.iconst 1, 1) := by decide +kernel
theorem dX8_isPerson_9 : decode cX8_isPerson 9 = .ok (.isub, 1) := by decide +kernel
theorem dX8_isPerson_10 : decode cX8_isPerson 10 = .ok (.invokestatic 60, 3) := by decide +kernel
theorem dX8_isPerson_13 : decode cX8_isPerson 13 = .ok (.ireturn, 1) := by decide +kernel
set_option maxRecDepth 20000 in
theorem ggX8_isSort_X8_in : GoodIn wsX8_isSort wsX8_in := goodIn_r _ [5] (by decide +kernel) (by decide +kernel)
set_option maxRecDepth 20000 in
theorem gX8_isSort_X8_in : GoodIn wsX8_isSort (va_wsS RX8 60 yX8_in wsX8_in) := goodIn_app (goodIn_of _ (by decide +kernel)) ggX8_isSort_X8_in
theorem dX8_isSort_0 : decode cX8_isSort 0 = .ok (.iload_n 1, 1) := by decide +kernel
theorem dX8_isSort_1 : decode cX8_isSort 1 = .ok (.iconst 0, 1) := by decide +kernel
theorem dX8_isSort_2 : decode cX8_isSort 2 = .ok (.aload_n 0, 1) := by decide +kernel
theorem dX8_isSort_3 : decode cX8_isSort 3 = .ok (.getfield 13, 3) := by decide +kernel
theorem dX8_isSort_6 : decode cX8_isSort 6 = .ok (.iconst 4, 1) := by decide +kernel
theorem dX8_isSort_7 : decode cX8_isSort 7 = .ok (.iaload, 1) := by decide +kernel
theorem dX8_isSort_8 : decode cX8_isSort 8 = .ok (.iconst 1, 1) := by decide +kernel
theorem dX8_isSort_9 : decode cX8_isSort 9 = .ok (.isub, 1) := by decide +kernel
theorem dX8_isSort_10 : decode cX8_isSort 10 = .ok (.invokestatic 60, 3) := by decide +kernel
theorem dX8_isSort_13 : decode cX8_isSort 13 = .ok (.ireturn, 1) := by decide +kernel
set_option maxRecDepth 20000 in
theorem ggX8_isJoint_X8_in : GoodIn wsX8_isJoint wsX8_in := goodIn_r _ [5] (by decide +kernel) (by decide +kernel)
set_option maxRecDepth 20000 in
theorem gX8_isJoint_X8_in : GoodIn wsX8_isJoint (va_wsS RX8 60 yX8_in wsX8_in) := goodIn_app (goodIn_of _ (by decide +kernel)) ggX8_isJoint_X8_in
theorem dX8_isJoint_0 : decode cX8_isJoint 0 = .ok (.iload_n 1, 1) := by decide +kernel
theorem dX8_isJoint_1 : decode cX8_isJoint 1 = .ok (.iconst 0, 1) := by decide +kernel
theorem dX8_isJoint_2 : decode cX8_isJoint 2 = .ok (.aload_n 0, 1) := by decide +kernel
theorem dX8_isJoint_3 : decode cX8_isJoint 3 = .ok (.getfield 13, 3) := by decide +kernel
theorem dX8_isJoint_6 : decode cX8_isJoint 6 = .ok (.iconst 0, 1) := by decide +kernel
theorem dX8_isJoint_7 : decode cX8_isJoint 7 = .ok (.iaload, 1) := by decide +kernel
theorem dX8_isJoint_8 : decode cX8_isJoint 8 = .ok (.iconst 1, 1) := by decide +kernel
theorem dX8_isJoint_9 : decode cX8_isJoint 9 = .ok (.isub, 1) := by decide +kernel
theorem dX8_isJoint_10 : decode cX8_isJoint 10 = .ok (.invokestatic 60, 3) := by decide +kernel
theorem dX8_isJoint_13 : decode cX8_isJoint 13 = .ok (.ireturn, 1) := by decide +kernel
set_option maxRecDepth 20000 in
theorem ggX8_write_X8_in : GoodIn wsX8_write wsX8_in := goodIn_r _ [6] (by decide +kernel) (by decide +kernel)
set_option maxRecDepth 20000 in
theorem gX8_write_X8_in : GoodIn wsX8_write (va_wsS RX8 60 yX8_in wsX8_in) := goodIn_app (goodIn_of _ (by decide +kernel)) ggX8_write_X8_in
theorem dX8_write_0 : decode cX8_write 0 = .ok (.iload_n 1, 1) := by decide +kernel
theorem dX8_write_1 : decode cX8_write 1 = .ok (.iconst 0, 1) := by decide +kernel
theorem dX8_write_2 : decode cX8_write 2 = .ok (.sipush 255, 3) := by decide +kernel
theorem dX8_write_5 : decode cX8_write 5 = .ok (.invokestatic 60, 3) := by decide +kernel
theorem dX8_write_8 : decode cX8_write 8 = .ok (.ifCond .ne 6, 3) := by decide +kernel
theorem dX8_write_11 : decode cX8_write 11 = .ok (.bipush (-3), 2) := by decide +kernel
theorem dX8_write_13 : decode cX8_write 13 = .ok (.ireturn, 1) := by decide +kernel
theorem dX8_write_14 : decode cX8_write 14 = .ok (.aload_n 0, 1) := by decide +kernel
theorem dX8_write_15 : decode cX8_write 15 = .ok (.getfield 64, 3) := by decide +kernel
theorem dX8_write_18 : decode cX8_write 18 = .ok (.sipush 160, 3) := by decide +kernel
theorem dX8_write_21 : decode cX8_write 21 = .ok (.if_icmp .ne 6, 3) := by decide +kernel
theorem dX8_write_27 : decode cX8_write 27 = .ok (.aload_n 0, 1) := by decide +kernel
theorem dX8_write_28 : decode cX8_write 28 = .ok (.getfield 7, 3) := by decide +kernel
theorem dX8_write_31 : decode cX8_write 31 = .ok (.aload_n 0, 1) := by decide +kernel
theorem dX8_write_32 : decode cX8_write 32 = .ok (.getfield 64, 3) := by decide +kernel
theorem dX8_write_35 : decode cX8_write 35 = .ok (.iload_n 1, 1) := by decide +kernel
theorem dX8_write_36 : decode cX8_write 36 = .ok (.iastore, 1) := by decide +kernel
theorem dX8_write_37 : decode cX8_write 37 = .ok (.aload_n 0, 1) := by decide +kernel
theorem dX8_write_38 : decode cX8_write 38 = .ok (.dup, 1) := by decide +kernel
theorem dX8_write_39 : decode cX8_write 39 = .ok (.getfield 64, 3) := by decide +kernel
theorem dX8_write_42 : decode cX8_write 42 = .ok (.iconst 1, 1) := by decide +kernel
theorem dX8_write_43 : decode cX8_write 43 = .ok (.iadd, 1) := by decide +kernel
theorem dX8_write_44 : decode cX8_write 44 = .ok (.putfield 64, 3) := by decide +kernel
theorem dX8_write_47 : decode cX8_write 47 = .ok (.aload_n 0, 1) := by decide +kernel
theorem dX8_write_48 : decode cX8_write 48 = .ok (.getfield 64, 3) := by decide +kernel
theorem dX8_write_51 : decode cX8_write 51 = .ok (.ireturn, 1) := by decide +kernel
theorem dX8_erase_0 : decode cX8_erase 0 = .ok (.aload_n 0, 1) := by decide +kernel
theorem dX8_erase_1 : decode cX8_erase 1 = .ok (.getfield 64, 3) := by decide +kernel
theorem dX8_erase_4 : decode cX8_erase 4 = .ok (.istore_n 1, 1) := by decide +kernel
theorem dX8_erase_5 : decode cX8_erase 5 = .ok (.aload_n 0, 1) := by decide +kernel
theorem dX8_erase_6 : decode cX8_erase 6 = .ok (.iconst 0, 1) := by decide +kernel
theorem dX8_erase_7 : decode cX8_erase 7 = .ok (.putfield 64, 3) := by decide +kernel
theorem dX8_erase_10 : decode cX8_erase 10 = .ok (.iload_n 1, 1) := by decide +kernel
theorem dX8_erase_11 : decode cX8_erase 11 = .ok (.ireturn, 1) := by decide +kernel
set_option maxRecDepth 20000 in
theorem ggX8_person_X8_isPerson : GoodIn wsX8_person wsX8_isPerson := goodIn_r _ [7, 1, 8, 9, 6, 10, 19, 20, 21, 22, 23, 24, 25, 26, 27, 28, 29, 30, 31, 32, 33, 34, 35, 36, 37, 38, 39] (by decide +kernel) (by decide +kernel)
set_option maxRecDepth 20000 in
theorem gX8_person_X8_isPerson : GoodIn wsX8_person (wsV RX8 127 RX8 yX8_isPerson wsX8_isPerson) := goodIn_app (goodIn_of _ (by decide +kernel)) ggX8_person_X8_isPerson
theorem dX8_person_0 : decode cX8_person 0 = .ok (.aload_n 0, 1) := by decide +kernel
theorem dX8_person_1 : decode cX8_person 1 = .ok (.iload_n 1, 1) := by decide +kernel
theorem dX8_person_2 : decode cX8_person 2 = .ok (.invokevirtual 127, 3) := by decide +kernel
theorem dX8_person_5 : decode cX8_person 5 = .ok (.ifCond .ne 6, 3) := by decide +kernel
theorem dX8_person_8 : decode cX8_person 8 = .ok (.bipush (-2), 2) := by decide +kernel
theorem dX8_person_10 : decode cX8_person 10 = .ok (.ireturn, 1) := by decide +kernel
set_option maxRecDepth 20000 in
theorem ggX8_sort_X8_isSort : GoodIn wsX8_sort wsX8_isSort := goodIn_r _ [6, 1, 7, 8, 5, 9, 10, 11, 12, 13, 14, 15, 16, 17, 18, 19, 20, 21, 22, 23, 24, 25, 26, 27, 28, 29, 30] (by decide +kernel) (by decide +kernel)
set_option maxRecDepth 20000 in
theorem gX8_sort_X8_isSort : GoodIn wsX8_sort (wsV RX8 133 RX8 yX8_isSort wsX8_isSort) := goodIn_app (goodIn_of _ (by decide +kernel)) ggX8_sort_X8_isSort
theorem dX8_sort_0 : decode cX8_sort 0 = .ok (.aload_n 0, 1) := by decide +kernel
theorem dX8_sort_1 : decode cX8_sort 1 = .ok (.iload_n 1, 1) := by decide +kernel
theorem dX8_sort_2 : decode cX8_sort 2 = .ok (.invokevirtual 133, 3) := by decide +kernel
theorem dX8_sort_5 : decode cX8_sort 5 = .ok (.ifCond .ne 6, 3) := by decide +kernel
theorem dX8_sort_8 : decode cX8_sort 8 = .ok (.bipush (-2), 2) := by decide +kernel
theorem dX8_sort_10 : decode cX8_sort 10 = .ok (.ireturn, 1) := by decide +kernel
set_option maxRecDepth 20000 in
theorem ggX8_as_X8_isPerson : GoodIn wsX8_as wsX8_isPerson := goodIn_r _ [7, 1, 8, 9, 6, 10, 15, 16, 17, 18, 19, 20, 21, 22, 23, 24, 25, 26, 27, 28, 29, 30, 31, 32, 33, 34, 35] (by decide +kernel) (by decide +kernel)
set_option maxRecDepth 20000 in
theorem gX8_as_X8_isPerson : GoodIn wsX8_as (wsV RX8 127 RX8 yX8_isPerson wsX8_isPerson) := goodIn_app (goodIn_of _ (by decide +kernel)) ggX8_as_X8_isPerson
theorem dX8_as_0 : decode cX8_as 0 = .ok (.aload_n 0, 1) := by decide +kernel
theorem dX8_as_1 : decode cX8_as 1 = .ok (.iload_n 1, 1) := by decide +kernel
theorem dX8_as_2 : decode cX8_as 2 = .ok (.invokevirtual 127, 3) := by decide +kernel
theorem dX8_as_5 : decode cX8_as 5 = .ok (.ifCond .ne 6, 3) := by decide +kernel
theorem dX8_as_8 : decode cX8_as 8 = .ok (.bipush (-2), 2) := by decide +kernel
theorem dX8_as_10 : decode cX8_as 10 = .ok (.ireturn, 1) := by decide +kernel
theorem dX8_keeps_0 : decode cX8_keeps 0 = .ok (.aload_n 0, 1) := by decide +kernel
theorem dX8_keeps_1 : decode cX8_keeps 1 = .ok (.getfield 114, 3) := by decide +kernel
theorem dX8_keeps_4 : decode cX8_keeps 4 = .ok (.bipush 8, 2) := by decide +kernel
theorem dX8_keeps_6 : decode cX8_keeps 6 = .ok (.if_icmp .ne 43, 3) := by decide +kernel
theorem dX8_keeps_49 : decode cX8_keeps 49 = .ok (.iconst 0, 1) := by decide +kernel
theorem dX8_keeps_50 : decode cX8_keeps 50 = .ok (.istore_n 1, 1) := by decide +kernel
theorem dX8_keeps_51 : decode cX8_keeps 51 = .ok (.iload_n 1, 1) := by decide +kernel
theorem dX8_keeps_52 : decode cX8_keeps 52 = .ok (.bipush 33, 2) := by decide +kernel
theorem dX8_keeps_54 : decode cX8_keeps 54 = .ok (.if_icmp .ge 29, 3) := by decide +kernel
theorem dX8_keeps_57 : decode cX8_keeps 57 = .ok (.aload_n 0, 1) := by decide +kernel
theorem dX8_keeps_58 : decode cX8_keeps 58 = .ok (.getfield 22, 3) := by decide +kernel
theorem dX8_keeps_61 : decode cX8_keeps 61 = .ok (.bipush 33, 2) := by decide +kernel
theorem dX8_keeps_63 : decode cX8_keeps 63 = .ok (.aload_n 0, 1) := by decide +kernel
theorem dX8_keeps_64 : decode cX8_keeps 64 = .ok (.getfield 114, 3) := by decide +kernel
theorem dX8_keeps_67 : decode cX8_keeps 67 = .ok (.imul, 1) := by decide +kernel
theorem dX8_keeps_68 : decode cX8_keeps 68 = .ok (.iload_n 1, 1) := by decide +kernel
theorem dX8_keeps_69 : decode cX8_keeps 69 = .ok (.iadd, 1) := by decide +kernel
theorem dX8_keeps_70 : decode cX8_keeps 70 = .ok (.aload_n 0, 1) := by decide +kernel
theorem dX8_keeps_71 : decode cX8_keeps 71 = .ok (.getfield 19, 3) := by decide +kernel
theorem dX8_keeps_74 : decode cX8_keeps 74 = .ok (.iload_n 1, 1) := by decide +kernel
theorem dX8_keeps_75 : decode cX8_keeps 75 = .ok (.iaload, 1) := by decide +kernel
theorem dX8_keeps_76 : decode cX8_keeps 76 = .ok (.iastore, 1) := by decide +kernel
theorem dX8_keeps_77 : decode cX8_keeps 77 = .ok (.iinc 1 1, 3) := by decide +kernel
theorem dX8_keeps_80 : decode cX8_keeps 80 = .ok (.goto (-29), 3) := by decide +kernel
theorem dX8_keeps_83 : decode cX8_keeps 83 = .ok (.aload_n 0, 1) := by decide +kernel
theorem dX8_keeps_84 : decode cX8_keeps 84 = .ok (.dup, 1) := by decide +kernel
theorem dX8_keeps_85 : decode cX8_keeps 85 = .ok (.getfield 114, 3) := by decide +kernel
theorem dX8_keeps_88 : decode cX8_keeps 88 = .ok (.iconst 1, 1) := by decide +kernel
theorem dX8_keeps_89 : decode cX8_keeps 89 = .ok (.iadd, 1) := by decide +kernel
theorem dX8_keeps_90 : decode cX8_keeps 90 = .ok (.putfield 114, 3) := by decide +kernel
theorem dX8_keeps_93 : decode cX8_keeps 93 = .ok (.return_, 1) := by decide +kernel
set_option maxRecDepth 20000 in
theorem ggX8_deed_X8_isPerson : GoodIn wsX8_deed wsX8_isPerson := goodIn_r _ [5, 6, 7, 8, 4, 9, 32, 33, 34, 35, 36, 37, 38, 39, 40, 41, 42, 43, 44, 45, 46, 47, 48, 49, 50, 51, 52] (by decide +kernel) (by decide +kernel)
set_option maxRecDepth 20000 in
theorem gX8_deed_X8_isPerson : GoodIn wsX8_deed (wsV RX8 127 RX8 yX8_isPerson wsX8_isPerson) := goodIn_app (goodIn_of _ (by decide +kernel)) ggX8_deed_X8_isPerson
theorem dX8_deed_0 : decode cX8_deed 0 = .ok (.aload_n 0, 1) := by decide +kernel
theorem dX8_deed_1 : decode cX8_deed 1 = .ok (.iload_n 1, 1) := by decide +kernel
theorem dX8_deed_2 : decode cX8_deed 2 = .ok (.invokevirtual 127, 3) := by decide +kernel
theorem dX8_deed_5 : decode cX8_deed 5 = .ok (.ifCond .eq 11, 3) := by decide +kernel
theorem dX8_deed_16 : decode cX8_deed 16 = .ok (.bipush (-2), 2) := by decide +kernel
theorem dX8_deed_18 : decode cX8_deed 18 = .ok (.ireturn, 1) := by decide +kernel
theorem dX8_feast_0 : decode cX8_feast 0 = .ok (.aload_n 0, 1) := by decide +kernel
theorem dX8_feast_1 : decode cX8_feast 1 = .ok (.getfield 13, 3) := by decide +kernel
theorem dX8_feast_4 : decode cX8_feast 4 = .ok (.iconst 3, 1) := by decide +kernel
theorem dX8_feast_5 : decode cX8_feast 5 = .ok (.iaload, 1) := by decide +kernel
theorem dX8_feast_6 : decode cX8_feast 6 = .ok (.ifCond .ne 6, 3) := by decide +kernel
theorem dX8_feast_9 : decode cX8_feast 9 = .ok (.bipush (-4), 2) := by decide +kernel
theorem dX8_feast_11 : decode cX8_feast 11 = .ok (.ireturn, 1) := by decide +kernel
set_option maxRecDepth 20000 in
theorem ggX8_year_X8_keeps : GoodIn wsX8_year wsX8_keeps := goodIn_r _ [7, 8, 9, 1, 14, 15, 16, 17, 18, 19, 20, 21, 22, 23, 24, 25, 26, 27, 28, 29, 30, 31, 32, 33, 34] (by decide +kernel) (by decide +kernel)
set_option maxRecDepth 20000 in
theorem gX8_year_X8_keeps : GoodIn wsX8_year (wsV RX8 142 RX8 yX8_keeps wsX8_keeps) := goodIn_app (goodIn_of _ (by decide +kernel)) ggX8_year_X8_keeps
theorem dX8_year_0 : decode cX8_year 0 = .ok (.aload_n 0, 1) := by decide +kernel
theorem dX8_year_1 : decode cX8_year 1 = .ok (.getfield 19, 3) := by decide +kernel
theorem dX8_year_4 : decode cX8_year 4 = .ok (.bipush 32, 2) := by decide +kernel
theorem dX8_year_6 : decode cX8_year 6 = .ok (.iaload, 1) := by decide +kernel
theorem dX8_year_7 : decode cX8_year 7 = .ok (.sipush 999, 3) := by decide +kernel
theorem dX8_year_10 : decode cX8_year 10 = .ok (.if_icmp .ne 6, 3) := by decide +kernel
theorem dX8_year_16 : decode cX8_year 16 = .ok (.aload_n 0, 1) := by decide +kernel
theorem dX8_year_17 : decode cX8_year 17 = .ok (.invokevirtual 142, 3) := by decide +kernel
theorem dX8_year_20 : decode cX8_year 20 = .ok (.iconst 0, 1) := by decide +kernel
theorem dX8_year_21 : decode cX8_year 21 = .ok (.istore_n 1, 1) := by decide +kernel
theorem dX8_year_22 : decode cX8_year 22 = .ok (.iload_n 1, 1) := by decide +kernel
theorem dX8_year_23 : decode cX8_year 23 = .ok (.aload_n 0, 1) := by decide +kernel
theorem dX8_year_24 : decode cX8_year 24 = .ok (.getfield 13, 3) := by decide +kernel
theorem dX8_year_27 : decode cX8_year 27 = .ok (.iconst 3, 1) := by decide +kernel
theorem dX8_year_28 : decode cX8_year 28 = .ok (.iaload, 1) := by decide +kernel
theorem dX8_year_29 : decode cX8_year 29 = .ok (.if_icmp .ge 40, 3) := by decide +kernel
theorem dX8_year_69 : decode cX8_year 69 = .ok (.aload_n 0, 1) := by decide +kernel
theorem dX8_year_70 : decode cX8_year 70 = .ok (.getfield 19, 3) := by decide +kernel
theorem dX8_year_73 : decode cX8_year 73 = .ok (.bipush 32, 2) := by decide +kernel
theorem dX8_year_75 : decode cX8_year 75 = .ok (.dup2, 1) := by decide +kernel
theorem dX8_year_76 : decode cX8_year 76 = .ok (.iaload, 1) := by decide +kernel
theorem dX8_year_77 : decode cX8_year 77 = .ok (.iconst 1, 1) := by decide +kernel
theorem dX8_year_78 : decode cX8_year 78 = .ok (.iadd, 1) := by decide +kernel
theorem dX8_year_79 : decode cX8_year 79 = .ok (.iastore, 1) := by decide +kernel
theorem dX8_year_80 : decode cX8_year 80 = .ok (.aload_n 0, 1) := by decide +kernel
theorem dX8_year_81 : decode cX8_year 81 = .ok (.getfield 19, 3) := by decide +kernel
theorem dX8_year_84 : decode cX8_year 84 = .ok (.bipush 32, 2) := by decide +kernel
theorem dX8_year_86 : decode cX8_year 86 = .ok (.iaload, 1) := by decide +kernel
theorem dX8_year_87 : decode cX8_year 87 = .ok (.ireturn, 1) := by decide +kernel
set_option maxRecDepth 20000 in
theorem ggX8_scale_X8_in : GoodIn wsX8_scale wsX8_in := goodIn_r _ [5] (by decide +kernel) (by decide +kernel)
set_option maxRecDepth 20000 in
theorem gX8_scale_X8_in : GoodIn wsX8_scale (va_wsS RX8 60 yX8_in wsX8_in) := goodIn_app (goodIn_of _ (by decide +kernel)) ggX8_scale_X8_in
set_option maxRecDepth 20000 in
theorem ggX8_scale_X8_keeps : GoodIn wsX8_scale wsX8_keeps := goodIn_r _ [9, 10, 11, 1, 12, 13, 14, 15, 16, 17, 18, 19, 20, 21, 22, 23, 24, 25, 26, 27, 28, 29, 30, 31, 32] (by decide +kernel) (by decide +kernel)
set_option maxRecDepth 20000 in
theorem gX8_scale_X8_keeps : GoodIn wsX8_scale (wsV RX8 142 RX8 yX8_keeps wsX8_keeps) := goodIn_app (goodIn_of _ (by decide +kernel)) ggX8_scale_X8_keeps
theorem dX8_scale_0 : decode cX8_scale 0 = .ok (.iload_n 1, 1) := by decide +kernel
theorem dX8_scale_1 : decode cX8_scale 1 = .ok (.iconst 0, 1) := by decide +kernel
theorem dX8_scale_2 : decode cX8_scale 2 = .ok (.bipush 99, 2) := by decide +kernel
theorem dX8_scale_4 : decode cX8_scale 4 = .ok (.invokestatic 60, 3) := by decide +kernel
theorem dX8_scale_7 : decode cX8_scale 7 = .ok (.ifCond .eq 13, 3) := by decide +kernel
theorem dX8_scale_10 : decode cX8_scale 10 = .ok (.iload_n 2, 1) := by decide +kernel
theorem dX8_scale_11 : decode cX8_scale 11 = .ok (.iconst 1, 1) := by decide +kernel
theorem dX8_scale_12 : decode cX8_scale 12 = .ok (.bipush 20, 2) := by decide +kernel
theorem dX8_scale_14 : decode cX8_scale 14 = .ok (.invokestatic 60, 3) := by decide +kernel
theorem dX8_scale_17 : decode cX8_scale 17 = .ok (.ifCond .ne 6, 3) := by decide +kernel
theorem dX8_scale_20 : decode cX8_scale 20 = .ok (.bipush (-3), 2) := by decide +kernel
theorem dX8_scale_22 : decode cX8_scale 22 = .ok (.ireturn, 1) := by decide +kernel
theorem dX8_scale_23 : decode cX8_scale 23 = .ok (.aload_n 0, 1) := by decide +kernel
theorem dX8_scale_24 : decode cX8_scale 24 = .ok (.invokevirtual 142, 3) := by decide +kernel
theorem dX8_scale_27 : decode cX8_scale 27 = .ok (.aload_n 0, 1) := by decide +kernel
theorem dX8_scale_28 : decode cX8_scale 28 = .ok (.getfield 19, 3) := by decide +kernel
theorem dX8_scale_31 : decode cX8_scale 31 = .ok (.bipush 30, 2) := by decide +kernel
theorem dX8_scale_33 : decode cX8_scale 33 = .ok (.iaload, 1) := by decide +kernel
theorem dX8_scale_34 : decode cX8_scale 34 = .ok (.istore_n 3, 1) := by decide +kernel
theorem dX8_scale_35 : decode cX8_scale 35 = .ok (.aload_n 0, 1) := by decide +kernel
theorem dX8_scale_36 : decode cX8_scale 36 = .ok (.getfield 19, 3) := by decide +kernel
theorem dX8_scale_39 : decode cX8_scale 39 = .ok (.bipush 30, 2) := by decide +kernel
theorem dX8_scale_41 : decode cX8_scale 41 = .ok (.iload_n 1, 1) := by decide +kernel
theorem dX8_scale_42 : decode cX8_scale 42 = .ok (.iastore, 1) := by decide +kernel
theorem dX8_scale_43 : decode cX8_scale 43 = .ok (.aload_n 0, 1) := by decide +kernel
theorem dX8_scale_44 : decode cX8_scale 44 = .ok (.getfield 19, 3) := by decide +kernel
theorem dX8_scale_47 : decode cX8_scale 47 = .ok (.bipush 31, 2) := by decide +kernel
theorem dX8_scale_49 : decode cX8_scale 49 = .ok (.iload_n 2, 1) := by decide +kernel
theorem dX8_scale_50 : decode cX8_scale 50 = .ok (.iastore, 1) := by decide +kernel
theorem dX8_scale_51 : decode cX8_scale 51 = .ok (.iload_n 3, 1) := by decide +kernel
theorem dX8_scale_52 : decode cX8_scale 52 = .ok (.ireturn, 1) := by decide +kernel
theorem dX8_undo_0 : decode cX8_undo 0 = .ok (.aload_n 0, 1) := by decide +kernel
theorem dX8_undo_1 : decode cX8_undo 1 = .ok (.getfield 114, 3) := by decide +kernel
theorem dX8_undo_4 : decode cX8_undo 4 = .ok (.ifCond .ne 6, 3) := by decide +kernel
theorem dX8_undo_7 : decode cX8_undo 7 = .ok (.bipush (-4), 2) := by decide +kernel
theorem dX8_undo_9 : decode cX8_undo 9 = .ok (.ireturn, 1) := by decide +kernel
set_option maxRecDepth 20000 in
theorem ggX8_keep_X8_in : GoodIn wsX8_keep wsX8_in := goodIn_r _ [7] (by decide +kernel) (by decide +kernel)
set_option maxRecDepth 20000 in
theorem gX8_keep_X8_in : GoodIn wsX8_keep (va_wsS RX8 60 yX8_in wsX8_in) := goodIn_app (goodIn_of _ (by decide +kernel)) ggX8_keep_X8_in
theorem dX8_keep_0 : decode cX8_keep 0 = .ok (.iload_n 1, 1) := by decide +kernel
theorem dX8_keep_1 : decode cX8_keep 1 = .ok (.iconst 0, 1) := by decide +kernel
theorem dX8_keep_2 : decode cX8_keep 2 = .ok (.iconst 1, 1) := by decide +kernel
theorem dX8_keep_3 : decode cX8_keep 3 = .ok (.invokestatic 60, 3) := by decide +kernel
theorem dX8_keep_6 : decode cX8_keep 6 = .ok (.ifCond .ne 6, 3) := by decide +kernel
theorem dX8_keep_9 : decode cX8_keep 9 = .ok (.bipush (-2), 2) := by decide +kernel
theorem dX8_keep_11 : decode cX8_keep 11 = .ok (.ireturn, 1) := by decide +kernel
theorem dX8_keep_12 : decode cX8_keep 12 = .ok (.iconst 0, 1) := by decide +kernel
theorem dX8_keep_13 : decode cX8_keep 13 = .ok (.istore_n 2, 1) := by decide +kernel
theorem dX8_keep_14 : decode cX8_keep 14 = .ok (.iload_n 2, 1) := by decide +kernel
theorem dX8_keep_15 : decode cX8_keep 15 = .ok (.bipush 33, 2) := by decide +kernel
theorem dX8_keep_17 : decode cX8_keep 17 = .ok (.if_icmp .ge 26, 3) := by decide +kernel
theorem dX8_keep_20 : decode cX8_keep 20 = .ok (.aload_n 0, 1) := by decide +kernel
theorem dX8_keep_21 : decode cX8_keep 21 = .ok (.getfield 25, 3) := by decide +kernel
theorem dX8_keep_24 : decode cX8_keep 24 = .ok (.bipush 33, 2) := by decide +kernel
theorem dX8_keep_26 : decode cX8_keep 26 = .ok (.iload_n 1, 1) := by decide +kernel
theorem dX8_keep_27 : decode cX8_keep 27 = .ok (.imul, 1) := by decide +kernel
theorem dX8_keep_28 : decode cX8_keep 28 = .ok (.iload_n 2, 1) := by decide +kernel
theorem dX8_keep_29 : decode cX8_keep 29 = .ok (.iadd, 1) := by decide +kernel
theorem dX8_keep_30 : decode cX8_keep 30 = .ok (.aload_n 0, 1) := by decide +kernel
theorem dX8_keep_31 : decode cX8_keep 31 = .ok (.getfield 19, 3) := by decide +kernel
theorem dX8_keep_34 : decode cX8_keep 34 = .ok (.iload_n 2, 1) := by decide +kernel
theorem dX8_keep_35 : decode cX8_keep 35 = .ok (.iaload, 1) := by decide +kernel
theorem dX8_keep_36 : decode cX8_keep 36 = .ok (.iastore, 1) := by decide +kernel
theorem dX8_keep_37 : decode cX8_keep 37 = .ok (.iinc 2 1, 3) := by decide +kernel
theorem dX8_keep_40 : decode cX8_keep 40 = .ok (.goto (-26), 3) := by decide +kernel
theorem dX8_keep_43 : decode cX8_keep 43 = .ok (.aload_n 0, 1) := by decide +kernel
theorem dX8_keep_44 : decode cX8_keep 44 = .ok (.getfield 28, 3) := by decide +kernel
theorem dX8_keep_47 : decode cX8_keep 47 = .ok (.iload_n 1, 1) := by decide +kernel
theorem dX8_keep_48 : decode cX8_keep 48 = .ok (.iconst 1, 1) := by decide +kernel
theorem dX8_keep_49 : decode cX8_keep 49 = .ok (.bastore, 1) := by decide +kernel
theorem dX8_keep_50 : decode cX8_keep 50 = .ok (.aload_n 0, 1) := by decide +kernel
theorem dX8_keep_51 : decode cX8_keep 51 = .ok (.getfield 19, 3) := by decide +kernel
theorem dX8_keep_54 : decode cX8_keep 54 = .ok (.bipush 32, 2) := by decide +kernel
theorem dX8_keep_56 : decode cX8_keep 56 = .ok (.iaload, 1) := by decide +kernel
theorem dX8_keep_57 : decode cX8_keep 57 = .ok (.ireturn, 1) := by decide +kernel
set_option maxRecDepth 20000 in
theorem ggX8_back_X8_in : GoodIn wsX8_back wsX8_in := goodIn_r _ [8] (by decide +kernel) (by decide +kernel)
set_option maxRecDepth 20000 in
theorem gX8_back_X8_in : GoodIn wsX8_back (va_wsS RX8 60 yX8_in wsX8_in) := goodIn_app (goodIn_of _ (by decide +kernel)) ggX8_back_X8_in
theorem dX8_back_0 : decode cX8_back 0 = .ok (.iload_n 1, 1) := by decide +kernel
theorem dX8_back_1 : decode cX8_back 1 = .ok (.iconst 0, 1) := by decide +kernel
theorem dX8_back_2 : decode cX8_back 2 = .ok (.iconst 1, 1) := by decide +kernel
theorem dX8_back_3 : decode cX8_back 3 = .ok (.invokestatic 60, 3) := by decide +kernel
theorem dX8_back_6 : decode cX8_back 6 = .ok (.ifCond .ne 6, 3) := by decide +kernel
theorem dX8_back_9 : decode cX8_back 9 = .ok (.bipush (-2), 2) := by decide +kernel
theorem dX8_back_11 : decode cX8_back 11 = .ok (.ireturn, 1) := by decide +kernel
theorem dX8_back_12 : decode cX8_back 12 = .ok (.aload_n 0, 1) := by decide +kernel
theorem dX8_back_13 : decode cX8_back 13 = .ok (.getfield 28, 3) := by decide +kernel
theorem dX8_back_16 : decode cX8_back 16 = .ok (.iload_n 1, 1) := by decide +kernel
theorem dX8_back_17 : decode cX8_back 17 = .ok (.baload, 1) := by decide +kernel
theorem dX8_back_18 : decode cX8_back 18 = .ok (.ifCond .ne 6, 3) := by decide +kernel
theorem dX8_back_21 : decode cX8_back 21 = .ok (.bipush (-4), 2) := by decide +kernel
theorem dX8_back_23 : decode cX8_back 23 = .ok (.ireturn, 1) := by decide +kernel
set_option maxRecDepth 20000 in
theorem ggX8_gets_X8_isPerson : GoodIn wsX8_gets wsX8_isPerson := goodIn_r _ [5, 6, 7, 8, 4, 9, 32, 33, 34, 35, 36, 37, 38, 39, 40, 41, 42, 43, 44, 45, 46, 47, 48, 49, 50, 51, 52] (by decide +kernel) (by decide +kernel)
set_option maxRecDepth 20000 in
theorem gX8_gets_X8_isPerson : GoodIn wsX8_gets (wsV RX8 127 RX8 yX8_isPerson wsX8_isPerson) := goodIn_app (goodIn_of _ (by decide +kernel)) ggX8_gets_X8_isPerson
theorem dX8_gets_0 : decode cX8_gets 0 = .ok (.aload_n 0, 1) := by decide +kernel
theorem dX8_gets_1 : decode cX8_gets 1 = .ok (.iload_n 1, 1) := by decide +kernel
theorem dX8_gets_2 : decode cX8_gets 2 = .ok (.invokevirtual 127, 3) := by decide +kernel
theorem dX8_gets_5 : decode cX8_gets 5 = .ok (.ifCond .eq 11, 3) := by decide +kernel
theorem dX8_gets_16 : decode cX8_gets 16 = .ok (.bipush (-2), 2) := by decide +kernel
theorem dX8_gets_18 : decode cX8_gets 18 = .ok (.ireturn, 1) := by decide +kernel
set_option maxRecDepth 20000 in
theorem ggX8_need_X8_isPerson : GoodIn wsX8_need wsX8_isPerson := goodIn_r _ [6, 7, 8, 9, 5, 10, 39, 40, 41, 42, 43, 44, 45, 46, 47, 48, 49, 50, 51, 52, 53, 54, 55, 56, 57, 58, 59] (by decide +kernel) (by decide +kernel)
set_option maxRecDepth 20000 in
theorem gX8_need_X8_isPerson : GoodIn wsX8_need (wsV RX8 127 RX8 yX8_isPerson wsX8_isPerson) := goodIn_app (goodIn_of _ (by decide +kernel)) ggX8_need_X8_isPerson
theorem dX8_need_0 : decode cX8_need 0 = .ok (.aload_n 0, 1) := by decide +kernel
theorem dX8_need_1 : decode cX8_need 1 = .ok (.iload_n 1, 1) := by decide +kernel
theorem dX8_need_2 : decode cX8_need 2 = .ok (.invokevirtual 127, 3) := by decide +kernel
theorem dX8_need_5 : decode cX8_need 5 = .ok (.ifCond .eq 11, 3) := by decide +kernel
theorem dX8_need_16 : decode cX8_need 16 = .ok (.bipush (-2), 2) := by decide +kernel
theorem dX8_need_18 : decode cX8_need 18 = .ok (.ireturn, 1) := by decide +kernel
set_option maxRecDepth 20000 in
theorem ggX8_deeds_X8_isPerson : GoodIn wsX8_deeds wsX8_isPerson := goodIn_r _ [8, 2, 9, 10, 7, 11, 49, 50, 51, 52, 53, 54, 55, 56, 57, 58, 59, 60, 61, 62, 63, 64, 65, 66, 67, 68, 69] (by decide +kernel) (by decide +kernel)
set_option maxRecDepth 20000 in
theorem gX8_deeds_X8_isPerson : GoodIn wsX8_deeds (wsV RX8 127 RX8 yX8_isPerson wsX8_isPerson) := goodIn_app (goodIn_of _ (by decide +kernel)) ggX8_deeds_X8_isPerson
theorem dX8_deeds_0 : decode cX8_deeds 0 = .ok (.aload_n 0, 1) := by decide +kernel
theorem dX8_deeds_1 : decode cX8_deeds 1 = .ok (.iload_n 1, 1) := by decide +kernel
theorem dX8_deeds_2 : decode cX8_deeds 2 = .ok (.invokevirtual 127, 3) := by decide +kernel
theorem dX8_deeds_5 : decode cX8_deeds 5 = .ok (.ifCond .eq 11, 3) := by decide +kernel
theorem dX8_deeds_16 : decode cX8_deeds 16 = .ok (.bipush (-2), 2) := by decide +kernel
theorem dX8_deeds_18 : decode cX8_deeds 18 = .ok (.ireturn, 1) := by decide +kernel
set_option maxRecDepth 20000 in
theorem ggX8_seen_X8_isJoint : GoodIn wsX8_seen wsX8_isJoint := goodIn_r _ [7, 8, 9, 10, 6, 11, 12, 13, 14, 15, 16, 17, 18, 19, 20, 21, 22, 23, 24, 25, 26, 27, 28, 29, 30, 31, 32] (by decide +kernel) (by decide +kernel)
set_option maxRecDepth 20000 in
theorem gX8_seen_X8_isJoint : GoodIn wsX8_seen (wsV RX8 159 RX8 yX8_isJoint wsX8_isJoint) := goodIn_app (goodIn_of _ (by decide +kernel)) ggX8_seen_X8_isJoint
set_option maxRecDepth 20000 in
theorem ggX8_seen_X8_in : GoodIn wsX8_seen wsX8_in := goodIn_r _ [11] (by decide +kernel) (by decide +kernel)
set_option maxRecDepth 20000 in
theorem gX8_seen_X8_in : GoodIn wsX8_seen (va_wsS RX8 60 yX8_in wsX8_in) := goodIn_app (goodIn_of _ (by decide +kernel)) ggX8_seen_X8_in
theorem dX8_seen_0 : decode cX8_seen 0 = .ok (.iload_n 2, 1) := by decide +kernel
theorem dX8_seen_1 : decode cX8_seen 1 = .ok (.iconst (-1), 1) := by decide +kernel
theorem dX8_seen_2 : decode cX8_seen 2 = .ok (.if_icmp .eq 14, 3) := by decide +kernel
theorem dX8_seen_5 : decode cX8_seen 5 = .ok (.aload_n 0, 1) := by decide +kernel
theorem dX8_seen_6 : decode cX8_seen 6 = .ok (.iload_n 2, 1) := by decide +kernel
theorem dX8_seen_7 : decode cX8_seen 7 = .ok (.invokevirtual 159, 3) := by decide +kernel
theorem dX8_seen_10 : decode cX8_seen 10 = .ok (.ifCond .ne 6, 3) := by decide +kernel
theorem dX8_seen_13 : decode cX8_seen 13 = .ok (.bipush (-2), 2) := by decide +kernel
theorem dX8_seen_15 : decode cX8_seen 15 = .ok (.ireturn, 1) := by decide +kernel
theorem dX8_seen_16 : decode cX8_seen 16 = .ok (.iload_n 1, 1) := by decide +kernel
theorem dX8_seen_17 : decode cX8_seen 17 = .ok (.iconst 0, 1) := by decide +kernel
theorem dX8_seen_18 : decode cX8_seen 18 = .ok (.bipush 99, 2) := by decide +kernel
theorem dX8_seen_20 : decode cX8_seen 20 = .ok (.invokestatic 60, 3) := by decide +kernel
theorem dX8_seen_23 : decode cX8_seen 23 = .ok (.ifCond .ne 6, 3) := by decide +kernel
theorem dX8_seen_26 : decode cX8_seen 26 = .ok (.bipush (-3), 2) := by decide +kernel
theorem dX8_seen_28 : decode cX8_seen 28 = .ok (.ireturn, 1) := by decide +kernel
theorem dX8_seen_29 : decode cX8_seen 29 = .ok (.aload_n 0, 1) := by decide +kernel
theorem dX8_seen_30 : decode cX8_seen 30 = .ok (.getfield 117, 3) := by decide +kernel
theorem dX8_seen_33 : decode cX8_seen 33 = .ok (.bipush 6, 2) := by decide +kernel
theorem dX8_seen_35 : decode cX8_seen 35 = .ok (.if_icmp .ne 6, 3) := by decide +kernel
theorem dX8_seen_41 : decode cX8_seen 41 = .ok (.aload_n 0, 1) := by decide +kernel
theorem dX8_seen_42 : decode cX8_seen 42 = .ok (.getfield 32, 3) := by decide +kernel
theorem dX8_seen_45 : decode cX8_seen 45 = .ok (.aload_n 0, 1) := by decide +kernel
theorem dX8_seen_46 : decode cX8_seen 46 = .ok (.getfield 117, 3) := by decide +kernel
theorem dX8_seen_49 : decode cX8_seen 49 = .ok (.bipush 16, 2) := by decide +kernel
theorem dX8_seen_51 : decode cX8_seen 51 = .ok (.iload_n 1, 1) := by decide +kernel
theorem dX8_seen_52 : decode cX8_seen 52 = .ok (.imul, 1) := by decide +kernel
theorem dX8_seen_53 : decode cX8_seen 53 = .ok (.iload_n 2, 1) := by decide +kernel
theorem dX8_seen_54 : decode cX8_seen 54 = .ok (.iadd, 1) := by decide +kernel
theorem dX8_seen_55 : decode cX8_seen 55 = .ok (.iconst 1, 1) := by decide +kernel
theorem dX8_seen_56 : decode cX8_seen 56 = .ok (.iadd, 1) := by decide +kernel
theorem dX8_seen_57 : decode cX8_seen 57 = .ok (.iastore, 1) := by decide +kernel
theorem dX8_seen_58 : decode cX8_seen 58 = .ok (.aload_n 0, 1) := by decide +kernel
theorem dX8_seen_59 : decode cX8_seen 59 = .ok (.dup, 1) := by decide +kernel
theorem dX8_seen_60 : decode cX8_seen 60 = .ok (.getfield 117, 3) := by decide +kernel
theorem dX8_seen_63 : decode cX8_seen 63 = .ok (.iconst 1, 1) := by decide +kernel
theorem dX8_seen_64 : decode cX8_seen 64 = .ok (.iadd, 1) := by decide +kernel
theorem dX8_seen_65 : decode cX8_seen 65 = .ok (.putfield 117, 3) := by decide +kernel
theorem dX8_seen_68 : decode cX8_seen 68 = .ok (.aload_n 0, 1) := by decide +kernel
theorem dX8_seen_69 : decode cX8_seen 69 = .ok (.getfield 117, 3) := by decide +kernel
theorem dX8_seen_72 : decode cX8_seen 72 = .ok (.ireturn, 1) := by decide +kernel
theorem dX8_forget_0 : decode cX8_forget 0 = .ok (.aload_n 0, 1) := by decide +kernel
theorem dX8_forget_1 : decode cX8_forget 1 = .ok (.getfield 117, 3) := by decide +kernel
theorem dX8_forget_4 : decode cX8_forget 4 = .ok (.istore_n 1, 1) := by decide +kernel
theorem dX8_forget_5 : decode cX8_forget 5 = .ok (.aload_n 0, 1) := by decide +kernel
theorem dX8_forget_6 : decode cX8_forget 6 = .ok (.iconst 0, 1) := by decide +kernel
theorem dX8_forget_7 : decode cX8_forget 7 = .ok (.putfield 117, 3) := by decide +kernel
theorem dX8_forget_10 : decode cX8_forget 10 = .ok (.iload_n 1, 1) := by decide +kernel
theorem dX8_forget_11 : decode cX8_forget 11 = .ok (.ireturn, 1) := by decide +kernel
set_option maxRecDepth 20000 in
theorem ggX8_chance_X8_isPerson : GoodIn wsX8_chance wsX8_isPerson := goodIn_r _ [6, 1, 7, 8, 5, 9, 56, 57, 58, 59, 60, 61, 62, 63, 64, 65, 66, 67, 68, 69, 70, 71, 72, 73, 74, 75, 76] (by decide +kernel) (by decide +kernel)
set_option maxRecDepth 20000 in
theorem gX8_chance_X8_isPerson : GoodIn wsX8_chance (wsV RX8 127 RX8 yX8_isPerson wsX8_isPerson) := goodIn_app (goodIn_of _ (by decide +kernel)) ggX8_chance_X8_isPerson
theorem dX8_chance_0 : decode cX8_chance 0 = .ok (.aload_n 0, 1) := by decide +kernel
theorem dX8_chance_1 : decode cX8_chance 1 = .ok (.iload_n 1, 1) := by decide +kernel
theorem dX8_chance_2 : decode cX8_chance 2 = .ok (.invokevirtual 127, 3) := by decide +kernel
theorem dX8_chance_5 : decode cX8_chance 5 = .ok (.ifCond .eq 19, 3) := by decide +kernel
theorem dX8_chance_24 : decode cX8_chance 24 = .ok (.bipush (-2), 2) := by decide +kernel
theorem dX8_chance_26 : decode cX8_chance 26 = .ok (.ireturn, 1) := by decide +kernel
theorem dX8_count_0 : decode cX8_count 0 = .ok (.iconst 0, 1) := by decide +kernel
theorem dX8_count_1 : decode cX8_count 1 = .ok (.istore_n 2, 1) := by decide +kernel
theorem dX8_count_2 : decode cX8_count 2 = .ok (.iconst 0, 1) := by decide +kernel
theorem dX8_count_3 : decode cX8_count 3 = .ok (.istore_n 3, 1) := by decide +kernel
theorem dX8_count_4 : decode cX8_count 4 = .ok (.iload_n 3, 1) := by decide +kernel
theorem dX8_count_5 : decode cX8_count 5 = .ok (.aload_n 0, 1) := by decide +kernel
theorem dX8_count_6 : decode cX8_count 6 = .ok (.getfield 13, 3) := by decide +kernel
theorem dX8_count_9 : decode cX8_count 9 = .ok (.iconst 3, 1) := by decide +kernel
theorem dX8_count_10 : decode cX8_count 10 = .ok (.iaload, 1) := by decide +kernel
theorem dX8_count_11 : decode cX8_count 11 = .ok (.if_icmp .ge 27, 3) := by decide +kernel
theorem dX8_count_38 : decode cX8_count 38 = .ok (.iload_n 1, 1) := by decide +kernel
theorem dX8_count_39 : decode cX8_count 39 = .ok (.tableswitch 115 0 9 #[53, 60, 67, 74, 82, 90, 98, 100, 105, 110], 53) := by decide +kernel
theorem dX8_count_92 : decode cX8_count 92 = .ok (.aload_n 0, 1) := by decide +kernel
theorem dX8_count_93 : decode cX8_count 93 = .ok (.getfield 13, 3) := by decide +kernel
theorem dX8_count_96 : decode cX8_count 96 = .ok (.iconst 0, 1) := by decide +kernel
theorem dX8_count_97 : decode cX8_count 97 = .ok (.iaload, 1) := by decide +kernel
theorem dX8_count_98 : decode cX8_count 98 = .ok (.ireturn, 1) := by decide +kernel
theorem dX8_count_99 : decode cX8_count 99 = .ok (.aload_n 0, 1) := by decide +kernel
theorem dX8_count_100 : decode cX8_count 100 = .ok (.getfield 13, 3) := by decide +kernel
theorem dX8_count_103 : decode cX8_count 103 = .ok (.iconst 3, 1) := by decide +kernel
theorem dX8_count_104 : decode cX8_count 104 = .ok (.iaload, 1) := by decide +kernel
theorem dX8_count_105 : decode cX8_count 105 = .ok (.ireturn, 1) := by decide +kernel
theorem dX8_count_106 : decode cX8_count 106 = .ok (.aload_n 0, 1) := by decide +kernel
theorem dX8_count_107 : decode cX8_count 107 = .ok (.getfield 13, 3) := by decide +kernel
theorem dX8_count_110 : decode cX8_count 110 = .ok (.iconst 4, 1) := by decide +kernel
theorem dX8_count_111 : decode cX8_count 111 = .ok (.iaload, 1) := by decide +kernel
theorem dX8_count_112 : decode cX8_count 112 = .ok (.ireturn, 1) := by decide +kernel
theorem dX8_count_113 : decode cX8_count 113 = .ok (.aload_n 0, 1) := by decide +kernel
theorem dX8_count_114 : decode cX8_count 114 = .ok (.getfield 19, 3) := by decide +kernel
theorem dX8_count_117 : decode cX8_count 117 = .ok (.bipush 32, 2) := by decide +kernel
theorem dX8_count_119 : decode cX8_count 119 = .ok (.iaload, 1) := by decide +kernel
theorem dX8_count_120 : decode cX8_count 120 = .ok (.ireturn, 1) := by decide +kernel
theorem dX8_count_121 : decode cX8_count 121 = .ok (.aload_n 0, 1) := by decide +kernel
theorem dX8_count_122 : decode cX8_count 122 = .ok (.getfield 19, 3) := by decide +kernel
theorem dX8_count_125 : decode cX8_count 125 = .ok (.bipush 30, 2) := by decide +kernel
theorem dX8_count_127 : decode cX8_count 127 = .ok (.iaload, 1) := by decide +kernel
theorem dX8_count_128 : decode cX8_count 128 = .ok (.ireturn, 1) := by decide +kernel
theorem dX8_count_129 : decode cX8_count 129 = .ok (.aload_n 0, 1) := by decide +kernel
theorem dX8_count_130 : decode cX8_count 130 = .ok (.getfield 19, 3) := by decide +kernel
theorem dX8_count_133 : decode cX8_count 133 = .ok (.bipush 31, 2) := by decide +kernel
theorem dX8_count_135 : decode cX8_count 135 = .ok (.iaload, 1) := by decide +kernel
theorem dX8_count_136 : decode cX8_count 136 = .ok (.ireturn, 1) := by decide +kernel
theorem dX8_count_137 : decode cX8_count 137 = .ok (.iload_n 2, 1) := by decide +kernel
theorem dX8_count_138 : decode cX8_count 138 = .ok (.ireturn, 1) := by decide +kernel
theorem dX8_count_139 : decode cX8_count 139 = .ok (.aload_n 0, 1) := by decide +kernel
theorem dX8_count_140 : decode cX8_count 140 = .ok (.getfield 117, 3) := by decide +kernel
theorem dX8_count_143 : decode cX8_count 143 = .ok (.ireturn, 1) := by decide +kernel
theorem dX8_count_144 : decode cX8_count 144 = .ok (.aload_n 0, 1) := by decide +kernel
theorem dX8_count_145 : decode cX8_count 145 = .ok (.getfield 114, 3) := by decide +kernel
theorem dX8_count_148 : decode cX8_count 148 = .ok (.ireturn, 1) := by decide +kernel
theorem dX8_count_149 : decode cX8_count 149 = .ok (.aload_n 0, 1) := by decide +kernel
theorem dX8_count_150 : decode cX8_count 150 = .ok (.getfield 64, 3) := by decide +kernel
theorem dX8_count_153 : decode cX8_count 153 = .ok (.ireturn, 1) := by decide +kernel
theorem dX8_count_154 : decode cX8_count 154 = .ok (.bipush (-3), 2) := by decide +kernel
theorem dX8_count_156 : decode cX8_count 156 = .ok (.ireturn, 1) := by decide +kernel
def sM_isPerson (p0 : Int32) : Int32 := (if 0 ≤ p0 ∧ p0 ≤ (-1) then (1 : Int32) else 0)
set_option maxHeartbeats 4000000 in
set_option maxRecDepth 100000 in
/-- the model: isPerson, at first -/
theorem c_M_isPerson (l : Launch) (D : va_G) (g : Nat → ClassId) (m0 : Nat) (v : Nat → Nat) (ft fs : Nat → Int32) (hF : ∀ k, k < 29 → ft k = fr k) (hS : ∀ k, k < 33 → fs k = fs0 k) (p0 : Int32) : CtI l yX8_isPerson wsX8_isPerson { frames := 1, cells := 0, slots := 0, locals := 40 } D (TY g) [.ref m0, .int p0] (fun _ => True) [(m0, .inr (8, [.ref (v 0), .int 0, .ref (v 1), .ref (v 2), .ref (v 3), .ref (v 4), .int 0, .ref (v 5), .ref (v 6), .ref (v 7), .int 0, .int 0, .int 0, .int 0, .int 0, .ref (v 8), .ref (v 9), .ref (v 10), .ref (v 11), .ref (v 12), .ref (v 13)])), ((v 1), .inl (g 0, 29, .inl ft))] (fun r (_ : Unit) => r = sM_isPerson p0) (fun _ => [(m0, .inr (8, [.ref (v 0), .int 0, .ref (v 1), .ref (v 2), .ref (v 3), .ref (v 4), .int 0, .ref (v 5), .ref (v 6), .ref (v 7), .int 0, .int 0, .int 0, .int 0, .int 0, .ref (v 8), .ref (v 9), .ref (v 10), .ref (v 11), .ref (v 12), .ref (v 13)])), ((v 1), .inl (g 0, 29, .inl ft))]) := by
  refine CtI.intro (cc := cX8_isPerson) (maxL := 2) (ret := (some .boolean)) rfl (by decide +kernel) (Nat.le_of_ble_eq_true rfl) ?_
  intro p e s m below meth c A ls C hmn hX hAe hT hl
  have hx := C.1.1
  have hb := C.1.2.1
  have hl : lv_has ls 2 [(0, .ref m0), (1, .int p0)] := hl
  have hin8 : ∀ w ∈ u_ws RX8 TX8 21, w ∈ wsX8_isPerson := by decide +kernel
  refine lv_iload_n hx hb dX8_isPerson_0 rfl (lv_at hl 1 rfl) ?_
  refine lv_iconst (v := 0) hx hb dX8_isPerson_1 (by decide +kernel) ?_
  refine lv_aload_n hx hb dX8_isPerson_2 rfl (lv_at hl 0 rfl) ?_
  refine z_get C (ci := 8) (N := 21) rfl hin8 hT 0 2 rfl rfl (by decide +kernel) (by decide +kernel) dX8_isPerson_3 ?_
  refine lv_iconst (v := 3) hx hb dX8_isPerson_6 (by decide +kernel) ?_
  refine z_iald C hT 1 0 rfl rfl (vin rfl) (v := 0) ((hF 3 (by decide)).trans rfl) dX8_isPerson_7 ?_
  refine lv_iconst (v := 1) hx hb dX8_isPerson_8 (by decide +kernel) ?_
  refine lv_isub hx hb dX8_isPerson_9 ?_
  refine z_eq (y := (-1)) (by decide +kernel) ?_
  refine z_callSI (wr := [(m0, .inr (8, [.ref (v 0), .int 0, .ref (v 1), .ref (v 2), .ref (v 3), .ref (v 4), .int 0, .ref (v 5), .ref (v 6), .ref (v 7), .int 0, .int 0, .int 0, .int 0, .int 0, .ref (v 8), .ref (v 9), .ref (v 10), .ref (v 11), .ref (v 12), .ref (v 13)])), ((v 1), .inl (g 0, 29, .inl ft))]) (n := 3) (As := [.int p0, .int 0, .int (-1)]) C (c_M_in l D g p0 0 (-1)) gX8_isPerson_X8_in rfl (by decide +kernel) ⟨Nat.le_of_ble_eq_true rfl, Nat.le_of_ble_eq_true rfl⟩ ⟨Nat.le_of_ble_eq_true rfl, Nat.le_of_ble_eq_true rfl⟩ blind_T (fun _ _ _ => trivial) hT [] [0, 1] rfl rfl rfl rfl rfl rfl hl.1 rfl (Nat.le_of_ble_eq_true rfl) dX8_isPerson_10 (fun r_3 u_1 H locs hp_2 hT => ?_)
  have hT : Sit D (TY g) A s [(m0, .inr (8, [.ref (v 0), .int 0, .ref (v 1), .ref (v 2), .ref (v 3), .ref (v 4), .int 0, .ref (v 5), .ref (v 6), .ref (v 7), .int 0, .int 0, .int 0, .int 0, .int 0, .ref (v 8), .ref (v 9), .ref (v 10), .ref (v 11), .ref (v 12), .ref (v 13)])), ((v 1), .inl (g 0, 29, .inl ft))] H _ := hT
  subst hp_2
  exact z_zret C rfl (by first | rfl | (split <;> rfl)) hT () rfl [0, 1] rfl rfl (Nat.le_of_ble_eq_true rfl) (Nat.le_of_ble_eq_true rfl) dX8_isPerson_13

def sM_isSort (p0 : Int32) : Int32 := (if 0 ≤ p0 ∧ p0 ≤ (-1) then (1 : Int32) else 0)
set_option maxHeartbeats 4000000 in
set_option maxRecDepth 100000 in
/-- the model: isSort, at first -/
theorem c_M_isSort (l : Launch) (D : va_G) (g : Nat → ClassId) (m0 : Nat) (v : Nat → Nat) (ft fs : Nat → Int32) (hF : ∀ k, k < 29 → ft k = fr k) (hS : ∀ k, k < 33 → fs k = fs0 k) (p0 : Int32) : CtI l yX8_isSort wsX8_isSort { frames := 1, cells := 0, slots := 0, locals := 40 } D (TY g) [.ref m0, .int p0] (fun _ => True) [(m0, .inr (8, [.ref (v 0), .int 0, .ref (v 1), .ref (v 2), .ref (v 3), .ref (v 4), .int 0, .ref (v 5), .ref (v 6), .ref (v 7), .int 0, .int 0, .int 0, .int 0, .int 0, .ref (v 8), .ref (v 9), .ref (v 10), .ref (v 11), .ref (v 12), .ref (v 13)])), ((v 1), .inl (g 0, 29, .inl ft))] (fun r (_ : Unit) => r = sM_isSort p0) (fun _ => [(m0, .inr (8, [.ref (v 0), .int 0, .ref (v 1), .ref (v 2), .ref (v 3), .ref (v 4), .int 0, .ref (v 5), .ref (v 6), .ref (v 7), .int 0, .int 0, .int 0, .int 0, .int 0, .ref (v 8), .ref (v 9), .ref (v 10), .ref (v 11), .ref (v 12), .ref (v 13)])), ((v 1), .inl (g 0, 29, .inl ft))]) := by
  refine CtI.intro (cc := cX8_isSort) (maxL := 2) (ret := (some .boolean)) rfl (by decide +kernel) (Nat.le_of_ble_eq_true rfl) ?_
  intro p e s m below meth c A ls C hmn hX hAe hT hl
  have hx := C.1.1
  have hb := C.1.2.1
  have hl : lv_has ls 2 [(0, .ref m0), (1, .int p0)] := hl
  have hin8 : ∀ w ∈ u_ws RX8 TX8 21, w ∈ wsX8_isSort := by decide +kernel
  refine lv_iload_n hx hb dX8_isSort_0 rfl (lv_at hl 1 rfl) ?_
  refine lv_iconst (v := 0) hx hb dX8_isSort_1 (by decide +kernel) ?_
  refine lv_aload_n hx hb dX8_isSort_2 rfl (lv_at hl 0 rfl) ?_
  refine z_get C (ci := 8) (N := 21) rfl hin8 hT 0 2 rfl rfl (by decide +kernel) (by decide +kernel) dX8_isSort_3 ?_
  refine lv_iconst (v := 4) hx hb dX8_isSort_6 (by decide +kernel) ?_
  refine z_iald C hT 1 0 rfl rfl (vin rfl) (v := 0) ((hF 4 (by decide)).trans rfl) dX8_isSort_7 ?_
  refine lv_iconst (v := 1) hx hb dX8_isSort_8 (by decide +kernel) ?_
  refine lv_isub hx hb dX8_isSort_9 ?_
  refine z_eq (y := (-1)) (by decide +kernel) ?_
  refine z_callSI (wr := [(m0, .inr (8, [.ref (v 0), .int 0, .ref (v 1), .ref (v 2), .ref (v 3), .ref (v 4), .int 0, .ref (v 5), .ref (v 6), .ref (v 7), .int 0, .int 0, .int 0, .int 0, .int 0, .ref (v 8), .ref (v 9), .ref (v 10), .ref (v 11), .ref (v 12), .ref (v 13)])), ((v 1), .inl (g 0, 29, .inl ft))]) (n := 3) (As := [.int p0, .int 0, .int (-1)]) C (c_M_in l D g p0 0 (-1)) gX8_isSort_X8_in rfl (by decide +kernel) ⟨Nat.le_of_ble_eq_true rfl, Nat.le_of_ble_eq_true rfl⟩ ⟨Nat.le_of_ble_eq_true rfl, Nat.le_of_ble_eq_true rfl⟩ blind_T (fun _ _ _ => trivial) hT [] [0, 1] rfl rfl rfl rfl rfl rfl hl.1 rfl (Nat.le_of_ble_eq_true rfl) dX8_isSort_10 (fun r_3 u_1 H locs hp_2 hT => ?_)
  have hT : Sit D (TY g) A s [(m0, .inr (8, [.ref (v 0), .int 0, .ref (v 1), .ref (v 2), .ref (v 3), .ref (v 4), .int 0, .ref (v 5), .ref (v 6), .ref (v 7), .int 0, .int 0, .int 0, .int 0, .int 0, .ref (v 8), .ref (v 9), .ref (v 10), .ref (v 11), .ref (v 12), .ref (v 13)])), ((v 1), .inl (g 0, 29, .inl ft))] H _ := hT
  subst hp_2
  exact z_zret C rfl (by first | rfl | (split <;> rfl)) hT () rfl [0, 1] rfl rfl (Nat.le_of_ble_eq_true rfl) (Nat.le_of_ble_eq_true rfl) dX8_isSort_13

def sM_isJoint (p0 : Int32) : Int32 := (if 0 ≤ p0 ∧ p0 ≤ 4 then (1 : Int32) else 0)
set_option maxHeartbeats 4000000 in
set_option maxRecDepth 100000 in
/-- the model: isJoint, at first -/
theorem c_M_isJoint (l : Launch) (D : va_G) (g : Nat → ClassId) (m0 : Nat) (v : Nat → Nat) (ft fs : Nat → Int32) (hF : ∀ k, k < 29 → ft k = fr k) (hS : ∀ k, k < 33 → fs k = fs0 k) (p0 : Int32) : CtI l yX8_isJoint wsX8_isJoint { frames := 1, cells := 0, slots := 0, locals := 40 } D (TY g) [.ref m0, .int p0] (fun _ => True) [(m0, .inr (8, [.ref (v 0), .int 0, .ref (v 1), .ref (v 2), .ref (v 3), .ref (v 4), .int 0, .ref (v 5), .ref (v 6), .ref (v 7), .int 0, .int 0, .int 0, .int 0, .int 0, .ref (v 8), .ref (v 9), .ref (v 10), .ref (v 11), .ref (v 12), .ref (v 13)])), ((v 1), .inl (g 0, 29, .inl ft))] (fun r (_ : Unit) => r = sM_isJoint p0) (fun _ => [(m0, .inr (8, [.ref (v 0), .int 0, .ref (v 1), .ref (v 2), .ref (v 3), .ref (v 4), .int 0, .ref (v 5), .ref (v 6), .ref (v 7), .int 0, .int 0, .int 0, .int 0, .int 0, .ref (v 8), .ref (v 9), .ref (v 10), .ref (v 11), .ref (v 12), .ref (v 13)])), ((v 1), .inl (g 0, 29, .inl ft))]) := by
  refine CtI.intro (cc := cX8_isJoint) (maxL := 2) (ret := (some .boolean)) rfl (by decide +kernel) (Nat.le_of_ble_eq_true rfl) ?_
  intro p e s m below meth c A ls C hmn hX hAe hT hl
  have hx := C.1.1
  have hb := C.1.2.1
  have hl : lv_has ls 2 [(0, .ref m0), (1, .int p0)] := hl
  have hin8 : ∀ w ∈ u_ws RX8 TX8 21, w ∈ wsX8_isJoint := by decide +kernel
  refine lv_iload_n hx hb dX8_isJoint_0 rfl (lv_at hl 1 rfl) ?_
  refine lv_iconst (v := 0) hx hb dX8_isJoint_1 (by decide +kernel) ?_
  refine lv_aload_n hx hb dX8_isJoint_2 rfl (lv_at hl 0 rfl) ?_
  refine z_get C (ci := 8) (N := 21) rfl hin8 hT 0 2 rfl rfl (by decide +kernel) (by decide +kernel) dX8_isJoint_3 ?_
  refine lv_iconst (v := 0) hx hb dX8_isJoint_6 (by decide +kernel) ?_
  refine z_iald C hT 1 0 rfl rfl (vin rfl) (v := 5) ((hF 0 (by decide)).trans rfl) dX8_isJoint_7 ?_
  refine lv_iconst (v := 1) hx hb dX8_isJoint_8 (by decide +kernel) ?_
  refine lv_isub hx hb dX8_isJoint_9 ?_
  refine z_eq (y := 4) (by decide +kernel) ?_
  refine z_callSI (wr := [(m0, .inr (8, [.ref (v 0), .int 0, .ref (v 1), .ref (v 2), .ref (v 3), .ref (v 4), .int 0, .ref (v 5), .ref (v 6), .ref (v 7), .int 0, .int 0, .int 0, .int 0, .int 0, .ref (v 8), .ref (v 9), .ref (v 10), .ref (v 11), .ref (v 12), .ref (v 13)])), ((v 1), .inl (g 0, 29, .inl ft))]) (n := 3) (As := [.int p0, .int 0, .int 4]) C (c_M_in l D g p0 0 4) gX8_isJoint_X8_in rfl (by decide +kernel) ⟨Nat.le_of_ble_eq_true rfl, Nat.le_of_ble_eq_true rfl⟩ ⟨Nat.le_of_ble_eq_true rfl, Nat.le_of_ble_eq_true rfl⟩ blind_T (fun _ _ _ => trivial) hT [] [0, 1] rfl rfl rfl rfl rfl rfl hl.1 rfl (Nat.le_of_ble_eq_true rfl) dX8_isJoint_10 (fun r_3 u_1 H locs hp_2 hT => ?_)
  have hT : Sit D (TY g) A s [(m0, .inr (8, [.ref (v 0), .int 0, .ref (v 1), .ref (v 2), .ref (v 3), .ref (v 4), .int 0, .ref (v 5), .ref (v 6), .ref (v 7), .int 0, .int 0, .int 0, .int 0, .int 0, .ref (v 8), .ref (v 9), .ref (v 10), .ref (v 11), .ref (v 12), .ref (v 13)])), ((v 1), .inl (g 0, 29, .inl ft))] H _ := hT
  subst hp_2
  exact z_zret C rfl (by first | rfl | (split <;> rfl)) hT () rfl [0, 1] rfl rfl (Nat.le_of_ble_eq_true rfl) (Nat.le_of_ble_eq_true rfl) dX8_isJoint_13

theorem sM_isPerson_0 (p0 : Int32) : sM_isPerson p0 = 0 := by
  unfold sM_isPerson
  rw [if_neg (fun h => absurd (Int32.le_trans h.1 h.2) (by decide +kernel))]
theorem sM_isSort_0 (p0 : Int32) : sM_isSort p0 = 0 := by
  unfold sM_isSort
  rw [if_neg (fun h => absurd (Int32.le_trans h.1 h.2) (by decide +kernel))]

def sM_write (p0 : Int32) : Int32 := (if (if 0 ≤ p0 ∧ p0 ≤ 255 then (1 : Int32) else 0) = 0 then (-3) else 1)
set_option maxHeartbeats 4000000 in
set_option maxRecDepth 100000 in
/-- the model: write, at first -/
theorem c_M_write (l : Launch) (D : va_G) (g : Nat → ClassId) (m0 : Nat) (v : Nat → Nat) (ft fs : Nat → Int32) (hF : ∀ k, k < 29 → ft k = fr k) (hS : ∀ k, k < 33 → fs k = fs0 k) (p0 : Int32) : CtI l yX8_write wsX8_write { frames := 2, cells := 0, slots := 0, locals := 80 } D (TY g) [.ref m0, .int p0] (fun _ => True) [(m0, .inr (8, [.ref (v 0), .int 0, .ref (v 1), .ref (v 2), .ref (v 3), .ref (v 4), .int 0, .ref (v 5), .ref (v 6), .ref (v 7), .int 0, .int 0, .int 0, .int 0, .int 0, .ref (v 8), .ref (v 9), .ref (v 10), .ref (v 11), .ref (v 12), .ref (v 13)])), ((v 0), .inl (g 0, 160, .inl (fun _ => 0)))] (fun r (_ : Unit) => r = sM_write p0) (fun _ => []) := by
  refine CtI.intro (cc := cX8_write) (maxL := 2) (ret := (some .int)) rfl (by decide +kernel) (Nat.le_of_ble_eq_true rfl) ?_
  intro p e s m below meth c A ls C hmn hX hAe hT hl
  have hx := C.1.1
  have hb := C.1.2.1
  have hl : lv_has ls 2 [(0, .ref m0), (1, .int p0)] := hl
  have hin8 : ∀ w ∈ u_ws RX8 TX8 21, w ∈ wsX8_write := by decide +kernel
  refine lv_iload_n hx hb dX8_write_0 rfl (lv_at hl 1 rfl) ?_
  refine lv_iconst (v := 0) hx hb dX8_write_1 (by decide +kernel) ?_
  refine lv_sipush (v := 255) hx hb dX8_write_2 (by decide +kernel) ?_
  refine z_callSI (wr := [(m0, .inr (8, [.ref (v 0), .int 0, .ref (v 1), .ref (v 2), .ref (v 3), .ref (v 4), .int 0, .ref (v 5), .ref (v 6), .ref (v 7), .int 0, .int 0, .int 0, .int 0, .int 0, .ref (v 8), .ref (v 9), .ref (v 10), .ref (v 11), .ref (v 12), .ref (v 13)])), ((v 0), .inl (g 0, 160, .inl (fun _ => 0)))]) (n := 3) (As := [.int p0, .int 0, .int 255]) C (c_M_in l D g p0 0 255) gX8_write_X8_in rfl (by decide +kernel) ⟨Nat.le_of_ble_eq_true rfl, Nat.le_of_ble_eq_true rfl⟩ ⟨Nat.le_of_ble_eq_true rfl, Nat.le_of_ble_eq_true rfl⟩ blind_T (fun _ _ _ => trivial) hT [] [0, 1] rfl rfl rfl rfl rfl rfl hl.1 rfl (Nat.le_of_ble_eq_true rfl) dX8_write_5 (fun r_3 u_1 H locs hp_2 hT => ?_)
  have hT : Sit D (TY g) A s [(m0, .inr (8, [.ref (v 0), .int 0, .ref (v 1), .ref (v 2), .ref (v 3), .ref (v 4), .int 0, .ref (v 5), .ref (v 6), .ref (v 7), .int 0, .int 0, .int 0, .int 0, .int 0, .ref (v 8), .ref (v 9), .ref (v 10), .ref (v 11), .ref (v 12), .ref (v 13)])), ((v 0), .inl (g 0, 160, .inl (fun _ => 0)))] H _ := hT
  subst hp_2
  refine lv_if_ne (tgt := 14) hx hb dX8_write_8 (by decide +kernel) (fun c_8 => ?_) (fun c_8 => ?_)
  · refine lv_aload_n hx hb dX8_write_14 rfl (lv_at hl 0 rfl) ?_
    refine z_get C (ci := 8) (N := 21) rfl hin8 hT 0 1 rfl rfl (by decide +kernel) (by decide +kernel) dX8_write_15 ?_
    refine lv_sipush (v := 160) hx hb dX8_write_18 (by decide +kernel) ?_
    refine lv_icmp_ne (tgt := 27) hx hb dX8_write_21 (by decide +kernel) (fun _ => ?_) (fun c9 => absurd c9 (by decide +kernel))
    refine lv_aload_n hx hb dX8_write_27 rfl (lv_at hl 0 rfl) ?_
    refine z_get C (ci := 8) (N := 21) rfl hin8 hT 0 0 rfl rfl (by decide +kernel) (by decide +kernel) dX8_write_28 ?_
    refine lv_aload_n hx hb dX8_write_31 rfl (lv_at hl 0 rfl) ?_
    refine z_get C (ci := 8) (N := 21) rfl hin8 hT 0 1 rfl rfl (by decide +kernel) (by decide +kernel) dX8_write_32 ?_
    refine lv_iload_n hx hb dX8_write_35 rfl (lv_at hl 1 rfl) ?_
    refine z_iast C hT 1 0 rfl rfl (vin rfl) dX8_write_36 (upd (fun _ => 0) 0 p0) rfl [(m0, .inr (8, [.ref (v 0), .int 0, .ref (v 1), .ref (v 2), .ref (v 3), .ref (v 4), .int 0, .ref (v 5), .ref (v 6), .ref (v 7), .int 0, .int 0, .int 0, .int 0, .int 0, .ref (v 8), .ref (v 9), .ref (v 10), .ref (v 11), .ref (v 12), .ref (v 13)])), ((v 0), .inl (g 0, 160, .inl (upd (fun _ => 0) 0 p0)))] rfl (fun H locs hT => ?_)
    refine lv_aload_n hx hb dX8_write_37 rfl (lv_at hl 0 rfl) ?_
    refine lv_dup hx hb dX8_write_38 rfl ?_
    refine z_get C (ci := 8) (N := 21) rfl hin8 hT 0 1 rfl rfl (by decide +kernel) (by decide +kernel) dX8_write_39 ?_
    refine lv_iconst (v := 1) hx hb dX8_write_42 (by decide +kernel) ?_
    refine lv_iadd hx hb dX8_write_43 ?_
    refine z_eq (y := 1) (by decide +kernel) ?_
    refine z_put C (ci := 8) (N := 21) rfl hin8 tyX8_ok nmX8 hT 0 1 rfl (Nat.le_of_ble_eq_true rfl) (by decide +kernel) (by decide +kernel) rfl rfl rfl dX8_write_44 [(m0, .inr (8, [.ref (v 0), .int 1, .ref (v 1), .ref (v 2), .ref (v 3), .ref (v 4), .int 0, .ref (v 5), .ref (v 6), .ref (v 7), .int 0, .int 0, .int 0, .int 0, .int 0, .ref (v 8), .ref (v 9), .ref (v 10), .ref (v 11), .ref (v 12), .ref (v 13)])), ((v 0), .inl (g 0, 160, .inl (upd (fun _ => 0) 0 p0)))] rfl (fun H locs hT => ?_)
    refine lv_aload_n hx hb dX8_write_47 rfl (lv_at hl 0 rfl) ?_
    refine z_get C (ci := 8) (N := 21) rfl hin8 hT 0 1 rfl rfl (by decide +kernel) (by decide +kernel) dX8_write_48 ?_
    exact z_iret C rfl hT () (by unfold sM_write; rw [if_neg c_8]) [] rfl rfl (Nat.le_of_ble_eq_true rfl) (Nat.le_of_ble_eq_true rfl) dX8_write_51
  · refine lv_bipush (v := (-3)) hx hb dX8_write_11 (by decide +kernel) ?_
    exact z_iret C rfl hT () (by unfold sM_write; rw [if_pos c_8]) [] rfl rfl (Nat.le_of_ble_eq_true rfl) (Nat.le_of_ble_eq_true rfl) dX8_write_13

def sM_erase  : Int32 := 0
set_option maxHeartbeats 4000000 in
set_option maxRecDepth 100000 in
/-- the model: erase, at first -/
theorem c_M_erase (l : Launch) (D : va_G) (g : Nat → ClassId) (m0 : Nat) (v : Nat → Nat) (ft fs : Nat → Int32) (hF : ∀ k, k < 29 → ft k = fr k) (hS : ∀ k, k < 33 → fs k = fs0 k) : CtI l yX8_erase wsX8_erase { frames := 0, cells := 0, slots := 0, locals := 0 } D (TY g) [.ref m0] (fun _ => True) [(m0, .inr (8, [.ref (v 0), .int 0, .ref (v 1), .ref (v 2), .ref (v 3), .ref (v 4), .int 0, .ref (v 5), .ref (v 6), .ref (v 7), .int 0, .int 0, .int 0, .int 0, .int 0, .ref (v 8), .ref (v 9), .ref (v 10), .ref (v 11), .ref (v 12), .ref (v 13)]))] (fun r (_ : Unit) => r = sM_erase ) (fun _ => []) := by
  refine CtI.intro (cc := cX8_erase) (maxL := 2) (ret := (some .int)) rfl (by decide +kernel) (Nat.le_of_ble_eq_true rfl) ?_
  intro p e s m below meth c A ls C hmn hX hAe hT hl
  have hx := C.1.1
  have hb := C.1.2.1
  have hl : lv_has ls 2 [(0, .ref m0)] := hl
  have hin8 : ∀ w ∈ u_ws RX8 TX8 21, w ∈ wsX8_erase := by decide +kernel
  refine lv_aload_n hx hb dX8_erase_0 rfl (lv_at hl 0 rfl) ?_
  refine z_get C (ci := 8) (N := 21) rfl hin8 hT 0 1 rfl rfl (by decide +kernel) (by decide +kernel) dX8_erase_1 ?_
  refine lv_istore_n (lv' := [(1, .int 0), (0, .ref m0)]) hx hb dX8_erase_4 rfl hl (by decide +kernel) rfl (fun ls hl => ?_)
  refine lv_aload_n hx hb dX8_erase_5 rfl (lv_at hl 1 rfl) ?_
  refine lv_iconst (v := 0) hx hb dX8_erase_6 (by decide +kernel) ?_
  refine z_put C (ci := 8) (N := 21) rfl hin8 tyX8_ok nmX8 hT 0 1 rfl (Nat.le_of_ble_eq_true rfl) (by decide +kernel) (by decide +kernel) rfl rfl rfl dX8_erase_7 [(m0, .inr (8, [.ref (v 0), .int 0, .ref (v 1), .ref (v 2), .ref (v 3), .ref (v 4), .int 0, .ref (v 5), .ref (v 6), .ref (v 7), .int 0, .int 0, .int 0, .int 0, .int 0, .ref (v 8), .ref (v 9), .ref (v 10), .ref (v 11), .ref (v 12), .ref (v 13)]))] rfl (fun H locs hT => ?_)
  refine lv_iload_n hx hb dX8_erase_10 rfl (lv_at hl 0 rfl) ?_
  exact z_iret C rfl hT () rfl [] rfl rfl (Nat.le_of_ble_eq_true rfl) (Nat.le_of_ble_eq_true rfl) dX8_erase_11

def sM_person (p0 p1 : Int32) : Int32 := (-2)
set_option maxHeartbeats 4000000 in
set_option maxRecDepth 100000 in
/-- the model: person, at first -/
theorem c_M_person (l : Launch) (D : va_G) (g : Nat → ClassId) (m0 : Nat) (v : Nat → Nat) (ft fs : Nat → Int32) (hF : ∀ k, k < 29 → ft k = fr k) (hS : ∀ k, k < 33 → fs k = fs0 k) (p0 p1 : Int32) : CtI l yX8_person wsX8_person { frames := 2, cells := 0, slots := 0, locals := 80 } D (TY g) [.ref m0, .int p0, .int p1] (fun _ => True) [(m0, .inr (8, [.ref (v 0), .int 0, .ref (v 1), .ref (v 2), .ref (v 3), .ref (v 4), .int 0, .ref (v 5), .ref (v 6), .ref (v 7), .int 0, .int 0, .int 0, .int 0, .int 0, .ref (v 8), .ref (v 9), .ref (v 10), .ref (v 11), .ref (v 12), .ref (v 13)])), ((v 1), .inl (g 0, 29, .inl ft))] (fun r (_ : Unit) => r = sM_person p0 p1) (fun _ => []) := by
  refine CtI.intro (cc := cX8_person) (maxL := 3) (ret := (some .int)) rfl (by decide +kernel) (Nat.le_of_ble_eq_true rfl) ?_
  intro p e s m below meth c A ls C hmn hX hAe hT hl
  have hx := C.1.1
  have hb := C.1.2.1
  have hl : lv_has ls 3 [(0, .ref m0), (1, .int p0), (2, .int p1)] := hl
  refine lv_aload_n hx hb dX8_person_0 rfl (lv_at hl 0 rfl) ?_
  refine lv_iload_n hx hb dX8_person_1 rfl (lv_at hl 1 rfl) ?_
  refine z_callVI (wr := []) (n := 1) C (c_M_isPerson l D g m0 v ft fs hF hS p0) gX8_person_X8_isPerson rfl (by decide +kernel) ⟨Nat.le_of_ble_eq_true rfl, Nat.le_of_ble_eq_true rfl⟩ ⟨Nat.le_of_ble_eq_true rfl, Nat.le_of_ble_eq_true rfl⟩ blind_T (fun _ _ _ => trivial) hT [0, 1] [] rfl rfl rfl rfl rfl 0 rfl rfl rfl rfl hl.1 rfl (Nat.le_of_ble_eq_true rfl) dX8_person_2 (fun r_3 u_1 H locs hp_2 hT => ?_)
  have hT : Sit D (TY g) A s [(m0, .inr (8, [.ref (v 0), .int 0, .ref (v 1), .ref (v 2), .ref (v 3), .ref (v 4), .int 0, .ref (v 5), .ref (v 6), .ref (v 7), .int 0, .int 0, .int 0, .int 0, .int 0, .ref (v 8), .ref (v 9), .ref (v 10), .ref (v 11), .ref (v 12), .ref (v 13)])), ((v 1), .inl (g 0, 29, .inl ft))] H _ := hT
  have hp_2 := hp_2.trans (sM_isPerson_0 p0)
  subst hp_2
  refine lv_if_ne (tgt := 11) hx hb dX8_person_5 (by decide +kernel) (fun c9 => absurd c9 (by decide +kernel)) (fun _ => ?_)
  refine lv_bipush (v := (-2)) hx hb dX8_person_8 (by decide +kernel) ?_
  exact z_iret C rfl hT () rfl [] rfl rfl (Nat.le_of_ble_eq_true rfl) (Nat.le_of_ble_eq_true rfl) dX8_person_10

def sM_sort (p0 p1 : Int32) : Int32 := (-2)
set_option maxHeartbeats 4000000 in
set_option maxRecDepth 100000 in
/-- the model: sort, at first -/
theorem c_M_sort (l : Launch) (D : va_G) (g : Nat → ClassId) (m0 : Nat) (v : Nat → Nat) (ft fs : Nat → Int32) (hF : ∀ k, k < 29 → ft k = fr k) (hS : ∀ k, k < 33 → fs k = fs0 k) (p0 p1 : Int32) : CtI l yX8_sort wsX8_sort { frames := 2, cells := 0, slots := 0, locals := 80 } D (TY g) [.ref m0, .int p0, .int p1] (fun _ => True) [(m0, .inr (8, [.ref (v 0), .int 0, .ref (v 1), .ref (v 2), .ref (v 3), .ref (v 4), .int 0, .ref (v 5), .ref (v 6), .ref (v 7), .int 0, .int 0, .int 0, .int 0, .int 0, .ref (v 8), .ref (v 9), .ref (v 10), .ref (v 11), .ref (v 12), .ref (v 13)])), ((v 1), .inl (g 0, 29, .inl ft))] (fun r (_ : Unit) => r = sM_sort p0 p1) (fun _ => []) := by
  refine CtI.intro (cc := cX8_sort) (maxL := 3) (ret := (some .int)) rfl (by decide +kernel) (Nat.le_of_ble_eq_true rfl) ?_
  intro p e s m below meth c A ls C hmn hX hAe hT hl
  have hx := C.1.1
  have hb := C.1.2.1
  have hl : lv_has ls 3 [(0, .ref m0), (1, .int p0), (2, .int p1)] := hl
  refine lv_aload_n hx hb dX8_sort_0 rfl (lv_at hl 0 rfl) ?_
  refine lv_iload_n hx hb dX8_sort_1 rfl (lv_at hl 1 rfl) ?_
  refine z_callVI (wr := []) (n := 1) C (c_M_isSort l D g m0 v ft fs hF hS p0) gX8_sort_X8_isSort rfl (by decide +kernel) ⟨Nat.le_of_ble_eq_true rfl, Nat.le_of_ble_eq_true rfl⟩ ⟨Nat.le_of_ble_eq_true rfl, Nat.le_of_ble_eq_true rfl⟩ blind_T (fun _ _ _ => trivial) hT [0, 1] [] rfl rfl rfl rfl rfl 0 rfl rfl rfl rfl hl.1 rfl (Nat.le_of_ble_eq_true rfl) dX8_sort_2 (fun r_3 u_1 H locs hp_2 hT => ?_)
  have hT : Sit D (TY g) A s [(m0, .inr (8, [.ref (v 0), .int 0, .ref (v 1), .ref (v 2), .ref (v 3), .ref (v 4), .int 0, .ref (v 5), .ref (v 6), .ref (v 7), .int 0, .int 0, .int 0, .int 0, .int 0, .ref (v 8), .ref (v 9), .ref (v 10), .ref (v 11), .ref (v 12), .ref (v 13)])), ((v 1), .inl (g 0, 29, .inl ft))] H _ := hT
  have hp_2 := hp_2.trans (sM_isSort_0 p0)
  subst hp_2
  refine lv_if_ne (tgt := 11) hx hb dX8_sort_5 (by decide +kernel) (fun c9 => absurd c9 (by decide +kernel)) (fun _ => ?_)
  refine lv_bipush (v := (-2)) hx hb dX8_sort_8 (by decide +kernel) ?_
  exact z_iret C rfl hT () rfl [] rfl rfl (Nat.le_of_ble_eq_true rfl) (Nat.le_of_ble_eq_true rfl) dX8_sort_10

def sM_as (p0 p1 : Int32) : Int32 := (-2)
set_option maxHeartbeats 4000000 in
set_option maxRecDepth 100000 in
/-- the model: as, at first -/
theorem c_M_as (l : Launch) (D : va_G) (g : Nat → ClassId) (m0 : Nat) (v : Nat → Nat) (ft fs : Nat → Int32) (hF : ∀ k, k < 29 → ft k = fr k) (hS : ∀ k, k < 33 → fs k = fs0 k) (p0 p1 : Int32) : CtI l yX8_as wsX8_as { frames := 2, cells := 0, slots := 0, locals := 80 } D (TY g) [.ref m0, .int p0, .int p1] (fun _ => True) [(m0, .inr (8, [.ref (v 0), .int 0, .ref (v 1), .ref (v 2), .ref (v 3), .ref (v 4), .int 0, .ref (v 5), .ref (v 6), .ref (v 7), .int 0, .int 0, .int 0, .int 0, .int 0, .ref (v 8), .ref (v 9), .ref (v 10), .ref (v 11), .ref (v 12), .ref (v 13)])), ((v 1), .inl (g 0, 29, .inl ft))] (fun r (_ : Unit) => r = sM_as p0 p1) (fun _ => []) := by
  refine CtI.intro (cc := cX8_as) (maxL := 5) (ret := (some .int)) rfl (by decide +kernel) (Nat.le_of_ble_eq_true rfl) ?_
  intro p e s m below meth c A ls C hmn hX hAe hT hl
  have hx := C.1.1
  have hb := C.1.2.1
  have hl : lv_has ls 5 [(0, .ref m0), (1, .int p0), (2, .int p1)] := hl
  refine lv_aload_n hx hb dX8_as_0 rfl (lv_at hl 0 rfl) ?_
  refine lv_iload_n hx hb dX8_as_1 rfl (lv_at hl 1 rfl) ?_
  refine z_callVI (wr := []) (n := 1) C (c_M_isPerson l D g m0 v ft fs hF hS p0) gX8_as_X8_isPerson rfl (by decide +kernel) ⟨Nat.le_of_ble_eq_true rfl, Nat.le_of_ble_eq_true rfl⟩ ⟨Nat.le_of_ble_eq_true rfl, Nat.le_of_ble_eq_true rfl⟩ blind_T (fun _ _ _ => trivial) hT [0, 1] [] rfl rfl rfl rfl rfl 0 rfl rfl rfl rfl hl.1 rfl (Nat.le_of_ble_eq_true rfl) dX8_as_2 (fun r_3 u_1 H locs hp_2 hT => ?_)
  have hT : Sit D (TY g) A s [(m0, .inr (8, [.ref (v 0), .int 0, .ref (v 1), .ref (v 2), .ref (v 3), .ref (v 4), .int 0, .ref (v 5), .ref (v 6), .ref (v 7), .int 0, .int 0, .int 0, .int 0, .int 0, .ref (v 8), .ref (v 9), .ref (v 10), .ref (v 11), .ref (v 12), .ref (v 13)])), ((v 1), .inl (g 0, 29, .inl ft))] H _ := hT
  have hp_2 := hp_2.trans (sM_isPerson_0 p0)
  subst hp_2
  refine lv_if_ne (tgt := 11) hx hb dX8_as_5 (by decide +kernel) (fun c9 => absurd c9 (by decide +kernel)) (fun _ => ?_)
  refine lv_bipush (v := (-2)) hx hb dX8_as_8 (by decide +kernel) ?_
  exact z_iret C rfl hT () rfl [] rfl rfl (Nat.le_of_ble_eq_true rfl) (Nat.le_of_ble_eq_true rfl) dX8_as_10

def sM_deed (p0 p1 : Int32) : Int32 := (-2)
set_option maxHeartbeats 4000000 in
set_option maxRecDepth 100000 in
/-- the model: deed, at first -/
theorem c_M_deed (l : Launch) (D : va_G) (g : Nat → ClassId) (m0 : Nat) (v : Nat → Nat) (ft fs : Nat → Int32) (hF : ∀ k, k < 29 → ft k = fr k) (hS : ∀ k, k < 33 → fs k = fs0 k) (p0 p1 : Int32) : CtI l yX8_deed wsX8_deed { frames := 2, cells := 0, slots := 0, locals := 80 } D (TY g) [.ref m0, .int p0, .int p1] (fun _ => True) [(m0, .inr (8, [.ref (v 0), .int 0, .ref (v 1), .ref (v 2), .ref (v 3), .ref (v 4), .int 0, .ref (v 5), .ref (v 6), .ref (v 7), .int 0, .int 0, .int 0, .int 0, .int 0, .ref (v 8), .ref (v 9), .ref (v 10), .ref (v 11), .ref (v 12), .ref (v 13)])), ((v 1), .inl (g 0, 29, .inl ft))] (fun r (_ : Unit) => r = sM_deed p0 p1) (fun _ => []) := by
  refine CtI.intro (cc := cX8_deed) (maxL := 3) (ret := (some .int)) rfl (by decide +kernel) (Nat.le_of_ble_eq_true rfl) ?_
  intro p e s m below meth c A ls C hmn hX hAe hT hl
  have hx := C.1.1
  have hb := C.1.2.1
  have hl : lv_has ls 3 [(0, .ref m0), (1, .int p0), (2, .int p1)] := hl
  refine lv_aload_n hx hb dX8_deed_0 rfl (lv_at hl 0 rfl) ?_
  refine lv_iload_n hx hb dX8_deed_1 rfl (lv_at hl 1 rfl) ?_
  refine z_callVI (wr := []) (n := 1) C (c_M_isPerson l D g m0 v ft fs hF hS p0) gX8_deed_X8_isPerson rfl (by decide +kernel) ⟨Nat.le_of_ble_eq_true rfl, Nat.le_of_ble_eq_true rfl⟩ ⟨Nat.le_of_ble_eq_true rfl, Nat.le_of_ble_eq_true rfl⟩ blind_T (fun _ _ _ => trivial) hT [0, 1] [] rfl rfl rfl rfl rfl 0 rfl rfl rfl rfl hl.1 rfl (Nat.le_of_ble_eq_true rfl) dX8_deed_2 (fun r_3 u_1 H locs hp_2 hT => ?_)
  have hT : Sit D (TY g) A s [(m0, .inr (8, [.ref (v 0), .int 0, .ref (v 1), .ref (v 2), .ref (v 3), .ref (v 4), .int 0, .ref (v 5), .ref (v 6), .ref (v 7), .int 0, .int 0, .int 0, .int 0, .int 0, .ref (v 8), .ref (v 9), .ref (v 10), .ref (v 11), .ref (v 12), .ref (v 13)])), ((v 1), .inl (g 0, 29, .inl ft))] H _ := hT
  have hp_2 := hp_2.trans (sM_isPerson_0 p0)
  subst hp_2
  refine lv_if_eq (tgt := 16) hx hb dX8_deed_5 (by decide +kernel) (fun _ => ?_) (fun c9 => absurd (by decide +kernel) c9)
  refine lv_bipush (v := (-2)) hx hb dX8_deed_16 (by decide +kernel) ?_
  exact z_iret C rfl hT () rfl [] rfl rfl (Nat.le_of_ble_eq_true rfl) (Nat.le_of_ble_eq_true rfl) dX8_deed_18

def sM_gets (p0 : Int32) : Int32 := (-2)
set_option maxHeartbeats 4000000 in
set_option maxRecDepth 100000 in
/-- the model: gets, at first -/
theorem c_M_gets (l : Launch) (D : va_G) (g : Nat → ClassId) (m0 : Nat) (v : Nat → Nat) (ft fs : Nat → Int32) (hF : ∀ k, k < 29 → ft k = fr k) (hS : ∀ k, k < 33 → fs k = fs0 k) (p0 : Int32) : CtI l yX8_gets wsX8_gets { frames := 2, cells := 0, slots := 0, locals := 80 } D (TY g) [.ref m0, .int p0] (fun _ => True) [(m0, .inr (8, [.ref (v 0), .int 0, .ref (v 1), .ref (v 2), .ref (v 3), .ref (v 4), .int 0, .ref (v 5), .ref (v 6), .ref (v 7), .int 0, .int 0, .int 0, .int 0, .int 0, .ref (v 8), .ref (v 9), .ref (v 10), .ref (v 11), .ref (v 12), .ref (v 13)])), ((v 1), .inl (g 0, 29, .inl ft))] (fun r (_ : Unit) => r = sM_gets p0) (fun _ => []) := by
  refine CtI.intro (cc := cX8_gets) (maxL := 2) (ret := (some .int)) rfl (by decide +kernel) (Nat.le_of_ble_eq_true rfl) ?_
  intro p e s m below meth c A ls C hmn hX hAe hT hl
  have hx := C.1.1
  have hb := C.1.2.1
  have hl : lv_has ls 2 [(0, .ref m0), (1, .int p0)] := hl
  refine lv_aload_n hx hb dX8_gets_0 rfl (lv_at hl 0 rfl) ?_
  refine lv_iload_n hx hb dX8_gets_1 rfl (lv_at hl 1 rfl) ?_
  refine z_callVI (wr := []) (n := 1) C (c_M_isPerson l D g m0 v ft fs hF hS p0) gX8_gets_X8_isPerson rfl (by decide +kernel) ⟨Nat.le_of_ble_eq_true rfl, Nat.le_of_ble_eq_true rfl⟩ ⟨Nat.le_of_ble_eq_true rfl, Nat.le_of_ble_eq_true rfl⟩ blind_T (fun _ _ _ => trivial) hT [0, 1] [] rfl rfl rfl rfl rfl 0 rfl rfl rfl rfl hl.1 rfl (Nat.le_of_ble_eq_true rfl) dX8_gets_2 (fun r_3 u_1 H locs hp_2 hT => ?_)
  have hT : Sit D (TY g) A s [(m0, .inr (8, [.ref (v 0), .int 0, .ref (v 1), .ref (v 2), .ref (v 3), .ref (v 4), .int 0, .ref (v 5), .ref (v 6), .ref (v 7), .int 0, .int 0, .int 0, .int 0, .int 0, .ref (v 8), .ref (v 9), .ref (v 10), .ref (v 11), .ref (v 12), .ref (v 13)])), ((v 1), .inl (g 0, 29, .inl ft))] H _ := hT
  have hp_2 := hp_2.trans (sM_isPerson_0 p0)
  subst hp_2
  refine lv_if_eq (tgt := 16) hx hb dX8_gets_5 (by decide +kernel) (fun _ => ?_) (fun c9 => absurd (by decide +kernel) c9)
  refine lv_bipush (v := (-2)) hx hb dX8_gets_16 (by decide +kernel) ?_
  exact z_iret C rfl hT () rfl [] rfl rfl (Nat.le_of_ble_eq_true rfl) (Nat.le_of_ble_eq_true rfl) dX8_gets_18

def sM_need (p0 p1 : Int32) : Int32 := (-2)
set_option maxHeartbeats 4000000 in
set_option maxRecDepth 100000 in
/-- the model: need, at first -/
theorem c_M_need (l : Launch) (D : va_G) (g : Nat → ClassId) (m0 : Nat) (v : Nat → Nat) (ft fs : Nat → Int32) (hF : ∀ k, k < 29 → ft k = fr k) (hS : ∀ k, k < 33 → fs k = fs0 k) (p0 p1 : Int32) : CtI l yX8_need wsX8_need { frames := 2, cells := 0, slots := 0, locals := 80 } D (TY g) [.ref m0, .int p0, .int p1] (fun _ => True) [(m0, .inr (8, [.ref (v 0), .int 0, .ref (v 1), .ref (v 2), .ref (v 3), .ref (v 4), .int 0, .ref (v 5), .ref (v 6), .ref (v 7), .int 0, .int 0, .int 0, .int 0, .int 0, .ref (v 8), .ref (v 9), .ref (v 10), .ref (v 11), .ref (v 12), .ref (v 13)])), ((v 1), .inl (g 0, 29, .inl ft))] (fun r (_ : Unit) => r = sM_need p0 p1) (fun _ => []) := by
  refine CtI.intro (cc := cX8_need) (maxL := 7) (ret := (some .int)) rfl (by decide +kernel) (Nat.le_of_ble_eq_true rfl) ?_
  intro p e s m below meth c A ls C hmn hX hAe hT hl
  have hx := C.1.1
  have hb := C.1.2.1
  have hl : lv_has ls 7 [(0, .ref m0), (1, .int p0), (2, .int p1)] := hl
  refine lv_aload_n hx hb dX8_need_0 rfl (lv_at hl 0 rfl) ?_
  refine lv_iload_n hx hb dX8_need_1 rfl (lv_at hl 1 rfl) ?_
  refine z_callVI (wr := []) (n := 1) C (c_M_isPerson l D g m0 v ft fs hF hS p0) gX8_need_X8_isPerson rfl (by decide +kernel) ⟨Nat.le_of_ble_eq_true rfl, Nat.le_of_ble_eq_true rfl⟩ ⟨Nat.le_of_ble_eq_true rfl, Nat.le_of_ble_eq_true rfl⟩ blind_T (fun _ _ _ => trivial) hT [0, 1] [] rfl rfl rfl rfl rfl 0 rfl rfl rfl rfl hl.1 rfl (Nat.le_of_ble_eq_true rfl) dX8_need_2 (fun r_3 u_1 H locs hp_2 hT => ?_)
  have hT : Sit D (TY g) A s [(m0, .inr (8, [.ref (v 0), .int 0, .ref (v 1), .ref (v 2), .ref (v 3), .ref (v 4), .int 0, .ref (v 5), .ref (v 6), .ref (v 7), .int 0, .int 0, .int 0, .int 0, .int 0, .ref (v 8), .ref (v 9), .ref (v 10), .ref (v 11), .ref (v 12), .ref (v 13)])), ((v 1), .inl (g 0, 29, .inl ft))] H _ := hT
  have hp_2 := hp_2.trans (sM_isPerson_0 p0)
  subst hp_2
  refine lv_if_eq (tgt := 16) hx hb dX8_need_5 (by decide +kernel) (fun _ => ?_) (fun c9 => absurd (by decide +kernel) c9)
  refine lv_bipush (v := (-2)) hx hb dX8_need_16 (by decide +kernel) ?_
  exact z_iret C rfl hT () rfl [] rfl rfl (Nat.le_of_ble_eq_true rfl) (Nat.le_of_ble_eq_true rfl) dX8_need_18

def sM_deeds (p0 p1 p2 : Int32) : Int32 := (-2)
set_option maxHeartbeats 4000000 in
set_option maxRecDepth 100000 in
/-- the model: deeds, at first -/
theorem c_M_deeds (l : Launch) (D : va_G) (g : Nat → ClassId) (m0 : Nat) (v : Nat → Nat) (ft fs : Nat → Int32) (hF : ∀ k, k < 29 → ft k = fr k) (hS : ∀ k, k < 33 → fs k = fs0 k) (p0 p1 p2 : Int32) : CtI l yX8_deeds wsX8_deeds { frames := 2, cells := 0, slots := 0, locals := 80 } D (TY g) [.ref m0, .int p0, .int p1, .int p2] (fun _ => True) [(m0, .inr (8, [.ref (v 0), .int 0, .ref (v 1), .ref (v 2), .ref (v 3), .ref (v 4), .int 0, .ref (v 5), .ref (v 6), .ref (v 7), .int 0, .int 0, .int 0, .int 0, .int 0, .ref (v 8), .ref (v 9), .ref (v 10), .ref (v 11), .ref (v 12), .ref (v 13)])), ((v 1), .inl (g 0, 29, .inl ft))] (fun r (_ : Unit) => r = sM_deeds p0 p1 p2) (fun _ => []) := by
  refine CtI.intro (cc := cX8_deeds) (maxL := 11) (ret := (some .int)) rfl (by decide +kernel) (Nat.le_of_ble_eq_true rfl) ?_
  intro p e s m below meth c A ls C hmn hX hAe hT hl
  have hx := C.1.1
  have hb := C.1.2.1
  have hl : lv_has ls 11 [(0, .ref m0), (1, .int p0), (2, .int p1), (3, .int p2)] := hl
  refine lv_aload_n hx hb dX8_deeds_0 rfl (lv_at hl 0 rfl) ?_
  refine lv_iload_n hx hb dX8_deeds_1 rfl (lv_at hl 1 rfl) ?_
  refine z_callVI (wr := []) (n := 1) C (c_M_isPerson l D g m0 v ft fs hF hS p0) gX8_deeds_X8_isPerson rfl (by decide +kernel) ⟨Nat.le_of_ble_eq_true rfl, Nat.le_of_ble_eq_true rfl⟩ ⟨Nat.le_of_ble_eq_true rfl, Nat.le_of_ble_eq_true rfl⟩ blind_T (fun _ _ _ => trivial) hT [0, 1] [] rfl rfl rfl rfl rfl 0 rfl rfl rfl rfl hl.1 rfl (Nat.le_of_ble_eq_true rfl) dX8_deeds_2 (fun r_3 u_1 H locs hp_2 hT => ?_)
  have hT : Sit D (TY g) A s [(m0, .inr (8, [.ref (v 0), .int 0, .ref (v 1), .ref (v 2), .ref (v 3), .ref (v 4), .int 0, .ref (v 5), .ref (v 6), .ref (v 7), .int 0, .int 0, .int 0, .int 0, .int 0, .ref (v 8), .ref (v 9), .ref (v 10), .ref (v 11), .ref (v 12), .ref (v 13)])), ((v 1), .inl (g 0, 29, .inl ft))] H _ := hT
  have hp_2 := hp_2.trans (sM_isPerson_0 p0)
  subst hp_2
  refine lv_if_eq (tgt := 16) hx hb dX8_deeds_5 (by decide +kernel) (fun _ => ?_) (fun c9 => absurd (by decide +kernel) c9)
  refine lv_bipush (v := (-2)) hx hb dX8_deeds_16 (by decide +kernel) ?_
  exact z_iret C rfl hT () rfl [] rfl rfl (Nat.le_of_ble_eq_true rfl) (Nat.le_of_ble_eq_true rfl) dX8_deeds_18

def sM_chance (p0 p1 p2 p3 p4 : Int32) : Int32 := (-2)
set_option maxHeartbeats 4000000 in
set_option maxRecDepth 100000 in
/-- the model: chance, at first -/
theorem c_M_chance (l : Launch) (D : va_G) (g : Nat → ClassId) (m0 : Nat) (v : Nat → Nat) (ft fs : Nat → Int32) (hF : ∀ k, k < 29 → ft k = fr k) (hS : ∀ k, k < 33 → fs k = fs0 k) (p0 p1 p2 p3 p4 : Int32) : CtI l yX8_chance wsX8_chance { frames := 2, cells := 0, slots := 0, locals := 80 } D (TY g) [.ref m0, .int p0, .int p1, .int p2, .int p3, .int p4] (fun _ => True) [(m0, .inr (8, [.ref (v 0), .int 0, .ref (v 1), .ref (v 2), .ref (v 3), .ref (v 4), .int 0, .ref (v 5), .ref (v 6), .ref (v 7), .int 0, .int 0, .int 0, .int 0, .int 0, .ref (v 8), .ref (v 9), .ref (v 10), .ref (v 11), .ref (v 12), .ref (v 13)])), ((v 1), .inl (g 0, 29, .inl ft))] (fun r (_ : Unit) => r = sM_chance p0 p1 p2 p3 p4) (fun _ => []) := by
  refine CtI.intro (cc := cX8_chance) (maxL := 12) (ret := (some .int)) rfl (by decide +kernel) (Nat.le_of_ble_eq_true rfl) ?_
  intro p e s m below meth c A ls C hmn hX hAe hT hl
  have hx := C.1.1
  have hb := C.1.2.1
  have hl : lv_has ls 12 [(0, .ref m0), (1, .int p0), (2, .int p1), (3, .int p2), (4, .int p3), (5, .int p4)] := hl
  refine lv_aload_n hx hb dX8_chance_0 rfl (lv_at hl 0 rfl) ?_
  refine lv_iload_n hx hb dX8_chance_1 rfl (lv_at hl 1 rfl) ?_
  refine z_callVI (wr := []) (n := 1) C (c_M_isPerson l D g m0 v ft fs hF hS p0) gX8_chance_X8_isPerson rfl (by decide +kernel) ⟨Nat.le_of_ble_eq_true rfl, Nat.le_of_ble_eq_true rfl⟩ ⟨Nat.le_of_ble_eq_true rfl, Nat.le_of_ble_eq_true rfl⟩ blind_T (fun _ _ _ => trivial) hT [0, 1] [] rfl rfl rfl rfl rfl 0 rfl rfl rfl rfl hl.1 rfl (Nat.le_of_ble_eq_true rfl) dX8_chance_2 (fun r_3 u_1 H locs hp_2 hT => ?_)
  have hT : Sit D (TY g) A s [(m0, .inr (8, [.ref (v 0), .int 0, .ref (v 1), .ref (v 2), .ref (v 3), .ref (v 4), .int 0, .ref (v 5), .ref (v 6), .ref (v 7), .int 0, .int 0, .int 0, .int 0, .int 0, .ref (v 8), .ref (v 9), .ref (v 10), .ref (v 11), .ref (v 12), .ref (v 13)])), ((v 1), .inl (g 0, 29, .inl ft))] H _ := hT
  have hp_2 := hp_2.trans (sM_isPerson_0 p0)
  subst hp_2
  refine lv_if_eq (tgt := 24) hx hb dX8_chance_5 (by decide +kernel) (fun _ => ?_) (fun c9 => absurd (by decide +kernel) c9)
  refine lv_bipush (v := (-2)) hx hb dX8_chance_24 (by decide +kernel) ?_
  exact z_iret C rfl hT () rfl [] rfl rfl (Nat.le_of_ble_eq_true rfl) (Nat.le_of_ble_eq_true rfl) dX8_chance_26

def sM_feast  : Int32 := (-4)
set_option maxHeartbeats 4000000 in
set_option maxRecDepth 100000 in
/-- the model: feast, at first -/
theorem c_M_feast (l : Launch) (D : va_G) (g : Nat → ClassId) (m0 : Nat) (v : Nat → Nat) (ft fs : Nat → Int32) (hF : ∀ k, k < 29 → ft k = fr k) (hS : ∀ k, k < 33 → fs k = fs0 k) : CtI l yX8_feast wsX8_feast { frames := 0, cells := 0, slots := 0, locals := 0 } D (TY g) [.ref m0] (fun _ => True) [(m0, .inr (8, [.ref (v 0), .int 0, .ref (v 1), .ref (v 2), .ref (v 3), .ref (v 4), .int 0, .ref (v 5), .ref (v 6), .ref (v 7), .int 0, .int 0, .int 0, .int 0, .int 0, .ref (v 8), .ref (v 9), .ref (v 10), .ref (v 11), .ref (v 12), .ref (v 13)])), ((v 1), .inl (g 0, 29, .inl ft))] (fun r (_ : Unit) => r = sM_feast ) (fun _ => []) := by
  refine CtI.intro (cc := cX8_feast) (maxL := 3) (ret := (some .int)) rfl (by decide +kernel) (Nat.le_of_ble_eq_true rfl) ?_
  intro p e s m below meth c A ls C hmn hX hAe hT hl
  have hx := C.1.1
  have hb := C.1.2.1
  have hl : lv_has ls 3 [(0, .ref m0)] := hl
  have hin8 : ∀ w ∈ u_ws RX8 TX8 21, w ∈ wsX8_feast := by decide +kernel
  refine lv_aload_n hx hb dX8_feast_0 rfl (lv_at hl 0 rfl) ?_
  refine z_get C (ci := 8) (N := 21) rfl hin8 hT 0 2 rfl rfl (by decide +kernel) (by decide +kernel) dX8_feast_1 ?_
  refine lv_iconst (v := 3) hx hb dX8_feast_4 (by decide +kernel) ?_
  refine z_iald C hT 1 0 rfl rfl (vin rfl) (v := 0) ((hF 3 (by decide)).trans rfl) dX8_feast_5 ?_
  refine lv_if_ne (tgt := 12) hx hb dX8_feast_6 (by decide +kernel) (fun c9 => absurd c9 (by decide +kernel)) (fun _ => ?_)
  refine lv_bipush (v := (-4)) hx hb dX8_feast_9 (by decide +kernel) ?_
  exact z_iret C rfl hT () rfl [] rfl rfl (Nat.le_of_ble_eq_true rfl) (Nat.le_of_ble_eq_true rfl) dX8_feast_11

def sM_undo  : Int32 := (-4)
set_option maxHeartbeats 4000000 in
set_option maxRecDepth 100000 in
/-- the model: undo, at first -/
theorem c_M_undo (l : Launch) (D : va_G) (g : Nat → ClassId) (m0 : Nat) (v : Nat → Nat) (ft fs : Nat → Int32) (hF : ∀ k, k < 29 → ft k = fr k) (hS : ∀ k, k < 33 → fs k = fs0 k) : CtI l yX8_undo wsX8_undo { frames := 0, cells := 0, slots := 0, locals := 0 } D (TY g) [.ref m0] (fun _ => True) [(m0, .inr (8, [.ref (v 0), .int 0, .ref (v 1), .ref (v 2), .ref (v 3), .ref (v 4), .int 0, .ref (v 5), .ref (v 6), .ref (v 7), .int 0, .int 0, .int 0, .int 0, .int 0, .ref (v 8), .ref (v 9), .ref (v 10), .ref (v 11), .ref (v 12), .ref (v 13)]))] (fun r (_ : Unit) => r = sM_undo ) (fun _ => []) := by
  refine CtI.intro (cc := cX8_undo) (maxL := 2) (ret := (some .int)) rfl (by decide +kernel) (Nat.le_of_ble_eq_true rfl) ?_
  intro p e s m below meth c A ls C hmn hX hAe hT hl
  have hx := C.1.1
  have hb := C.1.2.1
  have hl : lv_has ls 2 [(0, .ref m0)] := hl
  have hin8 : ∀ w ∈ u_ws RX8 TX8 21, w ∈ wsX8_undo := by decide +kernel
  refine lv_aload_n hx hb dX8_undo_0 rfl (lv_at hl 0 rfl) ?_
  refine z_get C (ci := 8) (N := 21) rfl hin8 hT 0 6 rfl rfl (by decide +kernel) (by decide +kernel) dX8_undo_1 ?_
  refine lv_if_ne (tgt := 10) hx hb dX8_undo_4 (by decide +kernel) (fun c9 => absurd c9 (by decide +kernel)) (fun _ => ?_)
  refine lv_bipush (v := (-4)) hx hb dX8_undo_7 (by decide +kernel) ?_
  exact z_iret C rfl hT () rfl [] rfl rfl (Nat.le_of_ble_eq_true rfl) (Nat.le_of_ble_eq_true rfl) dX8_undo_9

def sM_forget  : Int32 := 0
set_option maxHeartbeats 4000000 in
set_option maxRecDepth 100000 in
/-- the model: forget, at first -/
theorem c_M_forget (l : Launch) (D : va_G) (g : Nat → ClassId) (m0 : Nat) (v : Nat → Nat) (ft fs : Nat → Int32) (hF : ∀ k, k < 29 → ft k = fr k) (hS : ∀ k, k < 33 → fs k = fs0 k) : CtI l yX8_forget wsX8_forget { frames := 0, cells := 0, slots := 0, locals := 0 } D (TY g) [.ref m0] (fun _ => True) [(m0, .inr (8, [.ref (v 0), .int 0, .ref (v 1), .ref (v 2), .ref (v 3), .ref (v 4), .int 0, .ref (v 5), .ref (v 6), .ref (v 7), .int 0, .int 0, .int 0, .int 0, .int 0, .ref (v 8), .ref (v 9), .ref (v 10), .ref (v 11), .ref (v 12), .ref (v 13)]))] (fun r (_ : Unit) => r = sM_forget ) (fun _ => []) := by
  refine CtI.intro (cc := cX8_forget) (maxL := 2) (ret := (some .int)) rfl (by decide +kernel) (Nat.le_of_ble_eq_true rfl) ?_
  intro p e s m below meth c A ls C hmn hX hAe hT hl
  have hx := C.1.1
  have hb := C.1.2.1
  have hl : lv_has ls 2 [(0, .ref m0)] := hl
  have hin8 : ∀ w ∈ u_ws RX8 TX8 21, w ∈ wsX8_forget := by decide +kernel
  refine lv_aload_n hx hb dX8_forget_0 rfl (lv_at hl 0 rfl) ?_
  refine z_get C (ci := 8) (N := 21) rfl hin8 hT 0 10 rfl rfl (by decide +kernel) (by decide +kernel) dX8_forget_1 ?_
  refine lv_istore_n (lv' := [(1, .int 0), (0, .ref m0)]) hx hb dX8_forget_4 rfl hl (by decide +kernel) rfl (fun ls hl => ?_)
  refine lv_aload_n hx hb dX8_forget_5 rfl (lv_at hl 1 rfl) ?_
  refine lv_iconst (v := 0) hx hb dX8_forget_6 (by decide +kernel) ?_
  refine z_put C (ci := 8) (N := 21) rfl hin8 tyX8_ok nmX8 hT 0 10 rfl (Nat.le_of_ble_eq_true rfl) (by decide +kernel) (by decide +kernel) rfl rfl rfl dX8_forget_7 [(m0, .inr (8, [.ref (v 0), .int 0, .ref (v 1), .ref (v 2), .ref (v 3), .ref (v 4), .int 0, .ref (v 5), .ref (v 6), .ref (v 7), .int 0, .int 0, .int 0, .int 0, .int 0, .ref (v 8), .ref (v 9), .ref (v 10), .ref (v 11), .ref (v 12), .ref (v 13)]))] rfl (fun H locs hT => ?_)
  refine lv_iload_n hx hb dX8_forget_10 rfl (lv_at hl 0 rfl) ?_
  exact z_iret C rfl hT () rfl [] rfl rfl (Nat.le_of_ble_eq_true rfl) (Nat.le_of_ble_eq_true rfl) dX8_forget_11

def sM_seen (p0 p1 : Int32) : Int32 := (if p1 = (-1) then (if (if 0 ≤ p0 ∧ p0 ≤ 99 then (1 : Int32) else 0) = 0 then (-3) else 1) else (if sM_isJoint p1 = 0 then (-2) else (if (if 0 ≤ p0 ∧ p0 ≤ 99 then (1 : Int32) else 0) = 0 then (-3) else 1)))
set_option maxHeartbeats 4000000 in
set_option maxRecDepth 100000 in
/-- the model: seen, at first -/
theorem c_M_seen (l : Launch) (D : va_G) (g : Nat → ClassId) (m0 : Nat) (v : Nat → Nat) (ft fs : Nat → Int32) (hF : ∀ k, k < 29 → ft k = fr k) (hS : ∀ k, k < 33 → fs k = fs0 k) (p0 p1 : Int32) : CtI l yX8_seen wsX8_seen { frames := 2, cells := 0, slots := 0, locals := 80 } D (TY g) [.ref m0, .int p0, .int p1] (fun _ => True) [(m0, .inr (8, [.ref (v 0), .int 0, .ref (v 1), .ref (v 2), .ref (v 3), .ref (v 4), .int 0, .ref (v 5), .ref (v 6), .ref (v 7), .int 0, .int 0, .int 0, .int 0, .int 0, .ref (v 8), .ref (v 9), .ref (v 10), .ref (v 11), .ref (v 12), .ref (v 13)])), ((v 1), .inl (g 0, 29, .inl ft)), ((v 7), .inl (g 0, 6, .inl (fun _ => 0)))] (fun r (_ : Unit) => r = sM_seen p0 p1) (fun _ => []) := by
  refine CtI.intro (cc := cX8_seen) (maxL := 3) (ret := (some .int)) rfl (by decide +kernel) (Nat.le_of_ble_eq_true rfl) ?_
  intro p e s m below meth c A ls C hmn hX hAe hT hl
  have hx := C.1.1
  have hb := C.1.2.1
  have hl : lv_has ls 3 [(0, .ref m0), (1, .int p0), (2, .int p1)] := hl
  have hin8 : ∀ w ∈ u_ws RX8 TX8 21, w ∈ wsX8_seen := by decide +kernel
  refine lv_iload_n hx hb dX8_seen_0 rfl (lv_at hl 2 rfl) ?_
  refine lv_iconst (v := (-1)) hx hb dX8_seen_1 (by decide +kernel) ?_
  refine lv_icmp_eq (tgt := 16) hx hb dX8_seen_2 (by decide +kernel) (fun c_2 => ?_) (fun c_2 => ?_)
  · refine lv_iload_n hx hb dX8_seen_16 rfl (lv_at hl 1 rfl) ?_
    refine lv_iconst (v := 0) hx hb dX8_seen_17 (by decide +kernel) ?_
    refine lv_bipush (v := 99) hx hb dX8_seen_18 (by decide +kernel) ?_
    refine z_callSI (wr := [(m0, .inr (8, [.ref (v 0), .int 0, .ref (v 1), .ref (v 2), .ref (v 3), .ref (v 4), .int 0, .ref (v 5), .ref (v 6), .ref (v 7), .int 0, .int 0, .int 0, .int 0, .int 0, .ref (v 8), .ref (v 9), .ref (v 10), .ref (v 11), .ref (v 12), .ref (v 13)])), ((v 1), .inl (g 0, 29, .inl ft)), ((v 7), .inl (g 0, 6, .inl (fun _ => 0)))]) (n := 3) (As := [.int p0, .int 0, .int 99]) C (c_M_in l D g p0 0 99) gX8_seen_X8_in rfl (by decide +kernel) ⟨Nat.le_of_ble_eq_true rfl, Nat.le_of_ble_eq_true rfl⟩ ⟨Nat.le_of_ble_eq_true rfl, Nat.le_of_ble_eq_true rfl⟩ blind_T (fun _ _ _ => trivial) hT [] [0, 1, 2] rfl rfl rfl rfl rfl rfl hl.1 rfl (Nat.le_of_ble_eq_true rfl) dX8_seen_20 (fun r_3 u_1 H locs hp_2 hT => ?_)
    have hT : Sit D (TY g) A s [(m0, .inr (8, [.ref (v 0), .int 0, .ref (v 1), .ref (v 2), .ref (v 3), .ref (v 4), .int 0, .ref (v 5), .ref (v 6), .ref (v 7), .int 0, .int 0, .int 0, .int 0, .int 0, .ref (v 8), .ref (v 9), .ref (v 10), .ref (v 11), .ref (v 12), .ref (v 13)])), ((v 1), .inl (g 0, 29, .inl ft)), ((v 7), .inl (g 0, 6, .inl (fun _ => 0)))] H _ := hT
    subst hp_2
    refine lv_if_ne (tgt := 29) hx hb dX8_seen_23 (by decide +kernel) (fun c_23 => ?_) (fun c_23 => ?_)
    · refine lv_aload_n hx hb dX8_seen_29 rfl (lv_at hl 0 rfl) ?_
      refine z_get C (ci := 8) (N := 21) rfl hin8 hT 0 10 rfl rfl (by decide +kernel) (by decide +kernel) dX8_seen_30 ?_
      refine lv_bipush (v := 6) hx hb dX8_seen_33 (by decide +kernel) ?_
      refine lv_icmp_ne (tgt := 41) hx hb dX8_seen_35 (by decide +kernel) (fun _ => ?_) (fun c9 => absurd c9 (by decide +kernel))
      refine lv_aload_n hx hb dX8_seen_41 rfl (lv_at hl 0 rfl) ?_
      refine z_get C (ci := 8) (N := 21) rfl hin8 hT 0 9 rfl rfl (by decide +kernel) (by decide +kernel) dX8_seen_42 ?_
      refine lv_aload_n hx hb dX8_seen_45 rfl (lv_at hl 0 rfl) ?_
      refine z_get C (ci := 8) (N := 21) rfl hin8 hT 0 10 rfl rfl (by decide +kernel) (by decide +kernel) dX8_seen_46 ?_
      refine lv_bipush (v := 16) hx hb dX8_seen_49 (by decide +kernel) ?_
      refine lv_iload_n hx hb dX8_seen_51 rfl (lv_at hl 1 rfl) ?_
      refine lv_imul hx hb dX8_seen_52 ?_
      refine lv_iload_n hx hb dX8_seen_53 rfl (lv_at hl 2 rfl) ?_
      refine lv_iadd hx hb dX8_seen_54 ?_
      refine lv_iconst (v := 1) hx hb dX8_seen_55 (by decide +kernel) ?_
      refine lv_iadd hx hb dX8_seen_56 ?_
      refine z_iast C hT 2 0 rfl rfl (vin rfl) dX8_seen_57 (upd (fun _ => 0) 0 (((16 * p0) + p1) + 1)) rfl [(m0, .inr (8, [.ref (v 0), .int 0, .ref (v 1), .ref (v 2), .ref (v 3), .ref (v 4), .int 0, .ref (v 5), .ref (v 6), .ref (v 7), .int 0, .int 0, .int 0, .int 0, .int 0, .ref (v 8), .ref (v 9), .ref (v 10), .ref (v 11), .ref (v 12), .ref (v 13)])), ((v 1), .inl (g 0, 29, .inl ft)), ((v 7), .inl (g 0, 6, .inl (upd (fun _ => 0) 0 (((16 * p0) + p1) + 1))))] rfl (fun H locs hT => ?_)
      refine lv_aload_n hx hb dX8_seen_58 rfl (lv_at hl 0 rfl) ?_
      refine lv_dup hx hb dX8_seen_59 rfl ?_
      refine z_get C (ci := 8) (N := 21) rfl hin8 hT 0 10 rfl rfl (by decide +kernel) (by decide +kernel) dX8_seen_60 ?_
      refine lv_iconst (v := 1) hx hb dX8_seen_63 (by decide +kernel) ?_
      refine lv_iadd hx hb dX8_seen_64 ?_
      refine z_eq (y := 1) (by decide +kernel) ?_
      refine z_put C (ci := 8) (N := 21) rfl hin8 tyX8_ok nmX8 hT 0 10 rfl (Nat.le_of_ble_eq_true rfl) (by decide +kernel) (by decide +kernel) rfl rfl rfl dX8_seen_65 [(m0, .inr (8, [.ref (v 0), .int 0, .ref (v 1), .ref (v 2), .ref (v 3), .ref (v 4), .int 0, .ref (v 5), .ref (v 6), .ref (v 7), .int 1, .int 0, .int 0, .int 0, .int 0, .ref (v 8), .ref (v 9), .ref (v 10), .ref (v 11), .ref (v 12), .ref (v 13)])), ((v 1), .inl (g 0, 29, .inl ft)), ((v 7), .inl (g 0, 6, .inl (upd (fun _ => 0) 0 (((16 * p0) + p1) + 1))))] rfl (fun H locs hT => ?_)
      refine lv_aload_n hx hb dX8_seen_68 rfl (lv_at hl 0 rfl) ?_
      refine z_get C (ci := 8) (N := 21) rfl hin8 hT 0 10 rfl rfl (by decide +kernel) (by decide +kernel) dX8_seen_69 ?_
      exact z_iret C rfl hT () (by unfold sM_seen; rw [if_pos c_2, if_neg c_23]) [] rfl rfl (Nat.le_of_ble_eq_true rfl) (Nat.le_of_ble_eq_true rfl) dX8_seen_72
    · refine lv_bipush (v := (-3)) hx hb dX8_seen_26 (by decide +kernel) ?_
      exact z_iret C rfl hT () (by unfold sM_seen; rw [if_pos c_2, if_pos c_23]) [] rfl rfl (Nat.le_of_ble_eq_true rfl) (Nat.le_of_ble_eq_true rfl) dX8_seen_28
  · refine lv_aload_n hx hb dX8_seen_5 rfl (lv_at hl 0 rfl) ?_
    refine lv_iload_n hx hb dX8_seen_6 rfl (lv_at hl 2 rfl) ?_
    refine z_callVI (wr := [((v 7), .inl (g 0, 6, .inl (fun _ => 0)))]) (n := 1) C (c_M_isJoint l D g m0 v ft fs hF hS p1) gX8_seen_X8_isJoint rfl (by decide +kernel) ⟨Nat.le_of_ble_eq_true rfl, Nat.le_of_ble_eq_true rfl⟩ ⟨Nat.le_of_ble_eq_true rfl, Nat.le_of_ble_eq_true rfl⟩ blind_T (fun _ _ _ => trivial) hT [0, 1] [2] rfl rfl rfl rfl rfl 0 rfl rfl rfl rfl hl.1 rfl (Nat.le_of_ble_eq_true rfl) dX8_seen_7 (fun r_6 u_4 H locs hp_5 hT => ?_)
    have hT : Sit D (TY g) A s [((v 7), .inl (g 0, 6, .inl (fun _ => 0))), (m0, .inr (8, [.ref (v 0), .int 0, .ref (v 1), .ref (v 2), .ref (v 3), .ref (v 4), .int 0, .ref (v 5), .ref (v 6), .ref (v 7), .int 0, .int 0, .int 0, .int 0, .int 0, .ref (v 8), .ref (v 9), .ref (v 10), .ref (v 11), .ref (v 12), .ref (v 13)])), ((v 1), .inl (g 0, 29, .inl ft))] H _ := hT
    subst hp_5
    refine lv_if_ne (tgt := 16) hx hb dX8_seen_10 (by decide +kernel) (fun c_10 => ?_) (fun c_10 => ?_)
    · refine lv_iload_n hx hb dX8_seen_16 rfl (lv_at hl 1 rfl) ?_
      refine lv_iconst (v := 0) hx hb dX8_seen_17 (by decide +kernel) ?_
      refine lv_bipush (v := 99) hx hb dX8_seen_18 (by decide +kernel) ?_
      refine z_callSI (wr := [((v 7), .inl (g 0, 6, .inl (fun _ => 0))), (m0, .inr (8, [.ref (v 0), .int 0, .ref (v 1), .ref (v 2), .ref (v 3), .ref (v 4), .int 0, .ref (v 5), .ref (v 6), .ref (v 7), .int 0, .int 0, .int 0, .int 0, .int 0, .ref (v 8), .ref (v 9), .ref (v 10), .ref (v 11), .ref (v 12), .ref (v 13)])), ((v 1), .inl (g 0, 29, .inl ft))]) (n := 3) (As := [.int p0, .int 0, .int 99]) C (c_M_in l D g p0 0 99) gX8_seen_X8_in rfl (by decide +kernel) ⟨Nat.le_of_ble_eq_true rfl, Nat.le_of_ble_eq_true rfl⟩ ⟨Nat.le_of_ble_eq_true rfl, Nat.le_of_ble_eq_true rfl⟩ blind_T (fun _ _ _ => trivial) hT [] [0, 1, 2] rfl rfl rfl rfl rfl rfl hl.1 rfl (Nat.le_of_ble_eq_true rfl) dX8_seen_20 (fun r_9 u_7 H locs hp_8 hT => ?_)
      have hT : Sit D (TY g) A s [((v 7), .inl (g 0, 6, .inl (fun _ => 0))), (m0, .inr (8, [.ref (v 0), .int 0, .ref (v 1), .ref (v 2), .ref (v 3), .ref (v 4), .int 0, .ref (v 5), .ref (v 6), .ref (v 7), .int 0, .int 0, .int 0, .int 0, .int 0, .ref (v 8), .ref (v 9), .ref (v 10), .ref (v 11), .ref (v 12), .ref (v 13)])), ((v 1), .inl (g 0, 29, .inl ft))] H _ := hT
      subst hp_8
      refine lv_if_ne (tgt := 29) hx hb dX8_seen_23 (by decide +kernel) (fun c_23 => ?_) (fun c_23 => ?_)
      · refine lv_aload_n hx hb dX8_seen_29 rfl (lv_at hl 0 rfl) ?_
        refine z_get C (ci := 8) (N := 21) rfl hin8 hT 1 10 rfl rfl (by decide +kernel) (by decide +kernel) dX8_seen_30 ?_
        refine lv_bipush (v := 6) hx hb dX8_seen_33 (by decide +kernel) ?_
        refine lv_icmp_ne (tgt := 41) hx hb dX8_seen_35 (by decide +kernel) (fun _ => ?_) (fun c9 => absurd c9 (by decide +kernel))
        refine lv_aload_n hx hb dX8_seen_41 rfl (lv_at hl 0 rfl) ?_
        refine z_get C (ci := 8) (N := 21) rfl hin8 hT 1 9 rfl rfl (by decide +kernel) (by decide +kernel) dX8_seen_42 ?_
        refine lv_aload_n hx hb dX8_seen_45 rfl (lv_at hl 0 rfl) ?_
        refine z_get C (ci := 8) (N := 21) rfl hin8 hT 1 10 rfl rfl (by decide +kernel) (by decide +kernel) dX8_seen_46 ?_
        refine lv_bipush (v := 16) hx hb dX8_seen_49 (by decide +kernel) ?_
        refine lv_iload_n hx hb dX8_seen_51 rfl (lv_at hl 1 rfl) ?_
        refine lv_imul hx hb dX8_seen_52 ?_
        refine lv_iload_n hx hb dX8_seen_53 rfl (lv_at hl 2 rfl) ?_
        refine lv_iadd hx hb dX8_seen_54 ?_
        refine lv_iconst (v := 1) hx hb dX8_seen_55 (by decide +kernel) ?_
        refine lv_iadd hx hb dX8_seen_56 ?_
        refine z_iast C hT 0 0 rfl rfl (vin rfl) dX8_seen_57 (upd (fun _ => 0) 0 (((16 * p0) + p1) + 1)) rfl [((v 7), .inl (g 0, 6, .inl (upd (fun _ => 0) 0 (((16 * p0) + p1) + 1)))), (m0, .inr (8, [.ref (v 0), .int 0, .ref (v 1), .ref (v 2), .ref (v 3), .ref (v 4), .int 0, .ref (v 5), .ref (v 6), .ref (v 7), .int 0, .int 0, .int 0, .int 0, .int 0, .ref (v 8), .ref (v 9), .ref (v 10), .ref (v 11), .ref (v 12), .ref (v 13)])), ((v 1), .inl (g 0, 29, .inl ft))] rfl (fun H locs hT => ?_)
        refine lv_aload_n hx hb dX8_seen_58 rfl (lv_at hl 0 rfl) ?_
        refine lv_dup hx hb dX8_seen_59 rfl ?_
        refine z_get C (ci := 8) (N := 21) rfl hin8 hT 1 10 rfl rfl (by decide +kernel) (by decide +kernel) dX8_seen_60 ?_
        refine lv_iconst (v := 1) hx hb dX8_seen_63 (by decide +kernel) ?_
        refine lv_iadd hx hb dX8_seen_64 ?_
        refine z_eq (y := 1) (by decide +kernel) ?_
        refine z_put C (ci := 8) (N := 21) rfl hin8 tyX8_ok nmX8 hT 1 10 rfl (Nat.le_of_ble_eq_true rfl) (by decide +kernel) (by decide +kernel) rfl rfl rfl dX8_seen_65 [((v 7), .inl (g 0, 6, .inl (upd (fun _ => 0) 0 (((16 * p0) + p1) + 1)))), (m0, .inr (8, [.ref (v 0), .int 0, .ref (v 1), .ref (v 2), .ref (v 3), .ref (v 4), .int 0, .ref (v 5), .ref (v 6), .ref (v 7), .int 1, .int 0, .int 0, .int 0, .int 0, .ref (v 8), .ref (v 9), .ref (v 10), .ref (v 11), .ref (v 12), .ref (v 13)])), ((v 1), .inl (g 0, 29, .inl ft))] rfl (fun H locs hT => ?_)
        refine lv_aload_n hx hb dX8_seen_68 rfl (lv_at hl 0 rfl) ?_
        refine z_get C (ci := 8) (N := 21) rfl hin8 hT 1 10 rfl rfl (by decide +kernel) (by decide +kernel) dX8_seen_69 ?_
        exact z_iret C rfl hT () (by unfold sM_seen; rw [if_neg c_2, if_neg c_10, if_neg c_23]) [] rfl rfl (Nat.le_of_ble_eq_true rfl) (Nat.le_of_ble_eq_true rfl) dX8_seen_72
      · refine lv_bipush (v := (-3)) hx hb dX8_seen_26 (by decide +kernel) ?_
        exact z_iret C rfl hT () (by unfold sM_seen; rw [if_neg c_2, if_neg c_10, if_pos c_23]) [] rfl rfl (Nat.le_of_ble_eq_true rfl) (Nat.le_of_ble_eq_true rfl) dX8_seen_28
    · refine lv_bipush (v := (-2)) hx hb dX8_seen_13 (by decide +kernel) ?_
      exact z_iret C rfl hT () (by unfold sM_seen; rw [if_neg c_2, if_pos c_10]) [] rfl rfl (Nat.le_of_ble_eq_true rfl) (Nat.le_of_ble_eq_true rfl) dX8_seen_15

def sM_count (p0 : Int32) : Int32 := (if p0 = 0 then 5 else (if p0 = 1 then 0 else (if p0 = 2 then 0 else (if p0 = 3 then 0 else (if p0 = 4 then 40 else (if p0 = 5 then 8 else (if p0 = 6 then 0 else (if p0 = 7 then 0 else (if p0 = 8 then 0 else (if p0 = 9 then 0 else (-3)))))))))))
set_option maxHeartbeats 4000000 in
set_option maxRecDepth 100000 in
/-- the model: count, at first -/
theorem c_M_count (l : Launch) (D : va_G) (g : Nat → ClassId) (m0 : Nat) (v : Nat → Nat) (ft fs : Nat → Int32) (hF : ∀ k, k < 29 → ft k = fr k) (hS : ∀ k, k < 33 → fs k = fs0 k) (p0 : Int32) : CtI l yX8_count wsX8_count { frames := 0, cells := 0, slots := 0, locals := 0 } D (TY g) [.ref m0, .int p0] (fun _ => True) [(m0, .inr (8, [.ref (v 0), .int 0, .ref (v 1), .ref (v 2), .ref (v 3), .ref (v 4), .int 0, .ref (v 5), .ref (v 6), .ref (v 7), .int 0, .int 0, .int 0, .int 0, .int 0, .ref (v 8), .ref (v 9), .ref (v 10), .ref (v 11), .ref (v 12), .ref (v 13)])), ((v 1), .inl (g 0, 29, .inl ft)), ((v 3), .inl (g 0, 33, .inl fs))] (fun r (_ : Unit) => r = sM_count p0) (fun _ => []) := by
  refine CtI.intro (cc := cX8_count) (maxL := 4) (ret := (some .int)) rfl (by decide +kernel) (Nat.le_of_ble_eq_true rfl) ?_
  intro p e s m below meth c A ls C hmn hX hAe hT hl
  have hx := C.1.1
  have hb := C.1.2.1
  have hl : lv_has ls 4 [(0, .ref m0), (1, .int p0)] := hl
  have hin8 : ∀ w ∈ u_ws RX8 TX8 21, w ∈ wsX8_count := by decide +kernel
  refine lv_iconst (v := 0) hx hb dX8_count_0 (by decide +kernel) ?_
  refine lv_istore_n (lv' := [(2, .int 0), (0, .ref m0), (1, .int p0)]) hx hb dX8_count_1 rfl hl (by decide +kernel) rfl (fun ls hl => ?_)
  refine lv_iconst (v := 0) hx hb dX8_count_2 (by decide +kernel) ?_
  refine lv_istore_n (lv' := [(3, .int 0), (2, .int 0), (0, .ref m0), (1, .int p0)]) hx hb dX8_count_3 rfl hl (by decide +kernel) rfl (fun ls hl => ?_)
  refine lv_iload_n hx hb dX8_count_4 rfl (lv_at hl 0 rfl) ?_
  refine lv_aload_n hx hb dX8_count_5 rfl (lv_at hl 2 rfl) ?_
  refine z_get C (ci := 8) (N := 21) rfl hin8 hT 0 2 rfl rfl (by decide +kernel) (by decide +kernel) dX8_count_6 ?_
  refine lv_iconst (v := 3) hx hb dX8_count_9 (by decide +kernel) ?_
  refine z_iald C hT 1 0 rfl rfl (vin rfl) (v := 0) ((hF 3 (by decide)).trans rfl) dX8_count_10 ?_
  refine lv_icmp_ge (tgt := 38) hx hb dX8_count_11 (by decide +kernel) (fun _ => ?_) (fun c9 => absurd (by decide +kernel) c9)
  refine lv_iload_n hx hb dX8_count_38 rfl (lv_at hl 3 rfl) ?_
  by_cases c_39_0 : p0 = 0
  · refine lv_tableIn (off := 53) (tgt := 92) hx hb dX8_count_39 (by rw [c_39_0]; decide +kernel) (by rw [c_39_0]; decide +kernel) (by rw [c_39_0]; rfl) (by decide +kernel) ?_
    refine lv_aload_n hx hb dX8_count_92 rfl (lv_at hl 2 rfl) ?_
    refine z_get C (ci := 8) (N := 21) rfl hin8 hT 0 2 rfl rfl (by decide +kernel) (by decide +kernel) dX8_count_93 ?_
    refine lv_iconst (v := 0) hx hb dX8_count_96 (by decide +kernel) ?_
    refine z_iald C hT 1 0 rfl rfl (vin rfl) (v := 5) ((hF 0 (by decide)).trans rfl) dX8_count_97 ?_
    exact z_iret C rfl hT () (by unfold sM_count; rw [if_pos c_39_0]) [] rfl rfl (Nat.le_of_ble_eq_true rfl) (Nat.le_of_ble_eq_true rfl) dX8_count_98
  by_cases c_39_1 : p0 = 1
  · refine lv_tableIn (off := 60) (tgt := 99) hx hb dX8_count_39 (by rw [c_39_1]; decide +kernel) (by rw [c_39_1]; decide +kernel) (by rw [c_39_1]; rfl) (by decide +kernel) ?_
    refine lv_aload_n hx hb dX8_count_99 rfl (lv_at hl 2 rfl) ?_
    refine z_get C (ci := 8) (N := 21) rfl hin8 hT 0 2 rfl rfl (by decide +kernel) (by decide +kernel) dX8_count_100 ?_
    refine lv_iconst (v := 3) hx hb dX8_count_103 (by decide +kernel) ?_
    refine z_iald C hT 1 0 rfl rfl (vin rfl) (v := 0) ((hF 3 (by decide)).trans rfl) dX8_count_104 ?_
    exact z_iret C rfl hT () (by unfold sM_count; rw [if_neg c_39_0, if_pos c_39_1]) [] rfl rfl (Nat.le_of_ble_eq_true rfl) (Nat.le_of_ble_eq_true rfl) dX8_count_105
  by_cases c_39_2 : p0 = 2
  · refine lv_tableIn (off := 67) (tgt := 106) hx hb dX8_count_39 (by rw [c_39_2]; decide +kernel) (by rw [c_39_2]; decide +kernel) (by rw [c_39_2]; rfl) (by decide +kernel) ?_
    refine lv_aload_n hx hb dX8_count_106 rfl (lv_at hl 2 rfl) ?_
    refine z_get C (ci := 8) (N := 21) rfl hin8 hT 0 2 rfl rfl (by decide +kernel) (by decide +kernel) dX8_count_107 ?_
    refine lv_iconst (v := 4) hx hb dX8_count_110 (by decide +kernel) ?_
    refine z_iald C hT 1 0 rfl rfl (vin rfl) (v := 0) ((hF 4 (by decide)).trans rfl) dX8_count_111 ?_
    exact z_iret C rfl hT () (by unfold sM_count; rw [if_neg c_39_0, if_neg c_39_1, if_pos c_39_2]) [] rfl rfl (Nat.le_of_ble_eq_true rfl) (Nat.le_of_ble_eq_true rfl) dX8_count_112
  by_cases c_39_3 : p0 = 3
  · refine lv_tableIn (off := 74) (tgt := 113) hx hb dX8_count_39 (by rw [c_39_3]; decide +kernel) (by rw [c_39_3]; decide +kernel) (by rw [c_39_3]; rfl) (by decide +kernel) ?_
    refine lv_aload_n hx hb dX8_count_113 rfl (lv_at hl 2 rfl) ?_
    refine z_get C (ci := 8) (N := 21) rfl hin8 hT 0 4 rfl rfl (by decide +kernel) (by decide +kernel) dX8_count_114 ?_
    refine lv_bipush (v := 32) hx hb dX8_count_117 (by decide +kernel) ?_
    refine z_iald C hT 2 0 rfl rfl (vin rfl) (v := 0) ((hS 32 (by decide)).trans rfl) dX8_count_119 ?_
    exact z_iret C rfl hT () (by unfold sM_count; rw [if_neg c_39_0, if_neg c_39_1, if_neg c_39_2, if_pos c_39_3]) [] rfl rfl (Nat.le_of_ble_eq_true rfl) (Nat.le_of_ble_eq_true rfl) dX8_count_120
  by_cases c_39_4 : p0 = 4
  · refine lv_tableIn (off := 82) (tgt := 121) hx hb dX8_count_39 (by rw [c_39_4]; decide +kernel) (by rw [c_39_4]; decide +kernel) (by rw [c_39_4]; rfl) (by decide +kernel) ?_
    refine lv_aload_n hx hb dX8_count_121 rfl (lv_at hl 2 rfl) ?_
    refine z_get C (ci := 8) (N := 21) rfl hin8 hT 0 4 rfl rfl (by decide +kernel) (by decide +kernel) dX8_count_122 ?_
    refine lv_bipush (v := 30) hx hb dX8_count_125 (by decide +kernel) ?_
    refine z_iald C hT 2 0 rfl rfl (vin rfl) (v := 40) ((hS 30 (by decide)).trans rfl) dX8_count_127 ?_
    exact z_iret C rfl hT () (by unfold sM_count; rw [if_neg c_39_0, if_neg c_39_1, if_neg c_39_2, if_neg c_39_3, if_pos c_39_4]) [] rfl rfl (Nat.le_of_ble_eq_true rfl) (Nat.le_of_ble_eq_true rfl) dX8_count_128
  by_cases c_39_5 : p0 = 5
  · refine lv_tableIn (off := 90) (tgt := 129) hx hb dX8_count_39 (by rw [c_39_5]; decide +kernel) (by rw [c_39_5]; decide +kernel) (by rw [c_39_5]; rfl) (by decide +kernel) ?_
    refine lv_aload_n hx hb dX8_count_129 rfl (lv_at hl 2 rfl) ?_
    refine z_get C (ci := 8) (N := 21) rfl hin8 hT 0 4 rfl rfl (by decide +kernel) (by decide +kernel) dX8_count_130 ?_
    refine lv_bipush (v := 31) hx hb dX8_count_133 (by decide +kernel) ?_
    refine z_iald C hT 2 0 rfl rfl (vin rfl) (v := 8) ((hS 31 (by decide)).trans rfl) dX8_count_135 ?_
    exact z_iret C rfl hT () (by unfold sM_count; rw [if_neg c_39_0, if_neg c_39_1, if_neg c_39_2, if_neg c_39_3, if_neg c_39_4, if_pos c_39_5]) [] rfl rfl (Nat.le_of_ble_eq_true rfl) (Nat.le_of_ble_eq_true rfl) dX8_count_136
  by_cases c_39_6 : p0 = 6
  · refine lv_tableIn (off := 98) (tgt := 137) hx hb dX8_count_39 (by rw [c_39_6]; decide +kernel) (by rw [c_39_6]; decide +kernel) (by rw [c_39_6]; rfl) (by decide +kernel) ?_
    refine lv_iload_n hx hb dX8_count_137 rfl (lv_at hl 1 rfl) ?_
    exact z_iret C rfl hT () (by unfold sM_count; rw [if_neg c_39_0, if_neg c_39_1, if_neg c_39_2, if_neg c_39_3, if_neg c_39_4, if_neg c_39_5, if_pos c_39_6]) [] rfl rfl (Nat.le_of_ble_eq_true rfl) (Nat.le_of_ble_eq_true rfl) dX8_count_138
  by_cases c_39_7 : p0 = 7
  · refine lv_tableIn (off := 100) (tgt := 139) hx hb dX8_count_39 (by rw [c_39_7]; decide +kernel) (by rw [c_39_7]; decide +kernel) (by rw [c_39_7]; rfl) (by decide +kernel) ?_
    refine lv_aload_n hx hb dX8_count_139 rfl (lv_at hl 2 rfl) ?_
    refine z_get C (ci := 8) (N := 21) rfl hin8 hT 0 10 rfl rfl (by decide +kernel) (by decide +kernel) dX8_count_140 ?_
    exact z_iret C rfl hT () (by unfold sM_count; rw [if_neg c_39_0, if_neg c_39_1, if_neg c_39_2, if_neg c_39_3, if_neg c_39_4, if_neg c_39_5, if_neg c_39_6, if_pos c_39_7]) [] rfl rfl (Nat.le_of_ble_eq_true rfl) (Nat.le_of_ble_eq_true rfl) dX8_count_143
  by_cases c_39_8 : p0 = 8
  · refine lv_tableIn (off := 105) (tgt := 144) hx hb dX8_count_39 (by rw [c_39_8]; decide +kernel) (by rw [c_39_8]; decide +kernel) (by rw [c_39_8]; rfl) (by decide +kernel) ?_
    refine lv_aload_n hx hb dX8_count_144 rfl (lv_at hl 2 rfl) ?_
    refine z_get C (ci := 8) (N := 21) rfl hin8 hT 0 6 rfl rfl (by decide +kernel) (by decide +kernel) dX8_count_145 ?_
    exact z_iret C rfl hT () (by unfold sM_count; rw [if_neg c_39_0, if_neg c_39_1, if_neg c_39_2, if_neg c_39_3, if_neg c_39_4, if_neg c_39_5, if_neg c_39_6, if_neg c_39_7, if_pos c_39_8]) [] rfl rfl (Nat.le_of_ble_eq_true rfl) (Nat.le_of_ble_eq_true rfl) dX8_count_148
  by_cases c_39_9 : p0 = 9
  · refine lv_tableIn (off := 110) (tgt := 149) hx hb dX8_count_39 (by rw [c_39_9]; decide +kernel) (by rw [c_39_9]; decide +kernel) (by rw [c_39_9]; rfl) (by decide +kernel) ?_
    refine lv_aload_n hx hb dX8_count_149 rfl (lv_at hl 2 rfl) ?_
    refine z_get C (ci := 8) (N := 21) rfl hin8 hT 0 1 rfl rfl (by decide +kernel) (by decide +kernel) dX8_count_150 ?_
    exact z_iret C rfl hT () (by unfold sM_count; rw [if_neg c_39_0, if_neg c_39_1, if_neg c_39_2, if_neg c_39_3, if_neg c_39_4, if_neg c_39_5, if_neg c_39_6, if_neg c_39_7, if_neg c_39_8, if_pos c_39_9]) [] rfl rfl (Nat.le_of_ble_eq_true rfl) (Nat.le_of_ble_eq_true rfl) dX8_count_153
  refine lv_tableOut (tgt := 154) hx hb dX8_count_39 (sw_out (x := p0) 9 (fun k hk => match k, hk with | 0, _ => c_39_0 | 1, _ => c_39_1 | 2, _ => c_39_2 | 3, _ => c_39_3 | 4, _ => c_39_4 | 5, _ => c_39_5 | 6, _ => c_39_6 | 7, _ => c_39_7 | 8, _ => c_39_8 | 9, _ => c_39_9 | k + 10, hk => absurd hk (by omega)) (by decide +kernel)) (by decide +kernel) ?_
  refine lv_bipush (v := (-3)) hx hb dX8_count_154 (by decide +kernel) ?_
  exact z_iret C rfl hT () (by unfold sM_count; rw [if_neg c_39_0, if_neg c_39_1, if_neg c_39_2, if_neg c_39_3, if_neg c_39_4, if_neg c_39_5, if_neg c_39_6, if_neg c_39_7, if_neg c_39_8, if_neg c_39_9]) [] rfl rfl (Nat.le_of_ble_eq_true rfl) (Nat.le_of_ble_eq_true rfl) dX8_count_156

set_option maxHeartbeats 4000000 in
set_option maxRecDepth 100000 in
/-- the model: keeps(), at first -/
theorem c_M_keeps (l : Launch) (D : va_G) (g : Nat → ClassId) (m0 : Nat) (v : Nat → Nat) (fs : Nat → Int32) : CtV l yX8_keeps wsX8_keeps { frames := 0, cells := 0, slots := 0, locals := 0 } D (TY g) [.ref m0] (fun _ => True) [(m0, .inr (8, [.ref (v 0), .int 0, .ref (v 1), .ref (v 2), .ref (v 3), .ref (v 4), .int 0, .ref (v 5), .ref (v 6), .ref (v 7), .int 0, .int 0, .int 0, .int 0, .int 0, .ref (v 8), .ref (v 9), .ref (v 10), .ref (v 11), .ref (v 12), .ref (v 13)])), ((v 3), .inl (g 0, 33, .inl fs)), ((v 4), .inl (g 0, 264, .inl (fun _ => 0)))] (fun _ : Unit => True) (fun _ => [(m0, .inr (8, [.ref (v 0), .int 0, .ref (v 1), .ref (v 2), .ref (v 3), .ref (v 4), .int 1, .ref (v 5), .ref (v 6), .ref (v 7), .int 0, .int 0, .int 0, .int 0, .int 0, .ref (v 8), .ref (v 9), .ref (v 10), .ref (v 11), .ref (v 12), .ref (v 13)])), ((v 3), .inl (g 0, 33, .inl fs))]) := by
  refine CtV.intro (cc := cX8_keeps) (maxL := 2) (ret := none) rfl (by decide +kernel) (Nat.le_of_ble_eq_true rfl) ?_
  intro p e s m below meth c A ls C hmn hX hAe hT hl
  have hx := C.1.1
  have hb := C.1.2.1
  have hl : lv_has ls 2 [(0, .ref m0)] := hl
  have hin8 : ∀ w ∈ u_ws RX8 TX8 21, w ∈ wsX8_keeps := by decide +kernel
  refine lv_aload_n hx hb dX8_keeps_0 rfl (lv_at hl 0 rfl) ?_
  refine z_get C (ci := 8) (N := 21) rfl hin8 hT 0 6 rfl rfl (by decide +kernel) (by decide +kernel) dX8_keeps_1 ?_
  refine lv_bipush (v := 8) hx hb dX8_keeps_4 (by decide +kernel) ?_
  refine lv_icmp_ne (tgt := 49) hx hb dX8_keeps_6 (by decide +kernel) (fun _ => ?_) (fun c9 => absurd c9 (by decide +kernel))
  refine lv_iconst (v := 0) hx hb dX8_keeps_49 (by decide +kernel) ?_
  refine lv_istore_n (lv' := [(1, .int 0), (0, .ref m0)]) hx hb dX8_keeps_50 rfl hl (by decide +kernel) rfl (fun ls hl => ?_)
  refine z_loop (α := Nat → Int32) (N := 33) (fun i a => True) (fun i a => [(m0, .inr (8, [.ref (v 0), .int 0, .ref (v 1), .ref (v 2), .ref (v 3), .ref (v 4), .int 0, .ref (v 5), .ref (v 6), .ref (v 7), .int 0, .int 0, .int 0, .int 0, .int 0, .ref (v 8), .ref (v 9), .ref (v 10), .ref (v 11), .ref (v 12), .ref (v 13)])), ((v 3), .inl (g 0, 33, .inl fs)), ((v 4), .inl (g 0, 264, .inl a))]) (fun i a => [(1, .int (nI i)), (0, .ref m0)]) ?_ ?_ 0 (fun _ => 0) (Nat.zero_le _) trivial _ _ _ hT (lv_sub hl [0, 1] rfl)
  · intro i a H locs ls hi hI hT hl ih
    have hT : Sit D (TY g) A s [(m0, .inr (8, [.ref (v 0), .int 0, .ref (v 1), .ref (v 2), .ref (v 3), .ref (v 4), .int 0, .ref (v 5), .ref (v 6), .ref (v 7), .int 0, .int 0, .int 0, .int 0, .int 0, .ref (v 8), .ref (v 9), .ref (v 10), .ref (v 11), .ref (v 12), .ref (v 13)])), ((v 3), .inl (g 0, 33, .inl fs)), ((v 4), .inl (g 0, 264, .inl a))] H locs := hT
    have hl : lv_has ls _ [(1, .int (nI i)), (0, .ref m0)] := hl
    refine lv_iload_n hx hb dX8_keeps_51 rfl (lv_at hl 0 rfl) ?_
    refine lv_bipush (v := 33) hx hb dX8_keeps_52 (by decide +kernel) ?_
    refine lv_icmp_ge (tgt := 83) hx hb dX8_keeps_54 (by decide +kernel) (fun c9 => absurd c9 (lp_no (by decide +kernel) hi (by decide +kernel))) (fun _ => ?_)
    refine lv_aload_n hx hb dX8_keeps_57 rfl (lv_at hl 1 rfl) ?_
    refine z_get C (ci := 8) (N := 21) rfl hin8 hT 0 5 rfl rfl (by decide +kernel) (by decide +kernel) dX8_keeps_58 ?_
    refine lv_bipush (v := 33) hx hb dX8_keeps_61 (by decide +kernel) ?_
    refine lv_aload_n hx hb dX8_keeps_63 rfl (lv_at hl 1 rfl) ?_
    refine z_get C (ci := 8) (N := 21) rfl hin8 hT 0 6 rfl rfl (by decide +kernel) (by decide +kernel) dX8_keeps_64 ?_
    refine lv_imul hx hb dX8_keeps_67 ?_
    refine z_eq (y := 0) (by decide +kernel) ?_
    refine lv_iload_n hx hb dX8_keeps_68 rfl (lv_at hl 0 rfl) ?_
    refine lv_iadd hx hb dX8_keeps_69 ?_
    refine z_eq (y := nI i) (Int32.zero_add _) ?_
    refine lv_aload_n hx hb dX8_keeps_70 rfl (lv_at hl 1 rfl) ?_
    refine z_get C (ci := 8) (N := 21) rfl hin8 hT 0 4 rfl rfl (by decide +kernel) (by decide +kernel) dX8_keeps_71 ?_
    refine lv_iload_n hx hb dX8_keeps_74 rfl (lv_at hl 0 rfl) ?_
    refine z_iald C hT 1 0 rfl rfl (vp_in_nI (by omega) (by decide +kernel)) (v := fs i) (congrArg _ (nI_clamp (by omega))) dX8_keeps_75 ?_
    refine z_iast C hT 2 0 rfl rfl (vp_in_nI (by omega) (by decide +kernel)) dX8_keeps_76 (upd a i (fs i)) (by rw [nI_clamp (by omega)]) [(m0, .inr (8, [.ref (v 0), .int 0, .ref (v 1), .ref (v 2), .ref (v 3), .ref (v 4), .int 0, .ref (v 5), .ref (v 6), .ref (v 7), .int 0, .int 0, .int 0, .int 0, .int 0, .ref (v 8), .ref (v 9), .ref (v 10), .ref (v 11), .ref (v 12), .ref (v 13)])), ((v 3), .inl (g 0, 33, .inl fs)), ((v 4), .inl (g 0, 264, .inl (upd a i (fs i))))] rfl (fun H locs hT => ?_)
    refine lv_iinc (v := nI (i + 1)) (lv' := [(1, .int (nI (i + 1))), (0, .ref m0)]) hx hb dX8_keeps_77 hl (k := 0) rfl (inc1 _) (by decide +kernel) rfl (fun ls hl => ?_)
    refine lv_goto (tgt := 51) hx hb dX8_keeps_80 (by decide +kernel) ?_
    exact ih (upd a i (fs i)) _ _ _ trivial hT (lv_sub hl [0, 1] rfl)
  · intro a H locs ls hI hT hl
    have hT : Sit D (TY g) A s [(m0, .inr (8, [.ref (v 0), .int 0, .ref (v 1), .ref (v 2), .ref (v 3), .ref (v 4), .int 0, .ref (v 5), .ref (v 6), .ref (v 7), .int 0, .int 0, .int 0, .int 0, .int 0, .ref (v 8), .ref (v 9), .ref (v 10), .ref (v 11), .ref (v 12), .ref (v 13)])), ((v 3), .inl (g 0, 33, .inl fs)), ((v 4), .inl (g 0, 264, .inl a))] H locs := hT
    have hl : lv_has ls _ [(1, .int (nI 33)), (0, .ref m0)] := hl
    refine lv_iload_n hx hb dX8_keeps_51 rfl (lv_at hl 0 rfl) ?_
    refine lv_bipush (v := 33) hx hb dX8_keeps_52 (by decide +kernel) ?_
    refine lv_icmp_ge (tgt := 83) hx hb dX8_keeps_54 (by decide +kernel) (fun _ => ?_) (fun c9 => absurd (by decide +kernel) c9)
    refine lv_aload_n hx hb dX8_keeps_83 rfl (lv_at hl 1 rfl) ?_
    refine lv_dup hx hb dX8_keeps_84 rfl ?_
    refine z_get C (ci := 8) (N := 21) rfl hin8 hT 0 6 rfl rfl (by decide +kernel) (by decide +kernel) dX8_keeps_85 ?_
    refine lv_iconst (v := 1) hx hb dX8_keeps_88 (by decide +kernel) ?_
    refine lv_iadd hx hb dX8_keeps_89 ?_
    refine z_eq (y := 1) (by decide +kernel) ?_
    refine z_put C (ci := 8) (N := 21) rfl hin8 tyX8_ok nmX8 hT 0 6 rfl (Nat.le_of_ble_eq_true rfl) (by decide +kernel) (by decide +kernel) rfl rfl rfl dX8_keeps_90 [(m0, .inr (8, [.ref (v 0), .int 0, .ref (v 1), .ref (v 2), .ref (v 3), .ref (v 4), .int 1, .ref (v 5), .ref (v 6), .ref (v 7), .int 0, .int 0, .int 0, .int 0, .int 0, .ref (v 8), .ref (v 9), .ref (v 10), .ref (v 11), .ref (v 12), .ref (v 13)])), ((v 3), .inl (g 0, 33, .inl fs)), ((v 4), .inl (g 0, 264, .inl a))] rfl (fun H locs hT => ?_)
    exact z_vret C rfl hT () trivial [0, 1] rfl rfl (Nat.le_of_ble_eq_true rfl) (Nat.le_of_ble_eq_true rfl) dX8_keeps_93

def sM_year  : Int32 := 1
set_option maxHeartbeats 4000000 in
set_option maxRecDepth 100000 in
/-- the model: year, at first -/
theorem c_M_year (l : Launch) (D : va_G) (g : Nat → ClassId) (m0 : Nat) (v : Nat → Nat) (ft fs : Nat → Int32) (hF : ∀ k, k < 29 → ft k = fr k) (hS : ∀ k, k < 33 → fs k = fs0 k) : CtI l yX8_year wsX8_year { frames := 1, cells := 0, slots := 0, locals := 40 } D (TY g) [.ref m0] (fun _ => True) [(m0, .inr (8, [.ref (v 0), .int 0, .ref (v 1), .ref (v 2), .ref (v 3), .ref (v 4), .int 0, .ref (v 5), .ref (v 6), .ref (v 7), .int 0, .int 0, .int 0, .int 0, .int 0, .ref (v 8), .ref (v 9), .ref (v 10), .ref (v 11), .ref (v 12), .ref (v 13)])), ((v 1), .inl (g 0, 29, .inl ft)), ((v 3), .inl (g 0, 33, .inl fs)), ((v 4), .inl (g 0, 264, .inl (fun _ => 0)))] (fun r (_ : Unit) => r = sM_year ) (fun _ => []) := by
  refine CtI.intro (cc := cX8_year) (maxL := 2) (ret := (some .int)) rfl (by decide +kernel) (Nat.le_of_ble_eq_true rfl) ?_
  intro p e s m below meth c A ls C hmn hX hAe hT hl
  have hx := C.1.1
  have hb := C.1.2.1
  have hl : lv_has ls 2 [(0, .ref m0)] := hl
  have hin8 : ∀ w ∈ u_ws RX8 TX8 21, w ∈ wsX8_year := by decide +kernel
  refine lv_aload_n hx hb dX8_year_0 rfl (lv_at hl 0 rfl) ?_
  refine z_get C (ci := 8) (N := 21) rfl hin8 hT 0 4 rfl rfl (by decide +kernel) (by decide +kernel) dX8_year_1 ?_
  refine lv_bipush (v := 32) hx hb dX8_year_4 (by decide +kernel) ?_
  refine z_iald C hT 2 0 rfl rfl (vin rfl) (v := 0) ((hS 32 (by decide)).trans rfl) dX8_year_6 ?_
  refine lv_sipush (v := 999) hx hb dX8_year_7 (by decide +kernel) ?_
  refine lv_icmp_ne (tgt := 16) hx hb dX8_year_10 (by decide +kernel) (fun _ => ?_) (fun c9 => absurd c9 (by decide +kernel))
  refine lv_aload_n hx hb dX8_year_16 rfl (lv_at hl 0 rfl) ?_
  refine z_callVV (wr := [((v 1), .inl (g 0, 29, .inl ft))]) (n := 0) C (c_M_keeps l D g m0 v fs) gX8_year_X8_keeps rfl (by decide +kernel) ⟨Nat.le_of_ble_eq_true rfl, Nat.le_of_ble_eq_true rfl⟩ ⟨Nat.le_of_ble_eq_true rfl, Nat.le_of_ble_eq_true rfl⟩ blind_T (fun _ _ _ => trivial) hT [0, 2, 3] [1] rfl rfl rfl rfl rfl 0 rfl rfl rfl rfl hl.1 rfl (Nat.le_of_ble_eq_true rfl) dX8_year_17 (fun u_1 H locs hp_2 hT => ?_)
  have hT : Sit D (TY g) A s [((v 1), .inl (g 0, 29, .inl ft)), (m0, .inr (8, [.ref (v 0), .int 0, .ref (v 1), .ref (v 2), .ref (v 3), .ref (v 4), .int 1, .ref (v 5), .ref (v 6), .ref (v 7), .int 0, .int 0, .int 0, .int 0, .int 0, .ref (v 8), .ref (v 9), .ref (v 10), .ref (v 11), .ref (v 12), .ref (v 13)])), ((v 3), .inl (g 0, 33, .inl fs))] H _ := hT
  refine lv_iconst (v := 0) hx hb dX8_year_20 (by decide +kernel) ?_
  refine lv_istore_n (lv' := [(1, .int 0), (0, .ref m0)]) hx hb dX8_year_21 rfl hl (by decide +kernel) rfl (fun ls hl => ?_)
  refine lv_iload_n hx hb dX8_year_22 rfl (lv_at hl 0 rfl) ?_
  refine lv_aload_n hx hb dX8_year_23 rfl (lv_at hl 1 rfl) ?_
  refine z_get C (ci := 8) (N := 21) rfl hin8 hT 1 2 rfl rfl (by decide +kernel) (by decide +kernel) dX8_year_24 ?_
  refine lv_iconst (v := 3) hx hb dX8_year_27 (by decide +kernel) ?_
  refine z_iald C hT 0 0 rfl rfl (vin rfl) (v := 0) ((hF 3 (by decide)).trans rfl) dX8_year_28 ?_
  refine lv_icmp_ge (tgt := 69) hx hb dX8_year_29 (by decide +kernel) (fun _ => ?_) (fun c9 => absurd (by decide +kernel) c9)
  refine lv_aload_n hx hb dX8_year_69 rfl (lv_at hl 1 rfl) ?_
  refine z_get C (ci := 8) (N := 21) rfl hin8 hT 1 4 rfl rfl (by decide +kernel) (by decide +kernel) dX8_year_70 ?_
  refine lv_bipush (v := 32) hx hb dX8_year_73 (by decide +kernel) ?_
  refine lv_dup2_11 hx hb dX8_year_75 rfl rfl ?_
  refine z_iald C hT 2 0 rfl rfl (vin rfl) (v := 0) ((hS 32 (by decide)).trans rfl) dX8_year_76 ?_
  refine lv_iconst (v := 1) hx hb dX8_year_77 (by decide +kernel) ?_
  refine lv_iadd hx hb dX8_year_78 ?_
  refine z_eq (y := 1) (by decide +kernel) ?_
  refine z_iast C hT 2 0 rfl rfl (vin rfl) dX8_year_79 (upd fs 32 1) rfl [((v 1), .inl (g 0, 29, .inl ft)), (m0, .inr (8, [.ref (v 0), .int 0, .ref (v 1), .ref (v 2), .ref (v 3), .ref (v 4), .int 1, .ref (v 5), .ref (v 6), .ref (v 7), .int 0, .int 0, .int 0, .int 0, .int 0, .ref (v 8), .ref (v 9), .ref (v 10), .ref (v 11), .ref (v 12), .ref (v 13)])), ((v 3), .inl (g 0, 33, .inl (upd fs 32 1)))] rfl (fun H locs hT => ?_)
  refine lv_aload_n hx hb dX8_year_80 rfl (lv_at hl 1 rfl) ?_
  refine z_get C (ci := 8) (N := 21) rfl hin8 hT 1 4 rfl rfl (by decide +kernel) (by decide +kernel) dX8_year_81 ?_
  refine lv_bipush (v := 32) hx hb dX8_year_84 (by decide +kernel) ?_
  refine z_iald C hT 2 0 rfl rfl (vin rfl) (v := 1) rfl dX8_year_86 ?_
  exact z_iret C rfl hT () rfl [] rfl rfl (Nat.le_of_ble_eq_true rfl) (Nat.le_of_ble_eq_true rfl) dX8_year_87

def sM_scale (p0 p1 : Int32) : Int32 := (if (if 0 ≤ p0 ∧ p0 ≤ 99 then (1 : Int32) else 0) = 0 then (-3) else (if (if 1 ≤ p1 ∧ p1 ≤ 20 then (1 : Int32) else 0) = 0 then (-3) else 40))
set_option maxHeartbeats 4000000 in
set_option maxRecDepth 100000 in
/-- the model: scale, at first -/
theorem c_M_scale (l : Launch) (D : va_G) (g : Nat → ClassId) (m0 : Nat) (v : Nat → Nat) (ft fs : Nat → Int32) (hF : ∀ k, k < 29 → ft k = fr k) (hS : ∀ k, k < 33 → fs k = fs0 k) (p0 p1 : Int32) : CtI l yX8_scale wsX8_scale { frames := 1, cells := 0, slots := 0, locals := 40 } D (TY g) [.ref m0, .int p0, .int p1] (fun _ => True) [(m0, .inr (8, [.ref (v 0), .int 0, .ref (v 1), .ref (v 2), .ref (v 3), .ref (v 4), .int 0, .ref (v 5), .ref (v 6), .ref (v 7), .int 0, .int 0, .int 0, .int 0, .int 0, .ref (v 8), .ref (v 9), .ref (v 10), .ref (v 11), .ref (v 12), .ref (v 13)])), ((v 3), .inl (g 0, 33, .inl fs)), ((v 4), .inl (g 0, 264, .inl (fun _ => 0)))] (fun r (_ : Unit) => r = sM_scale p0 p1) (fun _ => []) := by
  refine CtI.intro (cc := cX8_scale) (maxL := 4) (ret := (some .int)) rfl (by decide +kernel) (Nat.le_of_ble_eq_true rfl) ?_
  intro p e s m below meth c A ls C hmn hX hAe hT hl
  have hx := C.1.1
  have hb := C.1.2.1
  have hl : lv_has ls 4 [(0, .ref m0), (1, .int p0), (2, .int p1)] := hl
  have hin8 : ∀ w ∈ u_ws RX8 TX8 21, w ∈ wsX8_scale := by decide +kernel
  refine lv_iload_n hx hb dX8_scale_0 rfl (lv_at hl 1 rfl) ?_
  refine lv_iconst (v := 0) hx hb dX8_scale_1 (by decide +kernel) ?_
  refine lv_bipush (v := 99) hx hb dX8_scale_2 (by decide +kernel) ?_
  refine z_callSI (wr := [(m0, .inr (8, [.ref (v 0), .int 0, .ref (v 1), .ref (v 2), .ref (v 3), .ref (v 4), .int 0, .ref (v 5), .ref (v 6), .ref (v 7), .int 0, .int 0, .int 0, .int 0, .int 0, .ref (v 8), .ref (v 9), .ref (v 10), .ref (v 11), .ref (v 12), .ref (v 13)])), ((v 3), .inl (g 0, 33, .inl fs)), ((v 4), .inl (g 0, 264, .inl (fun _ => 0)))]) (n := 3) (As := [.int p0, .int 0, .int 99]) C (c_M_in l D g p0 0 99) gX8_scale_X8_in rfl (by decide +kernel) ⟨Nat.le_of_ble_eq_true rfl, Nat.le_of_ble_eq_true rfl⟩ ⟨Nat.le_of_ble_eq_true rfl, Nat.le_of_ble_eq_true rfl⟩ blind_T (fun _ _ _ => trivial) hT [] [0, 1, 2] rfl rfl rfl rfl rfl rfl hl.1 rfl (Nat.le_of_ble_eq_true rfl) dX8_scale_4 (fun r_3 u_1 H locs hp_2 hT => ?_)
  have hT : Sit D (TY g) A s [(m0, .inr (8, [.ref (v 0), .int 0, .ref (v 1), .ref (v 2), .ref (v 3), .ref (v 4), .int 0, .ref (v 5), .ref (v 6), .ref (v 7), .int 0, .int 0, .int 0, .int 0, .int 0, .ref (v 8), .ref (v 9), .ref (v 10), .ref (v 11), .ref (v 12), .ref (v 13)])), ((v 3), .inl (g 0, 33, .inl fs)), ((v 4), .inl (g 0, 264, .inl (fun _ => 0)))] H _ := hT
  subst hp_2
  refine lv_if_eq (tgt := 20) hx hb dX8_scale_7 (by decide +kernel) (fun c_7 => ?_) (fun c_7 => ?_)
  · refine lv_bipush (v := (-3)) hx hb dX8_scale_20 (by decide +kernel) ?_
    exact z_iret C rfl hT () (by unfold sM_scale; rw [if_pos c_7]) [] rfl rfl (Nat.le_of_ble_eq_true rfl) (Nat.le_of_ble_eq_true rfl) dX8_scale_22
  · refine lv_iload_n hx hb dX8_scale_10 rfl (lv_at hl 2 rfl) ?_
    refine lv_iconst (v := 1) hx hb dX8_scale_11 (by decide +kernel) ?_
    refine lv_bipush (v := 20) hx hb dX8_scale_12 (by decide +kernel) ?_
    refine z_callSI (wr := [(m0, .inr (8, [.ref (v 0), .int 0, .ref (v 1), .ref (v 2), .ref (v 3), .ref (v 4), .int 0, .ref (v 5), .ref (v 6), .ref (v 7), .int 0, .int 0, .int 0, .int 0, .int 0, .ref (v 8), .ref (v 9), .ref (v 10), .ref (v 11), .ref (v 12), .ref (v 13)])), ((v 3), .inl (g 0, 33, .inl fs)), ((v 4), .inl (g 0, 264, .inl (fun _ => 0)))]) (n := 3) (As := [.int p1, .int 1, .int 20]) C (c_M_in l D g p1 1 20) gX8_scale_X8_in rfl (by decide +kernel) ⟨Nat.le_of_ble_eq_true rfl, Nat.le_of_ble_eq_true rfl⟩ ⟨Nat.le_of_ble_eq_true rfl, Nat.le_of_ble_eq_true rfl⟩ blind_T (fun _ _ _ => trivial) hT [] [0, 1, 2] rfl rfl rfl rfl rfl rfl hl.1 rfl (Nat.le_of_ble_eq_true rfl) dX8_scale_14 (fun r_6 u_4 H locs hp_5 hT => ?_)
    have hT : Sit D (TY g) A s [(m0, .inr (8, [.ref (v 0), .int 0, .ref (v 1), .ref (v 2), .ref (v 3), .ref (v 4), .int 0, .ref (v 5), .ref (v 6), .ref (v 7), .int 0, .int 0, .int 0, .int 0, .int 0, .ref (v 8), .ref (v 9), .ref (v 10), .ref (v 11), .ref (v 12), .ref (v 13)])), ((v 3), .inl (g 0, 33, .inl fs)), ((v 4), .inl (g 0, 264, .inl (fun _ => 0)))] H _ := hT
    subst hp_5
    refine lv_if_ne (tgt := 23) hx hb dX8_scale_17 (by decide +kernel) (fun c_17 => ?_) (fun c_17 => ?_)
    · refine lv_aload_n hx hb dX8_scale_23 rfl (lv_at hl 0 rfl) ?_
      refine z_callVV (wr := []) (n := 0) C (c_M_keeps l D g m0 v fs) gX8_scale_X8_keeps rfl (by decide +kernel) ⟨Nat.le_of_ble_eq_true rfl, Nat.le_of_ble_eq_true rfl⟩ ⟨Nat.le_of_ble_eq_true rfl, Nat.le_of_ble_eq_true rfl⟩ blind_T (fun _ _ _ => trivial) hT [0, 1, 2] [] rfl rfl rfl rfl rfl 0 rfl rfl rfl rfl hl.1 rfl (Nat.le_of_ble_eq_true rfl) dX8_scale_24 (fun u_7 H locs hp_8 hT => ?_)
      have hT : Sit D (TY g) A s [(m0, .inr (8, [.ref (v 0), .int 0, .ref (v 1), .ref (v 2), .ref (v 3), .ref (v 4), .int 1, .ref (v 5), .ref (v 6), .ref (v 7), .int 0, .int 0, .int 0, .int 0, .int 0, .ref (v 8), .ref (v 9), .ref (v 10), .ref (v 11), .ref (v 12), .ref (v 13)])), ((v 3), .inl (g 0, 33, .inl fs))] H _ := hT
      refine lv_aload_n hx hb dX8_scale_27 rfl (lv_at hl 0 rfl) ?_
      refine z_get C (ci := 8) (N := 21) rfl hin8 hT 0 4 rfl rfl (by decide +kernel) (by decide +kernel) dX8_scale_28 ?_
      refine lv_bipush (v := 30) hx hb dX8_scale_31 (by decide +kernel) ?_
      refine z_iald C hT 1 0 rfl rfl (vin rfl) (v := 40) ((hS 30 (by decide)).trans rfl) dX8_scale_33 ?_
      refine lv_istore_n (lv' := [(3, .int 40), (0, .ref m0), (1, .int p0), (2, .int p1)]) hx hb dX8_scale_34 rfl hl (by decide +kernel) rfl (fun ls hl => ?_)
      refine lv_aload_n hx hb dX8_scale_35 rfl (lv_at hl 1 rfl) ?_
      refine z_get C (ci := 8) (N := 21) rfl hin8 hT 0 4 rfl rfl (by decide +kernel) (by decide +kernel) dX8_scale_36 ?_
      refine lv_bipush (v := 30) hx hb dX8_scale_39 (by decide +kernel) ?_
      refine lv_iload_n hx hb dX8_scale_41 rfl (lv_at hl 2 rfl) ?_
      refine z_iast C hT 1 0 rfl rfl (vin rfl) dX8_scale_42 (upd fs 30 p0) rfl [(m0, .inr (8, [.ref (v 0), .int 0, .ref (v 1), .ref (v 2), .ref (v 3), .ref (v 4), .int 1, .ref (v 5), .ref (v 6), .ref (v 7), .int 0, .int 0, .int 0, .int 0, .int 0, .ref (v 8), .ref (v 9), .ref (v 10), .ref (v 11), .ref (v 12), .ref (v 13)])), ((v 3), .inl (g 0, 33, .inl (upd fs 30 p0)))] rfl (fun H locs hT => ?_)
      refine lv_aload_n hx hb dX8_scale_43 rfl (lv_at hl 1 rfl) ?_
      refine z_get C (ci := 8) (N := 21) rfl hin8 hT 0 4 rfl rfl (by decide +kernel) (by decide +kernel) dX8_scale_44 ?_
      refine lv_bipush (v := 31) hx hb dX8_scale_47 (by decide +kernel) ?_
      refine lv_iload_n hx hb dX8_scale_49 rfl (lv_at hl 3 rfl) ?_
      refine z_iast C hT 1 0 rfl rfl (vin rfl) dX8_scale_50 (upd (upd fs 30 p0) 31 p1) rfl [(m0, .inr (8, [.ref (v 0), .int 0, .ref (v 1), .ref (v 2), .ref (v 3), .ref (v 4), .int 1, .ref (v 5), .ref (v 6), .ref (v 7), .int 0, .int 0, .int 0, .int 0, .int 0, .ref (v 8), .ref (v 9), .ref (v 10), .ref (v 11), .ref (v 12), .ref (v 13)])), ((v 3), .inl (g 0, 33, .inl (upd (upd fs 30 p0) 31 p1)))] rfl (fun H locs hT => ?_)
      refine lv_iload_n hx hb dX8_scale_51 rfl (lv_at hl 0 rfl) ?_
      exact z_iret C rfl hT () (by unfold sM_scale; rw [if_neg c_7, if_neg c_17]) [] rfl rfl (Nat.le_of_ble_eq_true rfl) (Nat.le_of_ble_eq_true rfl) dX8_scale_52
    · refine lv_bipush (v := (-3)) hx hb dX8_scale_20 (by decide +kernel) ?_
      exact z_iret C rfl hT () (by unfold sM_scale; rw [if_neg c_7, if_pos c_17]) [] rfl rfl (Nat.le_of_ble_eq_true rfl) (Nat.le_of_ble_eq_true rfl) dX8_scale_22

theorem in01 {p0 : Int32} (h0 : ¬ p0 = 0) (h1 : ¬ p0 = 1) : (if 0 ≤ p0 ∧ p0 ≤ 1 then (1 : Int32) else 0) = 0 := by
  rw [if_neg]
  intro h
  refine (i2_of (Int32.not_lt.mpr h.1) (fun q => ?_)).elim h0 h1
  exact absurd (Int32.le_trans q h.2) (by decide +kernel)

def sM_keep_0  : Int32 := 0
set_option maxHeartbeats 4000000 in
set_option maxRecDepth 100000 in
theorem c_M_keep_0 (l : Launch) (D : va_G) (g : Nat → ClassId) (m0 : Nat) (v : Nat → Nat) (ft fs : Nat → Int32) (hF : ∀ k, k < 29 → ft k = fr k) (hS : ∀ k, k < 33 → fs k = fs0 k) : CtI l yX8_keep wsX8_keep { frames := 1, cells := 0, slots := 0, locals := 40 } D (TY g) [.ref m0, .int 0] (fun _ => True) [(m0, .inr (8, [.ref (v 0), .int 0, .ref (v 1), .ref (v 2), .ref (v 3), .ref (v 4), .int 0, .ref (v 5), .ref (v 6), .ref (v 7), .int 0, .int 0, .int 0, .int 0, .int 0, .ref (v 8), .ref (v 9), .ref (v 10), .ref (v 11), .ref (v 12), .ref (v 13)])), ((v 3), .inl (g 0, 33, .inl fs)), ((v 5), .inl (g 0, 66, .inl (fun _ => 0))), ((v 6), .inl (g 1, 2, .inl (fun _ => 0)))] (fun r (_ : Unit) => r = sM_keep_0 ) (fun _ => []) := by
  refine CtI.intro (cc := cX8_keep) (maxL := 3) (ret := (some .int)) rfl (by decide +kernel) (Nat.le_of_ble_eq_true rfl) ?_
  intro p e s m below meth c A ls C hmn hX hAe hT hl
  have hx := C.1.1
  have hb := C.1.2.1
  have hl : lv_has ls 3 [(0, .ref m0), (1, .int 0)] := hl
  have hin8 : ∀ w ∈ u_ws RX8 TX8 21, w ∈ wsX8_keep := by decide +kernel
  refine lv_iload_n hx hb dX8_keep_0 rfl (lv_at hl 1 rfl) ?_
  refine lv_iconst (v := 0) hx hb dX8_keep_1 (by decide +kernel) ?_
  refine lv_iconst (v := 1) hx hb dX8_keep_2 (by decide +kernel) ?_
  refine z_callSI (wr := [(m0, .inr (8, [.ref (v 0), .int 0, .ref (v 1), .ref (v 2), .ref (v 3), .ref (v 4), .int 0, .ref (v 5), .ref (v 6), .ref (v 7), .int 0, .int 0, .int 0, .int 0, .int 0, .ref (v 8), .ref (v 9), .ref (v 10), .ref (v 11), .ref (v 12), .ref (v 13)])), ((v 3), .inl (g 0, 33, .inl fs)), ((v 5), .inl (g 0, 66, .inl (fun _ => 0))), ((v 6), .inl (g 1, 2, .inl (fun _ => 0)))]) (n := 3) (As := [.int 0, .int 0, .int 1]) C (c_M_in l D g 0 0 1) gX8_keep_X8_in rfl (by decide +kernel) ⟨Nat.le_of_ble_eq_true rfl, Nat.le_of_ble_eq_true rfl⟩ ⟨Nat.le_of_ble_eq_true rfl, Nat.le_of_ble_eq_true rfl⟩ blind_T (fun _ _ _ => trivial) hT [] [0, 1, 2, 3] rfl rfl rfl rfl rfl rfl hl.1 rfl (Nat.le_of_ble_eq_true rfl) dX8_keep_3 (fun r_3 u_1 H locs hp_2 hT => ?_)
  have hT : Sit D (TY g) A s [(m0, .inr (8, [.ref (v 0), .int 0, .ref (v 1), .ref (v 2), .ref (v 3), .ref (v 4), .int 0, .ref (v 5), .ref (v 6), .ref (v 7), .int 0, .int 0, .int 0, .int 0, .int 0, .ref (v 8), .ref (v 9), .ref (v 10), .ref (v 11), .ref (v 12), .ref (v 13)])), ((v 3), .inl (g 0, 33, .inl fs)), ((v 5), .inl (g 0, 66, .inl (fun _ => 0))), ((v 6), .inl (g 1, 2, .inl (fun _ => 0)))] H _ := hT
  have hp_2 := hp_2.trans (show (if 0 ≤ (0 : Int32) ∧ (0 : Int32) ≤ 1 then (1 : Int32) else 0) = 1 from by decide +kernel)
  subst hp_2
  refine lv_if_ne (tgt := 12) hx hb dX8_keep_6 (by decide +kernel) (fun _ => ?_) (fun c9 => absurd c9 (by decide +kernel))
  refine lv_iconst (v := 0) hx hb dX8_keep_12 (by decide +kernel) ?_
  refine lv_istore_n (lv' := [(2, .int 0), (0, .ref m0), (1, .int 0)]) hx hb dX8_keep_13 rfl hl (by decide +kernel) rfl (fun ls hl => ?_)
  refine z_loop (α := Nat → Int32) (N := 33) (fun i a => True) (fun i a => [(m0, .inr (8, [.ref (v 0), .int 0, .ref (v 1), .ref (v 2), .ref (v 3), .ref (v 4), .int 0, .ref (v 5), .ref (v 6), .ref (v 7), .int 0, .int 0, .int 0, .int 0, .int 0, .ref (v 8), .ref (v 9), .ref (v 10), .ref (v 11), .ref (v 12), .ref (v 13)])), ((v 3), .inl (g 0, 33, .inl fs)), ((v 5), .inl (g 0, 66, .inl a)), ((v 6), .inl (g 1, 2, .inl (fun _ => 0)))]) (fun i a => [(2, .int (nI i)), (0, .ref m0), (1, .int 0)]) ?_ ?_ 0 (fun _ => 0) (Nat.zero_le _) trivial _ _ _ hT (lv_sub hl [0, 1, 2] rfl)
  · intro i a H locs ls hi hI hT hl ih
    have hT : Sit D (TY g) A s [(m0, .inr (8, [.ref (v 0), .int 0, .ref (v 1), .ref (v 2), .ref (v 3), .ref (v 4), .int 0, .ref (v 5), .ref (v 6), .ref (v 7), .int 0, .int 0, .int 0, .int 0, .int 0, .ref (v 8), .ref (v 9), .ref (v 10), .ref (v 11), .ref (v 12), .ref (v 13)])), ((v 3), .inl (g 0, 33, .inl fs)), ((v 5), .inl (g 0, 66, .inl a)), ((v 6), .inl (g 1, 2, .inl (fun _ => 0)))] H locs := hT
    have hl : lv_has ls _ [(2, .int (nI i)), (0, .ref m0), (1, .int 0)] := hl
    refine lv_iload_n hx hb dX8_keep_14 rfl (lv_at hl 0 rfl) ?_
    refine lv_bipush (v := 33) hx hb dX8_keep_15 (by decide +kernel) ?_
    refine lv_icmp_ge (tgt := 43) hx hb dX8_keep_17 (by decide +kernel) (fun c9 => absurd c9 (lp_no (by decide +kernel) hi (by decide +kernel))) (fun _ => ?_)
    refine lv_aload_n hx hb dX8_keep_20 rfl (lv_at hl 1 rfl) ?_
    refine z_get C (ci := 8) (N := 21) rfl hin8 hT 0 7 rfl rfl (by decide +kernel) (by decide +kernel) dX8_keep_21 ?_
    refine lv_bipush (v := 33) hx hb dX8_keep_24 (by decide +kernel) ?_
    refine lv_iload_n hx hb dX8_keep_26 rfl (lv_at hl 2 rfl) ?_
    refine lv_imul hx hb dX8_keep_27 ?_
    refine z_eq (y := 0) (by decide +kernel) ?_
    refine lv_iload_n hx hb dX8_keep_28 rfl (lv_at hl 0 rfl) ?_
    refine lv_iadd hx hb dX8_keep_29 ?_
    refine z_eq (y := nI i) (Int32.zero_add _) ?_
    refine lv_aload_n hx hb dX8_keep_30 rfl (lv_at hl 1 rfl) ?_
    refine z_get C (ci := 8) (N := 21) rfl hin8 hT 0 4 rfl rfl (by decide +kernel) (by decide +kernel) dX8_keep_31 ?_
    refine lv_iload_n hx hb dX8_keep_34 rfl (lv_at hl 0 rfl) ?_
    refine z_iald C hT 1 0 rfl rfl (vp_in_nI (by omega) (by decide +kernel)) (v := fs i) (congrArg _ (nI_clamp (by omega))) dX8_keep_35 ?_
    refine z_iast C hT 2 0 rfl rfl (vp_in_nI (by omega) (by decide +kernel)) dX8_keep_36 (upd a i (fs i)) (by rw [nI_clamp (by omega)]) [(m0, .inr (8, [.ref (v 0), .int 0, .ref (v 1), .ref (v 2), .ref (v 3), .ref (v 4), .int 0, .ref (v 5), .ref (v 6), .ref (v 7), .int 0, .int 0, .int 0, .int 0, .int 0, .ref (v 8), .ref (v 9), .ref (v 10), .ref (v 11), .ref (v 12), .ref (v 13)])), ((v 3), .inl (g 0, 33, .inl fs)), ((v 5), .inl (g 0, 66, .inl (upd a i (fs i)))), ((v 6), .inl (g 1, 2, .inl (fun _ => 0)))] rfl (fun H locs hT => ?_)
    refine lv_iinc (v := nI (i + 1)) (lv' := [(2, .int (nI (i + 1))), (0, .ref m0), (1, .int 0)]) hx hb dX8_keep_37 hl (k := 0) rfl (inc1 _) (by decide +kernel) rfl (fun ls hl => ?_)
    refine lv_goto (tgt := 14) hx hb dX8_keep_40 (by decide +kernel) ?_
    exact ih (upd a i (fs i)) _ _ _ trivial hT (lv_sub hl [0, 1, 2] rfl)
  · intro a H locs ls hI hT hl
    have hT : Sit D (TY g) A s [(m0, .inr (8, [.ref (v 0), .int 0, .ref (v 1), .ref (v 2), .ref (v 3), .ref (v 4), .int 0, .ref (v 5), .ref (v 6), .ref (v 7), .int 0, .int 0, .int 0, .int 0, .int 0, .ref (v 8), .ref (v 9), .ref (v 10), .ref (v 11), .ref (v 12), .ref (v 13)])), ((v 3), .inl (g 0, 33, .inl fs)), ((v 5), .inl (g 0, 66, .inl a)), ((v 6), .inl (g 1, 2, .inl (fun _ => 0)))] H locs := hT
    have hl : lv_has ls _ [(2, .int (nI 33)), (0, .ref m0), (1, .int 0)] := hl
    refine lv_iload_n hx hb dX8_keep_14 rfl (lv_at hl 0 rfl) ?_
    refine lv_bipush (v := 33) hx hb dX8_keep_15 (by decide +kernel) ?_
    refine lv_icmp_ge (tgt := 43) hx hb dX8_keep_17 (by decide +kernel) (fun _ => ?_) (fun c9 => absurd (by decide +kernel) c9)
    refine lv_aload_n hx hb dX8_keep_43 rfl (lv_at hl 1 rfl) ?_
    refine z_get C (ci := 8) (N := 21) rfl hin8 hT 0 8 rfl rfl (by decide +kernel) (by decide +kernel) dX8_keep_44 ?_
    refine lv_iload_n hx hb dX8_keep_47 rfl (lv_at hl 2 rfl) ?_
    refine lv_iconst (v := 1) hx hb dX8_keep_48 (by decide +kernel) ?_
    refine z_zast C hT 3 1 rfl rfl (vin rfl) dX8_keep_49 (upd (fun _ => 0) 0 1) rfl [(m0, .inr (8, [.ref (v 0), .int 0, .ref (v 1), .ref (v 2), .ref (v 3), .ref (v 4), .int 0, .ref (v 5), .ref (v 6), .ref (v 7), .int 0, .int 0, .int 0, .int 0, .int 0, .ref (v 8), .ref (v 9), .ref (v 10), .ref (v 11), .ref (v 12), .ref (v 13)])), ((v 3), .inl (g 0, 33, .inl fs)), ((v 5), .inl (g 0, 66, .inl a)), ((v 6), .inl (g 1, 2, .inl (upd (fun _ => 0) 0 1)))] rfl (fun H locs hT => ?_)
    refine lv_aload_n hx hb dX8_keep_50 rfl (lv_at hl 1 rfl) ?_
    refine z_get C (ci := 8) (N := 21) rfl hin8 hT 0 4 rfl rfl (by decide +kernel) (by decide +kernel) dX8_keep_51 ?_
    refine lv_bipush (v := 32) hx hb dX8_keep_54 (by decide +kernel) ?_
    refine z_iald C hT 1 0 rfl rfl (vin rfl) (v := 0) ((hS 32 (by decide)).trans rfl) dX8_keep_56 ?_
    exact z_iret C rfl hT () rfl [] rfl rfl (Nat.le_of_ble_eq_true rfl) (Nat.le_of_ble_eq_true rfl) dX8_keep_57

def sM_keep_1  : Int32 := 0
set_option maxHeartbeats 4000000 in
set_option maxRecDepth 100000 in
theorem c_M_keep_1 (l : Launch) (D : va_G) (g : Nat → ClassId) (m0 : Nat) (v : Nat → Nat) (ft fs : Nat → Int32) (hF : ∀ k, k < 29 → ft k = fr k) (hS : ∀ k, k < 33 → fs k = fs0 k) : CtI l yX8_keep wsX8_keep { frames := 1, cells := 0, slots := 0, locals := 40 } D (TY g) [.ref m0, .int 1] (fun _ => True) [(m0, .inr (8, [.ref (v 0), .int 0, .ref (v 1), .ref (v 2), .ref (v 3), .ref (v 4), .int 0, .ref (v 5), .ref (v 6), .ref (v 7), .int 0, .int 0, .int 0, .int 0, .int 0, .ref (v 8), .ref (v 9), .ref (v 10), .ref (v 11), .ref (v 12), .ref (v 13)])), ((v 3), .inl (g 0, 33, .inl fs)), ((v 5), .inl (g 0, 66, .inl (fun _ => 0))), ((v 6), .inl (g 1, 2, .inl (fun _ => 0)))] (fun r (_ : Unit) => r = sM_keep_1 ) (fun _ => []) := by
  refine CtI.intro (cc := cX8_keep) (maxL := 3) (ret := (some .int)) rfl (by decide +kernel) (Nat.le_of_ble_eq_true rfl) ?_
  intro p e s m below meth c A ls C hmn hX hAe hT hl
  have hx := C.1.1
  have hb := C.1.2.1
  have hl : lv_has ls 3 [(0, .ref m0), (1, .int 1)] := hl
  have hin8 : ∀ w ∈ u_ws RX8 TX8 21, w ∈ wsX8_keep := by decide +kernel
  refine lv_iload_n hx hb dX8_keep_0 rfl (lv_at hl 1 rfl) ?_
  refine lv_iconst (v := 0) hx hb dX8_keep_1 (by decide +kernel) ?_
  refine lv_iconst (v := 1) hx hb dX8_keep_2 (by decide +kernel) ?_
  refine z_callSI (wr := [(m0, .inr (8, [.ref (v 0), .int 0, .ref (v 1), .ref (v 2), .ref (v 3), .ref (v 4), .int 0, .ref (v 5), .ref (v 6), .ref (v 7), .int 0, .int 0, .int 0, .int 0, .int 0, .ref (v 8), .ref (v 9), .ref (v 10), .ref (v 11), .ref (v 12), .ref (v 13)])), ((v 3), .inl (g 0, 33, .inl fs)), ((v 5), .inl (g 0, 66, .inl (fun _ => 0))), ((v 6), .inl (g 1, 2, .inl (fun _ => 0)))]) (n := 3) (As := [.int 1, .int 0, .int 1]) C (c_M_in l D g 1 0 1) gX8_keep_X8_in rfl (by decide +kernel) ⟨Nat.le_of_ble_eq_true rfl, Nat.le_of_ble_eq_true rfl⟩ ⟨Nat.le_of_ble_eq_true rfl, Nat.le_of_ble_eq_true rfl⟩ blind_T (fun _ _ _ => trivial) hT [] [0, 1, 2, 3] rfl rfl rfl rfl rfl rfl hl.1 rfl (Nat.le_of_ble_eq_true rfl) dX8_keep_3 (fun r_3 u_1 H locs hp_2 hT => ?_)
  have hT : Sit D (TY g) A s [(m0, .inr (8, [.ref (v 0), .int 0, .ref (v 1), .ref (v 2), .ref (v 3), .ref (v 4), .int 0, .ref (v 5), .ref (v 6), .ref (v 7), .int 0, .int 0, .int 0, .int 0, .int 0, .ref (v 8), .ref (v 9), .ref (v 10), .ref (v 11), .ref (v 12), .ref (v 13)])), ((v 3), .inl (g 0, 33, .inl fs)), ((v 5), .inl (g 0, 66, .inl (fun _ => 0))), ((v 6), .inl (g 1, 2, .inl (fun _ => 0)))] H _ := hT
  have hp_2 := hp_2.trans (show (if 0 ≤ (1 : Int32) ∧ (1 : Int32) ≤ 1 then (1 : Int32) else 0) = 1 from by decide +kernel)
  subst hp_2
  refine lv_if_ne (tgt := 12) hx hb dX8_keep_6 (by decide +kernel) (fun _ => ?_) (fun c9 => absurd c9 (by decide +kernel))
  refine lv_iconst (v := 0) hx hb dX8_keep_12 (by decide +kernel) ?_
  refine lv_istore_n (lv' := [(2, .int 0), (0, .ref m0), (1, .int 1)]) hx hb dX8_keep_13 rfl hl (by decide +kernel) rfl (fun ls hl => ?_)
  refine z_loop (α := Nat → Int32) (N := 33) (fun i a => True) (fun i a => [(m0, .inr (8, [.ref (v 0), .int 0, .ref (v 1), .ref (v 2), .ref (v 3), .ref (v 4), .int 0, .ref (v 5), .ref (v 6), .ref (v 7), .int 0, .int 0, .int 0, .int 0, .int 0, .ref (v 8), .ref (v 9), .ref (v 10), .ref (v 11), .ref (v 12), .ref (v 13)])), ((v 3), .inl (g 0, 33, .inl fs)), ((v 5), .inl (g 0, 66, .inl a)), ((v 6), .inl (g 1, 2, .inl (fun _ => 0)))]) (fun i a => [(2, .int (nI i)), (0, .ref m0), (1, .int 1)]) ?_ ?_ 0 (fun _ => 0) (Nat.zero_le _) trivial _ _ _ hT (lv_sub hl [0, 1, 2] rfl)
  · intro i a H locs ls hi hI hT hl ih
    have hT : Sit D (TY g) A s [(m0, .inr (8, [.ref (v 0), .int 0, .ref (v 1), .ref (v 2), .ref (v 3), .ref (v 4), .int 0, .ref (v 5), .ref (v 6), .ref (v 7), .int 0, .int 0, .int 0, .int 0, .int 0, .ref (v 8), .ref (v 9), .ref (v 10), .ref (v 11), .ref (v 12), .ref (v 13)])), ((v 3), .inl (g 0, 33, .inl fs)), ((v 5), .inl (g 0, 66, .inl a)), ((v 6), .inl (g 1, 2, .inl (fun _ => 0)))] H locs := hT
    have hl : lv_has ls _ [(2, .int (nI i)), (0, .ref m0), (1, .int 1)] := hl
    refine lv_iload_n hx hb dX8_keep_14 rfl (lv_at hl 0 rfl) ?_
    refine lv_bipush (v := 33) hx hb dX8_keep_15 (by decide +kernel) ?_
    refine lv_icmp_ge (tgt := 43) hx hb dX8_keep_17 (by decide +kernel) (fun c9 => absurd c9 (lp_no (by decide +kernel) hi (by decide +kernel))) (fun _ => ?_)
    refine lv_aload_n hx hb dX8_keep_20 rfl (lv_at hl 1 rfl) ?_
    refine z_get C (ci := 8) (N := 21) rfl hin8 hT 0 7 rfl rfl (by decide +kernel) (by decide +kernel) dX8_keep_21 ?_
    refine lv_bipush (v := 33) hx hb dX8_keep_24 (by decide +kernel) ?_
    refine lv_iload_n hx hb dX8_keep_26 rfl (lv_at hl 2 rfl) ?_
    refine lv_imul hx hb dX8_keep_27 ?_
    refine z_eq (y := 33) (by decide +kernel) ?_
    refine lv_iload_n hx hb dX8_keep_28 rfl (lv_at hl 0 rfl) ?_
    refine lv_iadd hx hb dX8_keep_29 ?_
    refine z_eq (y := nI (33 + i)) (by rw [show (33 : Int32) = nI 33 from rfl, nI_add]) ?_
    refine lv_aload_n hx hb dX8_keep_30 rfl (lv_at hl 1 rfl) ?_
    refine z_get C (ci := 8) (N := 21) rfl hin8 hT 0 4 rfl rfl (by decide +kernel) (by decide +kernel) dX8_keep_31 ?_
    refine lv_iload_n hx hb dX8_keep_34 rfl (lv_at hl 0 rfl) ?_
    refine z_iald C hT 1 0 rfl rfl (vp_in_nI (by omega) (by decide +kernel)) (v := fs i) (congrArg _ (nI_clamp (by omega))) dX8_keep_35 ?_
    refine z_iast C hT 2 0 rfl rfl (vp_in_nI (by omega) (by decide +kernel)) dX8_keep_36 (upd a (33 + i) (fs i)) (by rw [nI_clamp (by omega)]) [(m0, .inr (8, [.ref (v 0), .int 0, .ref (v 1), .ref (v 2), .ref (v 3), .ref (v 4), .int 0, .ref (v 5), .ref (v 6), .ref (v 7), .int 0, .int 0, .int 0, .int 0, .int 0, .ref (v 8), .ref (v 9), .ref (v 10), .ref (v 11), .ref (v 12), .ref (v 13)])), ((v 3), .inl (g 0, 33, .inl fs)), ((v 5), .inl (g 0, 66, .inl (upd a (33 + i) (fs i)))), ((v 6), .inl (g 1, 2, .inl (fun _ => 0)))] rfl (fun H locs hT => ?_)
    refine lv_iinc (v := nI (i + 1)) (lv' := [(2, .int (nI (i + 1))), (0, .ref m0), (1, .int 1)]) hx hb dX8_keep_37 hl (k := 0) rfl (inc1 _) (by decide +kernel) rfl (fun ls hl => ?_)
    refine lv_goto (tgt := 14) hx hb dX8_keep_40 (by decide +kernel) ?_
    exact ih (upd a (33 + i) (fs i)) _ _ _ trivial hT (lv_sub hl [0, 1, 2] rfl)
  · intro a H locs ls hI hT hl
    have hT : Sit D (TY g) A s [(m0, .inr (8, [.ref (v 0), .int 0, .ref (v 1), .ref (v 2), .ref (v 3), .ref (v 4), .int 0, .ref (v 5), .ref (v 6), .ref (v 7), .int 0, .int 0, .int 0, .int 0, .int 0, .ref (v 8), .ref (v 9), .ref (v 10), .ref (v 11), .ref (v 12), .ref (v 13)])), ((v 3), .inl (g 0, 33, .inl fs)), ((v 5), .inl (g 0, 66, .inl a)), ((v 6), .inl (g 1, 2, .inl (fun _ => 0)))] H locs := hT
    have hl : lv_has ls _ [(2, .int (nI 33)), (0, .ref m0), (1, .int 1)] := hl
    refine lv_iload_n hx hb dX8_keep_14 rfl (lv_at hl 0 rfl) ?_
    refine lv_bipush (v := 33) hx hb dX8_keep_15 (by decide +kernel) ?_
    refine lv_icmp_ge (tgt := 43) hx hb dX8_keep_17 (by decide +kernel) (fun _ => ?_) (fun c9 => absurd (by decide +kernel) c9)
    refine lv_aload_n hx hb dX8_keep_43 rfl (lv_at hl 1 rfl) ?_
    refine z_get C (ci := 8) (N := 21) rfl hin8 hT 0 8 rfl rfl (by decide +kernel) (by decide +kernel) dX8_keep_44 ?_
    refine lv_iload_n hx hb dX8_keep_47 rfl (lv_at hl 2 rfl) ?_
    refine lv_iconst (v := 1) hx hb dX8_keep_48 (by decide +kernel) ?_
    refine z_zast C hT 3 1 rfl rfl (vin rfl) dX8_keep_49 (upd (fun _ => 0) 1 1) rfl [(m0, .inr (8, [.ref (v 0), .int 0, .ref (v 1), .ref (v 2), .ref (v 3), .ref (v 4), .int 0, .ref (v 5), .ref (v 6), .ref (v 7), .int 0, .int 0, .int 0, .int 0, .int 0, .ref (v 8), .ref (v 9), .ref (v 10), .ref (v 11), .ref (v 12), .ref (v 13)])), ((v 3), .inl (g 0, 33, .inl fs)), ((v 5), .inl (g 0, 66, .inl a)), ((v 6), .inl (g 1, 2, .inl (upd (fun _ => 0) 1 1)))] rfl (fun H locs hT => ?_)
    refine lv_aload_n hx hb dX8_keep_50 rfl (lv_at hl 1 rfl) ?_
    refine z_get C (ci := 8) (N := 21) rfl hin8 hT 0 4 rfl rfl (by decide +kernel) (by decide +kernel) dX8_keep_51 ?_
    refine lv_bipush (v := 32) hx hb dX8_keep_54 (by decide +kernel) ?_
    refine z_iald C hT 1 0 rfl rfl (vin rfl) (v := 0) ((hS 32 (by decide)).trans rfl) dX8_keep_56 ?_
    exact z_iret C rfl hT () rfl [] rfl rfl (Nat.le_of_ble_eq_true rfl) (Nat.le_of_ble_eq_true rfl) dX8_keep_57

def sM_keep_n  : Int32 := (-2)
set_option maxHeartbeats 4000000 in
set_option maxRecDepth 100000 in
theorem c_M_keep_n (l : Launch) (D : va_G) (g : Nat → ClassId) (m0 : Nat) (v : Nat → Nat) (ft fs : Nat → Int32) (hF : ∀ k, k < 29 → ft k = fr k) (hS : ∀ k, k < 33 → fs k = fs0 k) (p0 : Int32) (hn0 : ¬ p0 = 0) (hn1 : ¬ p0 = 1) : CtI l yX8_keep wsX8_keep { frames := 1, cells := 0, slots := 0, locals := 40 } D (TY g) [.ref m0, .int p0] (fun _ => True) [(m0, .inr (8, [.ref (v 0), .int 0, .ref (v 1), .ref (v 2), .ref (v 3), .ref (v 4), .int 0, .ref (v 5), .ref (v 6), .ref (v 7), .int 0, .int 0, .int 0, .int 0, .int 0, .ref (v 8), .ref (v 9), .ref (v 10), .ref (v 11), .ref (v 12), .ref (v 13)])), ((v 3), .inl (g 0, 33, .inl fs)), ((v 5), .inl (g 0, 66, .inl (fun _ => 0))), ((v 6), .inl (g 1, 2, .inl (fun _ => 0)))] (fun r (_ : Unit) => r = sM_keep_n ) (fun _ => []) := by
  refine CtI.intro (cc := cX8_keep) (maxL := 3) (ret := (some .int)) rfl (by decide +kernel) (Nat.le_of_ble_eq_true rfl) ?_
  intro p e s m below meth c A ls C hmn hX hAe hT hl
  have hx := C.1.1
  have hb := C.1.2.1
  have hl : lv_has ls 3 [(0, .ref m0), (1, .int p0)] := hl
  refine lv_iload_n hx hb dX8_keep_0 rfl (lv_at hl 1 rfl) ?_
  refine lv_iconst (v := 0) hx hb dX8_keep_1 (by decide +kernel) ?_
  refine lv_iconst (v := 1) hx hb dX8_keep_2 (by decide +kernel) ?_
  refine z_callSI (wr := [(m0, .inr (8, [.ref (v 0), .int 0, .ref (v 1), .ref (v 2), .ref (v 3), .ref (v 4), .int 0, .ref (v 5), .ref (v 6), .ref (v 7), .int 0, .int 0, .int 0, .int 0, .int 0, .ref (v 8), .ref (v 9), .ref (v 10), .ref (v 11), .ref (v 12), .ref (v 13)])), ((v 3), .inl (g 0, 33, .inl fs)), ((v 5), .inl (g 0, 66, .inl (fun _ => 0))), ((v 6), .inl (g 1, 2, .inl (fun _ => 0)))]) (n := 3) (As := [.int p0, .int 0, .int 1]) C (c_M_in l D g p0 0 1) gX8_keep_X8_in rfl (by decide +kernel) ⟨Nat.le_of_ble_eq_true rfl, Nat.le_of_ble_eq_true rfl⟩ ⟨Nat.le_of_ble_eq_true rfl, Nat.le_of_ble_eq_true rfl⟩ blind_T (fun _ _ _ => trivial) hT [] [0, 1, 2, 3] rfl rfl rfl rfl rfl rfl hl.1 rfl (Nat.le_of_ble_eq_true rfl) dX8_keep_3 (fun r_3 u_1 H locs hp_2 hT => ?_)
  have hT : Sit D (TY g) A s [(m0, .inr (8, [.ref (v 0), .int 0, .ref (v 1), .ref (v 2), .ref (v 3), .ref (v 4), .int 0, .ref (v 5), .ref (v 6), .ref (v 7), .int 0, .int 0, .int 0, .int 0, .int 0, .ref (v 8), .ref (v 9), .ref (v 10), .ref (v 11), .ref (v 12), .ref (v 13)])), ((v 3), .inl (g 0, 33, .inl fs)), ((v 5), .inl (g 0, 66, .inl (fun _ => 0))), ((v 6), .inl (g 1, 2, .inl (fun _ => 0)))] H _ := hT
  have hp_2 := hp_2.trans (in01 hn0 hn1)
  subst hp_2
  refine lv_if_ne (tgt := 12) hx hb dX8_keep_6 (by decide +kernel) (fun c9 => absurd c9 (by decide +kernel)) (fun _ => ?_)
  refine lv_bipush (v := (-2)) hx hb dX8_keep_9 (by decide +kernel) ?_
  exact z_iret C rfl hT () rfl [] rfl rfl (Nat.le_of_ble_eq_true rfl) (Nat.le_of_ble_eq_true rfl) dX8_keep_11

def sM_keep (p0 : Int32) : Int32 := if p0 = 0 then sM_keep_0 else if p0 = 1 then sM_keep_1 else sM_keep_n
theorem c_M_keep (l : Launch) (D : va_G) (g : Nat → ClassId) (m0 : Nat) (v : Nat → Nat) (ft fs : Nat → Int32) (hF : ∀ k, k < 29 → ft k = fr k) (hS : ∀ k, k < 33 → fs k = fs0 k) (p0 : Int32) : CtI l yX8_keep wsX8_keep { frames := 1, cells := 0, slots := 0, locals := 40 } D (TY g) [.ref m0, .int p0] (fun _ => True) [(m0, .inr (8, [.ref (v 0), .int 0, .ref (v 1), .ref (v 2), .ref (v 3), .ref (v 4), .int 0, .ref (v 5), .ref (v 6), .ref (v 7), .int 0, .int 0, .int 0, .int 0, .int 0, .ref (v 8), .ref (v 9), .ref (v 10), .ref (v 11), .ref (v 12), .ref (v 13)])), ((v 3), .inl (g 0, 33, .inl fs)), ((v 5), .inl (g 0, 66, .inl (fun _ => 0))), ((v 6), .inl (g 1, 2, .inl (fun _ => 0)))] (fun r (_ : Unit) => r = sM_keep p0) (fun _ => []) := by
  by_cases e0 : p0 = 0
  · subst e0
    exact c_M_keep_0 l D g m0 v ft fs hF hS
  · by_cases e1 : p0 = 1
    · subst e1
      exact c_M_keep_1 l D g m0 v ft fs hF hS
    · have h := c_M_keep_n l D g m0 v ft fs hF hS p0 e0 e1
      unfold sM_keep
      rw [if_neg e0, if_neg e1]
      exact h

def sM_back_0  : Int32 := (-4)
set_option maxHeartbeats 4000000 in
set_option maxRecDepth 100000 in
theorem c_M_back_0 (l : Launch) (D : va_G) (g : Nat → ClassId) (m0 : Nat) (v : Nat → Nat) (ft fs : Nat → Int32) (hF : ∀ k, k < 29 → ft k = fr k) (hS : ∀ k, k < 33 → fs k = fs0 k) : CtI l yX8_back wsX8_back { frames := 1, cells := 0, slots := 0, locals := 40 } D (TY g) [.ref m0, .int 0] (fun _ => True) [(m0, .inr (8, [.ref (v 0), .int 0, .ref (v 1), .ref (v 2), .ref (v 3), .ref (v 4), .int 0, .ref (v 5), .ref (v 6), .ref (v 7), .int 0, .int 0, .int 0, .int 0, .int 0, .ref (v 8), .ref (v 9), .ref (v 10), .ref (v 11), .ref (v 12), .ref (v 13)])), ((v 3), .inl (g 0, 33, .inl fs)), ((v 5), .inl (g 0, 66, .inl (fun _ => 0))), ((v 6), .inl (g 1, 2, .inl (fun _ => 0)))] (fun r (_ : Unit) => r = sM_back_0 ) (fun _ => []) := by
  refine CtI.intro (cc := cX8_back) (maxL := 3) (ret := (some .int)) rfl (by decide +kernel) (Nat.le_of_ble_eq_true rfl) ?_
  intro p e s m below meth c A ls C hmn hX hAe hT hl
  have hx := C.1.1
  have hb := C.1.2.1
  have hl : lv_has ls 3 [(0, .ref m0), (1, .int 0)] := hl
  have hin8 : ∀ w ∈ u_ws RX8 TX8 21, w ∈ wsX8_back := by decide +kernel
  refine lv_iload_n hx hb dX8_back_0 rfl (lv_at hl 1 rfl) ?_
  refine lv_iconst (v := 0) hx hb dX8_back_1 (by decide +kernel) ?_
  refine lv_iconst (v := 1) hx hb dX8_back_2 (by decide +kernel) ?_
  refine z_callSI (wr := [(m0, .inr (8, [.ref (v 0), .int 0, .ref (v 1), .ref (v 2), .ref (v 3), .ref (v 4), .int 0, .ref (v 5), .ref (v 6), .ref (v 7), .int 0, .int 0, .int 0, .int 0, .int 0, .ref (v 8), .ref (v 9), .ref (v 10), .ref (v 11), .ref (v 12), .ref (v 13)])), ((v 3), .inl (g 0, 33, .inl fs)), ((v 5), .inl (g 0, 66, .inl (fun _ => 0))), ((v 6), .inl (g 1, 2, .inl (fun _ => 0)))]) (n := 3) (As := [.int 0, .int 0, .int 1]) C (c_M_in l D g 0 0 1) gX8_back_X8_in rfl (by decide +kernel) ⟨Nat.le_of_ble_eq_true rfl, Nat.le_of_ble_eq_true rfl⟩ ⟨Nat.le_of_ble_eq_true rfl, Nat.le_of_ble_eq_true rfl⟩ blind_T (fun _ _ _ => trivial) hT [] [0, 1, 2, 3] rfl rfl rfl rfl rfl rfl hl.1 rfl (Nat.le_of_ble_eq_true rfl) dX8_back_3 (fun r_3 u_1 H locs hp_2 hT => ?_)
  have hT : Sit D (TY g) A s [(m0, .inr (8, [.ref (v 0), .int 0, .ref (v 1), .ref (v 2), .ref (v 3), .ref (v 4), .int 0, .ref (v 5), .ref (v 6), .ref (v 7), .int 0, .int 0, .int 0, .int 0, .int 0, .ref (v 8), .ref (v 9), .ref (v 10), .ref (v 11), .ref (v 12), .ref (v 13)])), ((v 3), .inl (g 0, 33, .inl fs)), ((v 5), .inl (g 0, 66, .inl (fun _ => 0))), ((v 6), .inl (g 1, 2, .inl (fun _ => 0)))] H _ := hT
  have hp_2 := hp_2.trans (show (if 0 ≤ (0 : Int32) ∧ (0 : Int32) ≤ 1 then (1 : Int32) else 0) = 1 from by decide +kernel)
  subst hp_2
  refine lv_if_ne (tgt := 12) hx hb dX8_back_6 (by decide +kernel) (fun _ => ?_) (fun c9 => absurd c9 (by decide +kernel))
  refine lv_aload_n hx hb dX8_back_12 rfl (lv_at hl 0 rfl) ?_
  refine z_get C (ci := 8) (N := 21) rfl hin8 hT 0 8 rfl rfl (by decide +kernel) (by decide +kernel) dX8_back_13 ?_
  refine lv_iload_n hx hb dX8_back_16 rfl (lv_at hl 1 rfl) ?_
  refine z_zald C hT 3 1 rfl rfl (vin rfl) (v := 0) rfl dX8_back_17 ?_
  refine lv_if_ne (tgt := 24) hx hb dX8_back_18 (by decide +kernel) (fun c9 => absurd c9 (by decide +kernel)) (fun _ => ?_)
  refine lv_bipush (v := (-4)) hx hb dX8_back_21 (by decide +kernel) ?_
  exact z_iret C rfl hT () rfl [] rfl rfl (Nat.le_of_ble_eq_true rfl) (Nat.le_of_ble_eq_true rfl) dX8_back_23

def sM_back_1  : Int32 := (-4)
set_option maxHeartbeats 4000000 in
set_option maxRecDepth 100000 in
theorem c_M_back_1 (l : Launch) (D : va_G) (g : Nat → ClassId) (m0 : Nat) (v : Nat → Nat) (ft fs : Nat → Int32) (hF : ∀ k, k < 29 → ft k = fr k) (hS : ∀ k, k < 33 → fs k = fs0 k) : CtI l yX8_back wsX8_back { frames := 1, cells := 0, slots := 0, locals := 40 } D (TY g) [.ref m0, .int 1] (fun _ => True) [(m0, .inr (8, [.ref (v 0), .int 0, .ref (v 1), .ref (v 2), .ref (v 3), .ref (v 4), .int 0, .ref (v 5), .ref (v 6), .ref (v 7), .int 0, .int 0, .int 0, .int 0, .int 0, .ref (v 8), .ref (v 9), .ref (v 10), .ref (v 11), .ref (v 12), .ref (v 13)])), ((v 3), .inl (g 0, 33, .inl fs)), ((v 5), .inl (g 0, 66, .inl (fun _ => 0))), ((v 6), .inl (g 1, 2, .inl (fun _ => 0)))] (fun r (_ : Unit) => r = sM_back_1 ) (fun _ => []) := by
  refine CtI.intro (cc := cX8_back) (maxL := 3) (ret := (some .int)) rfl (by decide +kernel) (Nat.le_of_ble_eq_true rfl) ?_
  intro p e s m below meth c A ls C hmn hX hAe hT hl
  have hx := C.1.1
  have hb := C.1.2.1
  have hl : lv_has ls 3 [(0, .ref m0), (1, .int 1)] := hl
  have hin8 : ∀ w ∈ u_ws RX8 TX8 21, w ∈ wsX8_back := by decide +kernel
  refine lv_iload_n hx hb dX8_back_0 rfl (lv_at hl 1 rfl) ?_
  refine lv_iconst (v := 0) hx hb dX8_back_1 (by decide +kernel) ?_
  refine lv_iconst (v := 1) hx hb dX8_back_2 (by decide +kernel) ?_
  refine z_callSI (wr := [(m0, .inr (8, [.ref (v 0), .int 0, .ref (v 1), .ref (v 2), .ref (v 3), .ref (v 4), .int 0, .ref (v 5), .ref (v 6), .ref (v 7), .int 0, .int 0, .int 0, .int 0, .int 0, .ref (v 8), .ref (v 9), .ref (v 10), .ref (v 11), .ref (v 12), .ref (v 13)])), ((v 3), .inl (g 0, 33, .inl fs)), ((v 5), .inl (g 0, 66, .inl (fun _ => 0))), ((v 6), .inl (g 1, 2, .inl (fun _ => 0)))]) (n := 3) (As := [.int 1, .int 0, .int 1]) C (c_M_in l D g 1 0 1) gX8_back_X8_in rfl (by decide +kernel) ⟨Nat.le_of_ble_eq_true rfl, Nat.le_of_ble_eq_true rfl⟩ ⟨Nat.le_of_ble_eq_true rfl, Nat.le_of_ble_eq_true rfl⟩ blind_T (fun _ _ _ => trivial) hT [] [0, 1, 2, 3] rfl rfl rfl rfl rfl rfl hl.1 rfl (Nat.le_of_ble_eq_true rfl) dX8_back_3 (fun r_3 u_1 H locs hp_2 hT => ?_)
  have hT : Sit D (TY g) A s [(m0, .inr (8, [.ref (v 0), .int 0, .ref (v 1), .ref (v 2), .ref (v 3), .ref (v 4), .int 0, .ref (v 5), .ref (v 6), .ref (v 7), .int 0, .int 0, .int 0, .int 0, .int 0, .ref (v 8), .ref (v 9), .ref (v 10), .ref (v 11), .ref (v 12), .ref (v 13)])), ((v 3), .inl (g 0, 33, .inl fs)), ((v 5), .inl (g 0, 66, .inl (fun _ => 0))), ((v 6), .inl (g 1, 2, .inl (fun _ => 0)))] H _ := hT
  have hp_2 := hp_2.trans (show (if 0 ≤ (1 : Int32) ∧ (1 : Int32) ≤ 1 then (1 : Int32) else 0) = 1 from by decide +kernel)
  subst hp_2
  refine lv_if_ne (tgt := 12) hx hb dX8_back_6 (by decide +kernel) (fun _ => ?_) (fun c9 => absurd c9 (by decide +kernel))
  refine lv_aload_n hx hb dX8_back_12 rfl (lv_at hl 0 rfl) ?_
  refine z_get C (ci := 8) (N := 21) rfl hin8 hT 0 8 rfl rfl (by decide +kernel) (by decide +kernel) dX8_back_13 ?_
  refine lv_iload_n hx hb dX8_back_16 rfl (lv_at hl 1 rfl) ?_
  refine z_zald C hT 3 1 rfl rfl (vin rfl) (v := 0) rfl dX8_back_17 ?_
  refine lv_if_ne (tgt := 24) hx hb dX8_back_18 (by decide +kernel) (fun c9 => absurd c9 (by decide +kernel)) (fun _ => ?_)
  refine lv_bipush (v := (-4)) hx hb dX8_back_21 (by decide +kernel) ?_
  exact z_iret C rfl hT () rfl [] rfl rfl (Nat.le_of_ble_eq_true rfl) (Nat.le_of_ble_eq_true rfl) dX8_back_23

def sM_back_n  : Int32 := (-2)
set_option maxHeartbeats 4000000 in
set_option maxRecDepth 100000 in
theorem c_M_back_n (l : Launch) (D : va_G) (g : Nat → ClassId) (m0 : Nat) (v : Nat → Nat) (ft fs : Nat → Int32) (hF : ∀ k, k < 29 → ft k = fr k) (hS : ∀ k, k < 33 → fs k = fs0 k) (p0 : Int32) (hn0 : ¬ p0 = 0) (hn1 : ¬ p0 = 1) : CtI l yX8_back wsX8_back { frames := 1, cells := 0, slots := 0, locals := 40 } D (TY g) [.ref m0, .int p0] (fun _ => True) [(m0, .inr (8, [.ref (v 0), .int 0, .ref (v 1), .ref (v 2), .ref (v 3), .ref (v 4), .int 0, .ref (v 5), .ref (v 6), .ref (v 7), .int 0, .int 0, .int 0, .int 0, .int 0, .ref (v 8), .ref (v 9), .ref (v 10), .ref (v 11), .ref (v 12), .ref (v 13)])), ((v 3), .inl (g 0, 33, .inl fs)), ((v 5), .inl (g 0, 66, .inl (fun _ => 0))), ((v 6), .inl (g 1, 2, .inl (fun _ => 0)))] (fun r (_ : Unit) => r = sM_back_n ) (fun _ => []) := by
  refine CtI.intro (cc := cX8_back) (maxL := 3) (ret := (some .int)) rfl (by decide +kernel) (Nat.le_of_ble_eq_true rfl) ?_
  intro p e s m below meth c A ls C hmn hX hAe hT hl
  have hx := C.1.1
  have hb := C.1.2.1
  have hl : lv_has ls 3 [(0, .ref m0), (1, .int p0)] := hl
  refine lv_iload_n hx hb dX8_back_0 rfl (lv_at hl 1 rfl) ?_
  refine lv_iconst (v := 0) hx hb dX8_back_1 (by decide +kernel) ?_
  refine lv_iconst (v := 1) hx hb dX8_back_2 (by decide +kernel) ?_
  refine z_callSI (wr := [(m0, .inr (8, [.ref (v 0), .int 0, .ref (v 1), .ref (v 2), .ref (v 3), .ref (v 4), .int 0, .ref (v 5), .ref (v 6), .ref (v 7), .int 0, .int 0, .int 0, .int 0, .int 0, .ref (v 8), .ref (v 9), .ref (v 10), .ref (v 11), .ref (v 12), .ref (v 13)])), ((v 3), .inl (g 0, 33, .inl fs)), ((v 5), .inl (g 0, 66, .inl (fun _ => 0))), ((v 6), .inl (g 1, 2, .inl (fun _ => 0)))]) (n := 3) (As := [.int p0, .int 0, .int 1]) C (c_M_in l D g p0 0 1) gX8_back_X8_in rfl (by decide +kernel) ⟨Nat.le_of_ble_eq_true rfl, Nat.le_of_ble_eq_true rfl⟩ ⟨Nat.le_of_ble_eq_true rfl, Nat.le_of_ble_eq_true rfl⟩ blind_T (fun _ _ _ => trivial) hT [] [0, 1, 2, 3] rfl rfl rfl rfl rfl rfl hl.1 rfl (Nat.le_of_ble_eq_true rfl) dX8_back_3 (fun r_3 u_1 H locs hp_2 hT => ?_)
  have hT : Sit D (TY g) A s [(m0, .inr (8, [.ref (v 0), .int 0, .ref (v 1), .ref (v 2), .ref (v 3), .ref (v 4), .int 0, .ref (v 5), .ref (v 6), .ref (v 7), .int 0, .int 0, .int 0, .int 0, .int 0, .ref (v 8), .ref (v 9), .ref (v 10), .ref (v 11), .ref (v 12), .ref (v 13)])), ((v 3), .inl (g 0, 33, .inl fs)), ((v 5), .inl (g 0, 66, .inl (fun _ => 0))), ((v 6), .inl (g 1, 2, .inl (fun _ => 0)))] H _ := hT
  have hp_2 := hp_2.trans (in01 hn0 hn1)
  subst hp_2
  refine lv_if_ne (tgt := 12) hx hb dX8_back_6 (by decide +kernel) (fun c9 => absurd c9 (by decide +kernel)) (fun _ => ?_)
  refine lv_bipush (v := (-2)) hx hb dX8_back_9 (by decide +kernel) ?_
  exact z_iret C rfl hT () rfl [] rfl rfl (Nat.le_of_ble_eq_true rfl) (Nat.le_of_ble_eq_true rfl) dX8_back_11

def sM_back (p0 : Int32) : Int32 := if p0 = 0 then sM_back_0 else if p0 = 1 then sM_back_1 else sM_back_n
theorem c_M_back (l : Launch) (D : va_G) (g : Nat → ClassId) (m0 : Nat) (v : Nat → Nat) (ft fs : Nat → Int32) (hF : ∀ k, k < 29 → ft k = fr k) (hS : ∀ k, k < 33 → fs k = fs0 k) (p0 : Int32) : CtI l yX8_back wsX8_back { frames := 1, cells := 0, slots := 0, locals := 40 } D (TY g) [.ref m0, .int p0] (fun _ => True) [(m0, .inr (8, [.ref (v 0), .int 0, .ref (v 1), .ref (v 2), .ref (v 3), .ref (v 4), .int 0, .ref (v 5), .ref (v 6), .ref (v 7), .int 0, .int 0, .int 0, .int 0, .int 0, .ref (v 8), .ref (v 9), .ref (v 10), .ref (v 11), .ref (v 12), .ref (v 13)])), ((v 3), .inl (g 0, 33, .inl fs)), ((v 5), .inl (g 0, 66, .inl (fun _ => 0))), ((v 6), .inl (g 1, 2, .inl (fun _ => 0)))] (fun r (_ : Unit) => r = sM_back p0) (fun _ => []) := by
  by_cases e0 : p0 = 0
  · subst e0
    exact c_M_back_0 l D g m0 v ft fs hF hS
  · by_cases e1 : p0 = 1
    · subst e1
      exact c_M_back_1 l D g m0 v ft fs hF hS
    · have h := c_M_back_n l D g m0 v ft fs hF hS p0 e0 e1
      unfold sM_back
      rw [if_neg e0, if_neg e1]
      exact h
