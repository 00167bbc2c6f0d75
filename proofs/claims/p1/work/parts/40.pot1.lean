theorem dX1_afraidBits_0 : decode cX1_afraidBits 0 = .ok (.iconst 0, 1) := by decide +kernel
theorem dX1_afraidBits_1 : decode cX1_afraidBits 1 = .ok (.istore_n 1, 1) := by decide +kernel
theorem dX1_afraidBits_2 : decode cX1_afraidBits 2 = .ok (.iconst 0, 1) := by decide +kernel
theorem dX1_afraidBits_3 : decode cX1_afraidBits 3 = .ok (.istore_n 2, 1) := by decide +kernel
theorem dX1_afraidBits_4 : decode cX1_afraidBits 4 = .ok (.iload_n 2, 1) := by decide +kernel
theorem dX1_afraidBits_5 : decode cX1_afraidBits 5 = .ok (.aload_n 0, 1) := by decide +kernel
theorem dX1_afraidBits_6 : decode cX1_afraidBits 6 = .ok (.getfield 24, 3) := by decide +kernel
theorem dX1_afraidBits_9 : decode cX1_afraidBits 9 = .ok (.if_icmp .ge 23, 3) := by decide +kernel
theorem dX1_afraidBits_32 : decode cX1_afraidBits 32 = .ok (.iload_n 1, 1) := by decide +kernel
theorem dX1_afraidBits_33 : decode cX1_afraidBits 33 = .ok (.ireturn, 1) := by decide +kernel
theorem dX5_add_0 : decode cX5_add 0 = .ok (.aload_n 0, 1) := by decide +kernel
theorem dX5_add_1 : decode cX5_add 1 = .ok (.getfield 18, 3) := by decide +kernel
theorem dX5_add_4 : decode cX5_add 4 = .ok (.bipush 6, 2) := by decide +kernel
theorem dX5_add_6 : decode cX5_add 6 = .ok (.if_icmp .ge 33, 3) := by decide +kernel
theorem dX5_add_9 : decode cX5_add 9 = .ok (.aload_n 0, 1) := by decide +kernel
theorem dX5_add_10 : decode cX5_add 10 = .ok (.getfield 9, 3) := by decide +kernel
theorem dX5_add_13 : decode cX5_add 13 = .ok (.aload_n 0, 1) := by decide +kernel
theorem dX5_add_14 : decode cX5_add 14 = .ok (.getfield 18, 3) := by decide +kernel
theorem dX5_add_17 : decode cX5_add 17 = .ok (.iload_n 1, 1) := by decide +kernel
theorem dX5_add_18 : decode cX5_add 18 = .ok (.iastore, 1) := by decide +kernel
theorem dX5_add_19 : decode cX5_add 19 = .ok (.aload_n 0, 1) := by decide +kernel
theorem dX5_add_20 : decode cX5_add 20 = .ok (.getfield 15, 3) := by decide +kernel
theorem dX5_add_23 : decode cX5_add 23 = .ok (.aload_n 0, 1) := by decide +kernel
theorem dX5_add_24 : decode cX5_add 24 = .ok (.getfield 18, 3) := by decide +kernel
theorem dX5_add_27 : decode cX5_add 27 = .ok (.iload_n 2, 1) := by decide +kernel
theorem dX5_add_28 : decode cX5_add 28 = .ok (.iastore, 1) := by decide +kernel
theorem dX5_add_29 : decode cX5_add 29 = .ok (.aload_n 0, 1) := by decide +kernel
theorem dX5_add_30 : decode cX5_add 30 = .ok (.dup, 1) := by decide +kernel
theorem dX5_add_31 : decode cX5_add 31 = .ok (.getfield 18, 3) := by decide +kernel
theorem dX5_add_34 : decode cX5_add 34 = .ok (.iconst 1, 1) := by decide +kernel
theorem dX5_add_35 : decode cX5_add 35 = .ok (.iadd, 1) := by decide +kernel
theorem dX5_add_36 : decode cX5_add 36 = .ok (.putfield 18, 3) := by decide +kernel
theorem dX5_add_39 : decode cX5_add 39 = .ok (.return_, 1) := by decide +kernel
theorem dX6_add_0 : decode cX6_add 0 = .ok (.aload_n 0, 1) := by decide +kernel
theorem dX6_add_1 : decode cX6_add 1 = .ok (.getfield 15, 3) := by decide +kernel
theorem dX6_add_4 : decode cX6_add 4 = .ok (.sipush 160, 3) := by decide +kernel
theorem dX6_add_7 : decode cX6_add 7 = .ok (.if_icmp .ge 23, 3) := by decide +kernel
theorem dX6_add_10 : decode cX6_add 10 = .ok (.aload_n 0, 1) := by decide +kernel
theorem dX6_add_11 : decode cX6_add 11 = .ok (.getfield 9, 3) := by decide +kernel
theorem dX6_add_14 : decode cX6_add 14 = .ok (.aload_n 0, 1) := by decide +kernel
theorem dX6_add_15 : decode cX6_add 15 = .ok (.getfield 15, 3) := by decide +kernel
theorem dX6_add_18 : decode cX6_add 18 = .ok (.iload_n 1, 1) := by decide +kernel
theorem dX6_add_19 : decode cX6_add 19 = .ok (.iastore, 1) := by decide +kernel
theorem dX6_add_20 : decode cX6_add 20 = .ok (.aload_n 0, 1) := by decide +kernel
theorem dX6_add_21 : decode cX6_add 21 = .ok (.dup, 1) := by decide +kernel
theorem dX6_add_22 : decode cX6_add 22 = .ok (.getfield 15, 3) := by decide +kernel
theorem dX6_add_25 : decode cX6_add 25 = .ok (.iconst 1, 1) := by decide +kernel
theorem dX6_add_26 : decode cX6_add 26 = .ok (.iadd, 1) := by decide +kernel
theorem dX6_add_27 : decode cX6_add 27 = .ok (.putfield 15, 3) := by decide +kernel
theorem dX6_add_30 : decode cX6_add 30 = .ok (.return_, 1) := by decide +kernel
set_option maxRecDepth 20000 in
theorem ggX7_write_X6_add : GoodIn wsX7_write wsX6_add := goodIn_r _ [7, 8, 9, 17, 18] (by decide +kernel) (by decide +kernel)
set_option maxRecDepth 20000 in
theorem gX7_write_X6_add : GoodIn wsX7_write (wsV RX7 62 RX6 yX6_add wsX6_add) := goodIn_app (goodIn_of _ (by decide +kernel)) ggX7_write_X6_add
theorem dX7_write_0 : decode cX7_write 0 = .ok (.iload_n 1, 1) := by decide +kernel
theorem dX7_write_1 : decode cX7_write 1 = .ok (.ifCond .lt 10, 3) := by decide +kernel
theorem dX7_write_4 : decode cX7_write 4 = .ok (.iload_n 1, 1) := by decide +kernel
theorem dX7_write_5 : decode cX7_write 5 = .ok (.sipush 255, 3) := by decide +kernel
theorem dX7_write_8 : decode cX7_write 8 = .ok (.if_icmp .le 6, 3) := by decide +kernel
theorem dX7_write_11 : decode cX7_write 11 = .ok (.bipush (-3), 2) := by decide +kernel
theorem dX7_write_13 : decode cX7_write 13 = .ok (.ireturn, 1) := by decide +kernel
theorem dX7_write_14 : decode cX7_write 14 = .ok (.aload_n 0, 1) := by decide +kernel
theorem dX7_write_15 : decode cX7_write 15 = .ok (.getfield 10, 3) := by decide +kernel
theorem dX7_write_18 : decode cX7_write 18 = .ok (.getfield 58, 3) := by decide +kernel
theorem dX7_write_21 : decode cX7_write 21 = .ok (.sipush 160, 3) := by decide +kernel
theorem dX7_write_24 : decode cX7_write 24 = .ok (.if_icmp .lt 6, 3) := by decide +kernel
theorem dX7_write_30 : decode cX7_write 30 = .ok (.aload_n 0, 1) := by decide +kernel
theorem dX7_write_31 : decode cX7_write 31 = .ok (.getfield 10, 3) := by decide +kernel
theorem dX7_write_34 : decode cX7_write 34 = .ok (.iload_n 1, 1) := by decide +kernel
theorem dX7_write_35 : decode cX7_write 35 = .ok (.invokevirtual 62, 3) := by decide +kernel
theorem dX7_write_38 : decode cX7_write 38 = .ok (.aload_n 0, 1) := by decide +kernel
theorem dX7_write_39 : decode cX7_write 39 = .ok (.getfield 10, 3) := by decide +kernel
theorem dX7_write_42 : decode cX7_write 42 = .ok (.getfield 58, 3) := by decide +kernel
theorem dX7_write_45 : decode cX7_write 45 = .ok (.ireturn, 1) := by decide +kernel
theorem dX7_erase_0 : decode cX7_erase 0 = .ok (.aload_n 0, 1) := by decide +kernel
theorem dX7_erase_1 : decode cX7_erase 1 = .ok (.getfield 10, 3) := by decide +kernel
theorem dX7_erase_4 : decode cX7_erase 4 = .ok (.getfield 58, 3) := by decide +kernel
theorem dX7_erase_7 : decode cX7_erase 7 = .ok (.istore_n 1, 1) := by decide +kernel
theorem dX7_erase_8 : decode cX7_erase 8 = .ok (.aload_n 0, 1) := by decide +kernel
theorem dX7_erase_9 : decode cX7_erase 9 = .ok (.getfield 10, 3) := by decide +kernel
theorem dX7_erase_12 : decode cX7_erase 12 = .ok (.iconst 0, 1) := by decide +kernel
theorem dX7_erase_13 : decode cX7_erase 13 = .ok (.putfield 58, 3) := by decide +kernel
theorem dX7_erase_16 : decode cX7_erase 16 = .ok (.iload_n 1, 1) := by decide +kernel
theorem dX7_erase_17 : decode cX7_erase 17 = .ok (.ireturn, 1) := by decide +kernel
set_option maxRecDepth 20000 in
theorem ggX7_person_X7_isPerson : GoodIn wsX7_person wsX7_isPerson := goodIn_r _ [12, 1, 13, 28, 29, 30, 31, 32, 33, 34, 35, 36, 37, 38, 39, 40, 41, 42, 43, 44, 45, 46, 47, 48, 49, 50] (by decide +kernel) (by decide +kernel)
set_option maxRecDepth 20000 in
theorem gX7_person_X7_isPerson : GoodIn wsX7_person (wsV RX7 91 RX7 yX7_isPerson wsX7_isPerson) := goodIn_app (goodIn_of _ (by decide +kernel)) ggX7_person_X7_isPerson
theorem dX7_person_0 : decode cX7_person 0 = .ok (.aload_n 0, 1) := by decide +kernel
theorem dX7_person_1 : decode cX7_person 1 = .ok (.iload_n 1, 1) := by decide +kernel
theorem dX7_person_2 : decode cX7_person 2 = .ok (.invokevirtual 91, 3) := by decide +kernel
theorem dX7_person_5 : decode cX7_person 5 = .ok (.ifCond .ne 6, 3) := by decide +kernel
theorem dX7_person_8 : decode cX7_person 8 = .ok (.bipush (-2), 2) := by decide +kernel
theorem dX7_person_10 : decode cX7_person 10 = .ok (.ireturn, 1) := by decide +kernel
set_option maxRecDepth 20000 in
theorem ggX7_sort_X7_isSort : GoodIn wsX7_sort wsX7_isSort := goodIn_r _ [8, 1, 9, 10, 11, 12, 13, 14, 15, 16, 17, 18, 19, 20, 21, 22, 23, 24, 25, 26, 27, 28, 29, 30, 31, 32] (by decide +kernel) (by decide +kernel)
set_option maxRecDepth 20000 in
theorem gX7_sort_X7_isSort : GoodIn wsX7_sort (wsV RX7 121 RX7 yX7_isSort wsX7_isSort) := goodIn_app (goodIn_of _ (by decide +kernel)) ggX7_sort_X7_isSort
theorem dX7_sort_0 : decode cX7_sort 0 = .ok (.aload_n 0, 1) := by decide +kernel
theorem dX7_sort_1 : decode cX7_sort 1 = .ok (.iload_n 1, 1) := by decide +kernel
theorem dX7_sort_2 : decode cX7_sort 2 = .ok (.invokevirtual 121, 3) := by decide +kernel
theorem dX7_sort_5 : decode cX7_sort 5 = .ok (.ifCond .ne 6, 3) := by decide +kernel
theorem dX7_sort_8 : decode cX7_sort 8 = .ok (.bipush (-2), 2) := by decide +kernel
theorem dX7_sort_10 : decode cX7_sort 10 = .ok (.ireturn, 1) := by decide +kernel
set_option maxRecDepth 20000 in
theorem ggX7_as_X7_isPerson : GoodIn wsX7_as wsX7_isPerson := goodIn_r _ [9, 2, 10, 26, 27, 28, 29, 30, 31, 32, 33, 34, 35, 36, 37, 38, 39, 40, 41, 42, 43, 44, 45, 46, 47, 48] (by decide +kernel) (by decide +kernel)
set_option maxRecDepth 20000 in
theorem gX7_as_X7_isPerson : GoodIn wsX7_as (wsV RX7 91 RX7 yX7_isPerson wsX7_isPerson) := goodIn_app (goodIn_of _ (by decide +kernel)) ggX7_as_X7_isPerson
theorem dX7_as_0 : decode cX7_as 0 = .ok (.aload_n 0, 1) := by decide +kernel
theorem dX7_as_1 : decode cX7_as 1 = .ok (.iload_n 1, 1) := by decide +kernel
theorem dX7_as_2 : decode cX7_as 2 = .ok (.invokevirtual 91, 3) := by decide +kernel
theorem dX7_as_5 : decode cX7_as 5 = .ok (.ifCond .ne 6, 3) := by decide +kernel
theorem dX7_as_8 : decode cX7_as 8 = .ok (.bipush (-2), 2) := by decide +kernel
theorem dX7_as_10 : decode cX7_as 10 = .ok (.ireturn, 1) := by decide +kernel
set_option maxRecDepth 20000 in
theorem ggX7_deed_X7_isPerson : GoodIn wsX7_deed wsX7_isPerson := goodIn_r _ [7, 2, 8, 59, 60, 61, 62, 63, 64, 65, 66, 67, 68, 69, 70, 71, 72, 73, 74, 75, 76, 77, 78, 79, 80, 81] (by decide +kernel) (by decide +kernel)
set_option maxRecDepth 20000 in
theorem gX7_deed_X7_isPerson : GoodIn wsX7_deed (wsV RX7 91 RX7 yX7_isPerson wsX7_isPerson) := goodIn_app (goodIn_of _ (by decide +kernel)) ggX7_deed_X7_isPerson
theorem dX7_deed_0 : decode cX7_deed 0 = .ok (.aload_n 0, 1) := by decide +kernel
theorem dX7_deed_1 : decode cX7_deed 1 = .ok (.iload_n 1, 1) := by decide +kernel
theorem dX7_deed_2 : decode cX7_deed 2 = .ok (.invokevirtual 91, 3) := by decide +kernel
theorem dX7_deed_5 : decode cX7_deed 5 = .ok (.ifCond .eq 11, 3) := by decide +kernel
theorem dX7_deed_16 : decode cX7_deed 16 = .ok (.bipush (-2), 2) := by decide +kernel
theorem dX7_deed_18 : decode cX7_deed 18 = .ok (.ireturn, 1) := by decide +kernel
theorem dX7_feast_0 : decode cX7_feast 0 = .ok (.aload_n 0, 1) := by decide +kernel
theorem dX7_feast_1 : decode cX7_feast 1 = .ok (.getfield 19, 3) := by decide +kernel
theorem dX7_feast_4 : decode cX7_feast 4 = .ok (.getfield 147, 3) := by decide +kernel
theorem dX7_feast_7 : decode cX7_feast 7 = .ok (.ifCond .ne 6, 3) := by decide +kernel
theorem dX7_feast_10 : decode cX7_feast 10 = .ok (.bipush (-4), 2) := by decide +kernel
theorem dX7_feast_12 : decode cX7_feast 12 = .ok (.ireturn, 1) := by decide +kernel
theorem dX7_undo_0 : decode cX7_undo 0 = .ok (.aload_n 0, 1) := by decide +kernel
theorem dX7_undo_1 : decode cX7_undo 1 = .ok (.getfield 33, 3) := by decide +kernel
theorem dX7_undo_4 : decode cX7_undo 4 = .ok (.getfield 83, 3) := by decide +kernel
theorem dX7_undo_7 : decode cX7_undo 7 = .ok (.ifCond .ne 6, 3) := by decide +kernel
theorem dX7_undo_10 : decode cX7_undo 10 = .ok (.bipush (-4), 2) := by decide +kernel
theorem dX7_undo_12 : decode cX7_undo 12 = .ok (.ireturn, 1) := by decide +kernel
set_option maxRecDepth 20000 in
theorem ggX7_gets_X7_isPerson : GoodIn wsX7_gets wsX7_isPerson := goodIn_r _ [7, 2, 8, 45, 46, 47, 48, 49, 50, 51, 52, 53, 54, 55, 56, 57, 58, 59, 60, 61, 62, 63, 64, 65, 66, 67] (by decide +kernel) (by decide +kernel)
set_option maxRecDepth 20000 in
theorem gX7_gets_X7_isPerson : GoodIn wsX7_gets (wsV RX7 91 RX7 yX7_isPerson wsX7_isPerson) := goodIn_app (goodIn_of _ (by decide +kernel)) ggX7_gets_X7_isPerson
theorem dX7_gets_0 : decode cX7_gets 0 = .ok (.aload_n 0, 1) := by decide +kernel
theorem dX7_gets_1 : decode cX7_gets 1 = .ok (.iload_n 1, 1) := by decide +kernel
theorem dX7_gets_2 : decode cX7_gets 2 = .ok (.invokevirtual 91, 3) := by decide +kernel
theorem dX7_gets_5 : decode cX7_gets 5 = .ok (.ifCond .ne 6, 3) := by decide +kernel
theorem dX7_gets_8 : decode cX7_gets 8 = .ok (.bipush (-2), 2) := by decide +kernel
theorem dX7_gets_10 : decode cX7_gets 10 = .ok (.ireturn, 1) := by decide +kernel
set_option maxRecDepth 20000 in
theorem ggX7_need_X7_isPerson : GoodIn wsX7_need wsX7_isPerson := goodIn_r _ [7, 2, 8, 74, 75, 76, 77, 78, 79, 80, 81, 82, 83, 84, 85, 86, 87, 88, 89, 90, 91, 92, 93, 94, 95, 96] (by decide +kernel) (by decide +kernel)
set_option maxRecDepth 20000 in
theorem gX7_need_X7_isPerson : GoodIn wsX7_need (wsV RX7 91 RX7 yX7_isPerson wsX7_isPerson) := goodIn_app (goodIn_of _ (by decide +kernel)) ggX7_need_X7_isPerson
theorem dX7_need_0 : decode cX7_need 0 = .ok (.aload_n 0, 1) := by decide +kernel
theorem dX7_need_1 : decode cX7_need 1 = .ok (.iload_n 1, 1) := by decide +kernel
theorem dX7_need_2 : decode cX7_need 2 = .ok (.invokevirtual 91, 3) := by decide +kernel
theorem dX7_need_5 : decode cX7_need 5 = .ok (.ifCond .eq 11, 3) := by decide +kernel
theorem dX7_need_16 : decode cX7_need 16 = .ok (.bipush (-2), 2) := by decide +kernel
theorem dX7_need_18 : decode cX7_need 18 = .ok (.ireturn, 1) := by decide +kernel
set_option maxRecDepth 20000 in
theorem ggX7_deeds_X7_isPerson : GoodIn wsX7_deeds wsX7_isPerson := goodIn_r _ [9, 2, 10, 90, 91, 92, 93, 94, 95, 96, 103, 104, 105, 106, 107, 108, 109, 110, 111, 112, 113, 114, 115, 116, 117, 118] (by decide +kernel) (by decide +kernel)
set_option maxRecDepth 20000 in
theorem gX7_deeds_X7_isPerson : GoodIn wsX7_deeds (wsV RX7 91 RX7 yX7_isPerson wsX7_isPerson) := goodIn_app (goodIn_of _ (by decide +kernel)) ggX7_deeds_X7_isPerson
theorem dX7_deeds_0 : decode cX7_deeds 0 = .ok (.aload_n 0, 1) := by decide +kernel
theorem dX7_deeds_1 : decode cX7_deeds 1 = .ok (.iload_n 1, 1) := by decide +kernel
theorem dX7_deeds_2 : decode cX7_deeds 2 = .ok (.invokevirtual 91, 3) := by decide +kernel
theorem dX7_deeds_5 : decode cX7_deeds 5 = .ok (.ifCond .eq 11, 3) := by decide +kernel
theorem dX7_deeds_16 : decode cX7_deeds 16 = .ok (.bipush (-2), 2) := by decide +kernel
theorem dX7_deeds_18 : decode cX7_deeds 18 = .ok (.ireturn, 1) := by decide +kernel
set_option maxRecDepth 20000 in
theorem ggX7_seen_X7_isJoint : GoodIn wsX7_seen wsX7_isJoint := goodIn_r _ [7, 8, 9, 18, 19, 20, 21, 22, 23, 24, 33, 34, 35, 36, 37, 38, 39, 40, 41, 42, 43, 44, 45, 46, 47, 48] (by decide +kernel) (by decide +kernel)
set_option maxRecDepth 20000 in
theorem gX7_seen_X7_isJoint : GoodIn wsX7_seen (wsV RX7 183 RX7 yX7_isJoint wsX7_isJoint) := goodIn_app (goodIn_of _ (by decide +kernel)) ggX7_seen_X7_isJoint
set_option maxRecDepth 20000 in
theorem ggX7_seen_X5_add : GoodIn wsX7_seen wsX5_add := goodIn_r _ [14, 15, 16, 17, 25, 26, 27, 28, 29, 30, 31, 32] (by decide +kernel) (by decide +kernel)
set_option maxRecDepth 20000 in
theorem gX7_seen_X5_add : GoodIn wsX7_seen (wsV RX7 200 RX5 yX5_add wsX5_add) := goodIn_app (goodIn_of _ (by decide +kernel)) ggX7_seen_X5_add
theorem dX7_seen_0 : decode cX7_seen 0 = .ok (.iload_n 2, 1) := by decide +kernel
theorem dX7_seen_1 : decode cX7_seen 1 = .ok (.iconst (-1), 1) := by decide +kernel
theorem dX7_seen_2 : decode cX7_seen 2 = .ok (.if_icmp .eq 14, 3) := by decide +kernel
theorem dX7_seen_5 : decode cX7_seen 5 = .ok (.aload_n 0, 1) := by decide +kernel
theorem dX7_seen_6 : decode cX7_seen 6 = .ok (.iload_n 2, 1) := by decide +kernel
theorem dX7_seen_7 : decode cX7_seen 7 = .ok (.invokevirtual 183, 3) := by decide +kernel
theorem dX7_seen_10 : decode cX7_seen 10 = .ok (.ifCond .ne 6, 3) := by decide +kernel
theorem dX7_seen_13 : decode cX7_seen 13 = .ok (.bipush (-2), 2) := by decide +kernel
theorem dX7_seen_15 : decode cX7_seen 15 = .ok (.ireturn, 1) := by decide +kernel
theorem dX7_seen_16 : decode cX7_seen 16 = .ok (.iload_n 1, 1) := by decide +kernel
theorem dX7_seen_17 : decode cX7_seen 17 = .ok (.ifCond .lt 9, 3) := by decide +kernel
theorem dX7_seen_20 : decode cX7_seen 20 = .ok (.iload_n 1, 1) := by decide +kernel
theorem dX7_seen_21 : decode cX7_seen 21 = .ok (.bipush 99, 2) := by decide +kernel
theorem dX7_seen_23 : decode cX7_seen 23 = .ok (.if_icmp .le 6, 3) := by decide +kernel
theorem dX7_seen_26 : decode cX7_seen 26 = .ok (.bipush (-3), 2) := by decide +kernel
theorem dX7_seen_28 : decode cX7_seen 28 = .ok (.ireturn, 1) := by decide +kernel
theorem dX7_seen_29 : decode cX7_seen 29 = .ok (.aload_n 0, 1) := by decide +kernel
theorem dX7_seen_30 : decode cX7_seen 30 = .ok (.getfield 46, 3) := by decide +kernel
theorem dX7_seen_33 : decode cX7_seen 33 = .ok (.getfield 80, 3) := by decide +kernel
theorem dX7_seen_36 : decode cX7_seen 36 = .ok (.bipush 6, 2) := by decide +kernel
theorem dX7_seen_38 : decode cX7_seen 38 = .ok (.if_icmp .lt 6, 3) := by decide +kernel
theorem dX7_seen_44 : decode cX7_seen 44 = .ok (.aload_n 0, 1) := by decide +kernel
theorem dX7_seen_45 : decode cX7_seen 45 = .ok (.getfield 46, 3) := by decide +kernel
theorem dX7_seen_48 : decode cX7_seen 48 = .ok (.iload_n 1, 1) := by decide +kernel
theorem dX7_seen_49 : decode cX7_seen 49 = .ok (.iload_n 2, 1) := by decide +kernel
theorem dX7_seen_50 : decode cX7_seen 50 = .ok (.invokevirtual 200, 3) := by decide +kernel
theorem dX7_seen_53 : decode cX7_seen 53 = .ok (.aload_n 0, 1) := by decide +kernel
theorem dX7_seen_54 : decode cX7_seen 54 = .ok (.getfield 46, 3) := by decide +kernel
theorem dX7_seen_57 : decode cX7_seen 57 = .ok (.getfield 80, 3) := by decide +kernel
theorem dX7_seen_60 : decode cX7_seen 60 = .ok (.ireturn, 1) := by decide +kernel
theorem dX7_forget_0 : decode cX7_forget 0 = .ok (.aload_n 0, 1) := by decide +kernel
theorem dX7_forget_1 : decode cX7_forget 1 = .ok (.getfield 46, 3) := by decide +kernel
theorem dX7_forget_4 : decode cX7_forget 4 = .ok (.getfield 80, 3) := by decide +kernel
theorem dX7_forget_7 : decode cX7_forget 7 = .ok (.istore_n 1, 1) := by decide +kernel
theorem dX7_forget_8 : decode cX7_forget 8 = .ok (.aload_n 0, 1) := by decide +kernel
theorem dX7_forget_9 : decode cX7_forget 9 = .ok (.getfield 46, 3) := by decide +kernel
theorem dX7_forget_12 : decode cX7_forget 12 = .ok (.iconst 0, 1) := by decide +kernel
theorem dX7_forget_13 : decode cX7_forget 13 = .ok (.putfield 80, 3) := by decide +kernel
theorem dX7_forget_16 : decode cX7_forget 16 = .ok (.iload_n 1, 1) := by decide +kernel
theorem dX7_forget_17 : decode cX7_forget 17 = .ok (.ireturn, 1) := by decide +kernel
set_option maxRecDepth 20000 in
theorem ggX7_chance_X7_isPerson : GoodIn wsX7_chance wsX7_isPerson := goodIn_r _ [8, 2, 3, 101, 102, 103, 104, 105, 106, 107, 108, 109, 110, 111, 112, 113, 114, 115, 116, 117, 118, 119, 120, 121, 122, 123] (by decide +kernel) (by decide +kernel)
set_option maxRecDepth 20000 in
theorem gX7_chance_X7_isPerson : GoodIn wsX7_chance (wsV RX7 91 RX7 yX7_isPerson wsX7_isPerson) := goodIn_app (goodIn_of _ (by decide +kernel)) ggX7_chance_X7_isPerson
theorem dX7_chance_0 : decode cX7_chance 0 = .ok (.aload_n 0, 1) := by decide +kernel
theorem dX7_chance_1 : decode cX7_chance 1 = .ok (.iload_n 1, 1) := by decide +kernel
theorem dX7_chance_2 : decode cX7_chance 2 = .ok (.invokevirtual 91, 3) := by decide +kernel
theorem dX7_chance_5 : decode cX7_chance 5 = .ok (.ifCond .eq 19, 3) := by decide +kernel
theorem dX7_chance_24 : decode cX7_chance 24 = .ok (.bipush (-2), 2) := by decide +kernel
theorem dX7_chance_26 : decode cX7_chance 26 = .ok (.ireturn, 1) := by decide +kernel
set_option maxRecDepth 20000 in
theorem ggX7_count_X1_afraidBits : GoodIn wsX7_count wsX1_afraidBits := goodIn_r _ [18, 19, 20, 21, 22, 17, 23, 24, 25, 26, 27, 28, 29, 30, 31, 39, 40, 41, 42, 43, 44, 45, 46, 47, 48, 49, 50, 51, 52, 53, 54] (by decide +kernel) (by decide +kernel)
set_option maxRecDepth 20000 in
theorem gX7_count_X1_afraidBits : GoodIn wsX7_count (wsV RX7 234 RX1 yX1_afraidBits wsX1_afraidBits) := goodIn_app (goodIn_of _ (by decide +kernel)) ggX7_count_X1_afraidBits
theorem dX7_count_0 : decode cX7_count 0 = .ok (.iload_n 1, 1) := by decide +kernel
theorem dX7_count_1 : decode cX7_count 1 = .ok (.tableswitch 135 0 9 #[55, 63, 71, 79, 87, 95, 103, 111, 119, 127], 55) := by decide +kernel
theorem dX7_count_56 : decode cX7_count 56 = .ok (.aload_n 0, 1) := by decide +kernel
theorem dX7_count_57 : decode cX7_count 57 = .ok (.getfield 19, 3) := by decide +kernel
theorem dX7_count_60 : decode cX7_count 60 = .ok (.getfield 202, 3) := by decide +kernel
theorem dX7_count_63 : decode cX7_count 63 = .ok (.ireturn, 1) := by decide +kernel
theorem dX7_count_64 : decode cX7_count 64 = .ok (.aload_n 0, 1) := by decide +kernel
theorem dX7_count_65 : decode cX7_count 65 = .ok (.getfield 19, 3) := by decide +kernel
theorem dX7_count_68 : decode cX7_count 68 = .ok (.getfield 147, 3) := by decide +kernel
theorem dX7_count_71 : decode cX7_count 71 = .ok (.ireturn, 1) := by decide +kernel
theorem dX7_count_72 : decode cX7_count 72 = .ok (.aload_n 0, 1) := by decide +kernel
theorem dX7_count_73 : decode cX7_count 73 = .ok (.getfield 19, 3) := by decide +kernel
theorem dX7_count_76 : decode cX7_count 76 = .ok (.getfield 231, 3) := by decide +kernel
theorem dX7_count_79 : decode cX7_count 79 = .ok (.ireturn, 1) := by decide +kernel
theorem dX7_count_80 : decode cX7_count 80 = .ok (.aload_n 0, 1) := by decide +kernel
theorem dX7_count_81 : decode cX7_count 81 = .ok (.getfield 19, 3) := by decide +kernel
theorem dX7_count_84 : decode cX7_count 84 = .ok (.getfield 154, 3) := by decide +kernel
theorem dX7_count_87 : decode cX7_count 87 = .ok (.ireturn, 1) := by decide +kernel
theorem dX7_count_88 : decode cX7_count 88 = .ok (.aload_n 0, 1) := by decide +kernel
theorem dX7_count_89 : decode cX7_count 89 = .ok (.getfield 19, 3) := by decide +kernel
theorem dX7_count_92 : decode cX7_count 92 = .ok (.getfield 160, 3) := by decide +kernel
theorem dX7_count_95 : decode cX7_count 95 = .ok (.ireturn, 1) := by decide +kernel
theorem dX7_count_96 : decode cX7_count 96 = .ok (.aload_n 0, 1) := by decide +kernel
theorem dX7_count_97 : decode cX7_count 97 = .ok (.getfield 19, 3) := by decide +kernel
theorem dX7_count_100 : decode cX7_count 100 = .ok (.getfield 163, 3) := by decide +kernel
theorem dX7_count_103 : decode cX7_count 103 = .ok (.ireturn, 1) := by decide +kernel
theorem dX7_count_104 : decode cX7_count 104 = .ok (.aload_n 0, 1) := by decide +kernel
theorem dX7_count_105 : decode cX7_count 105 = .ok (.getfield 19, 3) := by decide +kernel
theorem dX7_count_108 : decode cX7_count 108 = .ok (.invokevirtual 234, 3) := by decide +kernel
theorem dX7_count_111 : decode cX7_count 111 = .ok (.ireturn, 1) := by decide +kernel
theorem dX7_count_112 : decode cX7_count 112 = .ok (.aload_n 0, 1) := by decide +kernel
theorem dX7_count_113 : decode cX7_count 113 = .ok (.getfield 46, 3) := by decide +kernel
theorem dX7_count_116 : decode cX7_count 116 = .ok (.getfield 80, 3) := by decide +kernel
theorem dX7_count_119 : decode cX7_count 119 = .ok (.ireturn, 1) := by decide +kernel
theorem dX7_count_120 : decode cX7_count 120 = .ok (.aload_n 0, 1) := by decide +kernel
theorem dX7_count_121 : decode cX7_count 121 = .ok (.getfield 33, 3) := by decide +kernel
theorem dX7_count_124 : decode cX7_count 124 = .ok (.getfield 83, 3) := by decide +kernel
theorem dX7_count_127 : decode cX7_count 127 = .ok (.ireturn, 1) := by decide +kernel
theorem dX7_count_128 : decode cX7_count 128 = .ok (.aload_n 0, 1) := by decide +kernel
theorem dX7_count_129 : decode cX7_count 129 = .ok (.getfield 10, 3) := by decide +kernel
theorem dX7_count_132 : decode cX7_count 132 = .ok (.getfield 58, 3) := by decide +kernel
theorem dX7_count_135 : decode cX7_count 135 = .ok (.ireturn, 1) := by decide +kernel
theorem dX7_count_136 : decode cX7_count 136 = .ok (.bipush (-3), 2) := by decide +kernel
theorem dX7_count_138 : decode cX7_count 138 = .ok (.ireturn, 1) := by decide +kernel
theorem dX7_isPerson_0 : decode cX7_isPerson 0 = .ok (.iload_n 1, 1) := by decide +kernel
theorem dX7_isPerson_1 : decode cX7_isPerson 1 = .ok (.ifCond .lt 18, 3) := by decide +kernel
theorem dX7_isPerson_4 : decode cX7_isPerson 4 = .ok (.iload_n 1, 1) := by decide +kernel
theorem dX7_isPerson_5 : decode cX7_isPerson 5 = .ok (.aload_n 0, 1) := by decide +kernel
theorem dX7_isPerson_6 : decode cX7_isPerson 6 = .ok (.getfield 19, 3) := by decide +kernel
theorem dX7_isPerson_9 : decode cX7_isPerson 9 = .ok (.getfield 147, 3) := by decide +kernel
theorem dX7_isPerson_12 : decode cX7_isPerson 12 = .ok (.if_icmp .ge 7, 3) := by decide +kernel
theorem dX7_isPerson_15 : decode cX7_isPerson 15 = .ok (.iconst 1, 1) := by decide +kernel
theorem dX7_isPerson_16 : decode cX7_isPerson 16 = .ok (.goto 4, 3) := by decide +kernel
theorem dX7_isPerson_19 : decode cX7_isPerson 19 = .ok (.iconst 0, 1) := by decide +kernel
theorem dX7_isPerson_20 : decode cX7_isPerson 20 = .ok (.ireturn, 1) := by decide +kernel
theorem dX7_isJoint_0 : decode cX7_isJoint 0 = .ok (.iload_n 1, 1) := by decide +kernel
theorem dX7_isJoint_1 : decode cX7_isJoint 1 = .ok (.ifCond .lt 18, 3) := by decide +kernel
theorem dX7_isJoint_4 : decode cX7_isJoint 4 = .ok (.iload_n 1, 1) := by decide +kernel
theorem dX7_isJoint_5 : decode cX7_isJoint 5 = .ok (.aload_n 0, 1) := by decide +kernel
theorem dX7_isJoint_6 : decode cX7_isJoint 6 = .ok (.getfield 19, 3) := by decide +kernel
theorem dX7_isJoint_9 : decode cX7_isJoint 9 = .ok (.getfield 202, 3) := by decide +kernel
theorem dX7_isJoint_12 : decode cX7_isJoint 12 = .ok (.if_icmp .ge 7, 3) := by decide +kernel
theorem dX7_isJoint_15 : decode cX7_isJoint 15 = .ok (.iconst 1, 1) := by decide +kernel
theorem dX7_isJoint_16 : decode cX7_isJoint 16 = .ok (.goto 4, 3) := by decide +kernel
theorem dX7_isJoint_19 : decode cX7_isJoint 19 = .ok (.iconst 0, 1) := by decide +kernel
theorem dX7_isJoint_20 : decode cX7_isJoint 20 = .ok (.ireturn, 1) := by decide +kernel
theorem dX7_isSort_0 : decode cX7_isSort 0 = .ok (.iload_n 1, 1) := by decide +kernel
theorem dX7_isSort_1 : decode cX7_isSort 1 = .ok (.ifCond .lt 18, 3) := by decide +kernel
theorem dX7_isSort_4 : decode cX7_isSort 4 = .ok (.iload_n 1, 1) := by decide +kernel
theorem dX7_isSort_5 : decode cX7_isSort 5 = .ok (.aload_n 0, 1) := by decide +kernel
theorem dX7_isSort_6 : decode cX7_isSort 6 = .ok (.getfield 19, 3) := by decide +kernel
theorem dX7_isSort_9 : decode cX7_isSort 9 = .ok (.getfield 231, 3) := by decide +kernel
theorem dX7_isSort_12 : decode cX7_isSort 12 = .ok (.if_icmp .ge 7, 3) := by decide +kernel
theorem dX7_isSort_15 : decode cX7_isSort 15 = .ok (.iconst 1, 1) := by decide +kernel
theorem dX7_isSort_16 : decode cX7_isSort 16 = .ok (.goto 4, 3) := by decide +kernel
theorem dX7_isSort_19 : decode cX7_isSort 19 = .ok (.iconst 0, 1) := by decide +kernel
theorem dX7_isSort_20 : decode cX7_isSort 20 = .ok (.ireturn, 1) := by decide +kernel
theorem dX7_isKeptPlace_0 : decode cX7_isKeptPlace 0 = .ok (.iload_n 0, 1) := by decide +kernel
theorem dX7_isKeptPlace_1 : decode cX7_isKeptPlace 1 = .ok (.ifCond .lt 12, 3) := by decide +kernel
theorem dX7_isKeptPlace_4 : decode cX7_isKeptPlace 4 = .ok (.iload_n 0, 1) := by decide +kernel
theorem dX7_isKeptPlace_5 : decode cX7_isKeptPlace 5 = .ok (.iconst 2, 1) := by decide +kernel
theorem dX7_isKeptPlace_6 : decode cX7_isKeptPlace 6 = .ok (.if_icmp .ge 7, 3) := by decide +kernel
theorem dX7_isKeptPlace_9 : decode cX7_isKeptPlace 9 = .ok (.iconst 1, 1) := by decide +kernel
theorem dX7_isKeptPlace_10 : decode cX7_isKeptPlace 10 = .ok (.goto 4, 3) := by decide +kernel
theorem dX7_isKeptPlace_13 : decode cX7_isKeptPlace 13 = .ok (.iconst 0, 1) := by decide +kernel
theorem dX7_isKeptPlace_14 : decode cX7_isKeptPlace 14 = .ok (.ireturn, 1) := by decide +kernel
def sP_isPerson (p0 : Int32) : Int32 := (if p0 < 0 then 0 else (if 0 ≤ p0 then 0 else 1))
set_option maxHeartbeats 4000000 in
set_option maxRecDepth 100000 in
/-- CowardsPot.isPerson on a new pot -/
theorem c_P_isPerson (l : Launch) (D : va_G) (g : Nat → ClassId) (h0 : Nat) (u : Nat → Nat) (p0 : Int32) : CtI l yX7_isPerson wsX7_isPerson { frames := 0, cells := 0, slots := 0, locals := 0 } D (TY g) [.ref h0, .int p0] (fun _ => True) [(h0, .inr (7, [.ref (u 0), .ref (u 1), .ref (u 2), .ref (u 3), .ref (u 4), .ref (u 5), .ref (u 6)])), ((u 1), .inr (1, [.int 5, .int 40, .int 8, .int 0, .int 0, .int 0, .ref (u 8), .ref (u 9), .ref (u 10), .ref (u 11), .ref (u 12), .ref (u 13), .ref (u 14), .ref (u 15), .ref (u 16), .ref (u 17)]))] (fun r (_ : Unit) => r = sP_isPerson p0) (fun _ => [(h0, .inr (7, [.ref (u 0), .ref (u 1), .ref (u 2), .ref (u 3), .ref (u 4), .ref (u 5), .ref (u 6)])), ((u 1), .inr (1, [.int 5, .int 40, .int 8, .int 0, .int 0, .int 0, .ref (u 8), .ref (u 9), .ref (u 10), .ref (u 11), .ref (u 12), .ref (u 13), .ref (u 14), .ref (u 15), .ref (u 16), .ref (u 17)]))]) := by
  refine CtI.intro (cc := cX7_isPerson) (maxL := 2) (ret := (some .boolean)) rfl (by decide +kernel) (Nat.le_of_ble_eq_true rfl) ?_
  intro p e s m below meth c A ls C hmn hX hAe hT hl
  have hx := C.1.1
  have hb := C.1.2.1
  have hl : lv_has ls 2 [(0, .ref h0), (1, .int p0)] := hl
  have hin1 : ∀ w ∈ u_ws RX1 TX1 16, w ∈ wsX7_isPerson := by decide +kernel
  have hin7 : ∀ w ∈ u_ws RX7 TX7 7, w ∈ wsX7_isPerson := by decide +kernel
  refine lv_iload_n hx hb dX7_isPerson_0 rfl (lv_at hl 1 rfl) ?_
  refine lv_if_lt (tgt := 19) hx hb dX7_isPerson_1 (by decide +kernel) (fun c_1 => ?_) (fun c_1 => ?_)
  · refine lv_iconst (v := 0) hx hb dX7_isPerson_19 (by decide +kernel) ?_
    exact z_zret C rfl rfl hT () (by unfold sP_isPerson; rw [if_pos c_1]) [0, 1] rfl rfl (Nat.le_of_ble_eq_true rfl) (Nat.le_of_ble_eq_true rfl) dX7_isPerson_20
  · refine lv_iload_n hx hb dX7_isPerson_4 rfl (lv_at hl 1 rfl) ?_
    refine lv_aload_n hx hb dX7_isPerson_5 rfl (lv_at hl 0 rfl) ?_
    refine z_get C (ci := 7) (N := 7) rfl hin7 hT 0 1 rfl rfl (by decide +kernel) (by decide +kernel) dX7_isPerson_6 ?_
    refine z_get C (ci := 1) (N := 16) rfl hin1 hT 1 4 rfl rfl (by decide +kernel) (by decide +kernel) dX7_isPerson_9 ?_
    refine lv_icmp_ge (tgt := 19) hx hb dX7_isPerson_12 (by decide +kernel) (fun c_12 => ?_) (fun c_12 => ?_)
    · refine lv_iconst (v := 0) hx hb dX7_isPerson_19 (by decide +kernel) ?_
      exact z_zret C rfl rfl hT () (by unfold sP_isPerson; rw [if_neg c_1, if_pos c_12]) [0, 1] rfl rfl (Nat.le_of_ble_eq_true rfl) (Nat.le_of_ble_eq_true rfl) dX7_isPerson_20
    · refine lv_iconst (v := 1) hx hb dX7_isPerson_15 (by decide +kernel) ?_
      refine lv_goto (tgt := 20) hx hb dX7_isPerson_16 (by decide +kernel) ?_
      exact z_zret C rfl rfl hT () (by unfold sP_isPerson; rw [if_neg c_1, if_neg c_12]) [0, 1] rfl rfl (Nat.le_of_ble_eq_true rfl) (Nat.le_of_ble_eq_true rfl) dX7_isPerson_20

def sP_isSort (p0 : Int32) : Int32 := (if p0 < 0 then 0 else (if 0 ≤ p0 then 0 else 1))
set_option maxHeartbeats 4000000 in
set_option maxRecDepth 100000 in
/-- CowardsPot.isSort on a new pot -/
theorem c_P_isSort (l : Launch) (D : va_G) (g : Nat → ClassId) (h0 : Nat) (u : Nat → Nat) (p0 : Int32) : CtI l yX7_isSort wsX7_isSort { frames := 0, cells := 0, slots := 0, locals := 0 } D (TY g) [.ref h0, .int p0] (fun _ => True) [(h0, .inr (7, [.ref (u 0), .ref (u 1), .ref (u 2), .ref (u 3), .ref (u 4), .ref (u 5), .ref (u 6)])), ((u 1), .inr (1, [.int 5, .int 40, .int 8, .int 0, .int 0, .int 0, .ref (u 8), .ref (u 9), .ref (u 10), .ref (u 11), .ref (u 12), .ref (u 13), .ref (u 14), .ref (u 15), .ref (u 16), .ref (u 17)]))] (fun r (_ : Unit) => r = sP_isSort p0) (fun _ => [(h0, .inr (7, [.ref (u 0), .ref (u 1), .ref (u 2), .ref (u 3), .ref (u 4), .ref (u 5), .ref (u 6)])), ((u 1), .inr (1, [.int 5, .int 40, .int 8, .int 0, .int 0, .int 0, .ref (u 8), .ref (u 9), .ref (u 10), .ref (u 11), .ref (u 12), .ref (u 13), .ref (u 14), .ref (u 15), .ref (u 16), .ref (u 17)]))]) := by
  refine CtI.intro (cc := cX7_isSort) (maxL := 2) (ret := (some .boolean)) rfl (by decide +kernel) (Nat.le_of_ble_eq_true rfl) ?_
  intro p e s m below meth c A ls C hmn hX hAe hT hl
  have hx := C.1.1
  have hb := C.1.2.1
  have hl : lv_has ls 2 [(0, .ref h0), (1, .int p0)] := hl
  have hin1 : ∀ w ∈ u_ws RX1 TX1 16, w ∈ wsX7_isSort := by decide +kernel
  have hin7 : ∀ w ∈ u_ws RX7 TX7 7, w ∈ wsX7_isSort := by decide +kernel
  refine lv_iload_n hx hb dX7_isSort_0 rfl (lv_at hl 1 rfl) ?_
  refine lv_if_lt (tgt := 19) hx hb dX7_isSort_1 (by decide +kernel) (fun c_1 => ?_) (fun c_1 => ?_)
  · refine lv_iconst (v := 0) hx hb dX7_isSort_19 (by decide +kernel) ?_
    exact z_zret C rfl rfl hT () (by unfold sP_isSort; rw [if_pos c_1]) [0, 1] rfl rfl (Nat.le_of_ble_eq_true rfl) (Nat.le_of_ble_eq_true rfl) dX7_isSort_20
  · refine lv_iload_n hx hb dX7_isSort_4 rfl (lv_at hl 1 rfl) ?_
    refine lv_aload_n hx hb dX7_isSort_5 rfl (lv_at hl 0 rfl) ?_
    refine z_get C (ci := 7) (N := 7) rfl hin7 hT 0 1 rfl rfl (by decide +kernel) (by decide +kernel) dX7_isSort_6 ?_
    refine z_get C (ci := 1) (N := 16) rfl hin1 hT 1 5 rfl rfl (by decide +kernel) (by decide +kernel) dX7_isSort_9 ?_
    refine lv_icmp_ge (tgt := 19) hx hb dX7_isSort_12 (by decide +kernel) (fun c_12 => ?_) (fun c_12 => ?_)
    · refine lv_iconst (v := 0) hx hb dX7_isSort_19 (by decide +kernel) ?_
      exact z_zret C rfl rfl hT () (by unfold sP_isSort; rw [if_neg c_1, if_pos c_12]) [0, 1] rfl rfl (Nat.le_of_ble_eq_true rfl) (Nat.le_of_ble_eq_true rfl) dX7_isSort_20
    · refine lv_iconst (v := 1) hx hb dX7_isSort_15 (by decide +kernel) ?_
      refine lv_goto (tgt := 20) hx hb dX7_isSort_16 (by decide +kernel) ?_
      exact z_zret C rfl rfl hT () (by unfold sP_isSort; rw [if_neg c_1, if_neg c_12]) [0, 1] rfl rfl (Nat.le_of_ble_eq_true rfl) (Nat.le_of_ble_eq_true rfl) dX7_isSort_20

def sP_isJoint (p0 : Int32) : Int32 := (if p0 < 0 then 0 else (if 5 ≤ p0 then 0 else 1))
set_option maxHeartbeats 4000000 in
set_option maxRecDepth 100000 in
/-- CowardsPot.isJoint on a new pot -/
theorem c_P_isJoint (l : Launch) (D : va_G) (g : Nat → ClassId) (h0 : Nat) (u : Nat → Nat) (p0 : Int32) : CtI l yX7_isJoint wsX7_isJoint { frames := 0, cells := 0, slots := 0, locals := 0 } D (TY g) [.ref h0, .int p0] (fun _ => True) [(h0, .inr (7, [.ref (u 0), .ref (u 1), .ref (u 2), .ref (u 3), .ref (u 4), .ref (u 5), .ref (u 6)])), ((u 1), .inr (1, [.int 5, .int 40, .int 8, .int 0, .int 0, .int 0, .ref (u 8), .ref (u 9), .ref (u 10), .ref (u 11), .ref (u 12), .ref (u 13), .ref (u 14), .ref (u 15), .ref (u 16), .ref (u 17)]))] (fun r (_ : Unit) => r = sP_isJoint p0) (fun _ => [(h0, .inr (7, [.ref (u 0), .ref (u 1), .ref (u 2), .ref (u 3), .ref (u 4), .ref (u 5), .ref (u 6)])), ((u 1), .inr (1, [.int 5, .int 40, .int 8, .int 0, .int 0, .int 0, .ref (u 8), .ref (u 9), .ref (u 10), .ref (u 11), .ref (u 12), .ref (u 13), .ref (u 14), .ref (u 15), .ref (u 16), .ref (u 17)]))]) := by
  refine CtI.intro (cc := cX7_isJoint) (maxL := 2) (ret := (some .boolean)) rfl (by decide +kernel) (Nat.le_of_ble_eq_true rfl) ?_
  intro p e s m below meth c A ls C hmn hX hAe hT hl
  have hx := C.1.1
  have hb := C.1.2.1
  have hl : lv_has ls 2 [(0, .ref h0), (1, .int p0)] := hl
  have hin1 : ∀ w ∈ u_ws RX1 TX1 16, w ∈ wsX7_isJoint := by decide +kernel
  have hin7 : ∀ w ∈ u_ws RX7 TX7 7, w ∈ wsX7_isJoint := by decide +kernel
  refine lv_iload_n hx hb dX7_isJoint_0 rfl (lv_at hl 1 rfl) ?_
  refine lv_if_lt (tgt := 19) hx hb dX7_isJoint_1 (by decide +kernel) (fun c_1 => ?_) (fun c_1 => ?_)
  · refine lv_iconst (v := 0) hx hb dX7_isJoint_19 (by decide +kernel) ?_
    exact z_zret C rfl rfl hT () (by unfold sP_isJoint; rw [if_pos c_1]) [0, 1] rfl rfl (Nat.le_of_ble_eq_true rfl) (Nat.le_of_ble_eq_true rfl) dX7_isJoint_20
  · refine lv_iload_n hx hb dX7_isJoint_4 rfl (lv_at hl 1 rfl) ?_
    refine lv_aload_n hx hb dX7_isJoint_5 rfl (lv_at hl 0 rfl) ?_
    refine z_get C (ci := 7) (N := 7) rfl hin7 hT 0 1 rfl rfl (by decide +kernel) (by decide +kernel) dX7_isJoint_6 ?_
    refine z_get C (ci := 1) (N := 16) rfl hin1 hT 1 0 rfl rfl (by decide +kernel) (by decide +kernel) dX7_isJoint_9 ?_
    refine lv_icmp_ge (tgt := 19) hx hb dX7_isJoint_12 (by decide +kernel) (fun c_12 => ?_) (fun c_12 => ?_)
    · refine lv_iconst (v := 0) hx hb dX7_isJoint_19 (by decide +kernel) ?_
      exact z_zret C rfl rfl hT () (by unfold sP_isJoint; rw [if_neg c_1, if_pos c_12]) [0, 1] rfl rfl (Nat.le_of_ble_eq_true rfl) (Nat.le_of_ble_eq_true rfl) dX7_isJoint_20
    · refine lv_iconst (v := 1) hx hb dX7_isJoint_15 (by decide +kernel) ?_
      refine lv_goto (tgt := 20) hx hb dX7_isJoint_16 (by decide +kernel) ?_
      exact z_zret C rfl rfl hT () (by unfold sP_isJoint; rw [if_neg c_1, if_neg c_12]) [0, 1] rfl rfl (Nat.le_of_ble_eq_true rfl) (Nat.le_of_ble_eq_true rfl) dX7_isJoint_20

def sP_isKeptPlace (p0 : Int32) : Int32 := (if p0 < 0 then 0 else (if 2 ≤ p0 then 0 else 1))
set_option maxHeartbeats 4000000 in
set_option maxRecDepth 100000 in
theorem c_P_isKeptPlace (l : Launch) (D : va_G) (g : Nat → ClassId) (p0 : Int32) : CtI l yX7_isKeptPlace wsX7_isKeptPlace { frames := 0, cells := 0, slots := 0, locals := 0 } D (TY g) [.int p0] (fun _ => True) [] (fun r (_ : Unit) => r = sP_isKeptPlace p0) (fun _ => []) := by
  refine CtI.intro (cc := cX7_isKeptPlace) (maxL := 1) (ret := (some .boolean)) rfl (by decide +kernel) (Nat.le_of_ble_eq_true rfl) ?_
  intro p e s m below meth c A ls C hmn hX hAe hT hl
  have hx := C.1.1
  have hb := C.1.2.1
  have hl : lv_has ls 1 [(0, .int p0)] := hl
  refine lv_iload_n hx hb dX7_isKeptPlace_0 rfl (lv_at hl 0 rfl) ?_
  refine lv_if_lt (tgt := 13) hx hb dX7_isKeptPlace_1 (by decide +kernel) (fun c_1 => ?_) (fun c_1 => ?_)
  · refine lv_iconst (v := 0) hx hb dX7_isKeptPlace_13 (by decide +kernel) ?_
    exact z_zret C rfl rfl hT () (by unfold sP_isKeptPlace; rw [if_pos c_1]) [] rfl rfl (Nat.le_of_ble_eq_true rfl) (Nat.le_of_ble_eq_true rfl) dX7_isKeptPlace_14
  · refine lv_iload_n hx hb dX7_isKeptPlace_4 rfl (lv_at hl 0 rfl) ?_
    refine lv_iconst (v := 2) hx hb dX7_isKeptPlace_5 (by decide +kernel) ?_
    refine lv_icmp_ge (tgt := 13) hx hb dX7_isKeptPlace_6 (by decide +kernel) (fun c_6 => ?_) (fun c_6 => ?_)
    · refine lv_iconst (v := 0) hx hb dX7_isKeptPlace_13 (by decide +kernel) ?_
      exact z_zret C rfl rfl hT () (by unfold sP_isKeptPlace; rw [if_neg c_1, if_pos c_6]) [] rfl rfl (Nat.le_of_ble_eq_true rfl) (Nat.le_of_ble_eq_true rfl) dX7_isKeptPlace_14
    · refine lv_iconst (v := 1) hx hb dX7_isKeptPlace_9 (by decide +kernel) ?_
      refine lv_goto (tgt := 14) hx hb dX7_isKeptPlace_10 (by decide +kernel) ?_
      exact z_zret C rfl rfl hT () (by unfold sP_isKeptPlace; rw [if_neg c_1, if_neg c_6]) [] rfl rfl (Nat.le_of_ble_eq_true rfl) (Nat.le_of_ble_eq_true rfl) dX7_isKeptPlace_14

theorem sP_isPerson_0 (p0 : Int32) : sP_isPerson p0 = 0 := by
  unfold sP_isPerson
  split
  · rfl
  · next h => rw [if_pos (Int32.not_lt.mp h)]
theorem sP_isSort_0 (p0 : Int32) : sP_isSort p0 = 0 := by
  unfold sP_isSort
  split
  · rfl
  · next h => rw [if_pos (Int32.not_lt.mp h)]
theorem i2_of {p0 : Int32} (h0 : ¬ p0 < 0) (h2 : ¬ 2 ≤ p0) : p0 = 0 ∨ p0 = 1 := by
  obtain ⟨j, hj, e⟩ := nI_of h0
  subst e
  have h3 : j < 2 := by
    rcases Nat.lt_or_ge j 2 with q | q
    · exact q
    · exact absurd (nI_le q hj) h2
  rcases (show j = 0 ∨ j = 1 by omega) with rfl | rfl
  · exact Or.inl rfl
  · exact Or.inr rfl
theorem sP_isKeptPlace_0 {p0 : Int32} (h0 : ¬ p0 = 0) (h1 : ¬ p0 = 1) : sP_isKeptPlace p0 = 0 := by
  unfold sP_isKeptPlace
  split
  · rfl
  · next q =>
    split
    · rfl
    · next q2 => exact ((i2_of q q2).elim h0 h1).elim

set_option maxHeartbeats 4000000 in
set_option maxRecDepth 100000 in
/-- Text.add on an empty text -/
theorem c_Text_add (l : Launch) (D : va_G) (g : Nat → ClassId) (u : Nat → Nat) (p0 : Int32) : CtV l yX6_add wsX6_add { frames := 0, cells := 0, slots := 0, locals := 0 } D (TY g) [.ref (u 0), .int p0] (fun _ => True) [((u 0), .inr (6, [.ref (u 7), .int 0])), ((u 7), .inl (g 0, 160, .inl (fun _ => 0)))] (fun _ : Unit => True) (fun _ => [((u 0), .inr (6, [.ref (u 7), .int 1]))]) := by
  refine CtV.intro (cc := cX6_add) (maxL := 2) (ret := none) rfl (by decide +kernel) (Nat.le_of_ble_eq_true rfl) ?_
  intro p e s m below meth c A ls C hmn hX hAe hT hl
  have hx := C.1.1
  have hb := C.1.2.1
  have hl : lv_has ls 2 [(0, .ref (u 0)), (1, .int p0)] := hl
  have hin6 : ∀ w ∈ u_ws RX6 TX6 2, w ∈ wsX6_add := by decide +kernel
  refine lv_aload_n hx hb dX6_add_0 rfl (lv_at hl 0 rfl) ?_
  refine z_get C (ci := 6) (N := 2) rfl hin6 hT 0 1 rfl rfl (by decide +kernel) (by decide +kernel) dX6_add_1 ?_
  refine lv_sipush (v := 160) hx hb dX6_add_4 (by decide +kernel) ?_
  refine lv_icmp_ge (tgt := 30) hx hb dX6_add_7 (by decide +kernel) (fun c9 => absurd c9 (by decide +kernel)) (fun _ => ?_)
  refine lv_aload_n hx hb dX6_add_10 rfl (lv_at hl 0 rfl) ?_
  refine z_get C (ci := 6) (N := 2) rfl hin6 hT 0 0 rfl rfl (by decide +kernel) (by decide +kernel) dX6_add_11 ?_
  refine lv_aload_n hx hb dX6_add_14 rfl (lv_at hl 0 rfl) ?_
  refine z_get C (ci := 6) (N := 2) rfl hin6 hT 0 1 rfl rfl (by decide +kernel) (by decide +kernel) dX6_add_15 ?_
  refine lv_iload_n hx hb dX6_add_18 rfl (lv_at hl 1 rfl) ?_
  refine z_iast C hT 1 0 rfl rfl (vin rfl) dX6_add_19 (upd (fun _ => 0) 0 p0) rfl [((u 0), .inr (6, [.ref (u 7), .int 0])), ((u 7), .inl (g 0, 160, .inl (upd (fun _ => 0) 0 p0)))] rfl (fun H locs hT => ?_)
  refine lv_aload_n hx hb dX6_add_20 rfl (lv_at hl 0 rfl) ?_
  refine lv_dup hx hb dX6_add_21 rfl ?_
  refine z_get C (ci := 6) (N := 2) rfl hin6 hT 0 1 rfl rfl (by decide +kernel) (by decide +kernel) dX6_add_22 ?_
  refine lv_iconst (v := 1) hx hb dX6_add_25 (by decide +kernel) ?_
  refine lv_iadd hx hb dX6_add_26 ?_
  refine z_eq (y := 1) (by decide +kernel) ?_
  refine z_put C (ci := 6) (N := 2) rfl hin6 tyX6_ok nmX6 hT 0 1 rfl (Nat.le_of_ble_eq_true rfl) (by decide +kernel) (by decide +kernel) rfl rfl rfl dX6_add_27 [((u 0), .inr (6, [.ref (u 7), .int 1])), ((u 7), .inl (g 0, 160, .inl (upd (fun _ => 0) 0 p0)))] rfl (fun H locs hT => ?_)
  exact z_vret C rfl hT () trivial [0] rfl rfl (Nat.le_of_ble_eq_true rfl) (Nat.le_of_ble_eq_true rfl) dX6_add_30

def sP_write (p0 : Int32) : Int32 := (if p0 < 0 then (-3) else (if p0 ≤ 255 then 1 else (-3)))
set_option maxHeartbeats 4000000 in
set_option maxRecDepth 100000 in
/-- CowardsPot.write on a new pot -/
theorem c_P_write (l : Launch) (D : va_G) (g : Nat → ClassId) (h0 : Nat) (u : Nat → Nat) (p0 : Int32) : CtI l yX7_write wsX7_write { frames := 1, cells := 0, slots := 0, locals := 40 } D (TY g) [.ref h0, .int p0] (fun _ => True) [(h0, .inr (7, [.ref (u 0), .ref (u 1), .ref (u 2), .ref (u 3), .ref (u 4), .ref (u 5), .ref (u 6)])), ((u 0), .inr (6, [.ref (u 7), .int 0])), ((u 7), .inl (g 0, 160, .inl (fun _ => 0)))] (fun r (_ : Unit) => r = sP_write p0) (fun _ => []) := by
  refine CtI.intro (cc := cX7_write) (maxL := 2) (ret := (some .int)) rfl (by decide +kernel) (Nat.le_of_ble_eq_true rfl) ?_
  intro p e s m below meth c A ls C hmn hX hAe hT hl
  have hx := C.1.1
  have hb := C.1.2.1
  have hl : lv_has ls 2 [(0, .ref h0), (1, .int p0)] := hl
  have hin6 : ∀ w ∈ u_ws RX6 TX6 2, w ∈ wsX7_write := by decide +kernel
  have hin7 : ∀ w ∈ u_ws RX7 TX7 7, w ∈ wsX7_write := by decide +kernel
  refine lv_iload_n hx hb dX7_write_0 rfl (lv_at hl 1 rfl) ?_
  refine lv_if_lt (tgt := 11) hx hb dX7_write_1 (by decide +kernel) (fun c_1 => ?_) (fun c_1 => ?_)
  · refine lv_bipush (v := (-3)) hx hb dX7_write_11 (by decide +kernel) ?_
    exact z_iret C rfl hT () (by unfold sP_write; rw [if_pos c_1]) [] rfl rfl (Nat.le_of_ble_eq_true rfl) (Nat.le_of_ble_eq_true rfl) dX7_write_13
  · refine lv_iload_n hx hb dX7_write_4 rfl (lv_at hl 1 rfl) ?_
    refine lv_sipush (v := 255) hx hb dX7_write_5 (by decide +kernel) ?_
    refine lv_icmp_le (tgt := 14) hx hb dX7_write_8 (by decide +kernel) (fun c_8 => ?_) (fun c_8 => ?_)
    · refine lv_aload_n hx hb dX7_write_14 rfl (lv_at hl 0 rfl) ?_
      refine z_get C (ci := 7) (N := 7) rfl hin7 hT 0 0 rfl rfl (by decide +kernel) (by decide +kernel) dX7_write_15 ?_
      refine z_get C (ci := 6) (N := 2) rfl hin6 hT 1 1 rfl rfl (by decide +kernel) (by decide +kernel) dX7_write_18 ?_
      refine lv_sipush (v := 160) hx hb dX7_write_21 (by decide +kernel) ?_
      refine lv_icmp_lt (tgt := 30) hx hb dX7_write_24 (by decide +kernel) (fun _ => ?_) (fun c9 => absurd (by decide +kernel) c9)
      refine lv_aload_n hx hb dX7_write_30 rfl (lv_at hl 0 rfl) ?_
      refine z_get C (ci := 7) (N := 7) rfl hin7 hT 0 0 rfl rfl (by decide +kernel) (by decide +kernel) dX7_write_31 ?_
      refine lv_iload_n hx hb dX7_write_34 rfl (lv_at hl 1 rfl) ?_
      refine z_callVV (wr := [(h0, .inr (7, [.ref (u 0), .ref (u 1), .ref (u 2), .ref (u 3), .ref (u 4), .ref (u 5), .ref (u 6)]))]) (n := 1) C (c_Text_add l D g u p0) gX7_write_X6_add rfl (by decide +kernel) ⟨Nat.le_of_ble_eq_true rfl, Nat.le_of_ble_eq_true rfl⟩ ⟨Nat.le_of_ble_eq_true rfl, Nat.le_of_ble_eq_true rfl⟩ blind_T (fun _ _ _ => trivial) hT [1, 2] [0] rfl rfl rfl rfl rfl 1 rfl rfl rfl rfl hl.1 rfl (Nat.le_of_ble_eq_true rfl) dX7_write_35 (fun u_1 H locs hp_2 hT => ?_)
      have hT : Sit D (TY g) A s [(h0, .inr (7, [.ref (u 0), .ref (u 1), .ref (u 2), .ref (u 3), .ref (u 4), .ref (u 5), .ref (u 6)])), ((u 0), .inr (6, [.ref (u 7), .int 1]))] H _ := hT
      refine lv_aload_n hx hb dX7_write_38 rfl (lv_at hl 0 rfl) ?_
      refine z_get C (ci := 7) (N := 7) rfl hin7 hT 0 0 rfl rfl (by decide +kernel) (by decide +kernel) dX7_write_39 ?_
      refine z_get C (ci := 6) (N := 2) rfl hin6 hT 1 1 rfl rfl (by decide +kernel) (by decide +kernel) dX7_write_42 ?_
      exact z_iret C rfl hT () (by unfold sP_write; rw [if_neg c_1, if_pos c_8]) [] rfl rfl (Nat.le_of_ble_eq_true rfl) (Nat.le_of_ble_eq_true rfl) dX7_write_45
    · refine lv_bipush (v := (-3)) hx hb dX7_write_11 (by decide +kernel) ?_
      exact z_iret C rfl hT () (by unfold sP_write; rw [if_neg c_1, if_neg c_8]) [] rfl rfl (Nat.le_of_ble_eq_true rfl) (Nat.le_of_ble_eq_true rfl) dX7_write_13

def sP_erase  : Int32 := 0
set_option maxHeartbeats 4000000 in
set_option maxRecDepth 100000 in
/-- CowardsPot.erase on a new pot -/
theorem c_P_erase (l : Launch) (D : va_G) (g : Nat → ClassId) (h0 : Nat) (u : Nat → Nat) : CtI l yX7_erase wsX7_erase { frames := 0, cells := 0, slots := 0, locals := 0 } D (TY g) [.ref h0] (fun _ => True) [(h0, .inr (7, [.ref (u 0), .ref (u 1), .ref (u 2), .ref (u 3), .ref (u 4), .ref (u 5), .ref (u 6)])), ((u 0), .inr (6, [.ref (u 7), .int 0]))] (fun r (_ : Unit) => r = sP_erase ) (fun _ => []) := by
  refine CtI.intro (cc := cX7_erase) (maxL := 2) (ret := (some .int)) rfl (by decide +kernel) (Nat.le_of_ble_eq_true rfl) ?_
  intro p e s m below meth c A ls C hmn hX hAe hT hl
  have hx := C.1.1
  have hb := C.1.2.1
  have hl : lv_has ls 2 [(0, .ref h0)] := hl
  have hin6 : ∀ w ∈ u_ws RX6 TX6 2, w ∈ wsX7_erase := by decide +kernel
  have hin7 : ∀ w ∈ u_ws RX7 TX7 7, w ∈ wsX7_erase := by decide +kernel
  refine lv_aload_n hx hb dX7_erase_0 rfl (lv_at hl 0 rfl) ?_
  refine z_get C (ci := 7) (N := 7) rfl hin7 hT 0 0 rfl rfl (by decide +kernel) (by decide +kernel) dX7_erase_1 ?_
  refine z_get C (ci := 6) (N := 2) rfl hin6 hT 1 1 rfl rfl (by decide +kernel) (by decide +kernel) dX7_erase_4 ?_
  refine lv_istore_n (lv' := [(1, .int 0), (0, .ref h0)]) hx hb dX7_erase_7 rfl hl (by decide +kernel) rfl (fun ls hl => ?_)
  refine lv_aload_n hx hb dX7_erase_8 rfl (lv_at hl 1 rfl) ?_
  refine z_get C (ci := 7) (N := 7) rfl hin7 hT 0 0 rfl rfl (by decide +kernel) (by decide +kernel) dX7_erase_9 ?_
  refine lv_iconst (v := 0) hx hb dX7_erase_12 (by decide +kernel) ?_
  refine z_put C (ci := 6) (N := 2) rfl hin6 tyX6_ok nmX6 hT 1 1 rfl (Nat.le_of_ble_eq_true rfl) (by decide +kernel) (by decide +kernel) rfl rfl rfl dX7_erase_13 [(h0, .inr (7, [.ref (u 0), .ref (u 1), .ref (u 2), .ref (u 3), .ref (u 4), .ref (u 5), .ref (u 6)])), ((u 0), .inr (6, [.ref (u 7), .int 0]))] rfl (fun H locs hT => ?_)
  refine lv_iload_n hx hb dX7_erase_16 rfl (lv_at hl 0 rfl) ?_
  exact z_iret C rfl hT () rfl [] rfl rfl (Nat.le_of_ble_eq_true rfl) (Nat.le_of_ble_eq_true rfl) dX7_erase_17

def sP_person (p0 p1 : Int32) : Int32 := (-2)
set_option maxHeartbeats 4000000 in
set_option maxRecDepth 100000 in
/-- CowardsPot.person on a new pot -/
theorem c_P_person (l : Launch) (D : va_G) (g : Nat → ClassId) (h0 : Nat) (u : Nat → Nat) (p0 p1 : Int32) : CtI l yX7_person wsX7_person { frames := 1, cells := 0, slots := 0, locals := 40 } D (TY g) [.ref h0, .int p0, .int p1] (fun _ => True) [(h0, .inr (7, [.ref (u 0), .ref (u 1), .ref (u 2), .ref (u 3), .ref (u 4), .ref (u 5), .ref (u 6)])), ((u 1), .inr (1, [.int 5, .int 40, .int 8, .int 0, .int 0, .int 0, .ref (u 8), .ref (u 9), .ref (u 10), .ref (u 11), .ref (u 12), .ref (u 13), .ref (u 14), .ref (u 15), .ref (u 16), .ref (u 17)]))] (fun r (_ : Unit) => r = sP_person p0 p1) (fun _ => []) := by
  refine CtI.intro (cc := cX7_person) (maxL := 3) (ret := (some .int)) rfl (by decide +kernel) (Nat.le_of_ble_eq_true rfl) ?_
  intro p e s m below meth c A ls C hmn hX hAe hT hl
  have hx := C.1.1
  have hb := C.1.2.1
  have hl : lv_has ls 3 [(0, .ref h0), (1, .int p0), (2, .int p1)] := hl
  refine lv_aload_n hx hb dX7_person_0 rfl (lv_at hl 0 rfl) ?_
  refine lv_iload_n hx hb dX7_person_1 rfl (lv_at hl 1 rfl) ?_
  refine z_callVI (wr := []) (n := 1) C (c_P_isPerson l D g h0 u p0) gX7_person_X7_isPerson rfl (by decide +kernel) ⟨Nat.le_of_ble_eq_true rfl, Nat.le_of_ble_eq_true rfl⟩ ⟨Nat.le_of_ble_eq_true rfl, Nat.le_of_ble_eq_true rfl⟩ blind_T (fun _ _ _ => trivial) hT [0, 1] [] rfl rfl rfl rfl rfl 0 rfl rfl rfl rfl hl.1 rfl (Nat.le_of_ble_eq_true rfl) dX7_person_2 (fun r_3 u_1 H locs hp_2 hT => ?_)
  have hT : Sit D (TY g) A s [(h0, .inr (7, [.ref (u 0), .ref (u 1), .ref (u 2), .ref (u 3), .ref (u 4), .ref (u 5), .ref (u 6)])), ((u 1), .inr (1, [.int 5, .int 40, .int 8, .int 0, .int 0, .int 0, .ref (u 8), .ref (u 9), .ref (u 10), .ref (u 11), .ref (u 12), .ref (u 13), .ref (u 14), .ref (u 15), .ref (u 16), .ref (u 17)]))] H _ := hT
  have hp_2 := hp_2.trans (sP_isPerson_0 p0)
  subst hp_2
  refine lv_if_ne (tgt := 11) hx hb dX7_person_5 (by decide +kernel) (fun c9 => absurd c9 (by decide +kernel)) (fun _ => ?_)
  refine lv_bipush (v := (-2)) hx hb dX7_person_8 (by decide +kernel) ?_
  exact z_iret C rfl hT () rfl [] rfl rfl (Nat.le_of_ble_eq_true rfl) (Nat.le_of_ble_eq_true rfl) dX7_person_10

def sP_sort (p0 p1 : Int32) : Int32 := (-2)
set_option maxHeartbeats 4000000 in
set_option maxRecDepth 100000 in
/-- CowardsPot.sort on a new pot -/
theorem c_P_sort (l : Launch) (D : va_G) (g : Nat → ClassId) (h0 : Nat) (u : Nat → Nat) (p0 p1 : Int32) : CtI l yX7_sort wsX7_sort { frames := 1, cells := 0, slots := 0, locals := 40 } D (TY g) [.ref h0, .int p0, .int p1] (fun _ => True) [(h0, .inr (7, [.ref (u 0), .ref (u 1), .ref (u 2), .ref (u 3), .ref (u 4), .ref (u 5), .ref (u 6)])), ((u 1), .inr (1, [.int 5, .int 40, .int 8, .int 0, .int 0, .int 0, .ref (u 8), .ref (u 9), .ref (u 10), .ref (u 11), .ref (u 12), .ref (u 13), .ref (u 14), .ref (u 15), .ref (u 16), .ref (u 17)]))] (fun r (_ : Unit) => r = sP_sort p0 p1) (fun _ => []) := by
  refine CtI.intro (cc := cX7_sort) (maxL := 3) (ret := (some .int)) rfl (by decide +kernel) (Nat.le_of_ble_eq_true rfl) ?_
  intro p e s m below meth c A ls C hmn hX hAe hT hl
  have hx := C.1.1
  have hb := C.1.2.1
  have hl : lv_has ls 3 [(0, .ref h0), (1, .int p0), (2, .int p1)] := hl
  refine lv_aload_n hx hb dX7_sort_0 rfl (lv_at hl 0 rfl) ?_
  refine lv_iload_n hx hb dX7_sort_1 rfl (lv_at hl 1 rfl) ?_
  refine z_callVI (wr := []) (n := 1) C (c_P_isSort l D g h0 u p0) gX7_sort_X7_isSort rfl (by decide +kernel) ⟨Nat.le_of_ble_eq_true rfl, Nat.le_of_ble_eq_true rfl⟩ ⟨Nat.le_of_ble_eq_true rfl, Nat.le_of_ble_eq_true rfl⟩ blind_T (fun _ _ _ => trivial) hT [0, 1] [] rfl rfl rfl rfl rfl 0 rfl rfl rfl rfl hl.1 rfl (Nat.le_of_ble_eq_true rfl) dX7_sort_2 (fun r_3 u_1 H locs hp_2 hT => ?_)
  have hT : Sit D (TY g) A s [(h0, .inr (7, [.ref (u 0), .ref (u 1), .ref (u 2), .ref (u 3), .ref (u 4), .ref (u 5), .ref (u 6)])), ((u 1), .inr (1, [.int 5, .int 40, .int 8, .int 0, .int 0, .int 0, .ref (u 8), .ref (u 9), .ref (u 10), .ref (u 11), .ref (u 12), .ref (u 13), .ref (u 14), .ref (u 15), .ref (u 16), .ref (u 17)]))] H _ := hT
  have hp_2 := hp_2.trans (sP_isSort_0 p0)
  subst hp_2
  refine lv_if_ne (tgt := 11) hx hb dX7_sort_5 (by decide +kernel) (fun c9 => absurd c9 (by decide +kernel)) (fun _ => ?_)
  refine lv_bipush (v := (-2)) hx hb dX7_sort_8 (by decide +kernel) ?_
  exact z_iret C rfl hT () rfl [] rfl rfl (Nat.le_of_ble_eq_true rfl) (Nat.le_of_ble_eq_true rfl) dX7_sort_10

def sP_as (p0 p1 : Int32) : Int32 := (-2)
set_option maxHeartbeats 4000000 in
set_option maxRecDepth 100000 in
/-- CowardsPot.as on a new pot -/
theorem c_P_as (l : Launch) (D : va_G) (g : Nat → ClassId) (h0 : Nat) (u : Nat → Nat) (p0 p1 : Int32) : CtI l yX7_as wsX7_as { frames := 1, cells := 0, slots := 0, locals := 40 } D (TY g) [.ref h0, .int p0, .int p1] (fun _ => True) [(h0, .inr (7, [.ref (u 0), .ref (u 1), .ref (u 2), .ref (u 3), .ref (u 4), .ref (u 5), .ref (u 6)])), ((u 1), .inr (1, [.int 5, .int 40, .int 8, .int 0, .int 0, .int 0, .ref (u 8), .ref (u 9), .ref (u 10), .ref (u 11), .ref (u 12), .ref (u 13), .ref (u 14), .ref (u 15), .ref (u 16), .ref (u 17)]))] (fun r (_ : Unit) => r = sP_as p0 p1) (fun _ => []) := by
  refine CtI.intro (cc := cX7_as) (maxL := 3) (ret := (some .int)) rfl (by decide +kernel) (Nat.le_of_ble_eq_true rfl) ?_
  intro p e s m below meth c A ls C hmn hX hAe hT hl
  have hx := C.1.1
  have hb := C.1.2.1
  have hl : lv_has ls 3 [(0, .ref h0), (1, .int p0), (2, .int p1)] := hl
  refine lv_aload_n hx hb dX7_as_0 rfl (lv_at hl 0 rfl) ?_
  refine lv_iload_n hx hb dX7_as_1 rfl (lv_at hl 1 rfl) ?_
  refine z_callVI (wr := []) (n := 1) C (c_P_isPerson l D g h0 u p0) gX7_as_X7_isPerson rfl (by decide +kernel) ⟨Nat.le_of_ble_eq_true rfl, Nat.le_of_ble_eq_true rfl⟩ ⟨Nat.le_of_ble_eq_true rfl, Nat.le_of_ble_eq_true rfl⟩ blind_T (fun _ _ _ => trivial) hT [0, 1] [] rfl rfl rfl rfl rfl 0 rfl rfl rfl rfl hl.1 rfl (Nat.le_of_ble_eq_true rfl) dX7_as_2 (fun r_3 u_1 H locs hp_2 hT => ?_)
  have hT : Sit D (TY g) A s [(h0, .inr (7, [.ref (u 0), .ref (u 1), .ref (u 2), .ref (u 3), .ref (u 4), .ref (u 5), .ref (u 6)])), ((u 1), .inr (1, [.int 5, .int 40, .int 8, .int 0, .int 0, .int 0, .ref (u 8), .ref (u 9), .ref (u 10), .ref (u 11), .ref (u 12), .ref (u 13), .ref (u 14), .ref (u 15), .ref (u 16), .ref (u 17)]))] H _ := hT
  have hp_2 := hp_2.trans (sP_isPerson_0 p0)
  subst hp_2
  refine lv_if_ne (tgt := 11) hx hb dX7_as_5 (by decide +kernel) (fun c9 => absurd c9 (by decide +kernel)) (fun _ => ?_)
  refine lv_bipush (v := (-2)) hx hb dX7_as_8 (by decide +kernel) ?_
  exact z_iret C rfl hT () rfl [] rfl rfl (Nat.le_of_ble_eq_true rfl) (Nat.le_of_ble_eq_true rfl) dX7_as_10

def sP_deed (p0 p1 : Int32) : Int32 := (-2)
set_option maxHeartbeats 4000000 in
set_option maxRecDepth 100000 in
/-- CowardsPot.deed on a new pot -/
theorem c_P_deed (l : Launch) (D : va_G) (g : Nat → ClassId) (h0 : Nat) (u : Nat → Nat) (p0 p1 : Int32) : CtI l yX7_deed wsX7_deed { frames := 1, cells := 0, slots := 0, locals := 40 } D (TY g) [.ref h0, .int p0, .int p1] (fun _ => True) [(h0, .inr (7, [.ref (u 0), .ref (u 1), .ref (u 2), .ref (u 3), .ref (u 4), .ref (u 5), .ref (u 6)])), ((u 1), .inr (1, [.int 5, .int 40, .int 8, .int 0, .int 0, .int 0, .ref (u 8), .ref (u 9), .ref (u 10), .ref (u 11), .ref (u 12), .ref (u 13), .ref (u 14), .ref (u 15), .ref (u 16), .ref (u 17)]))] (fun r (_ : Unit) => r = sP_deed p0 p1) (fun _ => []) := by
  refine CtI.intro (cc := cX7_deed) (maxL := 3) (ret := (some .int)) rfl (by decide +kernel) (Nat.le_of_ble_eq_true rfl) ?_
  intro p e s m below meth c A ls C hmn hX hAe hT hl
  have hx := C.1.1
  have hb := C.1.2.1
  have hl : lv_has ls 3 [(0, .ref h0), (1, .int p0), (2, .int p1)] := hl
  refine lv_aload_n hx hb dX7_deed_0 rfl (lv_at hl 0 rfl) ?_
  refine lv_iload_n hx hb dX7_deed_1 rfl (lv_at hl 1 rfl) ?_
  refine z_callVI (wr := []) (n := 1) C (c_P_isPerson l D g h0 u p0) gX7_deed_X7_isPerson rfl (by decide +kernel) ⟨Nat.le_of_ble_eq_true rfl, Nat.le_of_ble_eq_true rfl⟩ ⟨Nat.le_of_ble_eq_true rfl, Nat.le_of_ble_eq_true rfl⟩ blind_T (fun _ _ _ => trivial) hT [0, 1] [] rfl rfl rfl rfl rfl 0 rfl rfl rfl rfl hl.1 rfl (Nat.le_of_ble_eq_true rfl) dX7_deed_2 (fun r_3 u_1 H locs hp_2 hT => ?_)
  have hT : Sit D (TY g) A s [(h0, .inr (7, [.ref (u 0), .ref (u 1), .ref (u 2), .ref (u 3), .ref (u 4), .ref (u 5), .ref (u 6)])), ((u 1), .inr (1, [.int 5, .int 40, .int 8, .int 0, .int 0, .int 0, .ref (u 8), .ref (u 9), .ref (u 10), .ref (u 11), .ref (u 12), .ref (u 13), .ref (u 14), .ref (u 15), .ref (u 16), .ref (u 17)]))] H _ := hT
  have hp_2 := hp_2.trans (sP_isPerson_0 p0)
  subst hp_2
  refine lv_if_eq (tgt := 16) hx hb dX7_deed_5 (by decide +kernel) (fun _ => ?_) (fun c9 => absurd (by decide +kernel) c9)
  refine lv_bipush (v := (-2)) hx hb dX7_deed_16 (by decide +kernel) ?_
  exact z_iret C rfl hT () rfl [] rfl rfl (Nat.le_of_ble_eq_true rfl) (Nat.le_of_ble_eq_true rfl) dX7_deed_18

def sP_gets (p0 : Int32) : Int32 := (-2)
set_option maxHeartbeats 4000000 in
set_option maxRecDepth 100000 in
/-- CowardsPot.gets on a new pot -/
theorem c_P_gets (l : Launch) (D : va_G) (g : Nat → ClassId) (h0 : Nat) (u : Nat → Nat) (p0 : Int32) : CtI l yX7_gets wsX7_gets { frames := 1, cells := 0, slots := 0, locals := 40 } D (TY g) [.ref h0, .int p0] (fun _ => True) [(h0, .inr (7, [.ref (u 0), .ref (u 1), .ref (u 2), .ref (u 3), .ref (u 4), .ref (u 5), .ref (u 6)])), ((u 1), .inr (1, [.int 5, .int 40, .int 8, .int 0, .int 0, .int 0, .ref (u 8), .ref (u 9), .ref (u 10), .ref (u 11), .ref (u 12), .ref (u 13), .ref (u 14), .ref (u 15), .ref (u 16), .ref (u 17)]))] (fun r (_ : Unit) => r = sP_gets p0) (fun _ => []) := by
  refine CtI.intro (cc := cX7_gets) (maxL := 2) (ret := (some .int)) rfl (by decide +kernel) (Nat.le_of_ble_eq_true rfl) ?_
  intro p e s m below meth c A ls C hmn hX hAe hT hl
  have hx := C.1.1
  have hb := C.1.2.1
  have hl : lv_has ls 2 [(0, .ref h0), (1, .int p0)] := hl
  refine lv_aload_n hx hb dX7_gets_0 rfl (lv_at hl 0 rfl) ?_
  refine lv_iload_n hx hb dX7_gets_1 rfl (lv_at hl 1 rfl) ?_
  refine z_callVI (wr := []) (n := 1) C (c_P_isPerson l D g h0 u p0) gX7_gets_X7_isPerson rfl (by decide +kernel) ⟨Nat.le_of_ble_eq_true rfl, Nat.le_of_ble_eq_true rfl⟩ ⟨Nat.le_of_ble_eq_true rfl, Nat.le_of_ble_eq_true rfl⟩ blind_T (fun _ _ _ => trivial) hT [0, 1] [] rfl rfl rfl rfl rfl 0 rfl rfl rfl rfl hl.1 rfl (Nat.le_of_ble_eq_true rfl) dX7_gets_2 (fun r_3 u_1 H locs hp_2 hT => ?_)
  have hT : Sit D (TY g) A s [(h0, .inr (7, [.ref (u 0), .ref (u 1), .ref (u 2), .ref (u 3), .ref (u 4), .ref (u 5), .ref (u 6)])), ((u 1), .inr (1, [.int 5, .int 40, .int 8, .int 0, .int 0, .int 0, .ref (u 8), .ref (u 9), .ref (u 10), .ref (u 11), .ref (u 12), .ref (u 13), .ref (u 14), .ref (u 15), .ref (u 16), .ref (u 17)]))] H _ := hT
  have hp_2 := hp_2.trans (sP_isPerson_0 p0)
  subst hp_2
  refine lv_if_ne (tgt := 11) hx hb dX7_gets_5 (by decide +kernel) (fun c9 => absurd c9 (by decide +kernel)) (fun _ => ?_)
  refine lv_bipush (v := (-2)) hx hb dX7_gets_8 (by decide +kernel) ?_
  exact z_iret C rfl hT () rfl [] rfl rfl (Nat.le_of_ble_eq_true rfl) (Nat.le_of_ble_eq_true rfl) dX7_gets_10

def sP_need (p0 p1 : Int32) : Int32 := (-2)
set_option maxHeartbeats 4000000 in
set_option maxRecDepth 100000 in
/-- CowardsPot.need on a new pot -/
theorem c_P_need (l : Launch) (D : va_G) (g : Nat → ClassId) (h0 : Nat) (u : Nat → Nat) (p0 p1 : Int32) : CtI l yX7_need wsX7_need { frames := 1, cells := 0, slots := 0, locals := 40 } D (TY g) [.ref h0, .int p0, .int p1] (fun _ => True) [(h0, .inr (7, [.ref (u 0), .ref (u 1), .ref (u 2), .ref (u 3), .ref (u 4), .ref (u 5), .ref (u 6)])), ((u 1), .inr (1, [.int 5, .int 40, .int 8, .int 0, .int 0, .int 0, .ref (u 8), .ref (u 9), .ref (u 10), .ref (u 11), .ref (u 12), .ref (u 13), .ref (u 14), .ref (u 15), .ref (u 16), .ref (u 17)]))] (fun r (_ : Unit) => r = sP_need p0 p1) (fun _ => []) := by
  refine CtI.intro (cc := cX7_need) (maxL := 3) (ret := (some .int)) rfl (by decide +kernel) (Nat.le_of_ble_eq_true rfl) ?_
  intro p e s m below meth c A ls C hmn hX hAe hT hl
  have hx := C.1.1
  have hb := C.1.2.1
  have hl : lv_has ls 3 [(0, .ref h0), (1, .int p0), (2, .int p1)] := hl
  refine lv_aload_n hx hb dX7_need_0 rfl (lv_at hl 0 rfl) ?_
  refine lv_iload_n hx hb dX7_need_1 rfl (lv_at hl 1 rfl) ?_
  refine z_callVI (wr := []) (n := 1) C (c_P_isPerson l D g h0 u p0) gX7_need_X7_isPerson rfl (by decide +kernel) ⟨Nat.le_of_ble_eq_true rfl, Nat.le_of_ble_eq_true rfl⟩ ⟨Nat.le_of_ble_eq_true rfl, Nat.le_of_ble_eq_true rfl⟩ blind_T (fun _ _ _ => trivial) hT [0, 1] [] rfl rfl rfl rfl rfl 0 rfl rfl rfl rfl hl.1 rfl (Nat.le_of_ble_eq_true rfl) dX7_need_2 (fun r_3 u_1 H locs hp_2 hT => ?_)
  have hT : Sit D (TY g) A s [(h0, .inr (7, [.ref (u 0), .ref (u 1), .ref (u 2), .ref (u 3), .ref (u 4), .ref (u 5), .ref (u 6)])), ((u 1), .inr (1, [.int 5, .int 40, .int 8, .int 0, .int 0, .int 0, .ref (u 8), .ref (u 9), .ref (u 10), .ref (u 11), .ref (u 12), .ref (u 13), .ref (u 14), .ref (u 15), .ref (u 16), .ref (u 17)]))] H _ := hT
  have hp_2 := hp_2.trans (sP_isPerson_0 p0)
  subst hp_2
  refine lv_if_eq (tgt := 16) hx hb dX7_need_5 (by decide +kernel) (fun _ => ?_) (fun c9 => absurd (by decide +kernel) c9)
  refine lv_bipush (v := (-2)) hx hb dX7_need_16 (by decide +kernel) ?_
  exact z_iret C rfl hT () rfl [] rfl rfl (Nat.le_of_ble_eq_true rfl) (Nat.le_of_ble_eq_true rfl) dX7_need_18

def sP_deeds (p0 p1 p2 : Int32) : Int32 := (-2)
set_option maxHeartbeats 4000000 in
set_option maxRecDepth 100000 in
/-- CowardsPot.deeds on a new pot -/
theorem c_P_deeds (l : Launch) (D : va_G) (g : Nat → ClassId) (h0 : Nat) (u : Nat → Nat) (p0 p1 p2 : Int32) : CtI l yX7_deeds wsX7_deeds { frames := 1, cells := 0, slots := 0, locals := 40 } D (TY g) [.ref h0, .int p0, .int p1, .int p2] (fun _ => True) [(h0, .inr (7, [.ref (u 0), .ref (u 1), .ref (u 2), .ref (u 3), .ref (u 4), .ref (u 5), .ref (u 6)])), ((u 1), .inr (1, [.int 5, .int 40, .int 8, .int 0, .int 0, .int 0, .ref (u 8), .ref (u 9), .ref (u 10), .ref (u 11), .ref (u 12), .ref (u 13), .ref (u 14), .ref (u 15), .ref (u 16), .ref (u 17)]))] (fun r (_ : Unit) => r = sP_deeds p0 p1 p2) (fun _ => []) := by
  refine CtI.intro (cc := cX7_deeds) (maxL := 4) (ret := (some .int)) rfl (by decide +kernel) (Nat.le_of_ble_eq_true rfl) ?_
  intro p e s m below meth c A ls C hmn hX hAe hT hl
  have hx := C.1.1
  have hb := C.1.2.1
  have hl : lv_has ls 4 [(0, .ref h0), (1, .int p0), (2, .int p1), (3, .int p2)] := hl
  refine lv_aload_n hx hb dX7_deeds_0 rfl (lv_at hl 0 rfl) ?_
  refine lv_iload_n hx hb dX7_deeds_1 rfl (lv_at hl 1 rfl) ?_
  refine z_callVI (wr := []) (n := 1) C (c_P_isPerson l D g h0 u p0) gX7_deeds_X7_isPerson rfl (by decide +kernel) ⟨Nat.le_of_ble_eq_true rfl, Nat.le_of_ble_eq_true rfl⟩ ⟨Nat.le_of_ble_eq_true rfl, Nat.le_of_ble_eq_true rfl⟩ blind_T (fun _ _ _ => trivial) hT [0, 1] [] rfl rfl rfl rfl rfl 0 rfl rfl rfl rfl hl.1 rfl (Nat.le_of_ble_eq_true rfl) dX7_deeds_2 (fun r_3 u_1 H locs hp_2 hT => ?_)
  have hT : Sit D (TY g) A s [(h0, .inr (7, [.ref (u 0), .ref (u 1), .ref (u 2), .ref (u 3), .ref (u 4), .ref (u 5), .ref (u 6)])), ((u 1), .inr (1, [.int 5, .int 40, .int 8, .int 0, .int 0, .int 0, .ref (u 8), .ref (u 9), .ref (u 10), .ref (u 11), .ref (u 12), .ref (u 13), .ref (u 14), .ref (u 15), .ref (u 16), .ref (u 17)]))] H _ := hT
  have hp_2 := hp_2.trans (sP_isPerson_0 p0)
  subst hp_2
  refine lv_if_eq (tgt := 16) hx hb dX7_deeds_5 (by decide +kernel) (fun _ => ?_) (fun c9 => absurd (by decide +kernel) c9)
  refine lv_bipush (v := (-2)) hx hb dX7_deeds_16 (by decide +kernel) ?_
  exact z_iret C rfl hT () rfl [] rfl rfl (Nat.le_of_ble_eq_true rfl) (Nat.le_of_ble_eq_true rfl) dX7_deeds_18

def sP_chance (p0 p1 p2 p3 p4 : Int32) : Int32 := (-2)
set_option maxHeartbeats 4000000 in
set_option maxRecDepth 100000 in
/-- CowardsPot.chance on a new pot -/
theorem c_P_chance (l : Launch) (D : va_G) (g : Nat → ClassId) (h0 : Nat) (u : Nat → Nat) (p0 p1 p2 p3 p4 : Int32) : CtI l yX7_chance wsX7_chance { frames := 1, cells := 0, slots := 0, locals := 40 } D (TY g) [.ref h0, .int p0, .int p1, .int p2, .int p3, .int p4] (fun _ => True) [(h0, .inr (7, [.ref (u 0), .ref (u 1), .ref (u 2), .ref (u 3), .ref (u 4), .ref (u 5), .ref (u 6)])), ((u 1), .inr (1, [.int 5, .int 40, .int 8, .int 0, .int 0, .int 0, .ref (u 8), .ref (u 9), .ref (u 10), .ref (u 11), .ref (u 12), .ref (u 13), .ref (u 14), .ref (u 15), .ref (u 16), .ref (u 17)]))] (fun r (_ : Unit) => r = sP_chance p0 p1 p2 p3 p4) (fun _ => []) := by
  refine CtI.intro (cc := cX7_chance) (maxL := 9) (ret := (some .int)) rfl (by decide +kernel) (Nat.le_of_ble_eq_true rfl) ?_
  intro p e s m below meth c A ls C hmn hX hAe hT hl
  have hx := C.1.1
  have hb := C.1.2.1
  have hl : lv_has ls 9 [(0, .ref h0), (1, .int p0), (2, .int p1), (3, .int p2), (4, .int p3), (5, .int p4)] := hl
  refine lv_aload_n hx hb dX7_chance_0 rfl (lv_at hl 0 rfl) ?_
  refine lv_iload_n hx hb dX7_chance_1 rfl (lv_at hl 1 rfl) ?_
  refine z_callVI (wr := []) (n := 1) C (c_P_isPerson l D g h0 u p0) gX7_chance_X7_isPerson rfl (by decide +kernel) ⟨Nat.le_of_ble_eq_true rfl, Nat.le_of_ble_eq_true rfl⟩ ⟨Nat.le_of_ble_eq_true rfl, Nat.le_of_ble_eq_true rfl⟩ blind_T (fun _ _ _ => trivial) hT [0, 1] [] rfl rfl rfl rfl rfl 0 rfl rfl rfl rfl hl.1 rfl (Nat.le_of_ble_eq_true rfl) dX7_chance_2 (fun r_3 u_1 H locs hp_2 hT => ?_)
  have hT : Sit D (TY g) A s [(h0, .inr (7, [.ref (u 0), .ref (u 1), .ref (u 2), .ref (u 3), .ref (u 4), .ref (u 5), .ref (u 6)])), ((u 1), .inr (1, [.int 5, .int 40, .int 8, .int 0, .int 0, .int 0, .ref (u 8), .ref (u 9), .ref (u 10), .ref (u 11), .ref (u 12), .ref (u 13), .ref (u 14), .ref (u 15), .ref (u 16), .ref (u 17)]))] H _ := hT
  have hp_2 := hp_2.trans (sP_isPerson_0 p0)
  subst hp_2
  refine lv_if_eq (tgt := 24) hx hb dX7_chance_5 (by decide +kernel) (fun _ => ?_) (fun c9 => absurd (by decide +kernel) c9)
  refine lv_bipush (v := (-2)) hx hb dX7_chance_24 (by decide +kernel) ?_
  exact z_iret C rfl hT () rfl [] rfl rfl (Nat.le_of_ble_eq_true rfl) (Nat.le_of_ble_eq_true rfl) dX7_chance_26

def sP_feast  : Int32 := (-4)
set_option maxHeartbeats 4000000 in
set_option maxRecDepth 100000 in
/-- CowardsPot.feast on a new pot -/
theorem c_P_feast (l : Launch) (D : va_G) (g : Nat → ClassId) (h0 : Nat) (u : Nat → Nat) : CtI l yX7_feast wsX7_feast { frames := 0, cells := 0, slots := 0, locals := 0 } D (TY g) [.ref h0] (fun _ => True) [(h0, .inr (7, [.ref (u 0), .ref (u 1), .ref (u 2), .ref (u 3), .ref (u 4), .ref (u 5), .ref (u 6)])), ((u 1), .inr (1, [.int 5, .int 40, .int 8, .int 0, .int 0, .int 0, .ref (u 8), .ref (u 9), .ref (u 10), .ref (u 11), .ref (u 12), .ref (u 13), .ref (u 14), .ref (u 15), .ref (u 16), .ref (u 17)]))] (fun r (_ : Unit) => r = sP_feast ) (fun _ => []) := by
  refine CtI.intro (cc := cX7_feast) (maxL := 1) (ret := (some .int)) rfl (by decide +kernel) (Nat.le_of_ble_eq_true rfl) ?_
  intro p e s m below meth c A ls C hmn hX hAe hT hl
  have hx := C.1.1
  have hb := C.1.2.1
  have hl : lv_has ls 1 [(0, .ref h0)] := hl
  have hin1 : ∀ w ∈ u_ws RX1 TX1 16, w ∈ wsX7_feast := by decide +kernel
  have hin7 : ∀ w ∈ u_ws RX7 TX7 7, w ∈ wsX7_feast := by decide +kernel
  refine lv_aload_n hx hb dX7_feast_0 rfl (lv_at hl 0 rfl) ?_
  refine z_get C (ci := 7) (N := 7) rfl hin7 hT 0 1 rfl rfl (by decide +kernel) (by decide +kernel) dX7_feast_1 ?_
  refine z_get C (ci := 1) (N := 16) rfl hin1 hT 1 4 rfl rfl (by decide +kernel) (by decide +kernel) dX7_feast_4 ?_
  refine lv_if_ne (tgt := 13) hx hb dX7_feast_7 (by decide +kernel) (fun c9 => absurd c9 (by decide +kernel)) (fun _ => ?_)
  refine lv_bipush (v := (-4)) hx hb dX7_feast_10 (by decide +kernel) ?_
  exact z_iret C rfl hT () rfl [] rfl rfl (Nat.le_of_ble_eq_true rfl) (Nat.le_of_ble_eq_true rfl) dX7_feast_12

def sP_undo  : Int32 := (-4)
set_option maxHeartbeats 4000000 in
set_option maxRecDepth 100000 in
/-- CowardsPot.undo on a new pot -/
theorem c_P_undo (l : Launch) (D : va_G) (g : Nat → ClassId) (h0 : Nat) (u : Nat → Nat) : CtI l yX7_undo wsX7_undo { frames := 0, cells := 0, slots := 0, locals := 0 } D (TY g) [.ref h0] (fun _ => True) [(h0, .inr (7, [.ref (u 0), .ref (u 1), .ref (u 2), .ref (u 3), .ref (u 4), .ref (u 5), .ref (u 6)])), ((u 3), .inr (3, [.ref (u 29), .int 0, .int 0]))] (fun r (_ : Unit) => r = sP_undo ) (fun _ => []) := by
  refine CtI.intro (cc := cX7_undo) (maxL := 1) (ret := (some .int)) rfl (by decide +kernel) (Nat.le_of_ble_eq_true rfl) ?_
  intro p e s m below meth c A ls C hmn hX hAe hT hl
  have hx := C.1.1
  have hb := C.1.2.1
  have hl : lv_has ls 1 [(0, .ref h0)] := hl
  have hin3 : ∀ w ∈ u_ws RX3 TX3 3, w ∈ wsX7_undo := by decide +kernel
  have hin7 : ∀ w ∈ u_ws RX7 TX7 7, w ∈ wsX7_undo := by decide +kernel
  refine lv_aload_n hx hb dX7_undo_0 rfl (lv_at hl 0 rfl) ?_
  refine z_get C (ci := 7) (N := 7) rfl hin7 hT 0 3 rfl rfl (by decide +kernel) (by decide +kernel) dX7_undo_1 ?_
  refine z_get C (ci := 3) (N := 3) rfl hin3 hT 1 2 rfl rfl (by decide +kernel) (by decide +kernel) dX7_undo_4 ?_
  refine lv_if_ne (tgt := 13) hx hb dX7_undo_7 (by decide +kernel) (fun c9 => absurd c9 (by decide +kernel)) (fun _ => ?_)
  refine lv_bipush (v := (-4)) hx hb dX7_undo_10 (by decide +kernel) ?_
  exact z_iret C rfl hT () rfl [] rfl rfl (Nat.le_of_ble_eq_true rfl) (Nat.le_of_ble_eq_true rfl) dX7_undo_12

def sP_forget  : Int32 := 0
set_option maxHeartbeats 4000000 in
set_option maxRecDepth 100000 in
/-- CowardsPot.forget on a new pot -/
theorem c_P_forget (l : Launch) (D : va_G) (g : Nat → ClassId) (h0 : Nat) (u : Nat → Nat) : CtI l yX7_forget wsX7_forget { frames := 0, cells := 0, slots := 0, locals := 0 } D (TY g) [.ref h0] (fun _ => True) [(h0, .inr (7, [.ref (u 0), .ref (u 1), .ref (u 2), .ref (u 3), .ref (u 4), .ref (u 5), .ref (u 6)])), ((u 5), .inr (5, [.ref (u 69), .ref (u 70), .int 0, .int 0, .int (-1), .int (-1), .ref (u 71), .ref (u 72)]))] (fun r (_ : Unit) => r = sP_forget ) (fun _ => []) := by
  refine CtI.intro (cc := cX7_forget) (maxL := 2) (ret := (some .int)) rfl (by decide +kernel) (Nat.le_of_ble_eq_true rfl) ?_
  intro p e s m below meth c A ls C hmn hX hAe hT hl
  have hx := C.1.1
  have hb := C.1.2.1
  have hl : lv_has ls 2 [(0, .ref h0)] := hl
  have hin5 : ∀ w ∈ u_ws RX5 TX5 8, w ∈ wsX7_forget := by decide +kernel
  have hin7 : ∀ w ∈ u_ws RX7 TX7 7, w ∈ wsX7_forget := by decide +kernel
  refine lv_aload_n hx hb dX7_forget_0 rfl (lv_at hl 0 rfl) ?_
  refine z_get C (ci := 7) (N := 7) rfl hin7 hT 0 5 rfl rfl (by decide +kernel) (by decide +kernel) dX7_forget_1 ?_
  refine z_get C (ci := 5) (N := 8) rfl hin5 hT 1 2 rfl rfl (by decide +kernel) (by decide +kernel) dX7_forget_4 ?_
  refine lv_istore_n (lv' := [(1, .int 0), (0, .ref h0)]) hx hb dX7_forget_7 rfl hl (by decide +kernel) rfl (fun ls hl => ?_)
  refine lv_aload_n hx hb dX7_forget_8 rfl (lv_at hl 1 rfl) ?_
  refine z_get C (ci := 7) (N := 7) rfl hin7 hT 0 5 rfl rfl (by decide +kernel) (by decide +kernel) dX7_forget_9 ?_
  refine lv_iconst (v := 0) hx hb dX7_forget_12 (by decide +kernel) ?_
  refine z_put C (ci := 5) (N := 8) rfl hin5 tyX5_ok nmX5 hT 1 2 rfl (Nat.le_of_ble_eq_true rfl) (by decide +kernel) (by decide +kernel) rfl rfl rfl dX7_forget_13 [(h0, .inr (7, [.ref (u 0), .ref (u 1), .ref (u 2), .ref (u 3), .ref (u 4), .ref (u 5), .ref (u 6)])), ((u 5), .inr (5, [.ref (u 69), .ref (u 70), .int 0, .int 0, .int (-1), .int (-1), .ref (u 71), .ref (u 72)]))] rfl (fun H locs hT => ?_)
  refine lv_iload_n hx hb dX7_forget_16 rfl (lv_at hl 0 rfl) ?_
  exact z_iret C rfl hT () rfl [] rfl rfl (Nat.le_of_ble_eq_true rfl) (Nat.le_of_ble_eq_true rfl) dX7_forget_17

set_option maxHeartbeats 4000000 in
set_option maxRecDepth 100000 in
/-- Sightings.add on nothing seen -/
theorem c_Sight_add (l : Launch) (D : va_G) (g : Nat → ClassId) (u : Nat → Nat) (p0 p1 : Int32) : CtV l yX5_add wsX5_add { frames := 0, cells := 0, slots := 0, locals := 0 } D (TY g) [.ref (u 5), .int p0, .int p1] (fun _ => True) [((u 5), .inr (5, [.ref (u 69), .ref (u 70), .int 0, .int 0, .int (-1), .int (-1), .ref (u 71), .ref (u 72)])), ((u 69), .inl (g 0, 6, .inl (fun _ => 0))), ((u 70), .inl (g 0, 6, .inl (fun _ => 0)))] (fun _ : Unit => True) (fun _ => [((u 5), .inr (5, [.ref (u 69), .ref (u 70), .int 1, .int 0, .int (-1), .int (-1), .ref (u 71), .ref (u 72)]))]) := by
  refine CtV.intro (cc := cX5_add) (maxL := 3) (ret := none) rfl (by decide +kernel) (Nat.le_of_ble_eq_true rfl) ?_
  intro p e s m below meth c A ls C hmn hX hAe hT hl
  have hx := C.1.1
  have hb := C.1.2.1
  have hl : lv_has ls 3 [(0, .ref (u 5)), (1, .int p0), (2, .int p1)] := hl
  have hin5 : ∀ w ∈ u_ws RX5 TX5 8, w ∈ wsX5_add := by decide +kernel
  refine lv_aload_n hx hb dX5_add_0 rfl (lv_at hl 0 rfl) ?_
  refine z_get C (ci := 5) (N := 8) rfl hin5 hT 0 2 rfl rfl (by decide +kernel) (by decide +kernel) dX5_add_1 ?_
  refine lv_bipush (v := 6) hx hb dX5_add_4 (by decide +kernel) ?_
  refine lv_icmp_ge (tgt := 39) hx hb dX5_add_6 (by decide +kernel) (fun c9 => absurd c9 (by decide +kernel)) (fun _ => ?_)
  refine lv_aload_n hx hb dX5_add_9 rfl (lv_at hl 0 rfl) ?_
  refine z_get C (ci := 5) (N := 8) rfl hin5 hT 0 0 rfl rfl (by decide +kernel) (by decide +kernel) dX5_add_10 ?_
  refine lv_aload_n hx hb dX5_add_13 rfl (lv_at hl 0 rfl) ?_
  refine z_get C (ci := 5) (N := 8) rfl hin5 hT 0 2 rfl rfl (by decide +kernel) (by decide +kernel) dX5_add_14 ?_
  refine lv_iload_n hx hb dX5_add_17 rfl (lv_at hl 1 rfl) ?_
  refine z_iast C hT 1 0 rfl rfl (vin rfl) dX5_add_18 (upd (fun _ => 0) 0 p0) rfl [((u 5), .inr (5, [.ref (u 69), .ref (u 70), .int 0, .int 0, .int (-1), .int (-1), .ref (u 71), .ref (u 72)])), ((u 69), .inl (g 0, 6, .inl (upd (fun _ => 0) 0 p0))), ((u 70), .inl (g 0, 6, .inl (fun _ => 0)))] rfl (fun H locs hT => ?_)
  refine lv_aload_n hx hb dX5_add_19 rfl (lv_at hl 0 rfl) ?_
  refine z_get C (ci := 5) (N := 8) rfl hin5 hT 0 1 rfl rfl (by decide +kernel) (by decide +kernel) dX5_add_20 ?_
  refine lv_aload_n hx hb dX5_add_23 rfl (lv_at hl 0 rfl) ?_
  refine z_get C (ci := 5) (N := 8) rfl hin5 hT 0 2 rfl rfl (by decide +kernel) (by decide +kernel) dX5_add_24 ?_
  refine lv_iload_n hx hb dX5_add_27 rfl (lv_at hl 2 rfl) ?_
  refine z_iast C hT 2 0 rfl rfl (vin rfl) dX5_add_28 (upd (fun _ => 0) 0 p1) rfl [((u 5), .inr (5, [.ref (u 69), .ref (u 70), .int 0, .int 0, .int (-1), .int (-1), .ref (u 71), .ref (u 72)])), ((u 69), .inl (g 0, 6, .inl (upd (fun _ => 0) 0 p0))), ((u 70), .inl (g 0, 6, .inl (upd (fun _ => 0) 0 p1)))] rfl (fun H locs hT => ?_)
  refine lv_aload_n hx hb dX5_add_29 rfl (lv_at hl 0 rfl) ?_
  refine lv_dup hx hb dX5_add_30 rfl ?_
  refine z_get C (ci := 5) (N := 8) rfl hin5 hT 0 2 rfl rfl (by decide +kernel) (by decide +kernel) dX5_add_31 ?_
  refine lv_iconst (v := 1) hx hb dX5_add_34 (by decide +kernel) ?_
  refine lv_iadd hx hb dX5_add_35 ?_
  refine z_eq (y := 1) (by decide +kernel) ?_
  refine z_put C (ci := 5) (N := 8) rfl hin5 tyX5_ok nmX5 hT 0 2 rfl (Nat.le_of_ble_eq_true rfl) (by decide +kernel) (by decide +kernel) rfl rfl rfl dX5_add_36 [((u 5), .inr (5, [.ref (u 69), .ref (u 70), .int 1, .int 0, .int (-1), .int (-1), .ref (u 71), .ref (u 72)])), ((u 69), .inl (g 0, 6, .inl (upd (fun _ => 0) 0 p0))), ((u 70), .inl (g 0, 6, .inl (upd (fun _ => 0) 0 p1)))] rfl (fun H locs hT => ?_)
  exact z_vret C rfl hT () trivial [0] rfl rfl (Nat.le_of_ble_eq_true rfl) (Nat.le_of_ble_eq_true rfl) dX5_add_39

def sP_seen (p0 p1 : Int32) : Int32 := (if p1 = (-1) then (if p0 < 0 then (-3) else (if p0 ≤ 99 then 1 else (-3))) else (if sP_isJoint p1 = 0 then (-2) else (if p0 < 0 then (-3) else (if p0 ≤ 99 then 1 else (-3)))))
set_option maxHeartbeats 4000000 in
set_option maxRecDepth 100000 in
/-- CowardsPot.seen on a new pot -/
theorem c_P_seen (l : Launch) (D : va_G) (g : Nat → ClassId) (h0 : Nat) (u : Nat → Nat) (p0 p1 : Int32) : CtI l yX7_seen wsX7_seen { frames := 1, cells := 0, slots := 0, locals := 40 } D (TY g) [.ref h0, .int p0, .int p1] (fun _ => True) [(h0, .inr (7, [.ref (u 0), .ref (u 1), .ref (u 2), .ref (u 3), .ref (u 4), .ref (u 5), .ref (u 6)])), ((u 1), .inr (1, [.int 5, .int 40, .int 8, .int 0, .int 0, .int 0, .ref (u 8), .ref (u 9), .ref (u 10), .ref (u 11), .ref (u 12), .ref (u 13), .ref (u 14), .ref (u 15), .ref (u 16), .ref (u 17)])), ((u 5), .inr (5, [.ref (u 69), .ref (u 70), .int 0, .int 0, .int (-1), .int (-1), .ref (u 71), .ref (u 72)])), ((u 69), .inl (g 0, 6, .inl (fun _ => 0))), ((u 70), .inl (g 0, 6, .inl (fun _ => 0)))] (fun r (_ : Unit) => r = sP_seen p0 p1) (fun _ => []) := by
  refine CtI.intro (cc := cX7_seen) (maxL := 3) (ret := (some .int)) rfl (by decide +kernel) (Nat.le_of_ble_eq_true rfl) ?_
  intro p e s m below meth c A ls C hmn hX hAe hT hl
  have hx := C.1.1
  have hb := C.1.2.1
  have hl : lv_has ls 3 [(0, .ref h0), (1, .int p0), (2, .int p1)] := hl
  have hin5 : ∀ w ∈ u_ws RX5 TX5 8, w ∈ wsX7_seen := by decide +kernel
  have hin7 : ∀ w ∈ u_ws RX7 TX7 7, w ∈ wsX7_seen := by decide +kernel
  refine lv_iload_n hx hb dX7_seen_0 rfl (lv_at hl 2 rfl) ?_
  refine lv_iconst (v := (-1)) hx hb dX7_seen_1 (by decide +kernel) ?_
  refine lv_icmp_eq (tgt := 16) hx hb dX7_seen_2 (by decide +kernel) (fun c_2 => ?_) (fun c_2 => ?_)
  · refine lv_iload_n hx hb dX7_seen_16 rfl (lv_at hl 1 rfl) ?_
    refine lv_if_lt (tgt := 26) hx hb dX7_seen_17 (by decide +kernel) (fun c_17 => ?_) (fun c_17 => ?_)
    · refine lv_bipush (v := (-3)) hx hb dX7_seen_26 (by decide +kernel) ?_
      exact z_iret C rfl hT () (by unfold sP_seen; rw [if_pos c_2, if_pos c_17]) [] rfl rfl (Nat.le_of_ble_eq_true rfl) (Nat.le_of_ble_eq_true rfl) dX7_seen_28
    · refine lv_iload_n hx hb dX7_seen_20 rfl (lv_at hl 1 rfl) ?_
      refine lv_bipush (v := 99) hx hb dX7_seen_21 (by decide +kernel) ?_
      refine lv_icmp_le (tgt := 29) hx hb dX7_seen_23 (by decide +kernel) (fun c_23 => ?_) (fun c_23 => ?_)
      · refine lv_aload_n hx hb dX7_seen_29 rfl (lv_at hl 0 rfl) ?_
        refine z_get C (ci := 7) (N := 7) rfl hin7 hT 0 5 rfl rfl (by decide +kernel) (by decide +kernel) dX7_seen_30 ?_
        refine z_get C (ci := 5) (N := 8) rfl hin5 hT 2 2 rfl rfl (by decide +kernel) (by decide +kernel) dX7_seen_33 ?_
        refine lv_bipush (v := 6) hx hb dX7_seen_36 (by decide +kernel) ?_
        refine lv_icmp_lt (tgt := 44) hx hb dX7_seen_38 (by decide +kernel) (fun _ => ?_) (fun c9 => absurd (by decide +kernel) c9)
        refine lv_aload_n hx hb dX7_seen_44 rfl (lv_at hl 0 rfl) ?_
        refine z_get C (ci := 7) (N := 7) rfl hin7 hT 0 5 rfl rfl (by decide +kernel) (by decide +kernel) dX7_seen_45 ?_
        refine lv_iload_n hx hb dX7_seen_48 rfl (lv_at hl 1 rfl) ?_
        refine lv_iload_n hx hb dX7_seen_49 rfl (lv_at hl 2 rfl) ?_
        refine z_callVV (wr := [(h0, .inr (7, [.ref (u 0), .ref (u 1), .ref (u 2), .ref (u 3), .ref (u 4), .ref (u 5), .ref (u 6)])), ((u 1), .inr (1, [.int 5, .int 40, .int 8, .int 0, .int 0, .int 0, .ref (u 8), .ref (u 9), .ref (u 10), .ref (u 11), .ref (u 12), .ref (u 13), .ref (u 14), .ref (u 15), .ref (u 16), .ref (u 17)]))]) (n := 2) C (c_Sight_add l D g u p0 p1) gX7_seen_X5_add rfl (by decide +kernel) ⟨Nat.le_of_ble_eq_true rfl, Nat.le_of_ble_eq_true rfl⟩ ⟨Nat.le_of_ble_eq_true rfl, Nat.le_of_ble_eq_true rfl⟩ blind_T (fun _ _ _ => trivial) hT [2, 3, 4] [0, 1] rfl rfl rfl rfl rfl 2 rfl rfl rfl rfl hl.1 rfl (Nat.le_of_ble_eq_true rfl) dX7_seen_50 (fun u_1 H locs hp_2 hT => ?_)
        have hT : Sit D (TY g) A s [(h0, .inr (7, [.ref (u 0), .ref (u 1), .ref (u 2), .ref (u 3), .ref (u 4), .ref (u 5), .ref (u 6)])), ((u 1), .inr (1, [.int 5, .int 40, .int 8, .int 0, .int 0, .int 0, .ref (u 8), .ref (u 9), .ref (u 10), .ref (u 11), .ref (u 12), .ref (u 13), .ref (u 14), .ref (u 15), .ref (u 16), .ref (u 17)])), ((u 5), .inr (5, [.ref (u 69), .ref (u 70), .int 1, .int 0, .int (-1), .int (-1), .ref (u 71), .ref (u 72)]))] H _ := hT
        refine lv_aload_n hx hb dX7_seen_53 rfl (lv_at hl 0 rfl) ?_
        refine z_get C (ci := 7) (N := 7) rfl hin7 hT 0 5 rfl rfl (by decide +kernel) (by decide +kernel) dX7_seen_54 ?_
        refine z_get C (ci := 5) (N := 8) rfl hin5 hT 2 2 rfl rfl (by decide +kernel) (by decide +kernel) dX7_seen_57 ?_
        exact z_iret C rfl hT () (by unfold sP_seen; rw [if_pos c_2, if_neg c_17, if_pos c_23]) [] rfl rfl (Nat.le_of_ble_eq_true rfl) (Nat.le_of_ble_eq_true rfl) dX7_seen_60
      · refine lv_bipush (v := (-3)) hx hb dX7_seen_26 (by decide +kernel) ?_
        exact z_iret C rfl hT () (by unfold sP_seen; rw [if_pos c_2, if_neg c_17, if_neg c_23]) [] rfl rfl (Nat.le_of_ble_eq_true rfl) (Nat.le_of_ble_eq_true rfl) dX7_seen_28
  · refine lv_aload_n hx hb dX7_seen_5 rfl (lv_at hl 0 rfl) ?_
    refine lv_iload_n hx hb dX7_seen_6 rfl (lv_at hl 2 rfl) ?_
    refine z_callVI (wr := [((u 5), .inr (5, [.ref (u 69), .ref (u 70), .int 0, .int 0, .int (-1), .int (-1), .ref (u 71), .ref (u 72)])), ((u 69), .inl (g 0, 6, .inl (fun _ => 0))), ((u 70), .inl (g 0, 6, .inl (fun _ => 0)))]) (n := 1) C (c_P_isJoint l D g h0 u p1) gX7_seen_X7_isJoint rfl (by decide +kernel) ⟨Nat.le_of_ble_eq_true rfl, Nat.le_of_ble_eq_true rfl⟩ ⟨Nat.le_of_ble_eq_true rfl, Nat.le_of_ble_eq_true rfl⟩ blind_T (fun _ _ _ => trivial) hT [0, 1] [2, 3, 4] rfl rfl rfl rfl rfl 0 rfl rfl rfl rfl hl.1 rfl (Nat.le_of_ble_eq_true rfl) dX7_seen_7 (fun r_5 u_3 H locs hp_4 hT => ?_)
    have hT : Sit D (TY g) A s [((u 5), .inr (5, [.ref (u 69), .ref (u 70), .int 0, .int 0, .int (-1), .int (-1), .ref (u 71), .ref (u 72)])), ((u 69), .inl (g 0, 6, .inl (fun _ => 0))), ((u 70), .inl (g 0, 6, .inl (fun _ => 0))), (h0, .inr (7, [.ref (u 0), .ref (u 1), .ref (u 2), .ref (u 3), .ref (u 4), .ref (u 5), .ref (u 6)])), ((u 1), .inr (1, [.int 5, .int 40, .int 8, .int 0, .int 0, .int 0, .ref (u 8), .ref (u 9), .ref (u 10), .ref (u 11), .ref (u 12), .ref (u 13), .ref (u 14), .ref (u 15), .ref (u 16), .ref (u 17)]))] H _ := hT
    subst hp_4
    refine lv_if_ne (tgt := 16) hx hb dX7_seen_10 (by decide +kernel) (fun c_10 => ?_) (fun c_10 => ?_)
    · refine lv_iload_n hx hb dX7_seen_16 rfl (lv_at hl 1 rfl) ?_
      refine lv_if_lt (tgt := 26) hx hb dX7_seen_17 (by decide +kernel) (fun c_17 => ?_) (fun c_17 => ?_)
      · refine lv_bipush (v := (-3)) hx hb dX7_seen_26 (by decide +kernel) ?_
        exact z_iret C rfl hT () (by unfold sP_seen; rw [if_neg c_2, if_neg c_10, if_pos c_17]) [] rfl rfl (Nat.le_of_ble_eq_true rfl) (Nat.le_of_ble_eq_true rfl) dX7_seen_28
      · refine lv_iload_n hx hb dX7_seen_20 rfl (lv_at hl 1 rfl) ?_
        refine lv_bipush (v := 99) hx hb dX7_seen_21 (by decide +kernel) ?_
        refine lv_icmp_le (tgt := 29) hx hb dX7_seen_23 (by decide +kernel) (fun c_23 => ?_) (fun c_23 => ?_)
        · refine lv_aload_n hx hb dX7_seen_29 rfl (lv_at hl 0 rfl) ?_
          refine z_get C (ci := 7) (N := 7) rfl hin7 hT 3 5 rfl rfl (by decide +kernel) (by decide +kernel) dX7_seen_30 ?_
          refine z_get C (ci := 5) (N := 8) rfl hin5 hT 0 2 rfl rfl (by decide +kernel) (by decide +kernel) dX7_seen_33 ?_
          refine lv_bipush (v := 6) hx hb dX7_seen_36 (by decide +kernel) ?_
          refine lv_icmp_lt (tgt := 44) hx hb dX7_seen_38 (by decide +kernel) (fun _ => ?_) (fun c9 => absurd (by decide +kernel) c9)
          refine lv_aload_n hx hb dX7_seen_44 rfl (lv_at hl 0 rfl) ?_
          refine z_get C (ci := 7) (N := 7) rfl hin7 hT 3 5 rfl rfl (by decide +kernel) (by decide +kernel) dX7_seen_45 ?_
          refine lv_iload_n hx hb dX7_seen_48 rfl (lv_at hl 1 rfl) ?_
          refine lv_iload_n hx hb dX7_seen_49 rfl (lv_at hl 2 rfl) ?_
          refine z_callVV (wr := [(h0, .inr (7, [.ref (u 0), .ref (u 1), .ref (u 2), .ref (u 3), .ref (u 4), .ref (u 5), .ref (u 6)])), ((u 1), .inr (1, [.int 5, .int 40, .int 8, .int 0, .int 0, .int 0, .ref (u 8), .ref (u 9), .ref (u 10), .ref (u 11), .ref (u 12), .ref (u 13), .ref (u 14), .ref (u 15), .ref (u 16), .ref (u 17)]))]) (n := 2) C (c_Sight_add l D g u p0 p1) gX7_seen_X5_add rfl (by decide +kernel) ⟨Nat.le_of_ble_eq_true rfl, Nat.le_of_ble_eq_true rfl⟩ ⟨Nat.le_of_ble_eq_true rfl, Nat.le_of_ble_eq_true rfl⟩ blind_T (fun _ _ _ => trivial) hT [0, 1, 2] [3, 4] rfl rfl rfl rfl rfl 0 rfl rfl rfl rfl hl.1 rfl (Nat.le_of_ble_eq_true rfl) dX7_seen_50 (fun u_6 H locs hp_7 hT => ?_)
          have hT : Sit D (TY g) A s [(h0, .inr (7, [.ref (u 0), .ref (u 1), .ref (u 2), .ref (u 3), .ref (u 4), .ref (u 5), .ref (u 6)])), ((u 1), .inr (1, [.int 5, .int 40, .int 8, .int 0, .int 0, .int 0, .ref (u 8), .ref (u 9), .ref (u 10), .ref (u 11), .ref (u 12), .ref (u 13), .ref (u 14), .ref (u 15), .ref (u 16), .ref (u 17)])), ((u 5), .inr (5, [.ref (u 69), .ref (u 70), .int 1, .int 0, .int (-1), .int (-1), .ref (u 71), .ref (u 72)]))] H _ := hT
          refine lv_aload_n hx hb dX7_seen_53 rfl (lv_at hl 0 rfl) ?_
          refine z_get C (ci := 7) (N := 7) rfl hin7 hT 0 5 rfl rfl (by decide +kernel) (by decide +kernel) dX7_seen_54 ?_
          refine z_get C (ci := 5) (N := 8) rfl hin5 hT 2 2 rfl rfl (by decide +kernel) (by decide +kernel) dX7_seen_57 ?_
          exact z_iret C rfl hT () (by unfold sP_seen; rw [if_neg c_2, if_neg c_10, if_neg c_17, if_pos c_23]) [] rfl rfl (Nat.le_of_ble_eq_true rfl) (Nat.le_of_ble_eq_true rfl) dX7_seen_60
        · refine lv_bipush (v := (-3)) hx hb dX7_seen_26 (by decide +kernel) ?_
          exact z_iret C rfl hT () (by unfold sP_seen; rw [if_neg c_2, if_neg c_10, if_neg c_17, if_neg c_23]) [] rfl rfl (Nat.le_of_ble_eq_true rfl) (Nat.le_of_ble_eq_true rfl) dX7_seen_28
    · refine lv_bipush (v := (-2)) hx hb dX7_seen_13 (by decide +kernel) ?_
      exact z_iret C rfl hT () (by unfold sP_seen; rw [if_neg c_2, if_pos c_10]) [] rfl rfl (Nat.le_of_ble_eq_true rfl) (Nat.le_of_ble_eq_true rfl) dX7_seen_15

def sH_afraid  : Int32 := 0
set_option maxHeartbeats 4000000 in
set_option maxRecDepth 100000 in
theorem c_Hall_afraidBits (l : Launch) (D : va_G) (g : Nat → ClassId) (u : Nat → Nat) : CtI l yX1_afraidBits wsX1_afraidBits { frames := 0, cells := 0, slots := 0, locals := 0 } D (TY g) [.ref (u 1)] (fun _ => True) [((u 1), .inr (1, [.int 5, .int 40, .int 8, .int 0, .int 0, .int 0, .ref (u 8), .ref (u 9), .ref (u 10), .ref (u 11), .ref (u 12), .ref (u 13), .ref (u 14), .ref (u 15), .ref (u 16), .ref (u 17)]))] (fun r (_ : Unit) => r = sH_afraid ) (fun _ => [((u 1), .inr (1, [.int 5, .int 40, .int 8, .int 0, .int 0, .int 0, .ref (u 8), .ref (u 9), .ref (u 10), .ref (u 11), .ref (u 12), .ref (u 13), .ref (u 14), .ref (u 15), .ref (u 16), .ref (u 17)]))]) := by
  refine CtI.intro (cc := cX1_afraidBits) (maxL := 3) (ret := (some .int)) rfl (by decide +kernel) (Nat.le_of_ble_eq_true rfl) ?_
  intro p e s m below meth c A ls C hmn hX hAe hT hl
  have hx := C.1.1
  have hb := C.1.2.1
  have hl : lv_has ls 3 [(0, .ref (u 1))] := hl
  have hin1 : ∀ w ∈ u_ws RX1 TX1 16, w ∈ wsX1_afraidBits := by decide +kernel
  refine lv_iconst (v := 0) hx hb dX1_afraidBits_0 (by decide +kernel) ?_
  refine lv_istore_n (lv' := [(1, .int 0), (0, .ref (u 1))]) hx hb dX1_afraidBits_1 rfl hl (by decide +kernel) rfl (fun ls hl => ?_)
  refine lv_iconst (v := 0) hx hb dX1_afraidBits_2 (by decide +kernel) ?_
  refine lv_istore_n (lv' := [(2, .int 0), (1, .int 0), (0, .ref (u 1))]) hx hb dX1_afraidBits_3 rfl hl (by decide +kernel) rfl (fun ls hl => ?_)
  refine lv_iload_n hx hb dX1_afraidBits_4 rfl (lv_at hl 0 rfl) ?_
  refine lv_aload_n hx hb dX1_afraidBits_5 rfl (lv_at hl 2 rfl) ?_
  refine z_get C (ci := 1) (N := 16) rfl hin1 hT 0 4 rfl rfl (by decide +kernel) (by decide +kernel) dX1_afraidBits_6 ?_
  refine lv_icmp_ge (tgt := 32) hx hb dX1_afraidBits_9 (by decide +kernel) (fun _ => ?_) (fun c9 => absurd (by decide +kernel) c9)
  refine lv_iload_n hx hb dX1_afraidBits_32 rfl (lv_at hl 1 rfl) ?_
  exact z_iret C rfl hT () rfl [0] rfl rfl (Nat.le_of_ble_eq_true rfl) (Nat.le_of_ble_eq_true rfl) dX1_afraidBits_33

def sP_count (p0 : Int32) : Int32 := (if p0 = 0 then 5 else (if p0 = 1 then 0 else (if p0 = 2 then 0 else (if p0 = 3 then 0 else (if p0 = 4 then 40 else (if p0 = 5 then 8 else (if p0 = 6 then sH_afraid else (if p0 = 7 then 0 else (if p0 = 8 then 0 else (if p0 = 9 then 0 else (-3)))))))))))
set_option maxHeartbeats 4000000 in
set_option maxRecDepth 100000 in
/-- CowardsPot.count on a new pot -/
theorem c_P_count (l : Launch) (D : va_G) (g : Nat → ClassId) (h0 : Nat) (u : Nat → Nat) (p0 : Int32) : CtI l yX7_count wsX7_count { frames := 1, cells := 0, slots := 0, locals := 40 } D (TY g) [.ref h0, .int p0] (fun _ => True) [(h0, .inr (7, [.ref (u 0), .ref (u 1), .ref (u 2), .ref (u 3), .ref (u 4), .ref (u 5), .ref (u 6)])), ((u 1), .inr (1, [.int 5, .int 40, .int 8, .int 0, .int 0, .int 0, .ref (u 8), .ref (u 9), .ref (u 10), .ref (u 11), .ref (u 12), .ref (u 13), .ref (u 14), .ref (u 15), .ref (u 16), .ref (u 17)])), ((u 5), .inr (5, [.ref (u 69), .ref (u 70), .int 0, .int 0, .int (-1), .int (-1), .ref (u 71), .ref (u 72)])), ((u 3), .inr (3, [.ref (u 29), .int 0, .int 0])), ((u 0), .inr (6, [.ref (u 7), .int 0]))] (fun r (_ : Unit) => r = sP_count p0) (fun _ => []) := by
  refine CtI.intro (cc := cX7_count) (maxL := 2) (ret := (some .int)) rfl (by decide +kernel) (Nat.le_of_ble_eq_true rfl) ?_
  intro p e s m below meth c A ls C hmn hX hAe hT hl
  have hx := C.1.1
  have hb := C.1.2.1
  have hl : lv_has ls 2 [(0, .ref h0), (1, .int p0)] := hl
  have hin1 : ∀ w ∈ u_ws RX1 TX1 16, w ∈ wsX7_count := by decide +kernel
  have hin3 : ∀ w ∈ u_ws RX3 TX3 3, w ∈ wsX7_count := by decide +kernel
  have hin5 : ∀ w ∈ u_ws RX5 TX5 8, w ∈ wsX7_count := by decide +kernel
  have hin6 : ∀ w ∈ u_ws RX6 TX6 2, w ∈ wsX7_count := by decide +kernel
  have hin7 : ∀ w ∈ u_ws RX7 TX7 7, w ∈ wsX7_count := by decide +kernel
  refine lv_iload_n hx hb dX7_count_0 rfl (lv_at hl 1 rfl) ?_
  by_cases c_1_0 : p0 = 0
  · refine lv_tableIn (off := 55) (tgt := 56) hx hb dX7_count_1 (by rw [c_1_0]; decide +kernel) (by rw [c_1_0]; decide +kernel) (by rw [c_1_0]; rfl) (by decide +kernel) ?_
    refine lv_aload_n hx hb dX7_count_56 rfl (lv_at hl 0 rfl) ?_
    refine z_get C (ci := 7) (N := 7) rfl hin7 hT 0 1 rfl rfl (by decide +kernel) (by decide +kernel) dX7_count_57 ?_
    refine z_get C (ci := 1) (N := 16) rfl hin1 hT 1 0 rfl rfl (by decide +kernel) (by decide +kernel) dX7_count_60 ?_
    exact z_iret C rfl hT () (by unfold sP_count; rw [if_pos c_1_0]) [] rfl rfl (Nat.le_of_ble_eq_true rfl) (Nat.le_of_ble_eq_true rfl) dX7_count_63
  by_cases c_1_1 : p0 = 1
  · refine lv_tableIn (off := 63) (tgt := 64) hx hb dX7_count_1 (by rw [c_1_1]; decide +kernel) (by rw [c_1_1]; decide +kernel) (by rw [c_1_1]; rfl) (by decide +kernel) ?_
    refine lv_aload_n hx hb dX7_count_64 rfl (lv_at hl 0 rfl) ?_
    refine z_get C (ci := 7) (N := 7) rfl hin7 hT 0 1 rfl rfl (by decide +kernel) (by decide +kernel) dX7_count_65 ?_
    refine z_get C (ci := 1) (N := 16) rfl hin1 hT 1 4 rfl rfl (by decide +kernel) (by decide +kernel) dX7_count_68 ?_
    exact z_iret C rfl hT () (by unfold sP_count; rw [if_neg c_1_0, if_pos c_1_1]) [] rfl rfl (Nat.le_of_ble_eq_true rfl) (Nat.le_of_ble_eq_true rfl) dX7_count_71
  by_cases c_1_2 : p0 = 2
  · refine lv_tableIn (off := 71) (tgt := 72) hx hb dX7_count_1 (by rw [c_1_2]; decide +kernel) (by rw [c_1_2]; decide +kernel) (by rw [c_1_2]; rfl) (by decide +kernel) ?_
    refine lv_aload_n hx hb dX7_count_72 rfl (lv_at hl 0 rfl) ?_
    refine z_get C (ci := 7) (N := 7) rfl hin7 hT 0 1 rfl rfl (by decide +kernel) (by decide +kernel) dX7_count_73 ?_
    refine z_get C (ci := 1) (N := 16) rfl hin1 hT 1 5 rfl rfl (by decide +kernel) (by decide +kernel) dX7_count_76 ?_
    exact z_iret C rfl hT () (by unfold sP_count; rw [if_neg c_1_0, if_neg c_1_1, if_pos c_1_2]) [] rfl rfl (Nat.le_of_ble_eq_true rfl) (Nat.le_of_ble_eq_true rfl) dX7_count_79
  by_cases c_1_3 : p0 = 3
  · refine lv_tableIn (off := 79) (tgt := 80) hx hb dX7_count_1 (by rw [c_1_3]; decide +kernel) (by rw [c_1_3]; decide +kernel) (by rw [c_1_3]; rfl) (by decide +kernel) ?_
    refine lv_aload_n hx hb dX7_count_80 rfl (lv_at hl 0 rfl) ?_
    refine z_get C (ci := 7) (N := 7) rfl hin7 hT 0 1 rfl rfl (by decide +kernel) (by decide +kernel) dX7_count_81 ?_
    refine z_get C (ci := 1) (N := 16) rfl hin1 hT 1 3 rfl rfl (by decide +kernel) (by decide +kernel) dX7_count_84 ?_
    exact z_iret C rfl hT () (by unfold sP_count; rw [if_neg c_1_0, if_neg c_1_1, if_neg c_1_2, if_pos c_1_3]) [] rfl rfl (Nat.le_of_ble_eq_true rfl) (Nat.le_of_ble_eq_true rfl) dX7_count_87
  by_cases c_1_4 : p0 = 4
  · refine lv_tableIn (off := 87) (tgt := 88) hx hb dX7_count_1 (by rw [c_1_4]; decide +kernel) (by rw [c_1_4]; decide +kernel) (by rw [c_1_4]; rfl) (by decide +kernel) ?_
    refine lv_aload_n hx hb dX7_count_88 rfl (lv_at hl 0 rfl) ?_
    refine z_get C (ci := 7) (N := 7) rfl hin7 hT 0 1 rfl rfl (by decide +kernel) (by decide +kernel) dX7_count_89 ?_
    refine z_get C (ci := 1) (N := 16) rfl hin1 hT 1 1 rfl rfl (by decide +kernel) (by decide +kernel) dX7_count_92 ?_
    exact z_iret C rfl hT () (by unfold sP_count; rw [if_neg c_1_0, if_neg c_1_1, if_neg c_1_2, if_neg c_1_3, if_pos c_1_4]) [] rfl rfl (Nat.le_of_ble_eq_true rfl) (Nat.le_of_ble_eq_true rfl) dX7_count_95
  by_cases c_1_5 : p0 = 5
  · refine lv_tableIn (off := 95) (tgt := 96) hx hb dX7_count_1 (by rw [c_1_5]; decide +kernel) (by rw [c_1_5]; decide +kernel) (by rw [c_1_5]; rfl) (by decide +kernel) ?_
    refine lv_aload_n hx hb dX7_count_96 rfl (lv_at hl 0 rfl) ?_
    refine z_get C (ci := 7) (N := 7) rfl hin7 hT 0 1 rfl rfl (by decide +kernel) (by decide +kernel) dX7_count_97 ?_
    refine z_get C (ci := 1) (N := 16) rfl hin1 hT 1 2 rfl rfl (by decide +kernel) (by decide +kernel) dX7_count_100 ?_
    exact z_iret C rfl hT () (by unfold sP_count; rw [if_neg c_1_0, if_neg c_1_1, if_neg c_1_2, if_neg c_1_3, if_neg c_1_4, if_pos c_1_5]) [] rfl rfl (Nat.le_of_ble_eq_true rfl) (Nat.le_of_ble_eq_true rfl) dX7_count_103
  by_cases c_1_6 : p0 = 6
  · refine lv_tableIn (off := 103) (tgt := 104) hx hb dX7_count_1 (by rw [c_1_6]; decide +kernel) (by rw [c_1_6]; decide +kernel) (by rw [c_1_6]; rfl) (by decide +kernel) ?_
    refine lv_aload_n hx hb dX7_count_104 rfl (lv_at hl 0 rfl) ?_
    refine z_get C (ci := 7) (N := 7) rfl hin7 hT 0 1 rfl rfl (by decide +kernel) (by decide +kernel) dX7_count_105 ?_
    refine z_callVI (wr := [(h0, .inr (7, [.ref (u 0), .ref (u 1), .ref (u 2), .ref (u 3), .ref (u 4), .ref (u 5), .ref (u 6)])), ((u 5), .inr (5, [.ref (u 69), .ref (u 70), .int 0, .int 0, .int (-1), .int (-1), .ref (u 71), .ref (u 72)])), ((u 3), .inr (3, [.ref (u 29), .int 0, .int 0])), ((u 0), .inr (6, [.ref (u 7), .int 0]))]) (n := 0) C (c_Hall_afraidBits l D g u) gX7_count_X1_afraidBits rfl (by decide +kernel) ⟨Nat.le_of_ble_eq_true rfl, Nat.le_of_ble_eq_true rfl⟩ ⟨Nat.le_of_ble_eq_true rfl, Nat.le_of_ble_eq_true rfl⟩ blind_T (fun _ _ _ => trivial) hT [1] [0, 2, 3, 4] rfl rfl rfl rfl rfl 1 rfl rfl rfl rfl hl.1 rfl (Nat.le_of_ble_eq_true rfl) dX7_count_108 (fun r_3 u_1 H locs hp_2 hT => ?_)
    have hT : Sit D (TY g) A s [(h0, .inr (7, [.ref (u 0), .ref (u 1), .ref (u 2), .ref (u 3), .ref (u 4), .ref (u 5), .ref (u 6)])), ((u 5), .inr (5, [.ref (u 69), .ref (u 70), .int 0, .int 0, .int (-1), .int (-1), .ref (u 71), .ref (u 72)])), ((u 3), .inr (3, [.ref (u 29), .int 0, .int 0])), ((u 0), .inr (6, [.ref (u 7), .int 0])), ((u 1), .inr (1, [.int 5, .int 40, .int 8, .int 0, .int 0, .int 0, .ref (u 8), .ref (u 9), .ref (u 10), .ref (u 11), .ref (u 12), .ref (u 13), .ref (u 14), .ref (u 15), .ref (u 16), .ref (u 17)]))] H _ := hT
    subst hp_2
    exact z_iret C rfl hT () (by unfold sP_count; rw [if_neg c_1_0, if_neg c_1_1, if_neg c_1_2, if_neg c_1_3, if_neg c_1_4, if_neg c_1_5, if_pos c_1_6]) [] rfl rfl (Nat.le_of_ble_eq_true rfl) (Nat.le_of_ble_eq_true rfl) dX7_count_111
  by_cases c_1_7 : p0 = 7
  · refine lv_tableIn (off := 111) (tgt := 112) hx hb dX7_count_1 (by rw [c_1_7]; decide +kernel) (by rw [c_1_7]; decide +kernel) (by rw [c_1_7]; rfl) (by decide +kernel) ?_
    refine lv_aload_n hx hb dX7_count_112 rfl (lv_at hl 0 rfl) ?_
    refine z_get C (ci := 7) (N := 7) rfl hin7 hT 0 5 rfl rfl (by decide +kernel) (by decide +kernel) dX7_count_113 ?_
    refine z_get C (ci := 5) (N := 8) rfl hin5 hT 2 2 rfl rfl (by decide +kernel) (by decide +kernel) dX7_count_116 ?_
    exact z_iret C rfl hT () (by unfold sP_count; rw [if_neg c_1_0, if_neg c_1_1, if_neg c_1_2, if_neg c_1_3, if_neg c_1_4, if_neg c_1_5, if_neg c_1_6, if_pos c_1_7]) [] rfl rfl (Nat.le_of_ble_eq_true rfl) (Nat.le_of_ble_eq_true rfl) dX7_count_119
  by_cases c_1_8 : p0 = 8
  · refine lv_tableIn (off := 119) (tgt := 120) hx hb dX7_count_1 (by rw [c_1_8]; decide +kernel) (by rw [c_1_8]; decide +kernel) (by rw [c_1_8]; rfl) (by decide +kernel) ?_
    refine lv_aload_n hx hb dX7_count_120 rfl (lv_at hl 0 rfl) ?_
    refine z_get C (ci := 7) (N := 7) rfl hin7 hT 0 3 rfl rfl (by decide +kernel) (by decide +kernel) dX7_count_121 ?_
    refine z_get C (ci := 3) (N := 3) rfl hin3 hT 3 2 rfl rfl (by decide +kernel) (by decide +kernel) dX7_count_124 ?_
    exact z_iret C rfl hT () (by unfold sP_count; rw [if_neg c_1_0, if_neg c_1_1, if_neg c_1_2, if_neg c_1_3, if_neg c_1_4, if_neg c_1_5, if_neg c_1_6, if_neg c_1_7, if_pos c_1_8]) [] rfl rfl (Nat.le_of_ble_eq_true rfl) (Nat.le_of_ble_eq_true rfl) dX7_count_127
  by_cases c_1_9 : p0 = 9
  · refine lv_tableIn (off := 127) (tgt := 128) hx hb dX7_count_1 (by rw [c_1_9]; decide +kernel) (by rw [c_1_9]; decide +kernel) (by rw [c_1_9]; rfl) (by decide +kernel) ?_
    refine lv_aload_n hx hb dX7_count_128 rfl (lv_at hl 0 rfl) ?_
    refine z_get C (ci := 7) (N := 7) rfl hin7 hT 0 0 rfl rfl (by decide +kernel) (by decide +kernel) dX7_count_129 ?_
    refine z_get C (ci := 6) (N := 2) rfl hin6 hT 4 1 rfl rfl (by decide +kernel) (by decide +kernel) dX7_count_132 ?_
    exact z_iret C rfl hT () (by unfold sP_count; rw [if_neg c_1_0, if_neg c_1_1, if_neg c_1_2, if_neg c_1_3, if_neg c_1_4, if_neg c_1_5, if_neg c_1_6, if_neg c_1_7, if_neg c_1_8, if_pos c_1_9]) [] rfl rfl (Nat.le_of_ble_eq_true rfl) (Nat.le_of_ble_eq_true rfl) dX7_count_135
  refine lv_tableOut (tgt := 136) hx hb dX7_count_1 (sw_out (x := p0) 9 (fun k hk => match k, hk with | 0, _ => c_1_0 | 1, _ => c_1_1 | 2, _ => c_1_2 | 3, _ => c_1_3 | 4, _ => c_1_4 | 5, _ => c_1_5 | 6, _ => c_1_6 | 7, _ => c_1_7 | 8, _ => c_1_8 | 9, _ => c_1_9 | k + 10, hk => absurd hk (by omega)) (by decide +kernel)) (by decide +kernel) ?_
  refine lv_bipush (v := (-3)) hx hb dX7_count_136 (by decide +kernel) ?_
  exact z_iret C rfl hT () (by unfold sP_count; rw [if_neg c_1_0, if_neg c_1_1, if_neg c_1_2, if_neg c_1_3, if_neg c_1_4, if_neg c_1_5, if_neg c_1_6, if_neg c_1_7, if_neg c_1_8, if_neg c_1_9]) [] rfl rfl (Nat.le_of_ble_eq_true rfl) (Nat.le_of_ble_eq_true rfl) dX7_count_138
