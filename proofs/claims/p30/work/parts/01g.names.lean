theorem dX12_rank_1 : decode cX12_rank 1 = .ok (.iload_n 1, 1) := by decide +kernel
theorem dX12_rank_2 : decode cX12_rank 2 = .ok (.invokevirtual 157, 3) := by decide +kernel
theorem dX12_rank_5 : decode cX12_rank 5 = .ok (.ifCond .ne 5, 3) := by decide +kernel
theorem dX12_rank_8 : decode cX12_rank 8 = .ok (.iconst (-1), 1) := by decide +kernel
theorem dX12_rank_9 : decode cX12_rank 9 = .ok (.ireturn, 1) := by decide +kernel
theorem dX12_rank_10 : decode cX12_rank 10 = .ok (.aload_n 0, 1) := by decide +kernel
theorem dX12_rank_11 : decode cX12_rank 11 = .ok (.iload_n 1, 1) := by decide +kernel
theorem dX12_rank_12 : decode cX12_rank 12 = .ok (.invokevirtual 161, 3) := by decide +kernel
theorem dX12_rank_15 : decode cX12_rank 15 = .ok (.ifCond .eq 10, 3) := by decide +kernel
theorem dX12_rank_18 : decode cX12_rank 18 = .ok (.aload_n 0, 1) := by decide +kernel
theorem dX12_rank_19 : decode cX12_rank 19 = .ok (.invokevirtual 81, 3) := by decide +kernel
theorem dX12_rank_22 : decode cX12_rank 22 = .ok (.goto 5, 3) := by decide +kernel
theorem dX12_rank_25 : decode cX12_rank 25 = .ok (.bipush (-2), 2) := by decide +kernel
theorem dX12_rank_27 : decode cX12_rank 27 = .ok (.ireturn, 1) := by decide +kernel
set_option maxRecDepth 20000 in
theorem ggX12_away_X12_depthOf : GoodIn wsX12_away wsX12_depthOf := goodIn_r _ [6, 7, 8, 9, 10, 11, 12, 13, 5, 14, 15, 16, 17, 18, 19, 20, 21, 22, 23, 24, 25, 26, 27, 28, 29, 30, 31, 32, 33, 34, 35, 57, 58, 59, 60, 61, 62, 63, 64, 65, 66, 67, 68, 69, 70, 71, 72, 73, 74, 75, 76, 77, 78, 79, 80, 81, 82, 83, 84, 85, 86, 87, 88, 89, 90, 91, 92, 93, 94, 95, 96, 97] rfl (by decide +kernel)
set_option maxRecDepth 20000 in
theorem gX12_away_X12_depthOf : GoodIn wsX12_away (wsV RX12 135 RX12 yX12_depthOf wsX12_depthOf) := goodIn_app (goodIn_r _ [2, 3, 4, 5] rfl (by decide +kernel)) ggX12_away_X12_depthOf
set_option maxRecDepth 20000 in
theorem ggX12_away_X12_findsEntries : GoodIn wsX12_away wsX12_findsEntries := goodIn_r _ [39, 7, 40, 10, 9, 41, 1, 24, 25, 26, 5, 27, 28, 29, 30, 31, 32, 33, 34, 35, 8, 15, 16, 17, 18, 19, 20, 21, 22, 23, 42, 43, 44, 45, 57, 58, 59, 60, 61, 62, 63, 64, 65, 66, 67, 68, 69, 70, 71, 72, 73, 74, 75, 76, 77, 78, 79, 80, 81, 82, 83, 84, 85, 86, 87, 88, 89, 90, 91, 92, 93, 94, 95, 96, 97] rfl (by decide +kernel)
set_option maxRecDepth 20000 in
theorem gX12_away_X12_findsEntries : GoodIn wsX12_away (wsV RX12 119 RX12 yX12_findsEntries wsX12_findsEntries) := goodIn_app (goodIn_r _ [36, 37, 38, 5] rfl (by decide +kernel)) ggX12_away_X12_findsEntries
set_option maxRecDepth 20000 in
theorem ggX12_away_X12_entryOf : GoodIn wsX12_away wsX12_entryOf := goodIn_r _ [49, 1, 57, 58, 59, 60, 61, 62, 63, 64, 65, 66, 67, 68, 69, 70, 71, 72, 73, 74, 75, 76, 77, 78, 79, 80, 81, 82, 83, 84, 85, 86, 87, 88, 89, 90, 91, 92, 93, 94, 95, 96, 97] rfl (by decide +kernel)
set_option maxRecDepth 20000 in
theorem gX12_away_X12_entryOf : GoodIn wsX12_away (wsV RX12 126 RX12 yX12_entryOf wsX12_entryOf) := goodIn_app (goodIn_r _ [46, 47, 48, 5] rfl (by decide +kernel)) ggX12_away_X12_entryOf
set_option maxRecDepth 20000 in
theorem ggX12_away_X12_beginsPage : GoodIn wsX12_away wsX12_beginsPage := goodIn_r _ [53, 16, 17, 18, 5, 19, 7, 54, 55, 56, 57, 58, 59, 60, 61, 62, 63, 64, 65, 66, 67, 68, 69, 70, 71, 72, 73, 74, 75, 76, 77, 78, 79, 80, 81, 82, 83, 84, 85, 86, 87, 88, 89, 90, 91, 92, 93, 94, 95, 96, 97] rfl (by decide +kernel)
set_option maxRecDepth 20000 in
theorem gX12_away_X12_beginsPage : GoodIn wsX12_away (wsV RX12 103 RX12 yX12_beginsPage wsX12_beginsPage) := goodIn_app (goodIn_r _ [50, 51, 52, 5] rfl (by decide +kernel)) ggX12_away_X12_beginsPage
theorem dX12_away_0 : decode cX12_away 0 = .ok (.aload_n 0, 1) := by decide +kernel
theorem dX12_away_1 : decode cX12_away 1 = .ok (.iload_n 1, 1) := by decide +kernel
theorem dX12_away_2 : decode cX12_away 2 = .ok (.invokevirtual 135, 3) := by decide +kernel
theorem dX12_away_5 : decode cX12_away 5 = .ok (.istore_n 2, 1) := by decide +kernel
theorem dX12_away_6 : decode cX12_away 6 = .ok (.iconst 0, 1) := by decide +kernel
theorem dX12_away_7 : decode cX12_away 7 = .ok (.istore_n 3, 1) := by decide +kernel
theorem dX12_away_8 : decode cX12_away 8 = .ok (.iconst 0, 1) := by decide +kernel
theorem dX12_away_9 : decode cX12_away 9 = .ok (.istore 4, 2) := by decide +kernel
theorem dX12_away_11 : decode cX12_away 11 = .ok (.iload 4, 2) := by decide +kernel
theorem dX12_away_13 : decode cX12_away 13 = .ok (.iload_n 2, 1) := by decide +kernel
theorem dX12_away_14 : decode cX12_away 14 = .ok (.if_icmp .gt 58, 3) := by decide +kernel
theorem dX12_away_17 : decode cX12_away 17 = .ok (.aload_n 0, 1) := by decide +kernel
theorem dX12_away_18 : decode cX12_away 18 = .ok (.iload 4, 2) := by decide +kernel
theorem dX12_away_20 : decode cX12_away 20 = .ok (.invokevirtual 119, 3) := by decide +kernel
theorem dX12_away_23 : decode cX12_away 23 = .ok (.aload_n 0, 1) := by decide +kernel
theorem dX12_away_24 : decode cX12_away 24 = .ok (.iload_n 1, 1) := by decide +kernel
theorem dX12_away_25 : decode cX12_away 25 = .ok (.invokevirtual 126, 3) := by decide +kernel
theorem dX12_away_28 : decode cX12_away 28 = .ok (.istore 5, 2) := by decide +kernel
theorem dX12_away_30 : decode cX12_away 30 = .ok (.iconst 0, 1) := by decide +kernel
theorem dX12_away_31 : decode cX12_away 31 = .ok (.istore 6, 2) := by decide +kernel
theorem dX12_away_33 : decode cX12_away 33 = .ok (.iload 6, 2) := by decide +kernel
theorem dX12_away_35 : decode cX12_away 35 = .ok (.iload 5, 2) := by decide +kernel
theorem dX12_away_37 : decode cX12_away 37 = .ok (.if_icmp .gt 29, 3) := by decide +kernel
theorem dX12_away_40 : decode cX12_away 40 = .ok (.aload_n 0, 1) := by decide +kernel
theorem dX12_away_41 : decode cX12_away 41 = .ok (.aload_n 0, 1) := by decide +kernel
theorem dX12_away_42 : decode cX12_away 42 = .ok (.getfield 16, 3) := by decide +kernel
theorem dX12_away_45 : decode cX12_away 45 = .ok (.iload 6, 2) := by decide +kernel
theorem dX12_away_47 : decode cX12_away 47 = .ok (.iaload, 1) := by decide +kernel
theorem dX12_away_48 : decode cX12_away 48 = .ok (.iload 4, 2) := by decide +kernel
theorem dX12_away_50 : decode cX12_away 50 = .ok (.invokevirtual 103, 3) := by decide +kernel
theorem dX12_away_53 : decode cX12_away 53 = .ok (.ifCond .eq 7, 3) := by decide +kernel
theorem dX12_away_56 : decode cX12_away 56 = .ok (.iload_n 3, 1) := by decide +kernel
theorem dX12_away_57 : decode cX12_away 57 = .ok (.iconst 1, 1) := by decide +kernel
theorem dX12_away_58 : decode cX12_away 58 = .ok (.iadd, 1) := by decide +kernel
theorem dX12_away_59 : decode cX12_away 59 = .ok (.istore_n 3, 1) := by decide +kernel
theorem dX12_away_60 : decode cX12_away 60 = .ok (.iinc 6 1, 3) := by decide +kernel
theorem dX12_away_63 : decode cX12_away 63 = .ok (.goto (-30), 3) := by decide +kernel
theorem dX12_away_66 : decode cX12_away 66 = .ok (.iinc 4 1, 3) := by decide +kernel
theorem dX12_away_69 : decode cX12_away 69 = .ok (.goto (-58), 3) := by decide +kernel
theorem dX12_away_72 : decode cX12_away 72 = .ok (.iload_n 3, 1) := by decide +kernel
theorem dX12_away_73 : decode cX12_away 73 = .ok (.ireturn, 1) := by decide +kernel
set_option maxRecDepth 20000 in
theorem ggX12_key_X12_isThere : GoodIn wsX12_key wsX12_isThere := goodIn_r _ [5, 6, 7, 8, 4, 9, 10, 11, 12, 13, 68, 69, 70, 71, 72, 73, 74, 75, 76, 77, 78, 79, 80, 81, 82, 83, 84, 85, 86, 87, 88, 89, 90, 91, 92, 93, 94, 95, 96, 97, 98, 99, 100, 101, 102, 103, 104, 105, 106, 107, 108] rfl (by decide +kernel)
set_option maxRecDepth 20000 in
theorem gX12_key_X12_isThere : GoodIn wsX12_key (wsV RX12 309 RX12 yX12_isThere wsX12_isThere) := goodIn_app (goodIn_r _ [1, 2, 3, 4] rfl (by decide +kernel)) ggX12_key_X12_isThere
set_option maxRecDepth 20000 in
theorem ggX12_key_X12_of : GoodIn wsX12_key wsX12_of := goodIn_r _ [17, 10, 68, 69, 70, 71, 72, 73, 74, 75, 76, 77, 78, 79, 80, 81, 82, 83, 84, 85, 86, 87, 88, 89, 90, 91, 92, 93, 94, 95, 96, 97, 98, 99, 100, 101, 102, 103, 104, 105, 106, 107, 108] rfl (by decide +kernel)
set_option maxRecDepth 20000 in
theorem gX12_key_X12_of : GoodIn wsX12_key (wsV RX12 50 RX12 yX12_of wsX12_of) := goodIn_app (goodIn_r _ [14, 15, 16, 4] rfl (by decide +kernel)) ggX12_key_X12_of
set_option maxRecDepth 20000 in
theorem ggX12_key_X12_away : GoodIn wsX12_key wsX12_away := goodIn_r _ [21, 22, 23, 24, 25, 4, 26, 10, 27, 28, 29, 30, 31, 32, 33, 34, 14, 15, 16, 17, 35, 36, 37, 38, 39, 40, 41, 42, 6, 7, 8, 9, 43, 44, 45, 46, 47, 48, 49, 50, 51, 52, 53, 54, 55, 56, 57, 58, 59, 60, 61, 62, 63, 64, 65, 66, 67, 68, 69, 70, 71, 72, 73, 74, 75, 76, 77, 78, 79, 80, 81, 82, 83, 84, 85, 86, 87, 88, 89, 90, 91, 92, 93, 94, 95, 96, 97, 98, 99, 100, 101, 102, 103, 104, 105, 106, 107, 108] rfl (by decide +kernel)
set_option maxRecDepth 20000 in
theorem gX12_key_X12_away : GoodIn wsX12_key (wsV RX12 312 RX12 yX12_away wsX12_away) := goodIn_app (goodIn_r _ [18, 19, 20, 4] rfl (by decide +kernel)) ggX12_key_X12_away
set_option maxRecDepth 20000 in
theorem ggX12_key_X12_byteOf : GoodIn wsX12_key wsX12_byteOf := goodIn_r _ [38, 10, 68, 69, 70, 71, 72, 73, 74, 75, 76, 77, 78, 79, 80, 81, 82, 83, 84, 85, 86, 87, 88, 89, 90, 91, 92, 93, 94, 95, 96, 97, 98, 99, 100, 101, 102, 103, 104, 105, 106, 107, 108] rfl (by decide +kernel)
set_option maxRecDepth 20000 in
theorem gX12_key_X12_byteOf : GoodIn wsX12_key (wsV RX12 74 RX12 yX12_byteOf wsX12_byteOf) := goodIn_app (goodIn_r _ [35, 36, 37, 4] rfl (by decide +kernel)) ggX12_key_X12_byteOf
theorem dX12_key_0 : decode cX12_key 0 = .ok (.aload_n 0, 1) := by decide +kernel
theorem dX12_key_1 : decode cX12_key 1 = .ok (.iload_n 1, 1) := by decide +kernel
theorem dX12_key_2 : decode cX12_key 2 = .ok (.invokevirtual 309, 3) := by decide +kernel
theorem dX12_key_5 : decode cX12_key 5 = .ok (.ifCond .eq 9, 3) := by decide +kernel
theorem dX12_key_8 : decode cX12_key 8 = .ok (.iload_n 2, 1) := by decide +kernel
theorem dX12_key_9 : decode cX12_key 9 = .ok (.bipush (-3), 2) := by decide +kernel
theorem dX12_key_11 : decode cX12_key 11 = .ok (.if_icmp .ge 5, 3) := by decide +kernel
theorem dX12_key_14 : decode cX12_key 14 = .ok (.iconst (-1), 1) := by decide +kernel
theorem dX12_key_15 : decode cX12_key 15 = .ok (.ireturn, 1) := by decide +kernel
theorem dX12_key_16 : decode cX12_key 16 = .ok (.iload_n 2, 1) := by decide +kernel
theorem dX12_key_17 : decode cX12_key 17 = .ok (.tableswitch 47 (-3) (-1) #[41, 34, 27], 27) := by decide +kernel
theorem dX12_key_44 : decode cX12_key 44 = .ok (.aload_n 0, 1) := by decide +kernel
theorem dX12_key_45 : decode cX12_key 45 = .ok (.iload_n 1, 1) := by decide +kernel
theorem dX12_key_46 : decode cX12_key 46 = .ok (.iconst 0, 1) := by decide +kernel
theorem dX12_key_47 : decode cX12_key 47 = .ok (.invokevirtual 50, 3) := by decide +kernel
theorem dX12_key_50 : decode cX12_key 50 = .ok (.ireturn, 1) := by decide +kernel
theorem dX12_key_51 : decode cX12_key 51 = .ok (.aload_n 0, 1) := by decide +kernel
theorem dX12_key_52 : decode cX12_key 52 = .ok (.iload_n 1, 1) := by decide +kernel
theorem dX12_key_53 : decode cX12_key 53 = .ok (.iconst 1, 1) := by decide +kernel
theorem dX12_key_54 : decode cX12_key 54 = .ok (.invokevirtual 50, 3) := by decide +kernel
theorem dX12_key_57 : decode cX12_key 57 = .ok (.ireturn, 1) := by decide +kernel
theorem dX12_key_58 : decode cX12_key 58 = .ok (.aload_n 0, 1) := by decide +kernel
theorem dX12_key_59 : decode cX12_key 59 = .ok (.iload_n 1, 1) := by decide +kernel
theorem dX12_key_60 : decode cX12_key 60 = .ok (.invokevirtual 312, 3) := by decide +kernel
theorem dX12_key_63 : decode cX12_key 63 = .ok (.ireturn, 1) := by decide +kernel
theorem dX12_key_64 : decode cX12_key 64 = .ok (.iload_n 2, 1) := by decide +kernel
theorem dX12_key_65 : decode cX12_key 65 = .ok (.aload_n 0, 1) := by decide +kernel
theorem dX12_key_66 : decode cX12_key 66 = .ok (.iload_n 1, 1) := by decide +kernel
theorem dX12_key_67 : decode cX12_key 67 = .ok (.iconst 0, 1) := by decide +kernel
theorem dX12_key_68 : decode cX12_key 68 = .ok (.invokevirtual 50, 3) := by decide +kernel
theorem dX12_key_71 : decode cX12_key 71 = .ok (.if_icmp .ge 12, 3) := by decide +kernel
theorem dX12_key_74 : decode cX12_key 74 = .ok (.aload_n 0, 1) := by decide +kernel
theorem dX12_key_75 : decode cX12_key 75 = .ok (.iload_n 1, 1) := by decide +kernel
theorem dX12_key_76 : decode cX12_key 76 = .ok (.iload_n 2, 1) := by decide +kernel
theorem dX12_key_77 : decode cX12_key 77 = .ok (.invokevirtual 74, 3) := by decide +kernel
theorem dX12_key_80 : decode cX12_key 80 = .ok (.goto 5, 3) := by decide +kernel
theorem dX12_key_83 : decode cX12_key 83 = .ok (.bipush (-4), 2) := by decide +kernel
theorem dX12_key_85 : decode cX12_key 85 = .ok (.ireturn, 1) := by decide +kernel
set_option maxRecDepth 20000 in
theorem ggX12_near_X12_isLong : GoodIn wsX12_near wsX12_isLong := goodIn_r _ [5, 6, 7, 8, 4, 9, 49, 50, 51, 52, 53, 54, 55, 56, 57, 58, 59, 60, 61, 62, 63, 64, 65, 66, 67, 68, 69, 70, 71, 72, 73, 74, 75, 76, 77, 78, 79, 80, 81, 82, 83, 84, 85, 86, 87, 88, 89] rfl (by decide +kernel)
set_option maxRecDepth 20000 in
theorem gX12_near_X12_isLong : GoodIn wsX12_near (wsV RX12 157 RX12 yX12_isLong wsX12_isLong) := goodIn_app (goodIn_r _ [1, 2, 3, 4] rfl (by decide +kernel)) ggX12_near_X12_isLong
set_option maxRecDepth 20000 in
theorem ggX12_near_X12_in : GoodIn wsX12_near wsX12_in := goodIn_r _ [9] rfl (by decide +kernel)
set_option maxRecDepth 20000 in
theorem gX12_near_X12_in : GoodIn wsX12_near (va_wsS RX12 66 yX12_in wsX12_in) := goodIn_app (goodIn_r _ [7, 8, 4] rfl (by decide +kernel)) ggX12_near_X12_in
set_option maxRecDepth 20000 in
theorem ggX12_near_X12_takesKey : GoodIn wsX12_near wsX12_takesKey := goodIn_r _ [13, 6, 14, 15, 16, 17, 18, 4, 19, 7, 8, 9, 49, 50, 51, 52, 53, 54, 55, 56, 57, 58, 59, 60, 61, 62, 63, 64, 65, 66, 67, 68, 69, 70, 71, 72, 73, 74, 75, 76, 77, 78, 79, 80, 81, 82, 83, 84, 85, 86, 87, 88, 89] rfl (by decide +kernel)
set_option maxRecDepth 20000 in
theorem gX12_near_X12_takesKey : GoodIn wsX12_near (wsV RX12 161 RX12 yX12_takesKey wsX12_takesKey) := goodIn_app (goodIn_r _ [10, 11, 12, 4] rfl (by decide +kernel)) ggX12_near_X12_takesKey
set_option maxRecDepth 20000 in
theorem ggX12_near_X12_rankOfHand : GoodIn wsX12_near wsX12_rankOfHand := goodIn_r _ [23, 24, 25, 26, 4, 27, 28, 29, 30, 31, 32, 14, 15, 33, 34, 35, 36, 37, 38, 39, 40, 49, 50, 51, 52, 53, 54, 55, 56, 57, 58, 59, 60, 61, 62, 63, 64, 65, 66, 67, 68, 69, 70, 71, 72, 73, 74, 75, 76, 77, 78, 79, 80, 81, 82, 83, 84, 85, 86, 87, 88, 89] rfl (by decide +kernel)
set_option maxRecDepth 20000 in
theorem gX12_near_X12_rankOfHand : GoodIn wsX12_near (wsV RX12 81 RX12 yX12_rankOfHand wsX12_rankOfHand) := goodIn_app (goodIn_r _ [20, 21, 22, 4] rfl (by decide +kernel)) ggX12_near_X12_rankOfHand
set_option maxRecDepth 20000 in
theorem ggX12_near_X12_isHandThere : GoodIn wsX12_near wsX12_isHandThere := goodIn_r _ [44, 20, 21, 22, 4, 23, 24, 25, 26, 27, 28, 29, 30, 31, 32, 14, 15, 33, 34, 35, 36, 37, 38, 39, 40, 49, 50, 51, 52, 53, 54, 55, 56, 57, 58, 59, 60, 61, 62, 63, 64, 65, 66, 67, 68, 69, 70, 71, 72, 73, 74, 75, 76, 77, 78, 79, 80, 81, 82, 83, 84, 85, 86, 87, 88, 89] rfl (by decide +kernel)
set_option maxRecDepth 20000 in
theorem gX12_near_X12_isHandThere : GoodIn wsX12_near (wsV RX12 167 RX12 yX12_isHandThere wsX12_isHandThere) := goodIn_app (goodIn_r _ [41, 42, 43, 4] rfl (by decide +kernel)) ggX12_near_X12_isHandThere
set_option maxRecDepth 20000 in
theorem ggX12_near_X12_isThere : GoodIn wsX12_near wsX12_isThere := goodIn_r _ [48, 24, 25, 26, 4, 27, 28, 7, 8, 9, 49, 50, 51, 52, 53, 54, 55, 56, 57, 58, 59, 60, 61, 62, 63, 64, 65, 66, 67, 68, 69, 70, 71, 72, 73, 74, 75, 76, 77, 78, 79, 80, 81, 82, 83, 84, 85, 86, 87, 88, 89] rfl (by decide +kernel)
set_option maxRecDepth 20000 in
theorem gX12_near_X12_isThere : GoodIn wsX12_near (wsV RX12 309 RX12 yX12_isThere wsX12_isThere) := goodIn_app (goodIn_r _ [45, 46, 47, 4] rfl (by decide +kernel)) ggX12_near_X12_isThere
theorem dX12_near_0 : decode cX12_near 0 = .ok (.aload_n 0, 1) := by decide +kernel
theorem dX12_near_1 : decode cX12_near 1 = .ok (.iload_n 1, 1) := by decide +kernel
theorem dX12_near_2 : decode cX12_near 2 = .ok (.invokevirtual 157, 3) := by decide +kernel
theorem dX12_near_5 : decode cX12_near 5 = .ok (.ifCond .eq 12, 3) := by decide +kernel
theorem dX12_near_8 : decode cX12_near 8 = .ok (.iload_n 2, 1) := by decide +kernel
theorem dX12_near_9 : decode cX12_near 9 = .ok (.iconst 0, 1) := by decide +kernel
theorem dX12_near_10 : decode cX12_near 10 = .ok (.iconst 3, 1) := by decide +kernel
theorem dX12_near_11 : decode cX12_near 11 = .ok (.invokestatic 66, 3) := by decide +kernel
theorem dX12_near_14 : decode cX12_near 14 = .ok (.ifCond .ne 5, 3) := by decide +kernel
theorem dX12_near_17 : decode cX12_near 17 = .ok (.iconst (-1), 1) := by decide +kernel
theorem dX12_near_18 : decode cX12_near 18 = .ok (.ireturn, 1) := by decide +kernel
theorem dX12_near_19 : decode cX12_near 19 = .ok (.aload_n 0, 1) := by decide +kernel
theorem dX12_near_20 : decode cX12_near 20 = .ok (.iload_n 1, 1) := by decide +kernel
theorem dX12_near_21 : decode cX12_near 21 = .ok (.invokevirtual 161, 3) := by decide +kernel
theorem dX12_near_24 : decode cX12_near 24 = .ok (.ifCond .ne 6, 3) := by decide +kernel
theorem dX12_near_27 : decode cX12_near 27 = .ok (.bipush (-2), 2) := by decide +kernel
theorem dX12_near_29 : decode cX12_near 29 = .ok (.ireturn, 1) := by decide +kernel
theorem dX12_near_30 : decode cX12_near 30 = .ok (.aload_n 0, 1) := by decide +kernel
theorem dX12_near_31 : decode cX12_near 31 = .ok (.invokevirtual 81, 3) := by decide +kernel
theorem dX12_near_34 : decode cX12_near 34 = .ok (.istore_n 3, 1) := by decide +kernel
theorem dX12_near_35 : decode cX12_near 35 = .ok (.aload_n 0, 1) := by decide +kernel
theorem dX12_near_36 : decode cX12_near 36 = .ok (.invokevirtual 167, 3) := by decide +kernel
theorem dX12_near_39 : decode cX12_near 39 = .ok (.istore 4, 2) := by decide +kernel
theorem dX12_near_41 : decode cX12_near 41 = .ok (.iload_n 2, 1) := by decide +kernel
theorem dX12_near_42 : decode cX12_near 42 = .ok (.ifCond .ne 18, 3) := by decide +kernel
theorem dX12_near_45 : decode cX12_near 45 = .ok (.iload 4, 2) := by decide +kernel
theorem dX12_near_47 : decode cX12_near 47 = .ok (.ifCond .eq 7, 3) := by decide +kernel
theorem dX12_near_50 : decode cX12_near 50 = .ok (.iload_n 3, 1) := by decide +kernel
theorem dX12_near_51 : decode cX12_near 51 = .ok (.goto 41, 3) := by decide +kernel
theorem dX12_near_54 : decode cX12_near 54 = .ok (.iload_n 3, 1) := by decide +kernel
theorem dX12_near_55 : decode cX12_near 55 = .ok (.iconst 1, 1) := by decide +kernel
theorem dX12_near_56 : decode cX12_near 56 = .ok (.isub, 1) := by decide +kernel
theorem dX12_near_57 : decode cX12_near 57 = .ok (.goto 35, 3) := by decide +kernel
theorem dX12_near_60 : decode cX12_near 60 = .ok (.iload_n 2, 1) := by decide +kernel
theorem dX12_near_61 : decode cX12_near 61 = .ok (.iconst 1, 1) := by decide +kernel
theorem dX12_near_62 : decode cX12_near 62 = .ok (.if_icmp .ne 7, 3) := by decide +kernel
theorem dX12_near_65 : decode cX12_near 65 = .ok (.iload_n 3, 1) := by decide +kernel
theorem dX12_near_66 : decode cX12_near 66 = .ok (.goto 26, 3) := by decide +kernel
theorem dX12_near_69 : decode cX12_near 69 = .ok (.iload_n 2, 1) := by decide +kernel
theorem dX12_near_70 : decode cX12_near 70 = .ok (.iconst 2, 1) := by decide +kernel
theorem dX12_near_71 : decode cX12_near 71 = .ok (.if_icmp .ne 9, 3) := by decide +kernel
theorem dX12_near_74 : decode cX12_near 74 = .ok (.iload_n 3, 1) := by decide +kernel
theorem dX12_near_75 : decode cX12_near 75 = .ok (.iconst 1, 1) := by decide +kernel
theorem dX12_near_76 : decode cX12_near 76 = .ok (.isub, 1) := by decide +kernel
theorem dX12_near_77 : decode cX12_near 77 = .ok (.goto 15, 3) := by decide +kernel
theorem dX12_near_80 : decode cX12_near 80 = .ok (.iload 4, 2) := by decide +kernel
theorem dX12_near_82 : decode cX12_near 82 = .ok (.ifCond .eq 9, 3) := by decide +kernel
theorem dX12_near_85 : decode cX12_near 85 = .ok (.iload_n 3, 1) := by decide +kernel
theorem dX12_near_86 : decode cX12_near 86 = .ok (.iconst 1, 1) := by decide +kernel
theorem dX12_near_87 : decode cX12_near 87 = .ok (.iadd, 1) := by decide +kernel
theorem dX12_near_88 : decode cX12_near 88 = .ok (.goto 4, 3) := by decide +kernel
theorem dX12_near_91 : decode cX12_near 91 = .ok (.iload_n 3, 1) := by decide +kernel
theorem dX12_near_92 : decode cX12_near 92 = .ok (.istore 5, 2) := by decide +kernel
theorem dX12_near_94 : decode cX12_near 94 = .ok (.aload_n 0, 1) := by decide +kernel
theorem dX12_near_95 : decode cX12_near 95 = .ok (.iload 5, 2) := by decide +kernel
theorem dX12_near_97 : decode cX12_near 97 = .ok (.invokevirtual 309, 3) := by decide +kernel
theorem dX12_near_100 : decode cX12_near 100 = .ok (.ifCond .eq 8, 3) := by decide +kernel
theorem dX12_near_103 : decode cX12_near 103 = .ok (.iload 5, 2) := by decide +kernel
theorem dX12_near_105 : decode cX12_near 105 = .ok (.goto 5, 3) := by decide +kernel
theorem dX12_near_108 : decode cX12_near 108 = .ok (.bipush (-3), 2) := by decide +kernel
theorem dX12_near_110 : decode cX12_near 110 = .ok (.ireturn, 1) := by decide +kernel
set_option maxRecDepth 20000 in
theorem ggX12_beginsWith_X12_of : GoodIn wsX12_beginsWith wsX12_of := goodIn_r _ [7, 8, 13, 14, 15, 16, 17, 18, 19, 20, 21, 22, 23, 24, 25, 26, 27, 28, 29, 30, 31, 32, 33, 34, 35, 36, 37, 38, 39, 40, 41, 42, 43, 44, 45, 46, 47, 48, 49, 50, 51, 52, 53] rfl (by decide +kernel)
set_option maxRecDepth 20000 in
theorem gX12_beginsWith_X12_of : GoodIn wsX12_beginsWith (wsV RX12 50 RX12 yX12_of wsX12_of) := goodIn_app (goodIn_r _ [3, 4, 5, 6] rfl (by decide +kernel)) ggX12_beginsWith_X12_of
set_option maxRecDepth 20000 in
theorem ggX12_beginsWith_X12_byteOf : GoodIn wsX12_beginsWith wsX12_byteOf := goodIn_r _ [12, 8, 13, 14, 15, 16, 17, 18, 19, 20, 21, 22, 23, 24, 25, 26, 27, 28, 29, 30, 31, 32, 33, 34, 35, 36, 37, 38, 39, 40, 41, 42, 43, 44, 45, 46, 47, 48, 49, 50, 51, 52, 53] rfl (by decide +kernel)
set_option maxRecDepth 20000 in
theorem gX12_beginsWith_X12_byteOf : GoodIn wsX12_beginsWith (wsV RX12 74 RX12 yX12_byteOf wsX12_byteOf) := goodIn_app (goodIn_r _ [9, 10, 11, 6] rfl (by decide +kernel)) ggX12_beginsWith_X12_byteOf
theorem dX12_beginsWith_0 : decode cX12_beginsWith 0 = .ok (.aload_n 0, 1) := by decide +kernel
theorem dX12_beginsWith_1 : decode cX12_beginsWith 1 = .ok (.iload_n 1, 1) := by decide +kernel
theorem dX12_beginsWith_2 : decode cX12_beginsWith 2 = .ok (.iconst 0, 1) := by decide +kernel
theorem dX12_beginsWith_3 : decode cX12_beginsWith 3 = .ok (.invokevirtual 50, 3) := by decide +kernel
theorem dX12_beginsWith_6 : decode cX12_beginsWith 6 = .ok (.aload_n 0, 1) := by decide +kernel
theorem dX12_beginsWith_7 : decode cX12_beginsWith 7 = .ok (.getfield 70, 3) := by decide +kernel
theorem dX12_beginsWith_10 : decode cX12_beginsWith 10 = .ok (.if_icmp .ge 5, 3) := by decide +kernel
theorem dX12_beginsWith_13 : decode cX12_beginsWith 13 = .ok (.iconst 0, 1) := by decide +kernel
theorem dX12_beginsWith_14 : decode cX12_beginsWith 14 = .ok (.ireturn, 1) := by decide +kernel
theorem dX12_beginsWith_15 : decode cX12_beginsWith 15 = .ok (.iconst 0, 1) := by decide +kernel
theorem dX12_beginsWith_16 : decode cX12_beginsWith 16 = .ok (.istore_n 2, 1) := by decide +kernel
theorem dX12_beginsWith_17 : decode cX12_beginsWith 17 = .ok (.iload_n 2, 1) := by decide +kernel
theorem dX12_beginsWith_18 : decode cX12_beginsWith 18 = .ok (.aload_n 0, 1) := by decide +kernel
theorem dX12_beginsWith_19 : decode cX12_beginsWith 19 = .ok (.getfield 70, 3) := by decide +kernel
theorem dX12_beginsWith_22 : decode cX12_beginsWith 22 = .ok (.if_icmp .ge 26, 3) := by decide +kernel
theorem dX12_beginsWith_25 : decode cX12_beginsWith 25 = .ok (.aload_n 0, 1) := by decide +kernel
theorem dX12_beginsWith_26 : decode cX12_beginsWith 26 = .ok (.iload_n 1, 1) := by decide +kernel
theorem dX12_beginsWith_27 : decode cX12_beginsWith 27 = .ok (.iload_n 2, 1) := by decide +kernel
theorem dX12_beginsWith_28 : decode cX12_beginsWith 28 = .ok (.invokevirtual 74, 3) := by decide +kernel
theorem dX12_beginsWith_31 : decode cX12_beginsWith 31 = .ok (.aload_n 0, 1) := by decide +kernel
theorem dX12_beginsWith_32 : decode cX12_beginsWith 32 = .ok (.getfield 13, 3) := by decide +kernel
theorem dX12_beginsWith_35 : decode cX12_beginsWith 35 = .ok (.iload_n 2, 1) := by decide +kernel
theorem dX12_beginsWith_36 : decode cX12_beginsWith 36 = .ok (.iaload, 1) := by decide +kernel
theorem dX12_beginsWith_37 : decode cX12_beginsWith 37 = .ok (.if_icmp .eq 5, 3) := by decide +kernel
theorem dX12_beginsWith_40 : decode cX12_beginsWith 40 = .ok (.iconst 0, 1) := by decide +kernel
theorem dX12_beginsWith_41 : decode cX12_beginsWith 41 = .ok (.ireturn, 1) := by decide +kernel
theorem dX12_beginsWith_42 : decode cX12_beginsWith 42 = .ok (.iinc 2 1, 3) := by decide +kernel
theorem dX12_beginsWith_45 : decode cX12_beginsWith 45 = .ok (.goto (-28), 3) := by decide +kernel
theorem dX12_beginsWith_48 : decode cX12_beginsWith 48 = .ok (.iconst 1, 1) := by decide +kernel
theorem dX12_beginsWith_49 : decode cX12_beginsWith 49 = .ok (.ireturn, 1) := by decide +kernel
set_option maxRecDepth 20000 in
theorem ggX12_begins_X12_isLong : GoodIn wsX12_begins wsX12_isLong := goodIn_r _ [5, 6, 7, 8, 4, 9, 37, 38, 39, 40, 41, 42, 43, 44, 45, 46, 47, 48, 49, 50, 51, 52, 53, 54, 55, 56, 57, 58, 59, 60, 61, 62, 63, 64, 65, 66, 67, 68, 69, 70, 71, 72, 73, 74, 75, 76, 77] rfl (by decide +kernel)
set_option maxRecDepth 20000 in
theorem gX12_begins_X12_isLong : GoodIn wsX12_begins (wsV RX12 157 RX12 yX12_isLong wsX12_isLong) := goodIn_app (goodIn_r _ [1, 2, 3, 4] rfl (by decide +kernel)) ggX12_begins_X12_isLong
set_option maxRecDepth 20000 in
theorem ggX12_begins_X12_in : GoodIn wsX12_begins wsX12_in := goodIn_r _ [9] rfl (by decide +kernel)
set_option maxRecDepth 20000 in
theorem gX12_begins_X12_in : GoodIn wsX12_begins (va_wsS RX12 66 yX12_in wsX12_in) := goodIn_app (goodIn_r _ [7, 8, 4] rfl (by decide +kernel)) ggX12_begins_X12_in
set_option maxRecDepth 20000 in
theorem ggX12_begins_X12_takesKey : GoodIn wsX12_begins wsX12_takesKey := goodIn_r _ [13, 6, 14, 15, 16, 17, 18, 4, 19, 7, 8, 9, 37, 38, 39, 40, 41, 42, 43, 44, 45, 46, 47, 48, 49, 50, 51, 52, 53, 54, 55, 56, 57, 58, 59, 60, 61, 62, 63, 64, 65, 66, 67, 68, 69, 70, 71, 72, 73, 74, 75, 76, 77] rfl (by decide +kernel)
set_option maxRecDepth 20000 in
theorem gX12_begins_X12_takesKey : GoodIn wsX12_begins (wsV RX12 161 RX12 yX12_takesKey wsX12_takesKey) := goodIn_app (goodIn_r _ [10, 11, 12, 4] rfl (by decide +kernel)) ggX12_begins_X12_takesKey
set_option maxRecDepth 20000 in
theorem ggX12_begins_X12_many : GoodIn wsX12_begins wsX12_many := goodIn_r _ [23, 24, 37, 38, 39, 40, 41, 42, 43, 44, 45, 46, 47, 48, 49, 50, 51, 52, 53, 54, 55, 56, 57, 58, 59, 60, 61, 62, 63, 64, 65, 66, 67, 68, 69, 70, 71, 72, 73, 74, 75, 76, 77] rfl (by decide +kernel)
set_option maxRecDepth 20000 in
theorem gX12_begins_X12_many : GoodIn wsX12_begins (wsV RX12 62 RX12 yX12_many wsX12_many) := goodIn_app (goodIn_r _ [20, 21, 22, 4] rfl (by decide +kernel)) ggX12_begins_X12_many
set_option maxRecDepth 20000 in
theorem ggX12_begins_X12_beginsWith : GoodIn wsX12_begins wsX12_beginsWith := goodIn_r _ [28, 14, 15, 29, 30, 31, 4, 32, 24, 33, 34, 35, 36, 37, 38, 39, 40, 41, 42, 43, 44, 45, 46, 47, 48, 49, 50, 51, 52, 53, 54, 55, 56, 57, 58, 59, 60, 61, 62, 63, 64, 65, 66, 67, 68, 69, 70, 71, 72, 73, 74, 75, 76, 77] rfl (by decide +kernel)
set_option maxRecDepth 20000 in
theorem gX12_begins_X12_beginsWith : GoodIn wsX12_begins (wsV RX12 315 RX12 yX12_beginsWith wsX12_beginsWith) := goodIn_app (goodIn_r _ [25, 26, 27, 4] rfl (by decide +kernel)) ggX12_begins_X12_beginsWith
set_option maxRecDepth 20000 in
theorem ggX12_begins_X12_of : GoodIn wsX12_begins wsX12_of := goodIn_r _ [32, 24, 37, 38, 39, 40, 41, 42, 43, 44, 45, 46, 47, 48, 49, 50, 51, 52, 53, 54, 55, 56, 57, 58, 59, 60, 61, 62, 63, 64, 65, 66, 67, 68, 69, 70, 71, 72, 73, 74, 75, 76, 77] rfl (by decide +kernel)
set_option maxRecDepth 20000 in
theorem gX12_begins_X12_of : GoodIn wsX12_begins (wsV RX12 50 RX12 yX12_of wsX12_of) := goodIn_app (goodIn_r _ [29, 30, 31, 4] rfl (by decide +kernel)) ggX12_begins_X12_of
theorem dX12_begins_0 : decode cX12_begins 0 = .ok (.aload_n 0, 1) := by decide +kernel
theorem dX12_begins_1 : decode cX12_begins 1 = .ok (.iload_n 1, 1) := by decide +kernel
theorem dX12_begins_2 : decode cX12_begins 2 = .ok (.invokevirtual 157, 3) := by decide +kernel
theorem dX12_begins_5 : decode cX12_begins 5 = .ok (.ifCond .eq 12, 3) := by decide +kernel
theorem dX12_begins_8 : decode cX12_begins 8 = .ok (.iload_n 2, 1) := by decide +kernel
theorem dX12_begins_9 : decode cX12_begins 9 = .ok (.iconst 0, 1) := by decide +kernel
theorem dX12_begins_10 : decode cX12_begins 10 = .ok (.iconst 2, 1) := by decide +kernel
theorem dX12_begins_11 : decode cX12_begins 11 = .ok (.invokestatic 66, 3) := by decide +kernel
theorem dX12_begins_14 : decode cX12_begins 14 = .ok (.ifCond .ne 5, 3) := by decide +kernel
theorem dX12_begins_17 : decode cX12_begins 17 = .ok (.iconst (-1), 1) := by decide +kernel
theorem dX12_begins_18 : decode cX12_begins 18 = .ok (.ireturn, 1) := by decide +kernel
theorem dX12_begins_19 : decode cX12_begins 19 = .ok (.aload_n 0, 1) := by decide +kernel
theorem dX12_begins_20 : decode cX12_begins 20 = .ok (.iload_n 1, 1) := by decide +kernel
theorem dX12_begins_21 : decode cX12_begins 21 = .ok (.invokevirtual 161, 3) := by decide +kernel
theorem dX12_begins_24 : decode cX12_begins 24 = .ok (.ifCond .ne 6, 3) := by decide +kernel
theorem dX12_begins_27 : decode cX12_begins 27 = .ok (.bipush (-2), 2) := by decide +kernel
theorem dX12_begins_29 : decode cX12_begins 29 = .ok (.ireturn, 1) := by decide +kernel
theorem dX12_begins_30 : decode cX12_begins 30 = .ok (.iconst 0, 1) := by decide +kernel
theorem dX12_begins_31 : decode cX12_begins 31 = .ok (.istore_n 3, 1) := by decide +kernel
theorem dX12_begins_32 : decode cX12_begins 32 = .ok (.bipush (-3), 2) := by decide +kernel
theorem dX12_begins_34 : decode cX12_begins 34 = .ok (.istore 4, 2) := by decide +kernel
theorem dX12_begins_36 : decode cX12_begins 36 = .ok (.iconst 0, 1) := by decide +kernel
theorem dX12_begins_37 : decode cX12_begins 37 = .ok (.istore 5, 2) := by decide +kernel
theorem dX12_begins_39 : decode cX12_begins 39 = .ok (.iconst 0, 1) := by decide +kernel
theorem dX12_begins_40 : decode cX12_begins 40 = .ok (.istore 6, 2) := by decide +kernel
theorem dX12_begins_42 : decode cX12_begins 42 = .ok (.iload 6, 2) := by decide +kernel
theorem dX12_begins_44 : decode cX12_begins 44 = .ok (.aload_n 0, 1) := by decide +kernel
theorem dX12_begins_45 : decode cX12_begins 45 = .ok (.invokevirtual 62, 3) := by decide +kernel
theorem dX12_begins_48 : decode cX12_begins 48 = .ok (.if_icmp .ge 45, 3) := by decide +kernel
theorem dX12_begins_51 : decode cX12_begins 51 = .ok (.aload_n 0, 1) := by decide +kernel
theorem dX12_begins_52 : decode cX12_begins 52 = .ok (.iload 6, 2) := by decide +kernel
theorem dX12_begins_54 : decode cX12_begins 54 = .ok (.invokevirtual 315, 3) := by decide +kernel
theorem dX12_begins_57 : decode cX12_begins 57 = .ok (.ifCond .ne 6, 3) := by decide +kernel
theorem dX12_begins_60 : decode cX12_begins 60 = .ok (.goto 27, 3) := by decide +kernel
theorem dX12_begins_63 : decode cX12_begins 63 = .ok (.iload_n 3, 1) := by decide +kernel
theorem dX12_begins_64 : decode cX12_begins 64 = .ok (.ifCond .ne 7, 3) := by decide +kernel
theorem dX12_begins_67 : decode cX12_begins 67 = .ok (.iload 6, 2) := by decide +kernel
theorem dX12_begins_69 : decode cX12_begins 69 = .ok (.istore 4, 2) := by decide +kernel
theorem dX12_begins_71 : decode cX12_begins 71 = .ok (.iload_n 3, 1) := by decide +kernel
theorem dX12_begins_72 : decode cX12_begins 72 = .ok (.iconst 1, 1) := by decide +kernel
theorem dX12_begins_73 : decode cX12_begins 73 = .ok (.iadd, 1) := by decide +kernel
theorem dX12_begins_74 : decode cX12_begins 74 = .ok (.istore_n 3, 1) := by decide +kernel
theorem dX12_begins_75 : decode cX12_begins 75 = .ok (.iload 5, 2) := by decide +kernel
theorem dX12_begins_77 : decode cX12_begins 77 = .ok (.aload_n 0, 1) := by decide +kernel
theorem dX12_begins_78 : decode cX12_begins 78 = .ok (.iload 6, 2) := by decide +kernel
theorem dX12_begins_80 : decode cX12_begins 80 = .ok (.iconst 1, 1) := by decide +kernel
theorem dX12_begins_81 : decode cX12_begins 81 = .ok (.invokevirtual 50, 3) := by decide +kernel
theorem dX12_begins_84 : decode cX12_begins 84 = .ok (.iadd, 1) := by decide +kernel
theorem dX12_begins_85 : decode cX12_begins 85 = .ok (.istore 5, 2) := by decide +kernel
theorem dX12_begins_87 : decode cX12_begins 87 = .ok (.iinc 6 1, 3) := by decide +kernel
theorem dX12_begins_90 : decode cX12_begins 90 = .ok (.goto (-48), 3) := by decide +kernel
theorem dX12_begins_93 : decode cX12_begins 93 = .ok (.iload_n 2, 1) := by decide +kernel
theorem dX12_begins_94 : decode cX12_begins 94 = .ok (.ifCond .ne 7, 3) := by decide +kernel
theorem dX12_begins_97 : decode cX12_begins 97 = .ok (.iload_n 3, 1) := by decide +kernel
theorem dX12_begins_98 : decode cX12_begins 98 = .ok (.goto 15, 3) := by decide +kernel
theorem dX12_begins_101 : decode cX12_begins 101 = .ok (.iload_n 2, 1) := by decide +kernel
theorem dX12_begins_102 : decode cX12_begins 102 = .ok (.iconst 1, 1) := by decide +kernel
theorem dX12_begins_103 : decode cX12_begins 103 = .ok (.if_icmp .ne 8, 3) := by decide +kernel
theorem dX12_begins_106 : decode cX12_begins 106 = .ok (.iload 4, 2) := by decide +kernel
theorem dX12_begins_108 : decode cX12_begins 108 = .ok (.goto 5, 3) := by decide +kernel
theorem dX12_begins_111 : decode cX12_begins 111 = .ok (.iload 5, 2) := by decide +kernel
theorem dX12_begins_113 : decode cX12_begins 113 = .ok (.ireturn, 1) := by decide +kernel
set_option maxRecDepth 20000 in
theorem ggX12_alike_X12_isThere : GoodIn wsX12_alike wsX12_isThere := goodIn_r _ [5, 6, 7, 8, 4, 9, 10, 11, 12, 13, 22, 23, 24, 25, 26, 27, 28, 29, 30, 31, 32, 33, 34, 35, 36, 37, 38, 39, 40, 41, 42, 43, 44, 45, 46, 47, 48, 49, 50, 51, 52, 53, 54, 55, 56, 57, 58, 59, 60, 61, 62] rfl (by decide +kernel)
set_option maxRecDepth 20000 in
theorem gX12_alike_X12_isThere : GoodIn wsX12_alike (wsV RX12 309 RX12 yX12_isThere wsX12_isThere) := goodIn_app (goodIn_r _ [1, 2, 3, 4] rfl (by decide +kernel)) ggX12_alike_X12_isThere
set_option maxRecDepth 20000 in
theorem ggX12_alike_X12_of : GoodIn wsX12_alike wsX12_of := goodIn_r _ [17, 10, 22, 23, 24, 25, 26, 27, 28, 29, 30, 31, 32, 33, 34, 35, 36, 37, 38, 39, 40, 41, 42, 43, 44, 45, 46, 47, 48, 49, 50, 51, 52, 53, 54, 55, 56, 57, 58, 59, 60, 61, 62] rfl (by decide +kernel)
set_option maxRecDepth 20000 in
theorem gX12_alike_X12_of : GoodIn wsX12_alike (wsV RX12 50 RX12 yX12_of wsX12_of) := goodIn_app (goodIn_r _ [14, 15, 16, 4] rfl (by decide +kernel)) ggX12_alike_X12_of
set_option maxRecDepth 20000 in
theorem ggX12_alike_X12_byteOf : GoodIn wsX12_alike wsX12_byteOf := goodIn_r _ [21, 10, 22, 23, 24, 25, 26, 27, 28, 29, 30, 31, 32, 33, 34, 35, 36, 37, 38, 39, 40, 41, 42, 43, 44, 45, 46, 47, 48, 49, 50, 51, 52, 53, 54, 55, 56, 57, 58, 59, 60, 61, 62] rfl (by decide +kernel)
set_option maxRecDepth 20000 in
theorem gX12_alike_X12_byteOf : GoodIn wsX12_alike (wsV RX12 74 RX12 yX12_byteOf wsX12_byteOf) := goodIn_app (goodIn_r _ [18, 19, 20, 4] rfl (by decide +kernel)) ggX12_alike_X12_byteOf
theorem dX12_alike_0 : decode cX12_alike 0 = .ok (.aload_n 0, 1) := by decide +kernel
theorem dX12_alike_1 : decode cX12_alike 1 = .ok (.iload_n 1, 1) := by decide +kernel
theorem dX12_alike_2 : decode cX12_alike 2 = .ok (.invokevirtual 309, 3) := by decide +kernel
theorem dX12_alike_5 : decode cX12_alike 5 = .ok (.ifCond .eq 11, 3) := by decide +kernel
theorem dX12_alike_8 : decode cX12_alike 8 = .ok (.aload_n 0, 1) := by decide +kernel
theorem dX12_alike_9 : decode cX12_alike 9 = .ok (.iload_n 2, 1) := by decide +kernel
theorem dX12_alike_10 : decode cX12_alike 10 = .ok (.invokevirtual 309, 3) := by decide +kernel
theorem dX12_alike_13 : decode cX12_alike 13 = .ok (.ifCond .ne 5, 3) := by decide +kernel
theorem dX12_alike_16 : decode cX12_alike 16 = .ok (.iconst (-1), 1) := by decide +kernel
theorem dX12_alike_17 : decode cX12_alike 17 = .ok (.ireturn, 1) := by decide +kernel
theorem dX12_alike_18 : decode cX12_alike 18 = .ok (.iconst 0, 1) := by decide +kernel
theorem dX12_alike_19 : decode cX12_alike 19 = .ok (.istore_n 3, 1) := by decide +kernel
theorem dX12_alike_20 : decode cX12_alike 20 = .ok (.iload_n 3, 1) := by decide +kernel
theorem dX12_alike_21 : decode cX12_alike 21 = .ok (.aload_n 0, 1) := by decide +kernel
theorem dX12_alike_22 : decode cX12_alike 22 = .ok (.iload_n 1, 1) := by decide +kernel
theorem dX12_alike_23 : decode cX12_alike 23 = .ok (.iconst 0, 1) := by decide +kernel
theorem dX12_alike_24 : decode cX12_alike 24 = .ok (.invokevirtual 50, 3) := by decide +kernel
theorem dX12_alike_27 : decode cX12_alike 27 = .ok (.if_icmp .ge 35, 3) := by decide +kernel
theorem dX12_alike_30 : decode cX12_alike 30 = .ok (.iload_n 3, 1) := by decide +kernel
theorem dX12_alike_31 : decode cX12_alike 31 = .ok (.aload_n 0, 1) := by decide +kernel
theorem dX12_alike_32 : decode cX12_alike 32 = .ok (.iload_n 2, 1) := by decide +kernel
theorem dX12_alike_33 : decode cX12_alike 33 = .ok (.iconst 0, 1) := by decide +kernel
theorem dX12_alike_34 : decode cX12_alike 34 = .ok (.invokevirtual 50, 3) := by decide +kernel
theorem dX12_alike_37 : decode cX12_alike 37 = .ok (.if_icmp .ge 25, 3) := by decide +kernel
theorem dX12_alike_40 : decode cX12_alike 40 = .ok (.aload_n 0, 1) := by decide +kernel
theorem dX12_alike_41 : decode cX12_alike 41 = .ok (.iload_n 1, 1) := by decide +kernel
theorem dX12_alike_42 : decode cX12_alike 42 = .ok (.iload_n 3, 1) := by decide +kernel
theorem dX12_alike_43 : decode cX12_alike 43 = .ok (.invokevirtual 74, 3) := by decide +kernel
theorem dX12_alike_46 : decode cX12_alike 46 = .ok (.aload_n 0, 1) := by decide +kernel
theorem dX12_alike_47 : decode cX12_alike 47 = .ok (.iload_n 2, 1) := by decide +kernel
theorem dX12_alike_48 : decode cX12_alike 48 = .ok (.iload_n 3, 1) := by decide +kernel
theorem dX12_alike_49 : decode cX12_alike 49 = .ok (.invokevirtual 74, 3) := by decide +kernel
theorem dX12_alike_52 : decode cX12_alike 52 = .ok (.if_icmp .ne 10, 3) := by decide +kernel
theorem dX12_alike_55 : decode cX12_alike 55 = .ok (.iload_n 3, 1) := by decide +kernel
theorem dX12_alike_56 : decode cX12_alike 56 = .ok (.iconst 1, 1) := by decide +kernel
theorem dX12_alike_57 : decode cX12_alike 57 = .ok (.iadd, 1) := by decide +kernel
theorem dX12_alike_58 : decode cX12_alike 58 = .ok (.istore_n 3, 1) := by decide +kernel
theorem dX12_alike_59 : decode cX12_alike 59 = .ok (.goto (-39), 3) := by decide +kernel
theorem dX12_alike_62 : decode cX12_alike 62 = .ok (.iload_n 3, 1) := by decide +kernel
theorem dX12_alike_63 : decode cX12_alike 63 = .ok (.ireturn, 1) := by decide +kernel
set_option maxRecDepth 20000 in
theorem ggX12_closest_X12_in : GoodIn wsX12_closest wsX12_in := goodIn_r _ [4] rfl (by decide +kernel)
set_option maxRecDepth 20000 in
theorem gX12_closest_X12_in : GoodIn wsX12_closest (va_wsS RX12 66 yX12_in wsX12_in) := goodIn_app (goodIn_r _ [1, 2, 3] rfl (by decide +kernel)) ggX12_closest_X12_in
set_option maxRecDepth 20000 in
theorem ggX12_closest_X12_many : GoodIn wsX12_closest wsX12_many := goodIn_r _ [8, 9, 26, 27, 28, 29, 30, 31, 32, 33, 34, 35, 36, 37, 38, 39, 40, 41, 42, 43, 44, 45, 46, 47, 48, 49, 50, 51, 52, 53, 54, 55, 56, 57, 58, 59, 60, 61, 62, 63, 64, 65, 66] rfl (by decide +kernel)
set_option maxRecDepth 20000 in
theorem gX12_closest_X12_many : GoodIn wsX12_closest (wsV RX12 62 RX12 yX12_many wsX12_many) := goodIn_app (goodIn_r _ [5, 6, 7, 3] rfl (by decide +kernel)) ggX12_closest_X12_many
set_option maxRecDepth 20000 in
theorem ggX12_closest_X12_alike : GoodIn wsX12_closest wsX12_alike := goodIn_r _ [13, 14, 15, 16, 3, 17, 5, 6, 7, 8, 9, 1, 2, 4, 18, 19, 20, 21, 22, 23, 24, 25, 26, 27, 28, 29, 30, 31, 32, 33, 34, 35, 36, 37, 38, 39, 40, 41, 42, 43, 44, 45, 46, 47, 48, 49, 50, 51, 52, 53, 54, 55, 56, 57, 58, 59, 60, 61, 62, 63, 64, 65, 66] rfl (by decide +kernel)
set_option maxRecDepth 20000 in
theorem gX12_closest_X12_alike : GoodIn wsX12_closest (wsV RX12 318 RX12 yX12_alike wsX12_alike) := goodIn_app (goodIn_r _ [10, 11, 12, 3] rfl (by decide +kernel)) ggX12_closest_X12_alike
theorem dX12_closest_0 : decode cX12_closest 0 = .ok (.iload_n 1, 1) := by decide +kernel
theorem dX12_closest_1 : decode cX12_closest 1 = .ok (.iconst 0, 1) := by decide +kernel
theorem dX12_closest_2 : decode cX12_closest 2 = .ok (.iconst 1, 1) := by decide +kernel
theorem dX12_closest_3 : decode cX12_closest 3 = .ok (.invokestatic 66, 3) := by decide +kernel
theorem dX12_closest_6 : decode cX12_closest 6 = .ok (.ifCond .ne 5, 3) := by decide +kernel
theorem dX12_closest_9 : decode cX12_closest 9 = .ok (.iconst (-1), 1) := by decide +kernel
theorem dX12_closest_10 : decode cX12_closest 10 = .ok (.ireturn, 1) := by decide +kernel
theorem dX12_closest_11 : decode cX12_closest 11 = .ok (.aload_n 0, 1) := by decide +kernel
theorem dX12_closest_12 : decode cX12_closest 12 = .ok (.invokevirtual 62, 3) := by decide +kernel
theorem dX12_closest_15 : decode cX12_closest 15 = .ok (.iconst 2, 1) := by decide +kernel
theorem dX12_closest_16 : decode cX12_closest 16 = .ok (.if_icmp .ge 6, 3) := by decide +kernel
theorem dX12_closest_19 : decode cX12_closest 19 = .ok (.bipush (-2), 2) := by decide +kernel
theorem dX12_closest_21 : decode cX12_closest 21 = .ok (.ireturn, 1) := by decide +kernel
theorem dX12_closest_22 : decode cX12_closest 22 = .ok (.iconst 0, 1) := by decide +kernel
theorem dX12_closest_23 : decode cX12_closest 23 = .ok (.istore_n 2, 1) := by decide +kernel
theorem dX12_closest_24 : decode cX12_closest 24 = .ok (.iconst 1, 1) := by decide +kernel
theorem dX12_closest_25 : decode cX12_closest 25 = .ok (.istore_n 3, 1) := by decide +kernel
theorem dX12_closest_26 : decode cX12_closest 26 = .ok (.iload_n 3, 1) := by decide +kernel
theorem dX12_closest_27 : decode cX12_closest 27 = .ok (.iconst 1, 1) := by decide +kernel
theorem dX12_closest_28 : decode cX12_closest 28 = .ok (.iadd, 1) := by decide +kernel
theorem dX12_closest_29 : decode cX12_closest 29 = .ok (.aload_n 0, 1) := by decide +kernel
theorem dX12_closest_30 : decode cX12_closest 30 = .ok (.invokevirtual 62, 3) := by decide +kernel
theorem dX12_closest_33 : decode cX12_closest 33 = .ok (.if_icmp .ge 30, 3) := by decide +kernel
theorem dX12_closest_36 : decode cX12_closest 36 = .ok (.aload_n 0, 1) := by decide +kernel
theorem dX12_closest_37 : decode cX12_closest 37 = .ok (.iload_n 3, 1) := by decide +kernel
theorem dX12_closest_38 : decode cX12_closest 38 = .ok (.iload_n 3, 1) := by decide +kernel
theorem dX12_closest_39 : decode cX12_closest 39 = .ok (.iconst 1, 1) := by decide +kernel
theorem dX12_closest_40 : decode cX12_closest 40 = .ok (.iadd, 1) := by decide +kernel
theorem dX12_closest_41 : decode cX12_closest 41 = .ok (.invokevirtual 318, 3) := by decide +kernel
theorem dX12_closest_44 : decode cX12_closest 44 = .ok (.aload_n 0, 1) := by decide +kernel
theorem dX12_closest_45 : decode cX12_closest 45 = .ok (.iload_n 2, 1) := by decide +kernel
theorem dX12_closest_46 : decode cX12_closest 46 = .ok (.iload_n 2, 1) := by decide +kernel
theorem dX12_closest_47 : decode cX12_closest 47 = .ok (.iconst 1, 1) := by decide +kernel
theorem dX12_closest_48 : decode cX12_closest 48 = .ok (.iadd, 1) := by decide +kernel
theorem dX12_closest_49 : decode cX12_closest 49 = .ok (.invokevirtual 318, 3) := by decide +kernel
theorem dX12_closest_52 : decode cX12_closest 52 = .ok (.if_icmp .le 5, 3) := by decide +kernel
theorem dX12_closest_55 : decode cX12_closest 55 = .ok (.iload_n 3, 1) := by decide +kernel
theorem dX12_closest_56 : decode cX12_closest 56 = .ok (.istore_n 2, 1) := by decide +kernel
theorem dX12_closest_57 : decode cX12_closest 57 = .ok (.iinc 3 1, 3) := by decide +kernel
theorem dX12_closest_60 : decode cX12_closest 60 = .ok (.goto (-34), 3) := by decide +kernel
theorem dX12_closest_63 : decode cX12_closest 63 = .ok (.iload_n 1, 1) := by decide +kernel
theorem dX12_closest_64 : decode cX12_closest 64 = .ok (.ifCond .ne 14, 3) := by decide +kernel
theorem dX12_closest_67 : decode cX12_closest 67 = .ok (.aload_n 0, 1) := by decide +kernel
theorem dX12_closest_68 : decode cX12_closest 68 = .ok (.iload_n 2, 1) := by decide +kernel
theorem dX12_closest_69 : decode cX12_closest 69 = .ok (.iload_n 2, 1) := by decide +kernel
theorem dX12_closest_70 : decode cX12_closest 70 = .ok (.iconst 1, 1) := by decide +kernel
theorem dX12_closest_71 : decode cX12_closest 71 = .ok (.iadd, 1) := by decide +kernel
theorem dX12_closest_72 : decode cX12_closest 72 = .ok (.invokevirtual 318, 3) := by decide +kernel
theorem dX12_closest_75 : decode cX12_closest 75 = .ok (.goto 4, 3) := by decide +kernel
theorem dX12_closest_78 : decode cX12_closest 78 = .ok (.iload_n 2, 1) := by decide +kernel
theorem dX12_closest_79 : decode cX12_closest 79 = .ok (.ireturn, 1) := by decide +kernel
set_option maxRecDepth 20000 in
theorem ggX12_fullOf_X12_beginsPage : GoodIn wsX12_fullOf wsX12_beginsPage := goodIn_r _ [7, 8, 9, 10, 6, 11, 12, 13, 14, 15, 20, 21, 22, 23, 24, 25, 26, 27, 28, 29, 30, 31, 32, 33, 34, 35, 36, 37, 38, 39, 40, 41, 42, 43, 44, 45, 46, 47, 48, 49, 50, 51, 52, 53, 54, 55, 56, 57, 58, 59, 60] rfl (by decide +kernel)
set_option maxRecDepth 20000 in
theorem gX12_fullOf_X12_beginsPage : GoodIn wsX12_fullOf (wsV RX12 103 RX12 yX12_beginsPage wsX12_beginsPage) := goodIn_app (goodIn_r _ [3, 4, 5, 6] rfl (by decide +kernel)) ggX12_fullOf_X12_beginsPage
set_option maxRecDepth 20000 in
theorem ggX12_fullOf_X12_pageEnd : GoodIn wsX12_fullOf wsX12_pageEnd := goodIn_r _ [19, 1, 2, 3, 4, 5, 6, 7, 8, 9, 10, 11, 12, 13, 14, 15, 20, 21, 22, 23, 24, 25, 26, 27, 28, 29, 30, 31, 32, 33, 34, 35, 36, 37, 38, 39, 40, 41, 42, 43, 44, 45, 46, 47, 48, 49, 50, 51, 52, 53, 54, 55, 56, 57, 58, 59, 60] rfl (by decide +kernel)
set_option maxRecDepth 20000 in
theorem gX12_fullOf_X12_pageEnd : GoodIn wsX12_fullOf (wsV RX12 132 RX12 yX12_pageEnd wsX12_pageEnd) := goodIn_app (goodIn_r _ [16, 17, 18, 6] rfl (by decide +kernel)) ggX12_fullOf_X12_pageEnd
theorem dX12_fullOf_0 : decode cX12_fullOf 0 = .ok (.iconst 0, 1) := by decide +kernel
theorem dX12_fullOf_1 : decode cX12_fullOf 1 = .ok (.istore_n 3, 1) := by decide +kernel
theorem dX12_fullOf_2 : decode cX12_fullOf 2 = .ok (.iconst 0, 1) := by decide +kernel
theorem dX12_fullOf_3 : decode cX12_fullOf 3 = .ok (.istore 4, 2) := by decide +kernel
theorem dX12_fullOf_5 : decode cX12_fullOf 5 = .ok (.iload 4, 2) := by decide +kernel
theorem dX12_fullOf_7 : decode cX12_fullOf 7 = .ok (.aload_n 0, 1) := by decide +kernel
theorem dX12_fullOf_8 : decode cX12_fullOf 8 = .ok (.getfield 97, 3) := by decide +kernel
theorem dX12_fullOf_11 : decode cX12_fullOf 11 = .ok (.if_icmp .ge 42, 3) := by decide +kernel
theorem dX12_fullOf_14 : decode cX12_fullOf 14 = .ok (.aload_n 0, 1) := by decide +kernel
theorem dX12_fullOf_15 : decode cX12_fullOf 15 = .ok (.aload_n 0, 1) := by decide +kernel
theorem dX12_fullOf_16 : decode cX12_fullOf 16 = .ok (.getfield 16, 3) := by decide +kernel
theorem dX12_fullOf_19 : decode cX12_fullOf 19 = .ok (.iload 4, 2) := by decide +kernel
theorem dX12_fullOf_21 : decode cX12_fullOf 21 = .ok (.iaload, 1) := by decide +kernel
theorem dX12_fullOf_22 : decode cX12_fullOf 22 = .ok (.iload_n 1, 1) := by decide +kernel
theorem dX12_fullOf_23 : decode cX12_fullOf 23 = .ok (.invokevirtual 103, 3) := by decide +kernel
theorem dX12_fullOf_26 : decode cX12_fullOf 26 = .ok (.ifCond .eq 21, 3) := by decide +kernel
theorem dX12_fullOf_29 : decode cX12_fullOf 29 = .ok (.aload_n 0, 1) := by decide +kernel
theorem dX12_fullOf_30 : decode cX12_fullOf 30 = .ok (.iload 4, 2) := by decide +kernel
theorem dX12_fullOf_32 : decode cX12_fullOf 32 = .ok (.iload_n 1, 1) := by decide +kernel
theorem dX12_fullOf_33 : decode cX12_fullOf 33 = .ok (.invokevirtual 132, 3) := by decide +kernel
theorem dX12_fullOf_36 : decode cX12_fullOf 36 = .ok (.iload 4, 2) := by decide +kernel
theorem dX12_fullOf_38 : decode cX12_fullOf 38 = .ok (.isub, 1) := by decide +kernel
theorem dX12_fullOf_39 : decode cX12_fullOf 39 = .ok (.iload_n 2, 1) := by decide +kernel
theorem dX12_fullOf_40 : decode cX12_fullOf 40 = .ok (.if_icmp .ne 7, 3) := by decide +kernel
theorem dX12_fullOf_43 : decode cX12_fullOf 43 = .ok (.iload_n 3, 1) := by decide +kernel
theorem dX12_fullOf_44 : decode cX12_fullOf 44 = .ok (.iconst 1, 1) := by decide +kernel
theorem dX12_fullOf_45 : decode cX12_fullOf 45 = .ok (.iadd, 1) := by decide +kernel
theorem dX12_fullOf_46 : decode cX12_fullOf 46 = .ok (.istore_n 3, 1) := by decide +kernel
theorem dX12_fullOf_47 : decode cX12_fullOf 47 = .ok (.iinc 4 1, 3) := by decide +kernel
theorem dX12_fullOf_50 : decode cX12_fullOf 50 = .ok (.goto (-45), 3) := by decide +kernel
theorem dX12_fullOf_53 : decode cX12_fullOf 53 = .ok (.iload_n 3, 1) := by decide +kernel
theorem dX12_fullOf_54 : decode cX12_fullOf 54 = .ok (.ireturn, 1) := by decide +kernel
set_option maxRecDepth 20000 in
theorem ggX12_full_X12_in : GoodIn wsX12_full wsX12_in := goodIn_r _ [5] rfl (by decide +kernel)
set_option maxRecDepth 20000 in
theorem gX12_full_X12_in : GoodIn wsX12_full (va_wsS RX12 66 yX12_in wsX12_in) := goodIn_app (goodIn_r _ [2, 3, 4] rfl (by decide +kernel)) ggX12_full_X12_in
set_option maxRecDepth 20000 in
theorem ggX12_full_X12_many : GoodIn wsX12_full wsX12_many := goodIn_r _ [9, 1, 64, 65, 66, 67, 68, 69, 70, 71, 72, 73, 74, 75, 76, 77, 78, 79, 80, 81, 82, 83, 84, 85, 86, 87, 88, 89, 90, 91, 92, 93, 94, 95, 96, 97, 98, 99, 100, 101, 102, 103, 104] rfl (by decide +kernel)
set_option maxRecDepth 20000 in
theorem gX12_full_X12_many : GoodIn wsX12_full (wsV RX12 62 RX12 yX12_many wsX12_many) := goodIn_app (goodIn_r _ [6, 7, 8, 4] rfl (by decide +kernel)) ggX12_full_X12_many
set_option maxRecDepth 20000 in
theorem ggX12_full_X12_of : GoodIn wsX12_full wsX12_of := goodIn_r _ [13, 1, 64, 65, 66, 67, 68, 69, 70, 71, 72, 73, 74, 75, 76, 77, 78, 79, 80, 81, 82, 83, 84, 85, 86, 87, 88, 89, 90, 91, 92, 93, 94, 95, 96, 97, 98, 99, 100, 101, 102, 103, 104] rfl (by decide +kernel)
set_option maxRecDepth 20000 in
theorem gX12_full_X12_of : GoodIn wsX12_full (wsV RX12 50 RX12 yX12_of wsX12_of) := goodIn_app (goodIn_r _ [10, 11, 12, 4] rfl (by decide +kernel)) ggX12_full_X12_of
set_option maxRecDepth 20000 in
theorem ggX12_full_X12_beginsLayer : GoodIn wsX12_full wsX12_beginsLayer := goodIn_r _ [17, 1, 18, 19, 20, 21, 22, 4, 23, 24, 25, 10, 11, 12, 13, 26, 27, 28, 29, 30, 31, 32, 33, 6, 7, 8, 9, 34, 35, 36, 37, 64, 65, 66, 67, 68, 69, 70, 71, 72, 73, 74, 75, 76, 77, 78, 79, 80, 81, 82, 83, 84, 85, 86, 87, 88, 89, 90, 91, 92, 93, 94, 95, 96, 97, 98, 99, 100, 101, 102, 103, 104] rfl (by decide +kernel)
set_option maxRecDepth 20000 in
theorem gX12_full_X12_beginsLayer : GoodIn wsX12_full (wsV RX12 243 RX12 yX12_beginsLayer wsX12_beginsLayer) := goodIn_app (goodIn_r _ [14, 15, 16, 4] rfl (by decide +kernel)) ggX12_full_X12_beginsLayer
set_option maxRecDepth 20000 in
theorem ggX12_full_X12_findsEntries : GoodIn wsX12_full wsX12_findsEntries := goodIn_r _ [41, 1, 42, 18, 19, 43, 44, 30, 31, 32, 4, 33, 6, 7, 8, 9, 34, 35, 36, 37, 24, 25, 10, 11, 12, 13, 26, 27, 28, 29, 45, 46, 47, 48, 64, 65, 66, 67, 68, 69, 70, 71, 72, 73, 74, 75, 76, 77, 78, 79, 80, 81, 82, 83, 84, 85, 86, 87, 88, 89, 90, 91, 92, 93, 94, 95, 96, 97, 98, 99, 100, 101, 102, 103, 104] rfl (by decide +kernel)
set_option maxRecDepth 20000 in
theorem gX12_full_X12_findsEntries : GoodIn wsX12_full (wsV RX12 119 RX12 yX12_findsEntries wsX12_findsEntries) := goodIn_app (goodIn_r _ [38, 39, 40, 4] rfl (by decide +kernel)) ggX12_full_X12_findsEntries
set_option maxRecDepth 20000 in
theorem ggX12_full_X12_fullOf : GoodIn wsX12_full wsX12_fullOf := goodIn_r _ [52, 42, 44, 53, 54, 55, 4, 56, 10, 11, 12, 13, 1, 57, 58, 59, 60, 61, 62, 63, 64, 65, 66, 67, 68, 69, 70, 71, 72, 73, 74, 75, 76, 77, 78, 79, 80, 81, 82, 83, 84, 85, 86, 87, 88, 89, 90, 91, 92, 93, 94, 95, 96, 97, 98, 99, 100, 101, 102, 103, 104] rfl (by decide +kernel)
set_option maxRecDepth 20000 in
theorem gX12_full_X12_fullOf : GoodIn wsX12_full (wsV RX12 321 RX12 yX12_fullOf wsX12_fullOf) := goodIn_app (goodIn_r _ [49, 50, 51, 4] rfl (by decide +kernel)) ggX12_full_X12_fullOf
theorem dX12_full_0 : decode cX12_full 0 = .ok (.iload_n 1, 1) := by decide +kernel
theorem dX12_full_1 : decode cX12_full 1 = .ok (.iconst 1, 1) := by decide +kernel
theorem dX12_full_2 : decode cX12_full 2 = .ok (.bipush 8, 2) := by decide +kernel
theorem dX12_full_4 : decode cX12_full 4 = .ok (.invokestatic 66, 3) := by decide +kernel
theorem dX12_full_7 : decode cX12_full 7 = .ok (.ifCond .ne 5, 3) := by decide +kernel
theorem dX12_full_10 : decode cX12_full 10 = .ok (.iconst (-1), 1) := by decide +kernel
theorem dX12_full_11 : decode cX12_full 11 = .ok (.ireturn, 1) := by decide +kernel
theorem dX12_full_12 : decode cX12_full 12 = .ok (.iconst 0, 1) := by decide +kernel
theorem dX12_full_13 : decode cX12_full 13 = .ok (.istore_n 2, 1) := by decide +kernel
theorem dX12_full_14 : decode cX12_full 14 = .ok (.iconst 0, 1) := by decide +kernel
theorem dX12_full_15 : decode cX12_full 15 = .ok (.istore_n 3, 1) := by decide +kernel
theorem dX12_full_16 : decode cX12_full 16 = .ok (.iload_n 3, 1) := by decide +kernel
theorem dX12_full_17 : decode cX12_full 17 = .ok (.aload_n 0, 1) := by decide +kernel
theorem dX12_full_18 : decode cX12_full 18 = .ok (.invokevirtual 62, 3) := by decide +kernel
theorem dX12_full_21 : decode cX12_full 21 = .ok (.if_icmp .ge 65, 3) := by decide +kernel
theorem dX12_full_24 : decode cX12_full 24 = .ok (.iconst 0, 1) := by decide +kernel
theorem dX12_full_25 : decode cX12_full 25 = .ok (.istore 4, 2) := by decide +kernel
theorem dX12_full_27 : decode cX12_full 27 = .ok (.iload 4, 2) := by decide +kernel
theorem dX12_full_29 : decode cX12_full 29 = .ok (.aload_n 0, 1) := by decide +kernel
theorem dX12_full_30 : decode cX12_full 30 = .ok (.getfield 7, 3) := by decide +kernel
theorem dX12_full_33 : decode cX12_full 33 = .ok (.iconst 1, 1) := by decide +kernel
theorem dX12_full_34 : decode cX12_full 34 = .ok (.iaload, 1) := by decide +kernel
theorem dX12_full_35 : decode cX12_full 35 = .ok (.imul, 1) := by decide +kernel
theorem dX12_full_36 : decode cX12_full 36 = .ok (.aload_n 0, 1) := by decide +kernel
theorem dX12_full_37 : decode cX12_full 37 = .ok (.iload_n 3, 1) := by decide +kernel
theorem dX12_full_38 : decode cX12_full 38 = .ok (.iconst 0, 1) := by decide +kernel
theorem dX12_full_39 : decode cX12_full 39 = .ok (.invokevirtual 50, 3) := by decide +kernel
theorem dX12_full_42 : decode cX12_full 42 = .ok (.if_icmp .ge 38, 3) := by decide +kernel
theorem dX12_full_45 : decode cX12_full 45 = .ok (.aload_n 0, 1) := by decide +kernel
theorem dX12_full_46 : decode cX12_full 46 = .ok (.iload_n 3, 1) := by decide +kernel
theorem dX12_full_47 : decode cX12_full 47 = .ok (.iload 4, 2) := by decide +kernel
theorem dX12_full_49 : decode cX12_full 49 = .ok (.invokevirtual 243, 3) := by decide +kernel
theorem dX12_full_52 : decode cX12_full 52 = .ok (.ifCond .ne 6, 3) := by decide +kernel
theorem dX12_full_55 : decode cX12_full 55 = .ok (.goto 19, 3) := by decide +kernel
theorem dX12_full_58 : decode cX12_full 58 = .ok (.aload_n 0, 1) := by decide +kernel
theorem dX12_full_59 : decode cX12_full 59 = .ok (.iload 4, 2) := by decide +kernel
theorem dX12_full_61 : decode cX12_full 61 = .ok (.invokevirtual 119, 3) := by decide +kernel
theorem dX12_full_64 : decode cX12_full 64 = .ok (.iload_n 2, 1) := by decide +kernel
theorem dX12_full_65 : decode cX12_full 65 = .ok (.aload_n 0, 1) := by decide +kernel
theorem dX12_full_66 : decode cX12_full 66 = .ok (.iload 4, 2) := by decide +kernel
theorem dX12_full_68 : decode cX12_full 68 = .ok (.iload_n 1, 1) := by decide +kernel
theorem dX12_full_69 : decode cX12_full 69 = .ok (.invokevirtual 321, 3) := by decide +kernel
theorem dX12_full_72 : decode cX12_full 72 = .ok (.iadd, 1) := by decide +kernel
theorem dX12_full_73 : decode cX12_full 73 = .ok (.istore_n 2, 1) := by decide +kernel
theorem dX12_full_74 : decode cX12_full 74 = .ok (.iinc 4 1, 3) := by decide +kernel
theorem dX12_full_77 : decode cX12_full 77 = .ok (.goto (-50), 3) := by decide +kernel
theorem dX12_full_80 : decode cX12_full 80 = .ok (.iinc 3 1, 3) := by decide +kernel
theorem dX12_full_83 : decode cX12_full 83 = .ok (.goto (-67), 3) := by decide +kernel
theorem dX12_full_86 : decode cX12_full 86 = .ok (.iload_n 2, 1) := by decide +kernel
theorem dX12_full_87 : decode cX12_full 87 = .ok (.ireturn, 1) := by decide +kernel
theorem dX12_cursorAt_0 : decode cX12_cursorAt 0 = .ok (.sipush 4290, 3) := by decide +kernel
theorem dX12_cursorAt_3 : decode cX12_cursorAt 3 = .ok (.bipush 29, 2) := by decide +kernel
theorem dX12_cursorAt_5 : decode cX12_cursorAt 5 = .ok (.iload_n 1, 1) := by decide +kernel
theorem dX12_cursorAt_6 : decode cX12_cursorAt 6 = .ok (.imul, 1) := by decide +kernel
theorem dX12_cursorAt_7 : decode cX12_cursorAt 7 = .ok (.iadd, 1) := by decide +kernel
theorem dX12_cursorAt_8 : decode cX12_cursorAt 8 = .ok (.ireturn, 1) := by decide +kernel
set_option maxRecDepth 20000 in
theorem ggX12_isCursor_X12_in : GoodIn wsX12_isCursor wsX12_in := goodIn_r _ [4] rfl (by decide +kernel)
set_option maxRecDepth 20000 in
theorem gX12_isCursor_X12_in : GoodIn wsX12_isCursor (va_wsS RX12 66 yX12_in wsX12_in) := goodIn_app (goodIn_r _ [1, 2, 3] rfl (by decide +kernel)) ggX12_isCursor_X12_in
theorem dX12_isCursor_0 : decode cX12_isCursor 0 = .ok (.iload_n 0, 1) := by decide +kernel
theorem dX12_isCursor_1 : decode cX12_isCursor 1 = .ok (.iconst 0, 1) := by decide +kernel
theorem dX12_isCursor_2 : decode cX12_isCursor 2 = .ok (.iconst 3, 1) := by decide +kernel
theorem dX12_isCursor_3 : decode cX12_isCursor 3 = .ok (.invokestatic 66, 3) := by decide +kernel
theorem dX12_isCursor_6 : decode cX12_isCursor 6 = .ok (.ireturn, 1) := by decide +kernel
set_option maxRecDepth 20000 in
theorem ggX12_laysCursor_X12_cursorAt : GoodIn wsX12_laysCursor wsX12_cursorAt := goodIn_r _ [8] rfl (by decide +kernel)
set_option maxRecDepth 20000 in
theorem gX12_laysCursor_X12_cursorAt : GoodIn wsX12_laysCursor (wsV RX12 324 RX12 yX12_cursorAt wsX12_cursorAt) := goodIn_app (goodIn_r _ [4, 5, 6, 7] rfl (by decide +kernel)) ggX12_laysCursor_X12_cursorAt
theorem dX12_laysCursor_0 : decode cX12_laysCursor 0 = .ok (.aload_n 0, 1) := by decide +kernel
theorem dX12_laysCursor_1 : decode cX12_laysCursor 1 = .ok (.iload_n 1, 1) := by decide +kernel
theorem dX12_laysCursor_2 : decode cX12_laysCursor 2 = .ok (.invokevirtual 324, 3) := by decide +kernel
theorem dX12_laysCursor_5 : decode cX12_laysCursor 5 = .ok (.istore_n 2, 1) := by decide +kernel
theorem dX12_laysCursor_6 : decode cX12_laysCursor 6 = .ok (.aload_n 0, 1) := by decide +kernel
theorem dX12_laysCursor_7 : decode cX12_laysCursor 7 = .ok (.getfield 7, 3) := by decide +kernel
theorem dX12_laysCursor_10 : decode cX12_laysCursor 10 = .ok (.iload_n 2, 1) := by decide +kernel
theorem dX12_laysCursor_11 : decode cX12_laysCursor 11 = .ok (.iconst 1, 1) := by decide +kernel
theorem dX12_laysCursor_12 : decode cX12_laysCursor 12 = .ok (.iastore, 1) := by decide +kernel
theorem dX12_laysCursor_13 : decode cX12_laysCursor 13 = .ok (.aload_n 0, 1) := by decide +kernel
theorem dX12_laysCursor_14 : decode cX12_laysCursor 14 = .ok (.getfield 7, 3) := by decide +kernel
theorem dX12_laysCursor_17 : decode cX12_laysCursor 17 = .ok (.iload_n 2, 1) := by decide +kernel
theorem dX12_laysCursor_18 : decode cX12_laysCursor 18 = .ok (.iconst 4, 1) := by decide +kernel
theorem dX12_laysCursor_19 : decode cX12_laysCursor 19 = .ok (.iadd, 1) := by decide +kernel
theorem dX12_laysCursor_20 : decode cX12_laysCursor 20 = .ok (.aload_n 0, 1) := by decide +kernel
theorem dX12_laysCursor_21 : decode cX12_laysCursor 21 = .ok (.getfield 70, 3) := by decide +kernel
theorem dX12_laysCursor_24 : decode cX12_laysCursor 24 = .ok (.iastore, 1) := by decide +kernel
theorem dX12_laysCursor_25 : decode cX12_laysCursor 25 = .ok (.iconst 0, 1) := by decide +kernel
theorem dX12_laysCursor_26 : decode cX12_laysCursor 26 = .ok (.istore_n 3, 1) := by decide +kernel
theorem dX12_laysCursor_27 : decode cX12_laysCursor 27 = .ok (.iload_n 3, 1) := by decide +kernel
theorem dX12_laysCursor_28 : decode cX12_laysCursor 28 = .ok (.bipush 24, 2) := by decide +kernel
theorem dX12_laysCursor_30 : decode cX12_laysCursor 30 = .ok (.if_icmp .ge 37, 3) := by decide +kernel
theorem dX12_laysCursor_33 : decode cX12_laysCursor 33 = .ok (.aload_n 0, 1) := by decide +kernel
theorem dX12_laysCursor_34 : decode cX12_laysCursor 34 = .ok (.getfield 7, 3) := by decide +kernel
theorem dX12_laysCursor_37 : decode cX12_laysCursor 37 = .ok (.iload_n 2, 1) := by decide +kernel
theorem dX12_laysCursor_38 : decode cX12_laysCursor 38 = .ok (.iconst 5, 1) := by decide +kernel
theorem dX12_laysCursor_39 : decode cX12_laysCursor 39 = .ok (.iadd, 1) := by decide +kernel
theorem dX12_laysCursor_40 : decode cX12_laysCursor 40 = .ok (.iload_n 3, 1) := by decide +kernel
theorem dX12_laysCursor_41 : decode cX12_laysCursor 41 = .ok (.iadd, 1) := by decide +kernel
theorem dX12_laysCursor_42 : decode cX12_laysCursor 42 = .ok (.iload_n 3, 1) := by decide +kernel
theorem dX12_laysCursor_43 : decode cX12_laysCursor 43 = .ok (.aload_n 0, 1) := by decide +kernel
theorem dX12_laysCursor_44 : decode cX12_laysCursor 44 = .ok (.getfield 70, 3) := by decide +kernel
theorem dX12_laysCursor_47 : decode cX12_laysCursor 47 = .ok (.if_icmp .ge 12, 3) := by decide +kernel
theorem dX12_laysCursor_50 : decode cX12_laysCursor 50 = .ok (.aload_n 0, 1) := by decide +kernel
theorem dX12_laysCursor_51 : decode cX12_laysCursor 51 = .ok (.getfield 13, 3) := by decide +kernel
theorem dX12_laysCursor_54 : decode cX12_laysCursor 54 = .ok (.iload_n 3, 1) := by decide +kernel
theorem dX12_laysCursor_55 : decode cX12_laysCursor 55 = .ok (.iaload, 1) := by decide +kernel
theorem dX12_laysCursor_56 : decode cX12_laysCursor 56 = .ok (.goto 4, 3) := by decide +kernel
theorem dX12_laysCursor_59 : decode cX12_laysCursor 59 = .ok (.iconst 0, 1) := by decide +kernel
theorem dX12_laysCursor_60 : decode cX12_laysCursor 60 = .ok (.iastore, 1) := by decide +kernel
theorem dX12_laysCursor_61 : decode cX12_laysCursor 61 = .ok (.iinc 3 1, 3) := by decide +kernel
theorem dX12_laysCursor_64 : decode cX12_laysCursor 64 = .ok (.goto (-37), 3) := by decide +kernel
theorem dX12_laysCursor_67 : decode cX12_laysCursor 67 = .ok (.return_, 1) := by decide +kernel
set_option maxRecDepth 20000 in
theorem ggX12_handsCursor_X12_cursorAt : GoodIn wsX12_handsCursor wsX12_cursorAt := goodIn_r _ [8] rfl (by decide +kernel)
set_option maxRecDepth 20000 in
theorem gX12_handsCursor_X12_cursorAt : GoodIn wsX12_handsCursor (wsV RX12 324 RX12 yX12_cursorAt wsX12_cursorAt) := goodIn_app (goodIn_r _ [4, 5, 6, 7] rfl (by decide +kernel)) ggX12_handsCursor_X12_cursorAt
theorem dX12_handsCursor_0 : decode cX12_handsCursor 0 = .ok (.aload_n 0, 1) := by decide +kernel
theorem dX12_handsCursor_1 : decode cX12_handsCursor 1 = .ok (.iload_n 1, 1) := by decide +kernel
theorem dX12_handsCursor_2 : decode cX12_handsCursor 2 = .ok (.invokevirtual 324, 3) := by decide +kernel
theorem dX12_handsCursor_5 : decode cX12_handsCursor 5 = .ok (.istore_n 2, 1) := by decide +kernel
theorem dX12_handsCursor_6 : decode cX12_handsCursor 6 = .ok (.aload_n 0, 1) := by decide +kernel
theorem dX12_handsCursor_7 : decode cX12_handsCursor 7 = .ok (.aload_n 0, 1) := by decide +kernel
theorem dX12_handsCursor_8 : decode cX12_handsCursor 8 = .ok (.getfield 7, 3) := by decide +kernel
theorem dX12_handsCursor_11 : decode cX12_handsCursor 11 = .ok (.iload_n 2, 1) := by decide +kernel
theorem dX12_handsCursor_12 : decode cX12_handsCursor 12 = .ok (.iconst 4, 1) := by decide +kernel
theorem dX12_handsCursor_13 : decode cX12_handsCursor 13 = .ok (.iadd, 1) := by decide +kernel
theorem dX12_handsCursor_14 : decode cX12_handsCursor 14 = .ok (.iaload, 1) := by decide +kernel
theorem dX12_handsCursor_15 : decode cX12_handsCursor 15 = .ok (.putfield 70, 3) := by decide +kernel
theorem dX12_handsCursor_18 : decode cX12_handsCursor 18 = .ok (.iconst 0, 1) := by decide +kernel
theorem dX12_handsCursor_19 : decode cX12_handsCursor 19 = .ok (.istore_n 3, 1) := by decide +kernel
theorem dX12_handsCursor_20 : decode cX12_handsCursor 20 = .ok (.iload_n 3, 1) := by decide +kernel
theorem dX12_handsCursor_21 : decode cX12_handsCursor 21 = .ok (.aload_n 0, 1) := by decide +kernel
theorem dX12_handsCursor_22 : decode cX12_handsCursor 22 = .ok (.getfield 70, 3) := by decide +kernel
theorem dX12_handsCursor_25 : decode cX12_handsCursor 25 = .ok (.if_icmp .ge 25, 3) := by decide +kernel
theorem dX12_handsCursor_28 : decode cX12_handsCursor 28 = .ok (.aload_n 0, 1) := by decide +kernel
theorem dX12_handsCursor_29 : decode cX12_handsCursor 29 = .ok (.getfield 13, 3) := by decide +kernel
theorem dX12_handsCursor_32 : decode cX12_handsCursor 32 = .ok (.iload_n 3, 1) := by decide +kernel
theorem dX12_handsCursor_33 : decode cX12_handsCursor 33 = .ok (.aload_n 0, 1) := by decide +kernel
theorem dX12_handsCursor_34 : decode cX12_handsCursor 34 = .ok (.getfield 7, 3) := by decide +kernel
theorem dX12_handsCursor_37 : decode cX12_handsCursor 37 = .ok (.iload_n 2, 1) := by decide +kernel
theorem dX12_handsCursor_38 : decode cX12_handsCursor 38 = .ok (.iconst 5, 1) := by decide +kernel
theorem dX12_handsCursor_39 : decode cX12_handsCursor 39 = .ok (.iadd, 1) := by decide +kernel
theorem dX12_handsCursor_40 : decode cX12_handsCursor 40 = .ok (.iload_n 3, 1) := by decide +kernel
theorem dX12_handsCursor_41 : decode cX12_handsCursor 41 = .ok (.iadd, 1) := by decide +kernel
theorem dX12_handsCursor_42 : decode cX12_handsCursor 42 = .ok (.iaload, 1) := by decide +kernel
theorem dX12_handsCursor_43 : decode cX12_handsCursor 43 = .ok (.iastore, 1) := by decide +kernel
theorem dX12_handsCursor_44 : decode cX12_handsCursor 44 = .ok (.iinc 3 1, 3) := by decide +kernel
theorem dX12_handsCursor_47 : decode cX12_handsCursor 47 = .ok (.goto (-27), 3) := by decide +kernel
theorem dX12_handsCursor_50 : decode cX12_handsCursor 50 = .ok (.return_, 1) := by decide +kernel
set_option maxRecDepth 20000 in
theorem ggX12_cursor_X12_isCursor : GoodIn wsX12_cursor wsX12_isCursor := goodIn_r _ [5, 6, 7, 4, 8] rfl (by decide +kernel)
set_option maxRecDepth 20000 in
theorem gX12_cursor_X12_isCursor : GoodIn wsX12_cursor (va_wsS RX12 327 yX12_isCursor wsX12_isCursor) := goodIn_app (goodIn_r _ [2, 3, 4] rfl (by decide +kernel)) ggX12_cursor_X12_isCursor
set_option maxRecDepth 20000 in
theorem ggX12_cursor_X12_isLong : GoodIn wsX12_cursor wsX12_isLong := goodIn_r _ [12, 13, 6, 7, 4, 8, 32, 33, 34, 35, 36, 37, 38, 39, 40, 41, 42, 43, 44, 45, 46, 47, 48, 49, 50, 51, 52, 53, 54, 55, 56, 57, 58, 59, 60, 61, 62, 63, 64, 65, 66, 67, 68, 69, 70, 71, 72] rfl (by decide +kernel)
set_option maxRecDepth 20000 in
theorem gX12_cursor_X12_isLong : GoodIn wsX12_cursor (wsV RX12 157 RX12 yX12_isLong wsX12_isLong) := goodIn_app (goodIn_r _ [9, 10, 11, 4] rfl (by decide +kernel)) ggX12_cursor_X12_isLong
set_option maxRecDepth 20000 in
theorem ggX12_cursor_X12_takesKey : GoodIn wsX12_cursor wsX12_takesKey := goodIn_r _ [17, 13, 18, 19, 20, 21, 22, 4, 23, 6, 7, 8, 32, 33, 34, 35, 36, 37, 38, 39, 40, 41, 42, 43, 44, 45, 46, 47, 48, 49, 50, 51, 52, 53, 54, 55, 56, 57, 58, 59, 60, 61, 62, 63, 64, 65, 66, 67, 68, 69, 70, 71, 72] rfl (by decide +kernel)
set_option maxRecDepth 20000 in
theorem gX12_cursor_X12_takesKey : GoodIn wsX12_cursor (wsV RX12 161 RX12 yX12_takesKey wsX12_takesKey) := goodIn_app (goodIn_r _ [14, 15, 16, 4] rfl (by decide +kernel)) ggX12_cursor_X12_takesKey
set_option maxRecDepth 20000 in
theorem ggX12_cursor_X12_laysCursor : GoodIn wsX12_cursor wsX12_laysCursor := goodIn_r _ [27, 1, 18, 19, 28, 29, 30, 4, 31, 32, 33, 34, 35, 36, 37, 38, 39, 40, 41, 42, 43, 44, 45, 46, 47, 48, 49, 50, 51, 52, 53, 54, 55, 56, 57, 58, 59, 60, 61, 62, 63, 64, 65, 66, 67, 68, 69, 70, 71, 72] rfl (by decide +kernel)
set_option maxRecDepth 20000 in
theorem gX12_cursor_X12_laysCursor : GoodIn wsX12_cursor (wsV RX12 330 RX12 yX12_laysCursor wsX12_laysCursor) := goodIn_app (goodIn_r _ [24, 25, 26, 4] rfl (by decide +kernel)) ggX12_cursor_X12_laysCursor
set_option maxRecDepth 20000 in
theorem ggX12_cursor_X12_cursorAt : GoodIn wsX12_cursor wsX12_cursorAt := goodIn_r _ [31] rfl (by decide +kernel)
set_option maxRecDepth 20000 in
theorem gX12_cursor_X12_cursorAt : GoodIn wsX12_cursor (wsV RX12 324 RX12 yX12_cursorAt wsX12_cursorAt) := goodIn_app (goodIn_r _ [28, 29, 30, 4] rfl (by decide +kernel)) ggX12_cursor_X12_cursorAt
theorem dX12_cursor_0 : decode cX12_cursor 0 = .ok (.iload_n 1, 1) := by decide +kernel
theorem dX12_cursor_1 : decode cX12_cursor 1 = .ok (.invokestatic 327, 3) := by decide +kernel
theorem dX12_cursor_4 : decode cX12_cursor 4 = .ok (.ifCond .eq 11, 3) := by decide +kernel
theorem dX12_cursor_7 : decode cX12_cursor 7 = .ok (.aload_n 0, 1) := by decide +kernel
theorem dX12_cursor_8 : decode cX12_cursor 8 = .ok (.iload_n 2, 1) := by decide +kernel
theorem dX12_cursor_9 : decode cX12_cursor 9 = .ok (.invokevirtual 157, 3) := by decide +kernel
theorem dX12_cursor_12 : decode cX12_cursor 12 = .ok (.ifCond .ne 5, 3) := by decide +kernel
theorem dX12_cursor_15 : decode cX12_cursor 15 = .ok (.iconst (-1), 1) := by decide +kernel
theorem dX12_cursor_16 : decode cX12_cursor 16 = .ok (.ireturn, 1) := by decide +kernel
theorem dX12_cursor_17 : decode cX12_cursor 17 = .ok (.aload_n 0, 1) := by decide +kernel
theorem dX12_cursor_18 : decode cX12_cursor 18 = .ok (.iload_n 2, 1) := by decide +kernel
theorem dX12_cursor_19 : decode cX12_cursor 19 = .ok (.invokevirtual 161, 3) := by decide +kernel
theorem dX12_cursor_22 : decode cX12_cursor 22 = .ok (.ifCond .ne 6, 3) := by decide +kernel
theorem dX12_cursor_25 : decode cX12_cursor 25 = .ok (.bipush (-2), 2) := by decide +kernel
theorem dX12_cursor_27 : decode cX12_cursor 27 = .ok (.ireturn, 1) := by decide +kernel
theorem dX12_cursor_28 : decode cX12_cursor 28 = .ok (.aload_n 0, 1) := by decide +kernel
theorem dX12_cursor_29 : decode cX12_cursor 29 = .ok (.iload_n 1, 1) := by decide +kernel
theorem dX12_cursor_30 : decode cX12_cursor 30 = .ok (.invokevirtual 330, 3) := by decide +kernel
theorem dX12_cursor_33 : decode cX12_cursor 33 = .ok (.iconst 1, 1) := by decide +kernel
theorem dX12_cursor_34 : decode cX12_cursor 34 = .ok (.istore_n 3, 1) := by decide +kernel
theorem dX12_cursor_35 : decode cX12_cursor 35 = .ok (.iload_n 3, 1) := by decide +kernel
theorem dX12_cursor_36 : decode cX12_cursor 36 = .ok (.iconst 4, 1) := by decide +kernel
theorem dX12_cursor_37 : decode cX12_cursor 37 = .ok (.if_icmp .ge 22, 3) := by decide +kernel
theorem dX12_cursor_40 : decode cX12_cursor 40 = .ok (.aload_n 0, 1) := by decide +kernel
theorem dX12_cursor_41 : decode cX12_cursor 41 = .ok (.getfield 7, 3) := by decide +kernel
theorem dX12_cursor_44 : decode cX12_cursor 44 = .ok (.aload_n 0, 1) := by decide +kernel
theorem dX12_cursor_45 : decode cX12_cursor 45 = .ok (.iload_n 1, 1) := by decide +kernel
theorem dX12_cursor_46 : decode cX12_cursor 46 = .ok (.invokevirtual 324, 3) := by decide +kernel
theorem dX12_cursor_49 : decode cX12_cursor 49 = .ok (.iload_n 3, 1) := by decide +kernel
theorem dX12_cursor_50 : decode cX12_cursor 50 = .ok (.iadd, 1) := by decide +kernel
theorem dX12_cursor_51 : decode cX12_cursor 51 = .ok (.iconst 0, 1) := by decide +kernel
theorem dX12_cursor_52 : decode cX12_cursor 52 = .ok (.iastore, 1) := by decide +kernel
theorem dX12_cursor_53 : decode cX12_cursor 53 = .ok (.iinc 3 1, 3) := by decide +kernel
theorem dX12_cursor_56 : decode cX12_cursor 56 = .ok (.goto (-21), 3) := by decide +kernel
theorem dX12_cursor_59 : decode cX12_cursor 59 = .ok (.iconst 0, 1) := by decide +kernel
theorem dX12_cursor_60 : decode cX12_cursor 60 = .ok (.ireturn, 1) := by decide +kernel
set_option maxRecDepth 20000 in
theorem ggX12_findsPage_X12_depthOf : GoodIn wsX12_findsPage wsX12_depthOf := goodIn_r _ [10, 11, 12, 13, 2, 14, 15, 16, 9, 17, 18, 19, 20, 21, 22, 23, 24, 25, 26, 27, 28, 29, 30, 31, 32, 33, 34, 35, 36, 37, 38, 64, 65, 66, 67, 68, 69, 70, 71, 72, 73, 74, 75, 76, 77, 78, 79, 80, 81, 82, 83, 84, 85, 86, 87, 88, 89, 90, 91, 92, 93, 94, 95, 96, 97, 98, 99, 100, 101, 102, 103, 104] rfl (by decide +kernel)
set_option maxRecDepth 20000 in
theorem gX12_findsPage_X12_depthOf : GoodIn wsX12_findsPage (wsV RX12 135 RX12 yX12_depthOf wsX12_depthOf) := goodIn_app (goodIn_r _ [6, 7, 8, 9] rfl (by decide +kernel)) ggX12_findsPage_X12_depthOf
set_option maxRecDepth 20000 in
theorem ggX12_findsPage_X12_findsEntries : GoodIn wsX12_findsPage wsX12_findsEntries := goodIn_r _ [42, 11, 43, 2, 13, 44, 4, 27, 28, 29, 9, 30, 31, 32, 33, 34, 35, 36, 37, 38, 12, 18, 19, 20, 21, 22, 23, 24, 25, 26, 45, 46, 47, 48, 64, 65, 66, 67, 68, 69, 70, 71, 72, 73, 74, 75, 76, 77, 78, 79, 80, 81, 82, 83, 84, 85, 86, 87, 88, 89, 90, 91, 92, 93, 94, 95, 96, 97, 98, 99, 100, 101, 102, 103, 104] rfl (by decide +kernel)
set_option maxRecDepth 20000 in
theorem gX12_findsPage_X12_findsEntries : GoodIn wsX12_findsPage (wsV RX12 119 RX12 yX12_findsEntries wsX12_findsEntries) := goodIn_app (goodIn_r _ [39, 40, 41, 9] rfl (by decide +kernel)) ggX12_findsPage_X12_findsEntries
set_option maxRecDepth 20000 in
theorem ggX12_findsPage_X12_entryOf : GoodIn wsX12_findsPage wsX12_entryOf := goodIn_r _ [52, 4, 64, 65, 66, 67, 68, 69, 70, 71, 72, 73, 74, 75, 76, 77, 78, 79, 80, 81, 82, 83, 84, 85, 86, 87, 88, 89, 90, 91, 92, 93, 94, 95, 96, 97, 98, 99, 100, 101, 102, 103, 104] rfl (by decide +kernel)
set_option maxRecDepth 20000 in
theorem gX12_findsPage_X12_entryOf : GoodIn wsX12_findsPage (wsV RX12 126 RX12 yX12_entryOf wsX12_entryOf) := goodIn_app (goodIn_r _ [49, 50, 51, 9] rfl (by decide +kernel)) ggX12_findsPage_X12_entryOf
set_option maxRecDepth 20000 in
theorem ggX12_findsPage_X12_pageBegin : GoodIn wsX12_findsPage wsX12_pageBegin := goodIn_r _ [56, 4, 57, 58, 59, 9, 60, 19, 20, 21, 22, 11, 61, 62, 63, 64, 65, 66, 67, 68, 69, 70, 71, 72, 73, 74, 75, 76, 77, 78, 79, 80, 81, 82, 83, 84, 85, 86, 87, 88, 89, 90, 91, 92, 93, 94, 95, 96, 97, 98, 99, 100, 101, 102, 103, 104] rfl (by decide +kernel)
set_option maxRecDepth 20000 in
theorem gX12_findsPage_X12_pageBegin : GoodIn wsX12_findsPage (wsV RX12 129 RX12 yX12_pageBegin wsX12_pageBegin) := goodIn_app (goodIn_r _ [53, 54, 55, 9] rfl (by decide +kernel)) ggX12_findsPage_X12_pageBegin
theorem dX12_findsPage_0 : decode cX12_findsPage 0 = .ok (.aload_n 0, 1) := by decide +kernel
theorem dX12_findsPage_1 : decode cX12_findsPage 1 = .ok (.aload_n 0, 1) := by decide +kernel
theorem dX12_findsPage_2 : decode cX12_findsPage 2 = .ok (.iload_n 1, 1) := by decide +kernel
theorem dX12_findsPage_3 : decode cX12_findsPage 3 = .ok (.invokevirtual 135, 3) := by decide +kernel
theorem dX12_findsPage_6 : decode cX12_findsPage 6 = .ok (.putfield 333, 3) := by decide +kernel
theorem dX12_findsPage_9 : decode cX12_findsPage 9 = .ok (.aload_n 0, 1) := by decide +kernel
theorem dX12_findsPage_10 : decode cX12_findsPage 10 = .ok (.aload_n 0, 1) := by decide +kernel
theorem dX12_findsPage_11 : decode cX12_findsPage 11 = .ok (.getfield 333, 3) := by decide +kernel
theorem dX12_findsPage_14 : decode cX12_findsPage 14 = .ok (.invokevirtual 119, 3) := by decide +kernel
theorem dX12_findsPage_17 : decode cX12_findsPage 17 = .ok (.aload_n 0, 1) := by decide +kernel
theorem dX12_findsPage_18 : decode cX12_findsPage 18 = .ok (.aload_n 0, 1) := by decide +kernel
theorem dX12_findsPage_19 : decode cX12_findsPage 19 = .ok (.getfield 84, 3) := by decide +kernel
theorem dX12_findsPage_22 : decode cX12_findsPage 22 = .ok (.putfield 336, 3) := by decide +kernel
theorem dX12_findsPage_25 : decode cX12_findsPage 25 = .ok (.aload_n 0, 1) := by decide +kernel
theorem dX12_findsPage_26 : decode cX12_findsPage 26 = .ok (.aload_n 0, 1) := by decide +kernel
theorem dX12_findsPage_27 : decode cX12_findsPage 27 = .ok (.getfield 16, 3) := by decide +kernel
theorem dX12_findsPage_30 : decode cX12_findsPage 30 = .ok (.aload_n 0, 1) := by decide +kernel
theorem dX12_findsPage_31 : decode cX12_findsPage 31 = .ok (.aload_n 0, 1) := by decide +kernel
theorem dX12_findsPage_32 : decode cX12_findsPage 32 = .ok (.iload_n 1, 1) := by decide +kernel
theorem dX12_findsPage_33 : decode cX12_findsPage 33 = .ok (.invokevirtual 126, 3) := by decide +kernel
theorem dX12_findsPage_36 : decode cX12_findsPage 36 = .ok (.aload_n 0, 1) := by decide +kernel
theorem dX12_findsPage_37 : decode cX12_findsPage 37 = .ok (.getfield 333, 3) := by decide +kernel
theorem dX12_findsPage_40 : decode cX12_findsPage 40 = .ok (.invokevirtual 129, 3) := by decide +kernel
theorem dX12_findsPage_43 : decode cX12_findsPage 43 = .ok (.iaload, 1) := by decide +kernel
theorem dX12_findsPage_44 : decode cX12_findsPage 44 = .ok (.putfield 339, 3) := by decide +kernel
theorem dX12_findsPage_47 : decode cX12_findsPage 47 = .ok (.return_, 1) := by decide +kernel
set_option maxRecDepth 20000 in
theorem ggX12_areInOnePage_X12_findsPage : GoodIn wsX12_areInOnePage wsX12_findsPage := goodIn_r _ [8, 1, 9, 2, 10, 3, 11, 12, 13, 7, 14, 15, 16, 17, 18, 19, 20, 21, 22, 23, 24, 25, 26, 27, 28, 29, 30, 31, 32, 33, 34, 35, 36, 37, 38, 39, 40, 41, 42, 43, 44, 45, 46, 47, 48, 49, 50, 51, 52, 53, 54, 55, 56, 57, 58, 59, 60, 61, 62, 63, 64, 65, 66, 67, 68, 69, 70, 71, 72, 73, 74, 75, 76, 77, 78, 79, 80, 81, 82, 83, 84, 85, 86, 87, 88, 89, 90, 91, 92, 93, 94, 95, 96, 97, 98, 99, 100, 101, 102, 103, 104, 105, 106, 107, 108] rfl (by decide +kernel)
set_option maxRecDepth 20000 in
theorem gX12_areInOnePage_X12_findsPage : GoodIn wsX12_areInOnePage (wsV RX12 342 RX12 yX12_findsPage wsX12_findsPage) := goodIn_app (goodIn_r _ [4, 5, 6, 7] rfl (by decide +kernel)) ggX12_areInOnePage_X12_findsPage
theorem dX12_areInOnePage_0 : decode cX12_areInOnePage 0 = .ok (.aload_n 0, 1) := by decide +kernel
theorem dX12_areInOnePage_1 : decode cX12_areInOnePage 1 = .ok (.iload_n 1, 1) := by decide +kernel
theorem dX12_areInOnePage_2 : decode cX12_areInOnePage 2 = .ok (.invokevirtual 342, 3) := by decide +kernel
theorem dX12_areInOnePage_5 : decode cX12_areInOnePage 5 = .ok (.aload_n 0, 1) := by decide +kernel
theorem dX12_areInOnePage_6 : decode cX12_areInOnePage 6 = .ok (.getfield 333, 3) := by decide +kernel
theorem dX12_areInOnePage_9 : decode cX12_areInOnePage 9 = .ok (.istore_n 3, 1) := by decide +kernel
theorem dX12_areInOnePage_10 : decode cX12_areInOnePage 10 = .ok (.aload_n 0, 1) := by decide +kernel
theorem dX12_areInOnePage_11 : decode cX12_areInOnePage 11 = .ok (.getfield 336, 3) := by decide +kernel
theorem dX12_areInOnePage_14 : decode cX12_areInOnePage 14 = .ok (.istore 4, 2) := by decide +kernel
theorem dX12_areInOnePage_16 : decode cX12_areInOnePage 16 = .ok (.aload_n 0, 1) := by decide +kernel
theorem dX12_areInOnePage_17 : decode cX12_areInOnePage 17 = .ok (.getfield 339, 3) := by decide +kernel
theorem dX12_areInOnePage_20 : decode cX12_areInOnePage 20 = .ok (.istore 5, 2) := by decide +kernel
theorem dX12_areInOnePage_22 : decode cX12_areInOnePage 22 = .ok (.aload_n 0, 1) := by decide +kernel
theorem dX12_areInOnePage_23 : decode cX12_areInOnePage 23 = .ok (.iload_n 2, 1) := by decide +kernel
theorem dX12_areInOnePage_24 : decode cX12_areInOnePage 24 = .ok (.invokevirtual 342, 3) := by decide +kernel
theorem dX12_areInOnePage_27 : decode cX12_areInOnePage 27 = .ok (.iload_n 3, 1) := by decide +kernel
theorem dX12_areInOnePage_28 : decode cX12_areInOnePage 28 = .ok (.aload_n 0, 1) := by decide +kernel
theorem dX12_areInOnePage_29 : decode cX12_areInOnePage 29 = .ok (.getfield 333, 3) := by decide +kernel
theorem dX12_areInOnePage_32 : decode cX12_areInOnePage 32 = .ok (.if_icmp .ne 25, 3) := by decide +kernel
theorem dX12_areInOnePage_35 : decode cX12_areInOnePage 35 = .ok (.iload 4, 2) := by decide +kernel
theorem dX12_areInOnePage_37 : decode cX12_areInOnePage 37 = .ok (.aload_n 0, 1) := by decide +kernel
theorem dX12_areInOnePage_38 : decode cX12_areInOnePage 38 = .ok (.getfield 336, 3) := by decide +kernel
theorem dX12_areInOnePage_41 : decode cX12_areInOnePage 41 = .ok (.if_icmp .ne 16, 3) := by decide +kernel
theorem dX12_areInOnePage_44 : decode cX12_areInOnePage 44 = .ok (.iload 5, 2) := by decide +kernel
theorem dX12_areInOnePage_46 : decode cX12_areInOnePage 46 = .ok (.aload_n 0, 1) := by decide +kernel
theorem dX12_areInOnePage_47 : decode cX12_areInOnePage 47 = .ok (.getfield 339, 3) := by decide +kernel
theorem dX12_areInOnePage_50 : decode cX12_areInOnePage 50 = .ok (.if_icmp .ne 7, 3) := by decide +kernel
theorem dX12_areInOnePage_53 : decode cX12_areInOnePage 53 = .ok (.iconst 1, 1) := by decide +kernel
theorem dX12_areInOnePage_54 : decode cX12_areInOnePage 54 = .ok (.goto 4, 3) := by decide +kernel
theorem dX12_areInOnePage_57 : decode cX12_areInOnePage 57 = .ok (.iconst 0, 1) := by decide +kernel
theorem dX12_areInOnePage_58 : decode cX12_areInOnePage 58 = .ok (.ireturn, 1) := by decide +kernel
set_option maxRecDepth 20000 in
theorem ggX12_step_X12_isCursor : GoodIn wsX12_step wsX12_isCursor := goodIn_r _ [5, 6, 7, 4, 8] rfl (by decide +kernel)
set_option maxRecDepth 20000 in
theorem gX12_step_X12_isCursor : GoodIn wsX12_step (va_wsS RX12 327 yX12_isCursor wsX12_isCursor) := goodIn_app (goodIn_r _ [2, 3, 4] rfl (by decide +kernel)) ggX12_step_X12_isCursor
set_option maxRecDepth 20000 in
theorem ggX12_step_X12_cursorAt : GoodIn wsX12_step wsX12_cursorAt := goodIn_r _ [12] rfl (by decide +kernel)
set_option maxRecDepth 20000 in
theorem gX12_step_X12_cursorAt : GoodIn wsX12_step (wsV RX12 324 RX12 yX12_cursorAt wsX12_cursorAt) := goodIn_app (goodIn_r _ [9, 10, 11, 4] rfl (by decide +kernel)) ggX12_step_X12_cursorAt
set_option maxRecDepth 20000 in
theorem ggX12_step_X12_handsCursor : GoodIn wsX12_step wsX12_handsCursor := goodIn_r _ [16, 1, 17, 18, 9, 10, 11, 4, 12, 106, 107, 108, 109, 110, 111, 112, 113, 114, 115, 116, 117, 118, 119, 120, 121, 122, 123, 124, 125, 126, 127, 128, 129, 130, 131, 132, 133, 134, 135, 136, 137, 138, 139, 140, 141, 142, 143, 144, 145, 146] rfl (by decide +kernel)
set_option maxRecDepth 20000 in
theorem gX12_step_X12_handsCursor : GoodIn wsX12_step (wsV RX12 345 RX12 yX12_handsCursor wsX12_handsCursor) := goodIn_app (goodIn_r _ [13, 14, 15, 4] rfl (by decide +kernel)) ggX12_step_X12_handsCursor
set_option maxRecDepth 20000 in
theorem ggX12_step_X12_rankOfHand : GoodIn wsX12_step wsX12_rankOfHand := goodIn_r _ [22, 23, 24, 25, 4, 26, 1, 27, 28, 29, 30, 17, 18, 31, 32, 33, 34, 35, 36, 37, 38, 106, 107, 108, 109, 110, 111, 112, 113, 114, 115, 116, 117, 118, 119, 120, 121, 122, 123, 124, 125, 126, 127, 128, 129, 130, 131, 132, 133, 134, 135, 136, 137, 138, 139, 140, 141, 142, 143, 144, 145, 146] rfl (by decide +kernel)
set_option maxRecDepth 20000 in
theorem gX12_step_X12_rankOfHand : GoodIn wsX12_step (wsV RX12 81 RX12 yX12_rankOfHand wsX12_rankOfHand) := goodIn_app (goodIn_r _ [19, 20, 21, 4] rfl (by decide +kernel)) ggX12_step_X12_rankOfHand
set_option maxRecDepth 20000 in
theorem ggX12_step_X12_isHandThere : GoodIn wsX12_step wsX12_isHandThere := goodIn_r _ [42, 19, 20, 21, 4, 22, 23, 24, 25, 26, 1, 27, 28, 29, 30, 17, 18, 31, 32, 33, 34, 35, 36, 37, 38, 106, 107, 108, 109, 110, 111, 112, 113, 114, 115, 116, 117, 118, 119, 120, 121, 122, 123, 124, 125, 126, 127, 128, 129, 130, 131, 132, 133, 134, 135, 136, 137, 138, 139, 140, 141, 142, 143, 144, 145, 146] rfl (by decide +kernel)
set_option maxRecDepth 20000 in
theorem gX12_step_X12_isHandThere : GoodIn wsX12_step (wsV RX12 167 RX12 yX12_isHandThere wsX12_isHandThere) := goodIn_app (goodIn_r _ [39, 40, 41, 4] rfl (by decide +kernel)) ggX12_step_X12_isHandThere
set_option maxRecDepth 20000 in
theorem ggX12_step_X12_isThere : GoodIn wsX12_step wsX12_isThere := goodIn_r _ [46, 23, 24, 25, 4, 26, 1, 6, 7, 8, 106, 107, 108, 109, 110, 111, 112, 113, 114, 115, 116, 117, 118, 119, 120, 121, 122, 123, 124, 125, 126, 127, 128, 129, 130, 131, 132, 133, 134, 135, 136, 137, 138, 139, 140, 141, 142, 143, 144, 145, 146] rfl (by decide +kernel)
set_option maxRecDepth 20000 in
theorem gX12_step_X12_isThere : GoodIn wsX12_step (wsV RX12 309 RX12 yX12_isThere wsX12_isThere) := goodIn_app (goodIn_r _ [43, 44, 45, 4] rfl (by decide +kernel)) ggX12_step_X12_isThere
set_option maxRecDepth 20000 in
theorem ggX12_step_X12_areInOnePage : GoodIn wsX12_step wsX12_areInOnePage := goodIn_r _ [50, 51, 52, 53, 54, 55, 56, 4, 57, 58, 59, 60, 61, 62, 63, 1, 17, 64, 65, 66, 67, 68, 18, 31, 32, 33, 34, 35, 36, 37, 38, 69, 70, 71, 72, 23, 24, 25, 26, 73, 74, 75, 76, 77, 78, 79, 80, 81, 82, 83, 84, 85, 86, 87, 88, 89, 90, 91, 92, 93, 94, 95, 96, 97, 98, 99, 100, 101, 106, 107, 108, 109, 110, 111, 112, 113, 114, 115, 116, 117, 118, 119, 120, 121, 122, 123, 124, 125, 126, 127, 128, 129, 130, 131, 132, 133, 134, 135, 136, 137, 138, 139, 140, 141, 142, 143, 144, 145, 146] rfl (by decide +kernel)
set_option maxRecDepth 20000 in
theorem gX12_step_X12_areInOnePage : GoodIn wsX12_step (wsV RX12 348 RX12 yX12_areInOnePage wsX12_areInOnePage) := goodIn_app (goodIn_r _ [47, 48, 49, 4] rfl (by decide +kernel)) ggX12_step_X12_areInOnePage
set_option maxRecDepth 20000 in
theorem ggX12_step_X12_takesHand : GoodIn wsX12_step wsX12_takesHand := goodIn_r _ [68, 17, 18, 31, 32, 33, 4, 34, 1, 35, 36, 37, 38, 106, 107, 108, 109, 110, 111, 112, 113, 114, 115, 116, 117, 118, 119, 120, 121, 122, 123, 124, 125, 126, 127, 128, 129, 130, 131, 132, 133, 134, 135, 136, 137, 138, 139, 140, 141, 142, 143, 144, 145, 146] rfl (by decide +kernel)
set_option maxRecDepth 20000 in
theorem gX12_step_X12_takesHand : GoodIn wsX12_step (wsV RX12 106 RX12 yX12_takesHand wsX12_takesHand) := goodIn_app (goodIn_r _ [65, 66, 67, 4] rfl (by decide +kernel)) ggX12_step_X12_takesHand
set_option maxRecDepth 20000 in
theorem ggX12_step_X12_laysCursor : GoodIn wsX12_step wsX12_laysCursor := goodIn_r _ [105, 1, 17, 18, 9, 10, 11, 4, 12, 106, 107, 108, 109, 110, 111, 112, 113, 114, 115, 116, 117, 118, 119, 120, 121, 122, 123, 124, 125, 126, 127, 128, 129, 130, 131, 132, 133, 134, 135, 136, 137, 138, 139, 140, 141, 142, 143, 144, 145, 146] rfl (by decide +kernel)
set_option maxRecDepth 20000 in
theorem gX12_step_X12_laysCursor : GoodIn wsX12_step (wsV RX12 330 RX12 yX12_laysCursor wsX12_laysCursor) := goodIn_app (goodIn_r _ [102, 103, 104, 4] rfl (by decide +kernel)) ggX12_step_X12_laysCursor
theorem dX12_step_0 : decode cX12_step 0 = .ok (.iload_n 1, 1) := by decide +kernel
theorem dX12_step_1 : decode cX12_step 1 = .ok (.invokestatic 327, 3) := by decide +kernel
theorem dX12_step_4 : decode cX12_step 4 = .ok (.ifCond .ne 5, 3) := by decide +kernel
theorem dX12_step_7 : decode cX12_step 7 = .ok (.iconst (-1), 1) := by decide +kernel
theorem dX12_step_8 : decode cX12_step 8 = .ok (.ireturn, 1) := by decide +kernel
theorem dX12_step_9 : decode cX12_step 9 = .ok (.aload_n 0, 1) := by decide +kernel
theorem dX12_step_10 : decode cX12_step 10 = .ok (.getfield 7, 3) := by decide +kernel
theorem dX12_step_13 : decode cX12_step 13 = .ok (.aload_n 0, 1) := by decide +kernel
theorem dX12_step_14 : decode cX12_step 14 = .ok (.iload_n 1, 1) := by decide +kernel
theorem dX12_step_15 : decode cX12_step 15 = .ok (.invokevirtual 324, 3) := by decide +kernel
theorem dX12_step_18 : decode cX12_step 18 = .ok (.iaload, 1) := by decide +kernel
theorem dX12_step_19 : decode cX12_step 19 = .ok (.ifCond .ne 6, 3) := by decide +kernel
theorem dX12_step_22 : decode cX12_step 22 = .ok (.bipush (-4), 2) := by decide +kernel
theorem dX12_step_24 : decode cX12_step 24 = .ok (.ireturn, 1) := by decide +kernel
theorem dX12_step_25 : decode cX12_step 25 = .ok (.aload_n 0, 1) := by decide +kernel
theorem dX12_step_26 : decode cX12_step 26 = .ok (.iload_n 1, 1) := by decide +kernel
theorem dX12_step_27 : decode cX12_step 27 = .ok (.invokevirtual 345, 3) := by decide +kernel
theorem dX12_step_30 : decode cX12_step 30 = .ok (.aload_n 0, 1) := by decide +kernel
theorem dX12_step_31 : decode cX12_step 31 = .ok (.invokevirtual 81, 3) := by decide +kernel
theorem dX12_step_34 : decode cX12_step 34 = .ok (.istore_n 3, 1) := by decide +kernel
theorem dX12_step_35 : decode cX12_step 35 = .ok (.aload_n 0, 1) := by decide +kernel
theorem dX12_step_36 : decode cX12_step 36 = .ok (.invokevirtual 167, 3) := by decide +kernel
theorem dX12_step_39 : decode cX12_step 39 = .ok (.istore 4, 2) := by decide +kernel
theorem dX12_step_41 : decode cX12_step 41 = .ok (.iload_n 2, 1) := by decide +kernel
theorem dX12_step_42 : decode cX12_step 42 = .ok (.ifCond .ne 9, 3) := by decide +kernel
theorem dX12_step_45 : decode cX12_step 45 = .ok (.iload_n 3, 1) := by decide +kernel
theorem dX12_step_46 : decode cX12_step 46 = .ok (.iconst 1, 1) := by decide +kernel
theorem dX12_step_47 : decode cX12_step 47 = .ok (.isub, 1) := by decide +kernel
theorem dX12_step_48 : decode cX12_step 48 = .ok (.goto 15, 3) := by decide +kernel
theorem dX12_step_51 : decode cX12_step 51 = .ok (.iload 4, 2) := by decide +kernel
theorem dX12_step_53 : decode cX12_step 53 = .ok (.ifCond .eq 9, 3) := by decide +kernel
theorem dX12_step_56 : decode cX12_step 56 = .ok (.iload_n 3, 1) := by decide +kernel
theorem dX12_step_57 : decode cX12_step 57 = .ok (.iconst 1, 1) := by decide +kernel
theorem dX12_step_58 : decode cX12_step 58 = .ok (.iadd, 1) := by decide +kernel
theorem dX12_step_59 : decode cX12_step 59 = .ok (.goto 4, 3) := by decide +kernel
theorem dX12_step_62 : decode cX12_step 62 = .ok (.iload_n 3, 1) := by decide +kernel
theorem dX12_step_63 : decode cX12_step 63 = .ok (.istore 5, 2) := by decide +kernel
theorem dX12_step_65 : decode cX12_step 65 = .ok (.aload_n 0, 1) := by decide +kernel
theorem dX12_step_66 : decode cX12_step 66 = .ok (.iload 5, 2) := by decide +kernel
theorem dX12_step_68 : decode cX12_step 68 = .ok (.invokevirtual 309, 3) := by decide +kernel
theorem dX12_step_71 : decode cX12_step 71 = .ok (.ifCond .ne 6, 3) := by decide +kernel
theorem dX12_step_74 : decode cX12_step 74 = .ok (.bipush (-3), 2) := by decide +kernel
theorem dX12_step_76 : decode cX12_step 76 = .ok (.ireturn, 1) := by decide +kernel
theorem dX12_step_77 : decode cX12_step 77 = .ok (.iload 4, 2) := by decide +kernel
theorem dX12_step_79 : decode cX12_step 79 = .ok (.ifCond .ne 7, 3) := by decide +kernel
theorem dX12_step_82 : decode cX12_step 82 = .ok (.iconst 3, 1) := by decide +kernel
theorem dX12_step_83 : decode cX12_step 83 = .ok (.goto 18, 3) := by decide +kernel
theorem dX12_step_86 : decode cX12_step 86 = .ok (.aload_n 0, 1) := by decide +kernel
theorem dX12_step_87 : decode cX12_step 87 = .ok (.iload_n 3, 1) := by decide +kernel
theorem dX12_step_88 : decode cX12_step 88 = .ok (.iload 5, 2) := by decide +kernel
theorem dX12_step_90 : decode cX12_step 90 = .ok (.invokevirtual 348, 3) := by decide +kernel
theorem dX12_step_93 : decode cX12_step 93 = .ok (.ifCond .eq 7, 3) := by decide +kernel
theorem dX12_step_96 : decode cX12_step 96 = .ok (.iconst 1, 1) := by decide +kernel
theorem dX12_step_97 : decode cX12_step 97 = .ok (.goto 4, 3) := by decide +kernel
theorem dX12_step_100 : decode cX12_step 100 = .ok (.iconst 2, 1) := by decide +kernel
theorem dX12_step_101 : decode cX12_step 101 = .ok (.istore 6, 2) := by decide +kernel
theorem dX12_step_103 : decode cX12_step 103 = .ok (.aload_n 0, 1) := by decide +kernel
theorem dX12_step_104 : decode cX12_step 104 = .ok (.getfield 7, 3) := by decide +kernel
theorem dX12_step_107 : decode cX12_step 107 = .ok (.aload_n 0, 1) := by decide +kernel
theorem dX12_step_108 : decode cX12_step 108 = .ok (.iload_n 1, 1) := by decide +kernel
theorem dX12_step_109 : decode cX12_step 109 = .ok (.invokevirtual 324, 3) := by decide +kernel
theorem dX12_step_112 : decode cX12_step 112 = .ok (.iload 6, 2) := by decide +kernel
theorem dX12_step_114 : decode cX12_step 114 = .ok (.iadd, 1) := by decide +kernel
theorem dX12_step_115 : decode cX12_step 115 = .ok (.aload_n 0, 1) := by decide +kernel
theorem dX12_step_116 : decode cX12_step 116 = .ok (.getfield 7, 3) := by decide +kernel
theorem dX12_step_119 : decode cX12_step 119 = .ok (.aload_n 0, 1) := by decide +kernel
theorem dX12_step_120 : decode cX12_step 120 = .ok (.iload_n 1, 1) := by decide +kernel
theorem dX12_step_121 : decode cX12_step 121 = .ok (.invokevirtual 324, 3) := by decide +kernel
theorem dX12_step_124 : decode cX12_step 124 = .ok (.iload 6, 2) := by decide +kernel
theorem dX12_step_126 : decode cX12_step 126 = .ok (.iadd, 1) := by decide +kernel
theorem dX12_step_127 : decode cX12_step 127 = .ok (.iaload, 1) := by decide +kernel
theorem dX12_step_128 : decode cX12_step 128 = .ok (.iconst 1, 1) := by decide +kernel
theorem dX12_step_129 : decode cX12_step 129 = .ok (.iadd, 1) := by decide +kernel
theorem dX12_step_130 : decode cX12_step 130 = .ok (.iastore, 1) := by decide +kernel
theorem dX12_step_131 : decode cX12_step 131 = .ok (.aload_n 0, 1) := by decide +kernel
theorem dX12_step_132 : decode cX12_step 132 = .ok (.iload 5, 2) := by decide +kernel
theorem dX12_step_134 : decode cX12_step 134 = .ok (.invokevirtual 106, 3) := by decide +kernel
theorem dX12_step_137 : decode cX12_step 137 = .ok (.aload_n 0, 1) := by decide +kernel
theorem dX12_step_138 : decode cX12_step 138 = .ok (.iload_n 1, 1) := by decide +kernel
theorem dX12_step_139 : decode cX12_step 139 = .ok (.invokevirtual 330, 3) := by decide +kernel
theorem dX12_step_142 : decode cX12_step 142 = .ok (.iload 5, 2) := by decide +kernel
theorem dX12_step_144 : decode cX12_step 144 = .ok (.ireturn, 1) := by decide +kernel
set_option maxRecDepth 20000 in
theorem ggX12_cursorIs_X12_isCursor : GoodIn wsX12_cursorIs wsX12_isCursor := goodIn_r _ [5, 6, 7, 4, 8] rfl (by decide +kernel)
set_option maxRecDepth 20000 in
theorem gX12_cursorIs_X12_isCursor : GoodIn wsX12_cursorIs (va_wsS RX12 327 yX12_isCursor wsX12_isCursor) := goodIn_app (goodIn_r _ [2, 3, 4] rfl (by decide +kernel)) ggX12_cursorIs_X12_isCursor
set_option maxRecDepth 20000 in
theorem ggX12_cursorIs_X12_cursorAt : GoodIn wsX12_cursorIs wsX12_cursorAt := goodIn_r _ [12] rfl (by decide +kernel)
set_option maxRecDepth 20000 in
theorem gX12_cursorIs_X12_cursorAt : GoodIn wsX12_cursorIs (wsV RX12 324 RX12 yX12_cursorAt wsX12_cursorAt) := goodIn_app (goodIn_r _ [9, 10, 11, 4] rfl (by decide +kernel)) ggX12_cursorIs_X12_cursorAt
set_option maxRecDepth 20000 in
theorem ggX12_cursorIs_X12_in : GoodIn wsX12_cursorIs wsX12_in := goodIn_r _ [8] rfl (by decide +kernel)
set_option maxRecDepth 20000 in
theorem gX12_cursorIs_X12_in : GoodIn wsX12_cursorIs (va_wsS RX12 66 yX12_in wsX12_in) := goodIn_app (goodIn_r _ [6, 7, 4] rfl (by decide +kernel)) ggX12_cursorIs_X12_in
set_option maxRecDepth 20000 in
theorem ggX12_cursorIs_X12_handsCursor : GoodIn wsX12_cursorIs wsX12_handsCursor := goodIn_r _ [16, 1, 17, 18, 9, 10, 11, 4, 12, 43, 44, 45, 46, 47, 48, 49, 50, 51, 52, 53, 54, 55, 56, 57, 58, 59, 60, 61, 62, 63, 64, 65, 66, 67, 68, 69, 70, 71, 72, 73, 74, 75, 76, 77, 78, 79, 80, 81, 82, 83] rfl (by decide +kernel)
set_option maxRecDepth 20000 in
theorem gX12_cursorIs_X12_handsCursor : GoodIn wsX12_cursorIs (wsV RX12 345 RX12 yX12_handsCursor wsX12_handsCursor) := goodIn_app (goodIn_r _ [13, 14, 15, 4] rfl (by decide +kernel)) ggX12_cursorIs_X12_handsCursor
set_option maxRecDepth 20000 in
theorem ggX12_cursorIs_X12_isHandThere : GoodIn wsX12_cursorIs wsX12_isHandThere := goodIn_r _ [22, 23, 24, 25, 4, 26, 27, 28, 29, 30, 1, 31, 32, 33, 34, 17, 18, 35, 36, 37, 38, 39, 40, 41, 42, 43, 44, 45, 46, 47, 48, 49, 50, 51, 52, 53, 54, 55, 56, 57, 58, 59, 60, 61, 62, 63, 64, 65, 66, 67, 68, 69, 70, 71, 72, 73, 74, 75, 76, 77, 78, 79, 80, 81, 82, 83] rfl (by decide +kernel)
set_option maxRecDepth 20000 in
theorem gX12_cursorIs_X12_isHandThere : GoodIn wsX12_cursorIs (wsV RX12 167 RX12 yX12_isHandThere wsX12_isHandThere) := goodIn_app (goodIn_r _ [19, 20, 21, 4] rfl (by decide +kernel)) ggX12_cursorIs_X12_isHandThere
set_option maxRecDepth 20000 in
theorem ggX12_cursorIs_X12_rankOfHand : GoodIn wsX12_cursorIs wsX12_rankOfHand := goodIn_r _ [26, 27, 28, 29, 4, 30, 1, 31, 32, 33, 34, 17, 18, 35, 36, 37, 38, 39, 40, 41, 42, 43, 44, 45, 46, 47, 48, 49, 50, 51, 52, 53, 54, 55, 56, 57, 58, 59, 60, 61, 62, 63, 64, 65, 66, 67, 68, 69, 70, 71, 72, 73, 74, 75, 76, 77, 78, 79, 80, 81, 82, 83] rfl (by decide +kernel)
set_option maxRecDepth 20000 in
theorem gX12_cursorIs_X12_rankOfHand : GoodIn wsX12_cursorIs (wsV RX12 81 RX12 yX12_rankOfHand wsX12_rankOfHand) := goodIn_app (goodIn_r _ [23, 24, 25, 4] rfl (by decide +kernel)) ggX12_cursorIs_X12_rankOfHand
theorem dX12_cursorIs_0 : decode cX12_cursorIs 0 = .ok (.iload_n 1, 1) := by decide +kernel
theorem dX12_cursorIs_1 : decode cX12_cursorIs 1 = .ok (.invokestatic 327, 3) := by decide +kernel
theorem dX12_cursorIs_4 : decode cX12_cursorIs 4 = .ok (.ifCond .eq 16, 3) := by decide +kernel
theorem dX12_cursorIs_7 : decode cX12_cursorIs 7 = .ok (.aload_n 0, 1) := by decide +kernel
theorem dX12_cursorIs_8 : decode cX12_cursorIs 8 = .ok (.getfield 7, 3) := by decide +kernel
theorem dX12_cursorIs_11 : decode cX12_cursorIs 11 = .ok (.aload_n 0, 1) := by decide +kernel
theorem dX12_cursorIs_12 : decode cX12_cursorIs 12 = .ok (.iload_n 1, 1) := by decide +kernel
theorem dX12_cursorIs_13 : decode cX12_cursorIs 13 = .ok (.invokevirtual 324, 3) := by decide +kernel
theorem dX12_cursorIs_16 : decode cX12_cursorIs 16 = .ok (.iaload, 1) := by decide +kernel
theorem dX12_cursorIs_17 : decode cX12_cursorIs 17 = .ok (.ifCond .ne 5, 3) := by decide +kernel
theorem dX12_cursorIs_20 : decode cX12_cursorIs 20 = .ok (.iconst (-1), 1) := by decide +kernel
theorem dX12_cursorIs_21 : decode cX12_cursorIs 21 = .ok (.ireturn, 1) := by decide +kernel
theorem dX12_cursorIs_22 : decode cX12_cursorIs 22 = .ok (.iload_n 2, 1) := by decide +kernel
theorem dX12_cursorIs_23 : decode cX12_cursorIs 23 = .ok (.bipush 10, 2) := by decide +kernel
theorem dX12_cursorIs_25 : decode cX12_cursorIs 25 = .ok (.bipush 33, 2) := by decide +kernel
theorem dX12_cursorIs_27 : decode cX12_cursorIs 27 = .ok (.invokestatic 66, 3) := by decide +kernel
theorem dX12_cursorIs_30 : decode cX12_cursorIs 30 = .ok (.ifCond .eq 45, 3) := by decide +kernel
theorem dX12_cursorIs_33 : decode cX12_cursorIs 33 = .ok (.iload_n 2, 1) := by decide +kernel
theorem dX12_cursorIs_34 : decode cX12_cursorIs 34 = .ok (.bipush 10, 2) := by decide +kernel
theorem dX12_cursorIs_36 : decode cX12_cursorIs 36 = .ok (.isub, 1) := by decide +kernel
theorem dX12_cursorIs_37 : decode cX12_cursorIs 37 = .ok (.aload_n 0, 1) := by decide +kernel
theorem dX12_cursorIs_38 : decode cX12_cursorIs 38 = .ok (.getfield 7, 3) := by decide +kernel
theorem dX12_cursorIs_41 : decode cX12_cursorIs 41 = .ok (.aload_n 0, 1) := by decide +kernel
theorem dX12_cursorIs_42 : decode cX12_cursorIs 42 = .ok (.iload_n 1, 1) := by decide +kernel
theorem dX12_cursorIs_43 : decode cX12_cursorIs 43 = .ok (.invokevirtual 324, 3) := by decide +kernel
theorem dX12_cursorIs_46 : decode cX12_cursorIs 46 = .ok (.iconst 4, 1) := by decide +kernel
theorem dX12_cursorIs_47 : decode cX12_cursorIs 47 = .ok (.iadd, 1) := by decide +kernel
theorem dX12_cursorIs_48 : decode cX12_cursorIs 48 = .ok (.iaload, 1) := by decide +kernel
theorem dX12_cursorIs_49 : decode cX12_cursorIs 49 = .ok (.if_icmp .ge 23, 3) := by decide +kernel
theorem dX12_cursorIs_52 : decode cX12_cursorIs 52 = .ok (.aload_n 0, 1) := by decide +kernel
theorem dX12_cursorIs_53 : decode cX12_cursorIs 53 = .ok (.getfield 7, 3) := by decide +kernel
theorem dX12_cursorIs_56 : decode cX12_cursorIs 56 = .ok (.aload_n 0, 1) := by decide +kernel
theorem dX12_cursorIs_57 : decode cX12_cursorIs 57 = .ok (.iload_n 1, 1) := by decide +kernel
theorem dX12_cursorIs_58 : decode cX12_cursorIs 58 = .ok (.invokevirtual 324, 3) := by decide +kernel
theorem dX12_cursorIs_61 : decode cX12_cursorIs 61 = .ok (.iconst 5, 1) := by decide +kernel
theorem dX12_cursorIs_62 : decode cX12_cursorIs 62 = .ok (.iadd, 1) := by decide +kernel
theorem dX12_cursorIs_63 : decode cX12_cursorIs 63 = .ok (.iload_n 2, 1) := by decide +kernel
theorem dX12_cursorIs_64 : decode cX12_cursorIs 64 = .ok (.iadd, 1) := by decide +kernel
theorem dX12_cursorIs_65 : decode cX12_cursorIs 65 = .ok (.bipush 10, 2) := by decide +kernel
theorem dX12_cursorIs_67 : decode cX12_cursorIs 67 = .ok (.isub, 1) := by decide +kernel
theorem dX12_cursorIs_68 : decode cX12_cursorIs 68 = .ok (.iaload, 1) := by decide +kernel
theorem dX12_cursorIs_69 : decode cX12_cursorIs 69 = .ok (.goto 5, 3) := by decide +kernel
theorem dX12_cursorIs_72 : decode cX12_cursorIs 72 = .ok (.bipush (-4), 2) := by decide +kernel
theorem dX12_cursorIs_74 : decode cX12_cursorIs 74 = .ok (.ireturn, 1) := by decide +kernel
theorem dX12_cursorIs_75 : decode cX12_cursorIs 75 = .ok (.iload_n 2, 1) := by decide +kernel
theorem dX12_cursorIs_76 : decode cX12_cursorIs 76 = .ok (.iconst 0, 1) := by decide +kernel
theorem dX12_cursorIs_77 : decode cX12_cursorIs 77 = .ok (.iconst 3, 1) := by decide +kernel
theorem dX12_cursorIs_78 : decode cX12_cursorIs 78 = .ok (.invokestatic 66, 3) := by decide +kernel
theorem dX12_cursorIs_81 : decode cX12_cursorIs 81 = .ok (.ifCond .ne 5, 3) := by decide +kernel
theorem dX12_cursorIs_84 : decode cX12_cursorIs 84 = .ok (.iconst (-1), 1) := by decide +kernel
theorem dX12_cursorIs_85 : decode cX12_cursorIs 85 = .ok (.ireturn, 1) := by decide +kernel
theorem dX12_cursorIs_86 : decode cX12_cursorIs 86 = .ok (.aload_n 0, 1) := by decide +kernel
theorem dX12_cursorIs_87 : decode cX12_cursorIs 87 = .ok (.iload_n 1, 1) := by decide +kernel
theorem dX12_cursorIs_88 : decode cX12_cursorIs 88 = .ok (.invokevirtual 345, 3) := by decide +kernel
theorem dX12_cursorIs_91 : decode cX12_cursorIs 91 = .ok (.iload_n 2, 1) := by decide +kernel
theorem dX12_cursorIs_92 : decode cX12_cursorIs 92 = .ok (.ifCond .le 18, 3) := by decide +kernel
theorem dX12_cursorIs_95 : decode cX12_cursorIs 95 = .ok (.aload_n 0, 1) := by decide +kernel
theorem dX12_cursorIs_96 : decode cX12_cursorIs 96 = .ok (.getfield 7, 3) := by decide +kernel
theorem dX12_cursorIs_99 : decode cX12_cursorIs 99 = .ok (.aload_n 0, 1) := by decide +kernel
theorem dX12_cursorIs_100 : decode cX12_cursorIs 100 = .ok (.iload_n 1, 1) := by decide +kernel
theorem dX12_cursorIs_101 : decode cX12_cursorIs 101 = .ok (.invokevirtual 324, 3) := by decide +kernel
theorem dX12_cursorIs_104 : decode cX12_cursorIs 104 = .ok (.iload_n 2, 1) := by decide +kernel
theorem dX12_cursorIs_105 : decode cX12_cursorIs 105 = .ok (.iadd, 1) := by decide +kernel
theorem dX12_cursorIs_106 : decode cX12_cursorIs 106 = .ok (.iaload, 1) := by decide +kernel
theorem dX12_cursorIs_107 : decode cX12_cursorIs 107 = .ok (.goto 19, 3) := by decide +kernel
theorem dX12_cursorIs_110 : decode cX12_cursorIs 110 = .ok (.aload_n 0, 1) := by decide +kernel
theorem dX12_cursorIs_111 : decode cX12_cursorIs 111 = .ok (.invokevirtual 167, 3) := by decide +kernel
theorem dX12_cursorIs_114 : decode cX12_cursorIs 114 = .ok (.ifCond .eq 10, 3) := by decide +kernel
theorem dX12_cursorIs_117 : decode cX12_cursorIs 117 = .ok (.aload_n 0, 1) := by decide +kernel
theorem dX12_cursorIs_118 : decode cX12_cursorIs 118 = .ok (.invokevirtual 81, 3) := by decide +kernel
theorem dX12_cursorIs_121 : decode cX12_cursorIs 121 = .ok (.goto 5, 3) := by decide +kernel
theorem dX12_cursorIs_124 : decode cX12_cursorIs 124 = .ok (.bipush (-3), 2) := by decide +kernel
theorem dX12_cursorIs_126 : decode cX12_cursorIs 126 = .ok (.ireturn, 1) := by decide +kernel
set_option maxRecDepth 20000 in
theorem ggX12_readsStep_X12_wrongAt : GoodIn wsX12_readsStep wsX12_wrongAt := goodIn_r _ [12, 13, 33, 34, 35, 36, 37, 38, 39, 40, 41, 42, 43, 44, 45, 46, 47, 48, 49, 50, 51, 52, 53, 54, 55, 56, 57, 58, 59, 60, 61, 62, 63, 64, 65, 66, 67, 68, 69, 70, 71, 72, 73] rfl (by decide +kernel)
set_option maxRecDepth 20000 in
theorem gX12_readsStep_X12_wrongAt : GoodIn wsX12_readsStep (wsV RX12 192 RX12 yX12_wrongAt wsX12_wrongAt) := goodIn_app (goodIn_r _ [8, 9, 10, 11] rfl (by decide +kernel)) ggX12_readsStep_X12_wrongAt
set_option maxRecDepth 20000 in
theorem ggX12_readsStep_X12_here : GoodIn wsX12_readsStep wsX12_here := goodIn_r _ [17, 2, 18, 6, 33, 34, 35, 36, 37, 38, 39, 40, 41, 42, 43, 44, 45, 46, 47, 48, 49, 50, 51, 52, 53, 54, 55, 56, 57, 58, 59, 60, 61, 62, 63, 64, 65, 66, 67, 68, 69, 70, 71, 72, 73] rfl (by decide +kernel)
set_option maxRecDepth 20000 in
theorem gX12_readsStep_X12_here : GoodIn wsX12_readsStep (wsV RX12 189 RX12 yX12_here wsX12_here) := goodIn_app (goodIn_r _ [14, 15, 16, 11] rfl (by decide +kernel)) ggX12_readsStep_X12_here
set_option maxRecDepth 20000 in
theorem ggX12_readsStep_X12_readsNumber : GoodIn wsX12_readsStep wsX12_readsNumber := goodIn_r _ [22, 2, 4, 14, 15, 16, 11, 17, 18, 6, 23, 24, 25, 8, 9, 10, 12, 13, 33, 34, 35, 36, 37, 38, 39, 40, 41, 42, 43, 44, 45, 46, 47, 48, 49, 50, 51, 52, 53, 54, 55, 56, 57, 58, 59, 60, 61, 62, 63, 64, 65, 66, 67, 68, 69, 70, 71, 72, 73] rfl (by decide +kernel)
set_option maxRecDepth 20000 in
theorem gX12_readsStep_X12_readsNumber : GoodIn wsX12_readsStep (wsV RX12 213 RX12 yX12_readsNumber wsX12_readsNumber) := goodIn_app (goodIn_r _ [19, 20, 21, 11] rfl (by decide +kernel)) ggX12_readsStep_X12_readsNumber
set_option maxRecDepth 20000 in
theorem ggX12_readsStep_X12_readsKey : GoodIn wsX12_readsStep wsX12_readsKey := goodIn_r _ [29, 2, 7, 5, 14, 15, 16, 11, 17, 18, 6, 30, 31, 32, 23, 24, 25, 8, 9, 10, 12, 13, 33, 34, 35, 36, 37, 38, 39, 40, 41, 42, 43, 44, 45, 46, 47, 48, 49, 50, 51, 52, 53, 54, 55, 56, 57, 58, 59, 60, 61, 62, 63, 64, 65, 66, 67, 68, 69, 70, 71, 72, 73] rfl (by decide +kernel)
set_option maxRecDepth 20000 in
theorem gX12_readsStep_X12_readsKey : GoodIn wsX12_readsStep (wsV RX12 207 RX12 yX12_readsKey wsX12_readsKey) := goodIn_app (goodIn_r _ [26, 27, 28, 11] rfl (by decide +kernel)) ggX12_readsStep_X12_readsKey
theorem dX12_readsStep_0 : decode cX12_readsStep 0 = .ok (.aload_n 0, 1) := by decide +kernel
theorem dX12_readsStep_1 : decode cX12_readsStep 1 = .ok (.getfield 351, 3) := by decide +kernel
theorem dX12_readsStep_4 : decode cX12_readsStep 4 = .ok (.bipush 8, 2) := by decide +kernel
theorem dX12_readsStep_6 : decode cX12_readsStep 6 = .ok (.if_icmp .ne 13, 3) := by decide +kernel
theorem dX12_readsStep_9 : decode cX12_readsStep 9 = .ok (.aload_n 0, 1) := by decide +kernel
theorem dX12_readsStep_10 : decode cX12_readsStep 10 = .ok (.iconst 4, 1) := by decide +kernel
theorem dX12_readsStep_11 : decode cX12_readsStep 11 = .ok (.aload_n 0, 1) := by decide +kernel
theorem dX12_readsStep_12 : decode cX12_readsStep 12 = .ok (.getfield 180, 3) := by decide +kernel
theorem dX12_readsStep_15 : decode cX12_readsStep 15 = .ok (.invokevirtual 192, 3) := by decide +kernel
theorem dX12_readsStep_18 : decode cX12_readsStep 18 = .ok (.ireturn, 1) := by decide +kernel
theorem dX12_readsStep_19 : decode cX12_readsStep 19 = .ok (.aload_n 0, 1) := by decide +kernel
theorem dX12_readsStep_20 : decode cX12_readsStep 20 = .ok (.invokevirtual 189, 3) := by decide +kernel
theorem dX12_readsStep_23 : decode cX12_readsStep 23 = .ok (.istore_n 1, 1) := by decide +kernel
theorem dX12_readsStep_24 : decode cX12_readsStep 24 = .ok (.bipush 28, 2) := by decide +kernel
theorem dX12_readsStep_26 : decode cX12_readsStep 26 = .ok (.aload_n 0, 1) := by decide +kernel
theorem dX12_readsStep_27 : decode cX12_readsStep 27 = .ok (.getfield 351, 3) := by decide +kernel
theorem dX12_readsStep_30 : decode cX12_readsStep 30 = .ok (.imul, 1) := by decide +kernel
theorem dX12_readsStep_31 : decode cX12_readsStep 31 = .ok (.istore_n 2, 1) := by decide +kernel
theorem dX12_readsStep_32 : decode cX12_readsStep 32 = .ok (.iload_n 1, 1) := by decide +kernel
theorem dX12_readsStep_33 : decode cX12_readsStep 33 = .ok (.bipush 101, 2) := by decide +kernel
theorem dX12_readsStep_35 : decode cX12_readsStep 35 = .ok (.if_icmp .eq 15, 3) := by decide +kernel
theorem dX12_readsStep_38 : decode cX12_readsStep 38 = .ok (.iload_n 1, 1) := by decide +kernel
theorem dX12_readsStep_39 : decode cX12_readsStep 39 = .ok (.bipush 111, 2) := by decide +kernel
theorem dX12_readsStep_41 : decode cX12_readsStep 41 = .ok (.if_icmp .eq 9, 3) := by decide +kernel
theorem dX12_readsStep_44 : decode cX12_readsStep 44 = .ok (.iload_n 1, 1) := by decide +kernel
theorem dX12_readsStep_45 : decode cX12_readsStep 45 = .ok (.bipush 114, 2) := by decide +kernel
theorem dX12_readsStep_47 : decode cX12_readsStep 47 = .ok (.if_icmp .ne 7, 3) := by decide +kernel
theorem dX12_readsStep_50 : decode cX12_readsStep 50 = .ok (.iconst 1, 1) := by decide +kernel
theorem dX12_readsStep_51 : decode cX12_readsStep 51 = .ok (.goto 4, 3) := by decide +kernel
theorem dX12_readsStep_54 : decode cX12_readsStep 54 = .ok (.iconst 0, 1) := by decide +kernel
theorem dX12_readsStep_55 : decode cX12_readsStep 55 = .ok (.istore_n 3, 1) := by decide +kernel
theorem dX12_readsStep_56 : decode cX12_readsStep 56 = .ok (.iload_n 1, 1) := by decide +kernel
theorem dX12_readsStep_57 : decode cX12_readsStep 57 = .ok (.bipush 62, 2) := by decide +kernel
theorem dX12_readsStep_59 : decode cX12_readsStep 59 = .ok (.if_icmp .eq 33, 3) := by decide +kernel
theorem dX12_readsStep_62 : decode cX12_readsStep 62 = .ok (.iload_n 1, 1) := by decide +kernel
theorem dX12_readsStep_63 : decode cX12_readsStep 63 = .ok (.bipush 60, 2) := by decide +kernel
theorem dX12_readsStep_65 : decode cX12_readsStep 65 = .ok (.if_icmp .eq 27, 3) := by decide +kernel
theorem dX12_readsStep_68 : decode cX12_readsStep 68 = .ok (.iload_n 1, 1) := by decide +kernel
theorem dX12_readsStep_69 : decode cX12_readsStep 69 = .ok (.bipush 108, 2) := by decide +kernel
theorem dX12_readsStep_71 : decode cX12_readsStep 71 = .ok (.if_icmp .eq 21, 3) := by decide +kernel
theorem dX12_readsStep_74 : decode cX12_readsStep 74 = .ok (.iload_n 1, 1) := by decide +kernel
theorem dX12_readsStep_75 : decode cX12_readsStep 75 = .ok (.bipush 107, 2) := by decide +kernel
theorem dX12_readsStep_77 : decode cX12_readsStep 77 = .ok (.if_icmp .eq 15, 3) := by decide +kernel
theorem dX12_readsStep_80 : decode cX12_readsStep 80 = .ok (.iload_n 1, 1) := by decide +kernel
theorem dX12_readsStep_81 : decode cX12_readsStep 81 = .ok (.bipush 100, 2) := by decide +kernel
theorem dX12_readsStep_83 : decode cX12_readsStep 83 = .ok (.if_icmp .eq 9, 3) := by decide +kernel
theorem dX12_readsStep_86 : decode cX12_readsStep 86 = .ok (.iload_n 1, 1) := by decide +kernel
theorem dX12_readsStep_87 : decode cX12_readsStep 87 = .ok (.bipush 116, 2) := by decide +kernel
theorem dX12_readsStep_89 : decode cX12_readsStep 89 = .ok (.if_icmp .ne 7, 3) := by decide +kernel
theorem dX12_readsStep_92 : decode cX12_readsStep 92 = .ok (.iconst 1, 1) := by decide +kernel
theorem dX12_readsStep_93 : decode cX12_readsStep 93 = .ok (.goto 4, 3) := by decide +kernel
theorem dX12_readsStep_96 : decode cX12_readsStep 96 = .ok (.iconst 0, 1) := by decide +kernel
theorem dX12_readsStep_97 : decode cX12_readsStep 97 = .ok (.istore 4, 2) := by decide +kernel
theorem dX12_readsStep_99 : decode cX12_readsStep 99 = .ok (.iload_n 3, 1) := by decide +kernel
theorem dX12_readsStep_100 : decode cX12_readsStep 100 = .ok (.ifCond .ne 24, 3) := by decide +kernel
theorem dX12_readsStep_103 : decode cX12_readsStep 103 = .ok (.iload 4, 2) := by decide +kernel
theorem dX12_readsStep_105 : decode cX12_readsStep 105 = .ok (.ifCond .ne 19, 3) := by decide +kernel
theorem dX12_readsStep_108 : decode cX12_readsStep 108 = .ok (.iload_n 1, 1) := by decide +kernel
theorem dX12_readsStep_109 : decode cX12_readsStep 109 = .ok (.bipush 112, 2) := by decide +kernel
theorem dX12_readsStep_111 : decode cX12_readsStep 111 = .ok (.if_icmp .eq 13, 3) := by decide +kernel
theorem dX12_readsStep_114 : decode cX12_readsStep 114 = .ok (.aload_n 0, 1) := by decide +kernel
theorem dX12_readsStep_115 : decode cX12_readsStep 115 = .ok (.iconst 1, 1) := by decide +kernel
theorem dX12_readsStep_116 : decode cX12_readsStep 116 = .ok (.aload_n 0, 1) := by decide +kernel
theorem dX12_readsStep_117 : decode cX12_readsStep 117 = .ok (.getfield 180, 3) := by decide +kernel
theorem dX12_readsStep_120 : decode cX12_readsStep 120 = .ok (.invokevirtual 192, 3) := by decide +kernel
theorem dX12_readsStep_123 : decode cX12_readsStep 123 = .ok (.ireturn, 1) := by decide +kernel
theorem dX12_readsStep_124 : decode cX12_readsStep 124 = .ok (.aload_n 0, 1) := by decide +kernel
theorem dX12_readsStep_125 : decode cX12_readsStep 125 = .ok (.aload_n 0, 1) := by decide +kernel
theorem dX12_readsStep_126 : decode cX12_readsStep 126 = .ok (.getfield 180, 3) := by decide +kernel
theorem dX12_readsStep_129 : decode cX12_readsStep 129 = .ok (.iconst 1, 1) := by decide +kernel
theorem dX12_readsStep_130 : decode cX12_readsStep 130 = .ok (.iadd, 1) := by decide +kernel
theorem dX12_readsStep_131 : decode cX12_readsStep 131 = .ok (.putfield 180, 3) := by decide +kernel
theorem dX12_readsStep_134 : decode cX12_readsStep 134 = .ok (.aload_n 0, 1) := by decide +kernel
theorem dX12_readsStep_135 : decode cX12_readsStep 135 = .ok (.getfield 44, 3) := by decide +kernel
theorem dX12_readsStep_138 : decode cX12_readsStep 138 = .ok (.iload_n 2, 1) := by decide +kernel
theorem dX12_readsStep_139 : decode cX12_readsStep 139 = .ok (.iload_n 1, 1) := by decide +kernel
theorem dX12_readsStep_140 : decode cX12_readsStep 140 = .ok (.iastore, 1) := by decide +kernel
theorem dX12_readsStep_141 : decode cX12_readsStep 141 = .ok (.aload_n 0, 1) := by decide +kernel
theorem dX12_readsStep_142 : decode cX12_readsStep 142 = .ok (.getfield 44, 3) := by decide +kernel
theorem dX12_readsStep_145 : decode cX12_readsStep 145 = .ok (.iload_n 2, 1) := by decide +kernel
theorem dX12_readsStep_146 : decode cX12_readsStep 146 = .ok (.iconst 1, 1) := by decide +kernel
theorem dX12_readsStep_147 : decode cX12_readsStep 147 = .ok (.iadd, 1) := by decide +kernel
theorem dX12_readsStep_148 : decode cX12_readsStep 148 = .ok (.iconst 0, 1) := by decide +kernel
theorem dX12_readsStep_149 : decode cX12_readsStep 149 = .ok (.iastore, 1) := by decide +kernel
theorem dX12_readsStep_150 : decode cX12_readsStep 150 = .ok (.aload_n 0, 1) := by decide +kernel
theorem dX12_readsStep_151 : decode cX12_readsStep 151 = .ok (.getfield 44, 3) := by decide +kernel
theorem dX12_readsStep_154 : decode cX12_readsStep 154 = .ok (.iload_n 2, 1) := by decide +kernel
theorem dX12_readsStep_155 : decode cX12_readsStep 155 = .ok (.iconst 2, 1) := by decide +kernel
theorem dX12_readsStep_156 : decode cX12_readsStep 156 = .ok (.iadd, 1) := by decide +kernel
theorem dX12_readsStep_157 : decode cX12_readsStep 157 = .ok (.iconst 0, 1) := by decide +kernel
theorem dX12_readsStep_158 : decode cX12_readsStep 158 = .ok (.iastore, 1) := by decide +kernel
theorem dX12_readsStep_159 : decode cX12_readsStep 159 = .ok (.iload 4, 2) := by decide +kernel
theorem dX12_readsStep_161 : decode cX12_readsStep 161 = .ok (.ifCond .eq 51, 3) := by decide +kernel
theorem dX12_readsStep_164 : decode cX12_readsStep 164 = .ok (.aload_n 0, 1) := by decide +kernel
theorem dX12_readsStep_165 : decode cX12_readsStep 165 = .ok (.getfield 180, 3) := by decide +kernel
theorem dX12_readsStep_168 : decode cX12_readsStep 168 = .ok (.istore 5, 2) := by decide +kernel
theorem dX12_readsStep_170 : decode cX12_readsStep 170 = .ok (.aload_n 0, 1) := by decide +kernel
theorem dX12_readsStep_171 : decode cX12_readsStep 171 = .ok (.invokevirtual 213, 3) := by decide +kernel
theorem dX12_readsStep_174 : decode cX12_readsStep 174 = .ok (.ifCond .ne 5, 3) := by decide +kernel
theorem dX12_readsStep_177 : decode cX12_readsStep 177 = .ok (.iconst 0, 1) := by decide +kernel
theorem dX12_readsStep_178 : decode cX12_readsStep 178 = .ok (.ireturn, 1) := by decide +kernel
theorem dX12_readsStep_179 : decode cX12_readsStep 179 = .ok (.iload_n 1, 1) := by decide +kernel
theorem dX12_readsStep_180 : decode cX12_readsStep 180 = .ok (.bipush 107, 2) := by decide +kernel
theorem dX12_readsStep_182 : decode cX12_readsStep 182 = .ok (.if_icmp .ne 18, 3) := by decide +kernel
theorem dX12_readsStep_185 : decode cX12_readsStep 185 = .ok (.aload_n 0, 1) := by decide +kernel
theorem dX12_readsStep_186 : decode cX12_readsStep 186 = .ok (.getfield 195, 3) := by decide +kernel
theorem dX12_readsStep_189 : decode cX12_readsStep 189 = .ok (.ifCond .ne 11, 3) := by decide +kernel
theorem dX12_readsStep_192 : decode cX12_readsStep 192 = .ok (.aload_n 0, 1) := by decide +kernel
theorem dX12_readsStep_193 : decode cX12_readsStep 193 = .ok (.iconst 3, 1) := by decide +kernel
theorem dX12_readsStep_194 : decode cX12_readsStep 194 = .ok (.iload 5, 2) := by decide +kernel
theorem dX12_readsStep_196 : decode cX12_readsStep 196 = .ok (.invokevirtual 192, 3) := by decide +kernel
theorem dX12_readsStep_199 : decode cX12_readsStep 199 = .ok (.ireturn, 1) := by decide +kernel
theorem dX12_readsStep_200 : decode cX12_readsStep 200 = .ok (.aload_n 0, 1) := by decide +kernel
theorem dX12_readsStep_201 : decode cX12_readsStep 201 = .ok (.getfield 44, 3) := by decide +kernel
theorem dX12_readsStep_204 : decode cX12_readsStep 204 = .ok (.iload_n 2, 1) := by decide +kernel
theorem dX12_readsStep_205 : decode cX12_readsStep 205 = .ok (.iconst 1, 1) := by decide +kernel
theorem dX12_readsStep_206 : decode cX12_readsStep 206 = .ok (.iadd, 1) := by decide +kernel
theorem dX12_readsStep_207 : decode cX12_readsStep 207 = .ok (.aload_n 0, 1) := by decide +kernel
theorem dX12_readsStep_208 : decode cX12_readsStep 208 = .ok (.getfield 195, 3) := by decide +kernel
theorem dX12_readsStep_211 : decode cX12_readsStep 211 = .ok (.iastore, 1) := by decide +kernel
theorem dX12_readsStep_212 : decode cX12_readsStep 212 = .ok (.iload_n 1, 1) := by decide +kernel
theorem dX12_readsStep_213 : decode cX12_readsStep 213 = .ok (.bipush 112, 2) := by decide +kernel
theorem dX12_readsStep_215 : decode cX12_readsStep 215 = .ok (.if_icmp .ne 69, 3) := by decide +kernel
theorem dX12_readsStep_218 : decode cX12_readsStep 218 = .ok (.aload_n 0, 1) := by decide +kernel
theorem dX12_readsStep_219 : decode cX12_readsStep 219 = .ok (.invokevirtual 207, 3) := by decide +kernel
theorem dX12_readsStep_222 : decode cX12_readsStep 222 = .ok (.ifCond .ne 5, 3) := by decide +kernel
theorem dX12_readsStep_225 : decode cX12_readsStep 225 = .ok (.iconst 0, 1) := by decide +kernel
theorem dX12_readsStep_226 : decode cX12_readsStep 226 = .ok (.ireturn, 1) := by decide +kernel
theorem dX12_readsStep_227 : decode cX12_readsStep 227 = .ok (.aload_n 0, 1) := by decide +kernel
theorem dX12_readsStep_228 : decode cX12_readsStep 228 = .ok (.getfield 44, 3) := by decide +kernel
theorem dX12_readsStep_231 : decode cX12_readsStep 231 = .ok (.iload_n 2, 1) := by decide +kernel
theorem dX12_readsStep_232 : decode cX12_readsStep 232 = .ok (.iconst 2, 1) := by decide +kernel
theorem dX12_readsStep_233 : decode cX12_readsStep 233 = .ok (.iadd, 1) := by decide +kernel
theorem dX12_readsStep_234 : decode cX12_readsStep 234 = .ok (.aload_n 0, 1) := by decide +kernel
theorem dX12_readsStep_235 : decode cX12_readsStep 235 = .ok (.getfield 201, 3) := by decide +kernel
theorem dX12_readsStep_238 : decode cX12_readsStep 238 = .ok (.iastore, 1) := by decide +kernel
theorem dX12_readsStep_239 : decode cX12_readsStep 239 = .ok (.iconst 0, 1) := by decide +kernel
theorem dX12_readsStep_240 : decode cX12_readsStep 240 = .ok (.istore 5, 2) := by decide +kernel
theorem dX12_readsStep_242 : decode cX12_readsStep 242 = .ok (.iload 5, 2) := by decide +kernel
theorem dX12_readsStep_244 : decode cX12_readsStep 244 = .ok (.aload_n 0, 1) := by decide +kernel
theorem dX12_readsStep_245 : decode cX12_readsStep 245 = .ok (.getfield 201, 3) := by decide +kernel
theorem dX12_readsStep_248 : decode cX12_readsStep 248 = .ok (.if_icmp .ge 36, 3) := by decide +kernel
theorem dX12_readsStep_251 : decode cX12_readsStep 251 = .ok (.aload_n 0, 1) := by decide +kernel
theorem dX12_readsStep_252 : decode cX12_readsStep 252 = .ok (.getfield 44, 3) := by decide +kernel
theorem dX12_readsStep_255 : decode cX12_readsStep 255 = .ok (.iload_n 2, 1) := by decide +kernel
theorem dX12_readsStep_256 : decode cX12_readsStep 256 = .ok (.iconst 3, 1) := by decide +kernel
theorem dX12_readsStep_257 : decode cX12_readsStep 257 = .ok (.iadd, 1) := by decide +kernel
theorem dX12_readsStep_258 : decode cX12_readsStep 258 = .ok (.iload 5, 2) := by decide +kernel
theorem dX12_readsStep_260 : decode cX12_readsStep 260 = .ok (.iadd, 1) := by decide +kernel
theorem dX12_readsStep_261 : decode cX12_readsStep 261 = .ok (.aload_n 0, 1) := by decide +kernel
theorem dX12_readsStep_262 : decode cX12_readsStep 262 = .ok (.getfield 22, 3) := by decide +kernel
theorem dX12_readsStep_265 : decode cX12_readsStep 265 = .ok (.aload_n 0, 1) := by decide +kernel
theorem dX12_readsStep_266 : decode cX12_readsStep 266 = .ok (.getfield 198, 3) := by decide +kernel
theorem dX12_readsStep_269 : decode cX12_readsStep 269 = .ok (.iload 5, 2) := by decide +kernel
theorem dX12_readsStep_271 : decode cX12_readsStep 271 = .ok (.iadd, 1) := by decide +kernel
theorem dX12_readsStep_272 : decode cX12_readsStep 272 = .ok (.baload, 1) := by decide +kernel
theorem dX12_readsStep_273 : decode cX12_readsStep 273 = .ok (.sipush 255, 3) := by decide +kernel
theorem dX12_readsStep_276 : decode cX12_readsStep 276 = .ok (.iand, 1) := by decide +kernel
theorem dX12_readsStep_277 : decode cX12_readsStep 277 = .ok (.iastore, 1) := by decide +kernel
theorem dX12_readsStep_278 : decode cX12_readsStep 278 = .ok (.iinc 5 1, 3) := by decide +kernel
theorem dX12_readsStep_281 : decode cX12_readsStep 281 = .ok (.goto (-39), 3) := by decide +kernel
theorem dX12_readsStep_284 : decode cX12_readsStep 284 = .ok (.aload_n 0, 1) := by decide +kernel
theorem dX12_readsStep_285 : decode cX12_readsStep 285 = .ok (.aload_n 0, 1) := by decide +kernel
theorem dX12_readsStep_286 : decode cX12_readsStep 286 = .ok (.getfield 351, 3) := by decide +kernel
theorem dX12_readsStep_289 : decode cX12_readsStep 289 = .ok (.iconst 1, 1) := by decide +kernel
theorem dX12_readsStep_290 : decode cX12_readsStep 290 = .ok (.iadd, 1) := by decide +kernel
theorem dX12_readsStep_291 : decode cX12_readsStep 291 = .ok (.putfield 351, 3) := by decide +kernel
theorem dX12_readsStep_294 : decode cX12_readsStep 294 = .ok (.iconst 1, 1) := by decide +kernel
theorem dX12_readsStep_295 : decode cX12_readsStep 295 = .ok (.ireturn, 1) := by decide +kernel
set_option maxRecDepth 20000 in
theorem ggX12_query_X12_isText : GoodIn wsX12_query wsX12_isText := goodIn_r _ [13, 3, 14, 15, 12, 16, 83, 84, 85, 86, 87, 88, 89, 90, 91, 92, 93, 94, 95, 96, 97, 98, 99, 100, 101, 102, 103, 104, 105, 106, 107, 108, 109, 110, 111, 112, 113, 114, 115, 116, 117, 118, 119, 120, 121, 122, 123] rfl (by decide +kernel)
set_option maxRecDepth 20000 in
theorem gX12_query_X12_isText : GoodIn wsX12_query (wsV RX12 228 RX12 yX12_isText wsX12_isText) := goodIn_app (goodIn_r _ [9, 10, 11, 12] rfl (by decide +kernel)) ggX12_query_X12_isText
set_option maxRecDepth 20000 in
theorem ggX12_query_X12_readsStep : GoodIn wsX12_query wsX12_readsStep := goodIn_r _ [20, 4, 1, 7, 21, 22, 23, 24, 25, 26, 27, 12, 28, 5, 29, 30, 31, 32, 2, 33, 34, 35, 36, 14, 15, 16, 37, 38, 39, 40, 41, 42, 43, 83, 84, 85, 86, 87, 88, 89, 90, 91, 92, 93, 94, 95, 96, 97, 98, 99, 100, 101, 102, 103, 104, 105, 106, 107, 108, 109, 110, 111, 112, 113, 114, 115, 116, 117, 118, 119, 120, 121, 122, 123] rfl (by decide +kernel)
set_option maxRecDepth 20000 in
theorem gX12_query_X12_readsStep : GoodIn wsX12_query (wsV RX12 354 RX12 yX12_readsStep wsX12_readsStep) := goodIn_app (goodIn_r _ [17, 18, 19, 12] rfl (by decide +kernel)) ggX12_query_X12_readsStep
set_option maxRecDepth 20000 in
theorem ggX12_query_X12_takesSign : GoodIn wsX12_query wsX12_takesSign := goodIn_r _ [47, 1, 29, 30, 31, 12, 32, 2, 23, 25, 26, 27, 28, 5, 83, 84, 85, 86, 87, 88, 89, 90, 91, 92, 93, 94, 95, 96, 97, 98, 99, 100, 101, 102, 103, 104, 105, 106, 107, 108, 109, 110, 111, 112, 113, 114, 115, 116, 117, 118, 119, 120, 121, 122, 123] rfl (by decide +kernel)
set_option maxRecDepth 20000 in
theorem gX12_query_X12_takesSign : GoodIn wsX12_query (wsV RX12 210 RX12 yX12_takesSign wsX12_takesSign) := goodIn_app (goodIn_r _ [44, 45, 46, 12] rfl (by decide +kernel)) ggX12_query_X12_takesSign
set_option maxRecDepth 20000 in
theorem ggX12_query_X12_finds : GoodIn wsX12_query wsX12_finds := goodIn_r _ [51, 8, 52, 6, 53, 54, 55, 12, 56, 57, 58, 59, 60, 61, 62, 63, 64, 65, 66, 67, 68, 69, 70, 71, 72, 73, 74, 75, 76, 77, 78, 79, 80, 81, 82, 83, 84, 85, 86, 87, 88, 89, 90, 91, 92, 93, 94, 95, 96, 97, 98, 99, 100, 101, 102, 103, 104, 105, 106, 107, 108, 109, 110, 111, 112, 113, 114, 115, 116, 117, 118, 119, 120, 121, 122, 123] rfl (by decide +kernel)
set_option maxRecDepth 20000 in
theorem gX12_query_X12_finds : GoodIn wsX12_query (wsV RX12 357 RX12 yX12_finds wsX12_finds) := goodIn_app (goodIn_r _ [48, 49, 50, 12] rfl (by decide +kernel)) ggX12_query_X12_finds
theorem dX12_query_0 : decode cX12_query 0 = .ok (.aload_n 0, 1) := by decide +kernel
theorem dX12_query_1 : decode cX12_query 1 = .ok (.iload_n 1, 1) := by decide +kernel
theorem dX12_query_2 : decode cX12_query 2 = .ok (.iconst 0, 1) := by decide +kernel
theorem dX12_query_3 : decode cX12_query 3 = .ok (.bipush 60, 2) := by decide +kernel
theorem dX12_query_5 : decode cX12_query 5 = .ok (.invokevirtual 228, 3) := by decide +kernel
theorem dX12_query_8 : decode cX12_query 8 = .ok (.ifCond .ne 5, 3) := by decide +kernel
theorem dX12_query_11 : decode cX12_query 11 = .ok (.iconst (-1), 1) := by decide +kernel
theorem dX12_query_12 : decode cX12_query 12 = .ok (.ireturn, 1) := by decide +kernel
theorem dX12_query_13 : decode cX12_query 13 = .ok (.aload_n 0, 1) := by decide +kernel
theorem dX12_query_14 : decode cX12_query 14 = .ok (.iconst 0, 1) := by decide +kernel
theorem dX12_query_15 : decode cX12_query 15 = .ok (.putfield 180, 3) := by decide +kernel
theorem dX12_query_18 : decode cX12_query 18 = .ok (.aload_n 0, 1) := by decide +kernel
theorem dX12_query_19 : decode cX12_query 19 = .ok (.iload_n 1, 1) := by decide +kernel
theorem dX12_query_20 : decode cX12_query 20 = .ok (.putfield 183, 3) := by decide +kernel
theorem dX12_query_23 : decode cX12_query 23 = .ok (.aload_n 0, 1) := by decide +kernel
theorem dX12_query_24 : decode cX12_query 24 = .ok (.iconst 0, 1) := by decide +kernel
theorem dX12_query_25 : decode cX12_query 25 = .ok (.putfield 147, 3) := by decide +kernel
theorem dX12_query_28 : decode cX12_query 28 = .ok (.aload_n 0, 1) := by decide +kernel
theorem dX12_query_29 : decode cX12_query 29 = .ok (.iconst 0, 1) := by decide +kernel
theorem dX12_query_30 : decode cX12_query 30 = .ok (.putfield 351, 3) := by decide +kernel
theorem dX12_query_33 : decode cX12_query 33 = .ok (.iload_n 1, 1) := by decide +kernel
theorem dX12_query_34 : decode cX12_query 34 = .ok (.ifCond .eq 10, 3) := by decide +kernel
theorem dX12_query_37 : decode cX12_query 37 = .ok (.aload_n 0, 1) := by decide +kernel
theorem dX12_query_38 : decode cX12_query 38 = .ok (.invokevirtual 354, 3) := by decide +kernel
theorem dX12_query_41 : decode cX12_query 41 = .ok (.ifCond .eq 7, 3) := by decide +kernel
theorem dX12_query_44 : decode cX12_query 44 = .ok (.iconst 1, 1) := by decide +kernel
theorem dX12_query_45 : decode cX12_query 45 = .ok (.goto 4, 3) := by decide +kernel
theorem dX12_query_48 : decode cX12_query 48 = .ok (.iconst 0, 1) := by decide +kernel
theorem dX12_query_49 : decode cX12_query 49 = .ok (.istore_n 2, 1) := by decide +kernel
theorem dX12_query_50 : decode cX12_query 50 = .ok (.iload_n 2, 1) := by decide +kernel
theorem dX12_query_51 : decode cX12_query 51 = .ok (.ifCond .eq 39, 3) := by decide +kernel
theorem dX12_query_54 : decode cX12_query 54 = .ok (.aload_n 0, 1) := by decide +kernel
theorem dX12_query_55 : decode cX12_query 55 = .ok (.getfield 180, 3) := by decide +kernel
theorem dX12_query_58 : decode cX12_query 58 = .ok (.aload_n 0, 1) := by decide +kernel
theorem dX12_query_59 : decode cX12_query 59 = .ok (.getfield 183, 3) := by decide +kernel
theorem dX12_query_62 : decode cX12_query 62 = .ok (.if_icmp .ge 28, 3) := by decide +kernel
theorem dX12_query_65 : decode cX12_query 65 = .ok (.aload_n 0, 1) := by decide +kernel
theorem dX12_query_66 : decode cX12_query 66 = .ok (.bipush 59, 2) := by decide +kernel
theorem dX12_query_68 : decode cX12_query 68 = .ok (.invokevirtual 210, 3) := by decide +kernel
theorem dX12_query_71 : decode cX12_query 71 = .ok (.ifCond .eq 14, 3) := by decide +kernel
theorem dX12_query_74 : decode cX12_query 74 = .ok (.aload_n 0, 1) := by decide +kernel
theorem dX12_query_75 : decode cX12_query 75 = .ok (.invokevirtual 354, 3) := by decide +kernel
theorem dX12_query_78 : decode cX12_query 78 = .ok (.ifCond .eq 7, 3) := by decide +kernel
theorem dX12_query_81 : decode cX12_query 81 = .ok (.iconst 1, 1) := by decide +kernel
theorem dX12_query_82 : decode cX12_query 82 = .ok (.goto 4, 3) := by decide +kernel
theorem dX12_query_85 : decode cX12_query 85 = .ok (.iconst 0, 1) := by decide +kernel
theorem dX12_query_86 : decode cX12_query 86 = .ok (.istore_n 2, 1) := by decide +kernel
theorem dX12_query_87 : decode cX12_query 87 = .ok (.goto (-37), 3) := by decide +kernel
theorem dX12_query_90 : decode cX12_query 90 = .ok (.iload_n 2, 1) := by decide +kernel
theorem dX12_query_91 : decode cX12_query 91 = .ok (.ifCond .ne 8, 3) := by decide +kernel
theorem dX12_query_94 : decode cX12_query 94 = .ok (.aload_n 0, 1) := by decide +kernel
theorem dX12_query_95 : decode cX12_query 95 = .ok (.getfield 186, 3) := by decide +kernel
theorem dX12_query_98 : decode cX12_query 98 = .ok (.ireturn, 1) := by decide +kernel
theorem dX12_query_99 : decode cX12_query 99 = .ok (.aload_n 0, 1) := by decide +kernel
theorem dX12_query_100 : decode cX12_query 100 = .ok (.getfield 7, 3) := by decide +kernel
theorem dX12_query_103 : decode cX12_query 103 = .ok (.bipush 7, 2) := by decide +kernel
theorem dX12_query_105 : decode cX12_query 105 = .ok (.aload_n 0, 1) := by decide +kernel
theorem dX12_query_106 : decode cX12_query 106 = .ok (.getfield 351, 3) := by decide +kernel
theorem dX12_query_109 : decode cX12_query 109 = .ok (.iastore, 1) := by decide +kernel
theorem dX12_query_110 : decode cX12_query 110 = .ok (.iconst 0, 1) := by decide +kernel
theorem dX12_query_111 : decode cX12_query 111 = .ok (.istore_n 3, 1) := by decide +kernel
theorem dX12_query_112 : decode cX12_query 112 = .ok (.iload_n 3, 1) := by decide +kernel
theorem dX12_query_113 : decode cX12_query 113 = .ok (.bipush 28, 2) := by decide +kernel
theorem dX12_query_115 : decode cX12_query 115 = .ok (.aload_n 0, 1) := by decide +kernel
theorem dX12_query_116 : decode cX12_query 116 = .ok (.getfield 351, 3) := by decide +kernel
theorem dX12_query_119 : decode cX12_query 119 = .ok (.imul, 1) := by decide +kernel
theorem dX12_query_120 : decode cX12_query 120 = .ok (.if_icmp .ge 24, 3) := by decide +kernel
theorem dX12_query_123 : decode cX12_query 123 = .ok (.aload_n 0, 1) := by decide +kernel
theorem dX12_query_124 : decode cX12_query 124 = .ok (.getfield 7, 3) := by decide +kernel
theorem dX12_query_127 : decode cX12_query 127 = .ok (.bipush 16, 2) := by decide +kernel
theorem dX12_query_129 : decode cX12_query 129 = .ok (.iload_n 3, 1) := by decide +kernel
theorem dX12_query_130 : decode cX12_query 130 = .ok (.iadd, 1) := by decide +kernel
theorem dX12_query_131 : decode cX12_query 131 = .ok (.aload_n 0, 1) := by decide +kernel
theorem dX12_query_132 : decode cX12_query 132 = .ok (.getfield 44, 3) := by decide +kernel
theorem dX12_query_135 : decode cX12_query 135 = .ok (.iload_n 3, 1) := by decide +kernel
theorem dX12_query_136 : decode cX12_query 136 = .ok (.iaload, 1) := by decide +kernel
theorem dX12_query_137 : decode cX12_query 137 = .ok (.iastore, 1) := by decide +kernel
theorem dX12_query_138 : decode cX12_query 138 = .ok (.iinc 3 1, 3) := by decide +kernel
theorem dX12_query_141 : decode cX12_query 141 = .ok (.goto (-29), 3) := by decide +kernel
theorem dX12_query_144 : decode cX12_query 144 = .ok (.aload_n 0, 1) := by decide +kernel
theorem dX12_query_145 : decode cX12_query 145 = .ok (.invokevirtual 357, 3) := by decide +kernel
theorem dX12_query_148 : decode cX12_query 148 = .ok (.aload_n 0, 1) := by decide +kernel
theorem dX12_query_149 : decode cX12_query 149 = .ok (.getfield 360, 3) := by decide +kernel
theorem dX12_query_152 : decode cX12_query 152 = .ok (.ireturn, 1) := by decide +kernel
set_option maxRecDepth 20000 in
theorem ggX12_stays_X12_beginsWith : GoodIn wsX12_stays wsX12_beginsWith := goodIn_r _ [6, 7, 8, 9, 10, 11, 5, 12, 1, 13, 14, 15, 16, 17, 18, 19, 20, 21, 22, 23, 24, 25, 26, 27, 28, 29, 30, 31, 32, 33, 34, 35, 36, 37, 38, 39, 40, 41, 42, 43, 44, 45, 46, 47, 48, 49, 50, 51, 52, 53, 54, 55, 56, 57] rfl (by decide +kernel)
set_option maxRecDepth 20000 in
theorem gX12_stays_X12_beginsWith : GoodIn wsX12_stays (wsV RX12 315 RX12 yX12_beginsWith wsX12_beginsWith) := goodIn_app (goodIn_r _ [2, 3, 4, 5] rfl (by decide +kernel)) ggX12_stays_X12_beginsWith
set_option maxRecDepth 20000 in
theorem ggX12_stays_X12_of : GoodIn wsX12_stays wsX12_of := goodIn_r _ [12, 1, 17, 18, 19, 20, 21, 22, 23, 24, 25, 26, 27, 28, 29, 30, 31, 32, 33, 34, 35, 36, 37, 38, 39, 40, 41, 42, 43, 44, 45, 46, 47, 48, 49, 50, 51, 52, 53, 54, 55, 56, 57] rfl (by decide +kernel)
set_option maxRecDepth 20000 in
theorem gX12_stays_X12_of : GoodIn wsX12_stays (wsV RX12 50 RX12 yX12_of wsX12_of) := goodIn_app (goodIn_r _ [9, 10, 11, 5] rfl (by decide +kernel)) ggX12_stays_X12_of
theorem dX12_stays_0 : decode cX12_stays 0 = .ok (.aload_n 0, 1) := by decide +kernel
theorem dX12_stays_1 : decode cX12_stays 1 = .ok (.getfield 7, 3) := by decide +kernel
theorem dX12_stays_4 : decode cX12_stays 4 = .ok (.bipush 16, 2) := by decide +kernel
theorem dX12_stays_6 : decode cX12_stays 6 = .ok (.bipush 28, 2) := by decide +kernel
theorem dX12_stays_8 : decode cX12_stays 8 = .ok (.iload_n 1, 1) := by decide +kernel
theorem dX12_stays_9 : decode cX12_stays 9 = .ok (.imul, 1) := by decide +kernel
theorem dX12_stays_10 : decode cX12_stays 10 = .ok (.iadd, 1) := by decide +kernel
theorem dX12_stays_11 : decode cX12_stays 11 = .ok (.iconst 1, 1) := by decide +kernel
theorem dX12_stays_12 : decode cX12_stays 12 = .ok (.iadd, 1) := by decide +kernel
theorem dX12_stays_13 : decode cX12_stays 13 = .ok (.iaload, 1) := by decide +kernel
theorem dX12_stays_14 : decode cX12_stays 14 = .ok (.istore 4, 2) := by decide +kernel
theorem dX12_stays_16 : decode cX12_stays 16 = .ok (.aload_n 0, 1) := by decide +kernel
theorem dX12_stays_17 : decode cX12_stays 17 = .ok (.getfield 7, 3) := by decide +kernel
theorem dX12_stays_20 : decode cX12_stays 20 = .ok (.bipush 16, 2) := by decide +kernel
theorem dX12_stays_22 : decode cX12_stays 22 = .ok (.bipush 28, 2) := by decide +kernel
theorem dX12_stays_24 : decode cX12_stays 24 = .ok (.iload_n 1, 1) := by decide +kernel
theorem dX12_stays_25 : decode cX12_stays 25 = .ok (.imul, 1) := by decide +kernel
theorem dX12_stays_26 : decode cX12_stays 26 = .ok (.iadd, 1) := by decide +kernel
theorem dX12_stays_27 : decode cX12_stays 27 = .ok (.iaload, 1) := by decide +kernel
theorem dX12_stays_28 : decode cX12_stays 28 = .ok (.lookupswitch 213 #[(60, 107), (62, 90), (100, 189), (101, 141), (107, 176), (108, 124), (111, 158), (112, 84), (116, 201)], 84) := by decide +kernel
theorem dX12_stays_112 : decode cX12_stays 112 = .ok (.aload_n 0, 1) := by decide +kernel
theorem dX12_stays_113 : decode cX12_stays 113 = .ok (.iload_n 2, 1) := by decide +kernel
theorem dX12_stays_114 : decode cX12_stays 114 = .ok (.invokevirtual 315, 3) := by decide +kernel
theorem dX12_stays_117 : decode cX12_stays 117 = .ok (.ireturn, 1) := by decide +kernel
theorem dX12_stays_118 : decode cX12_stays 118 = .ok (.aload_n 0, 1) := by decide +kernel
theorem dX12_stays_119 : decode cX12_stays 119 = .ok (.iload_n 2, 1) := by decide +kernel
theorem dX12_stays_120 : decode cX12_stays 120 = .ok (.iconst 1, 1) := by decide +kernel
theorem dX12_stays_121 : decode cX12_stays 121 = .ok (.invokevirtual 50, 3) := by decide +kernel
theorem dX12_stays_124 : decode cX12_stays 124 = .ok (.iload 4, 2) := by decide +kernel
theorem dX12_stays_126 : decode cX12_stays 126 = .ok (.if_icmp .le 7, 3) := by decide +kernel
theorem dX12_stays_129 : decode cX12_stays 129 = .ok (.iconst 1, 1) := by decide +kernel
theorem dX12_stays_130 : decode cX12_stays 130 = .ok (.goto 4, 3) := by decide +kernel
theorem dX12_stays_133 : decode cX12_stays 133 = .ok (.iconst 0, 1) := by decide +kernel
theorem dX12_stays_134 : decode cX12_stays 134 = .ok (.ireturn, 1) := by decide +kernel
theorem dX12_stays_135 : decode cX12_stays 135 = .ok (.aload_n 0, 1) := by decide +kernel
theorem dX12_stays_136 : decode cX12_stays 136 = .ok (.iload_n 2, 1) := by decide +kernel
theorem dX12_stays_137 : decode cX12_stays 137 = .ok (.iconst 1, 1) := by decide +kernel
theorem dX12_stays_138 : decode cX12_stays 138 = .ok (.invokevirtual 50, 3) := by decide +kernel
theorem dX12_stays_141 : decode cX12_stays 141 = .ok (.iload 4, 2) := by decide +kernel
theorem dX12_stays_143 : decode cX12_stays 143 = .ok (.if_icmp .ge 7, 3) := by decide +kernel
theorem dX12_stays_146 : decode cX12_stays 146 = .ok (.iconst 1, 1) := by decide +kernel
theorem dX12_stays_147 : decode cX12_stays 147 = .ok (.goto 4, 3) := by decide +kernel
theorem dX12_stays_150 : decode cX12_stays 150 = .ok (.iconst 0, 1) := by decide +kernel
theorem dX12_stays_151 : decode cX12_stays 151 = .ok (.ireturn, 1) := by decide +kernel
theorem dX12_stays_152 : decode cX12_stays 152 = .ok (.aload_n 0, 1) := by decide +kernel
theorem dX12_stays_153 : decode cX12_stays 153 = .ok (.iload_n 2, 1) := by decide +kernel
theorem dX12_stays_154 : decode cX12_stays 154 = .ok (.iconst 0, 1) := by decide +kernel
theorem dX12_stays_155 : decode cX12_stays 155 = .ok (.invokevirtual 50, 3) := by decide +kernel
theorem dX12_stays_158 : decode cX12_stays 158 = .ok (.iload 4, 2) := by decide +kernel
theorem dX12_stays_160 : decode cX12_stays 160 = .ok (.if_icmp .lt 7, 3) := by decide +kernel
theorem dX12_stays_163 : decode cX12_stays 163 = .ok (.iconst 1, 1) := by decide +kernel
theorem dX12_stays_164 : decode cX12_stays 164 = .ok (.goto 4, 3) := by decide +kernel
theorem dX12_stays_167 : decode cX12_stays 167 = .ok (.iconst 0, 1) := by decide +kernel
theorem dX12_stays_168 : decode cX12_stays 168 = .ok (.ireturn, 1) := by decide +kernel
theorem dX12_stays_169 : decode cX12_stays 169 = .ok (.aload_n 0, 1) := by decide +kernel
theorem dX12_stays_170 : decode cX12_stays 170 = .ok (.iload_n 2, 1) := by decide +kernel
theorem dX12_stays_171 : decode cX12_stays 171 = .ok (.iconst 1, 1) := by decide +kernel
theorem dX12_stays_172 : decode cX12_stays 172 = .ok (.invokevirtual 50, 3) := by decide +kernel
theorem dX12_stays_175 : decode cX12_stays 175 = .ok (.iconst 2, 1) := by decide +kernel
theorem dX12_stays_176 : decode cX12_stays 176 = .ok (.irem, 1) := by decide +kernel
theorem dX12_stays_177 : decode cX12_stays 177 = .ok (.ifCond .ne 7, 3) := by decide +kernel
theorem dX12_stays_180 : decode cX12_stays 180 = .ok (.iconst 1, 1) := by decide +kernel
theorem dX12_stays_181 : decode cX12_stays 181 = .ok (.goto 4, 3) := by decide +kernel
theorem dX12_stays_184 : decode cX12_stays 184 = .ok (.iconst 0, 1) := by decide +kernel
theorem dX12_stays_185 : decode cX12_stays 185 = .ok (.ireturn, 1) := by decide +kernel
theorem dX12_stays_186 : decode cX12_stays 186 = .ok (.aload_n 0, 1) := by decide +kernel
theorem dX12_stays_187 : decode cX12_stays 187 = .ok (.iload_n 2, 1) := by decide +kernel
theorem dX12_stays_188 : decode cX12_stays 188 = .ok (.iconst 1, 1) := by decide +kernel
theorem dX12_stays_189 : decode cX12_stays 189 = .ok (.invokevirtual 50, 3) := by decide +kernel
theorem dX12_stays_192 : decode cX12_stays 192 = .ok (.iconst 2, 1) := by decide +kernel
theorem dX12_stays_193 : decode cX12_stays 193 = .ok (.irem, 1) := by decide +kernel
theorem dX12_stays_194 : decode cX12_stays 194 = .ok (.iconst 1, 1) := by decide +kernel
theorem dX12_stays_195 : decode cX12_stays 195 = .ok (.if_icmp .ne 7, 3) := by decide +kernel
theorem dX12_stays_198 : decode cX12_stays 198 = .ok (.iconst 1, 1) := by decide +kernel
theorem dX12_stays_199 : decode cX12_stays 199 = .ok (.goto 4, 3) := by decide +kernel
theorem dX12_stays_202 : decode cX12_stays 202 = .ok (.iconst 0, 1) := by decide +kernel
theorem dX12_stays_203 : decode cX12_stays 203 = .ok (.ireturn, 1) := by decide +kernel
theorem dX12_stays_204 : decode cX12_stays 204 = .ok (.iload_n 3, 1) := by decide +kernel
theorem dX12_stays_205 : decode cX12_stays 205 = .ok (.iload 4, 2) := by decide +kernel
theorem dX12_stays_207 : decode cX12_stays 207 = .ok (.irem, 1) := by decide +kernel
theorem dX12_stays_208 : decode cX12_stays 208 = .ok (.ifCond .ne 7, 3) := by decide +kernel
theorem dX12_stays_211 : decode cX12_stays 211 = .ok (.iconst 1, 1) := by decide +kernel
theorem dX12_stays_212 : decode cX12_stays 212 = .ok (.goto 4, 3) := by decide +kernel
theorem dX12_stays_215 : decode cX12_stays 215 = .ok (.iconst 0, 1) := by decide +kernel
theorem dX12_stays_216 : decode cX12_stays 216 = .ok (.ireturn, 1) := by decide +kernel
theorem dX12_stays_217 : decode cX12_stays 217 = .ok (.iload_n 3, 1) := by decide +kernel
theorem dX12_stays_218 : decode cX12_stays 218 = .ok (.iload 4, 2) := by decide +kernel
theorem dX12_stays_220 : decode cX12_stays 220 = .ok (.if_icmp .lt 7, 3) := by decide +kernel
theorem dX12_stays_223 : decode cX12_stays 223 = .ok (.iconst 1, 1) := by decide +kernel
theorem dX12_stays_224 : decode cX12_stays 224 = .ok (.goto 4, 3) := by decide +kernel
theorem dX12_stays_227 : decode cX12_stays 227 = .ok (.iconst 0, 1) := by decide +kernel
theorem dX12_stays_228 : decode cX12_stays 228 = .ok (.ireturn, 1) := by decide +kernel
theorem dX12_stays_229 : decode cX12_stays 229 = .ok (.iload_n 3, 1) := by decide +kernel
theorem dX12_stays_230 : decode cX12_stays 230 = .ok (.iload 4, 2) := by decide +kernel
theorem dX12_stays_232 : decode cX12_stays 232 = .ok (.if_icmp .ge 7, 3) := by decide +kernel
theorem dX12_stays_235 : decode cX12_stays 235 = .ok (.iconst 1, 1) := by decide +kernel
theorem dX12_stays_236 : decode cX12_stays 236 = .ok (.goto 4, 3) := by decide +kernel
theorem dX12_stays_239 : decode cX12_stays 239 = .ok (.iconst 0, 1) := by decide +kernel
theorem dX12_stays_240 : decode cX12_stays 240 = .ok (.ireturn, 1) := by decide +kernel
theorem dX12_stays_241 : decode cX12_stays 241 = .ok (.iconst 1, 1) := by decide +kernel
theorem dX12_stays_242 : decode cX12_stays 242 = .ok (.ireturn, 1) := by decide +kernel
theorem dX12_turns_0 : decode cX12_turns 0 = .ok (.iconst 0, 1) := by decide +kernel
theorem dX12_turns_1 : decode cX12_turns 1 = .ok (.istore_n 1, 1) := by decide +kernel
theorem dX12_turns_2 : decode cX12_turns 2 = .ok (.iload_n 1, 1) := by decide +kernel
theorem dX12_turns_3 : decode cX12_turns 3 = .ok (.aload_n 0, 1) := by decide +kernel
theorem dX12_turns_4 : decode cX12_turns 4 = .ok (.getfield 360, 3) := by decide +kernel
theorem dX12_turns_7 : decode cX12_turns 7 = .ok (.iconst 2, 1) := by decide +kernel
theorem dX12_turns_8 : decode cX12_turns 8 = .ok (.idiv, 1) := by decide +kernel
theorem dX12_turns_9 : decode cX12_turns 9 = .ok (.if_icmp .ge 49, 3) := by decide +kernel
theorem dX12_turns_12 : decode cX12_turns 12 = .ok (.aload_n 0, 1) := by decide +kernel
theorem dX12_turns_13 : decode cX12_turns 13 = .ok (.getfield 47, 3) := by decide +kernel
theorem dX12_turns_16 : decode cX12_turns 16 = .ok (.iload_n 1, 1) := by decide +kernel
theorem dX12_turns_17 : decode cX12_turns 17 = .ok (.iaload, 1) := by decide +kernel
theorem dX12_turns_18 : decode cX12_turns 18 = .ok (.istore_n 2, 1) := by decide +kernel
theorem dX12_turns_19 : decode cX12_turns 19 = .ok (.aload_n 0, 1) := by decide +kernel
theorem dX12_turns_20 : decode cX12_turns 20 = .ok (.getfield 47, 3) := by decide +kernel
theorem dX12_turns_23 : decode cX12_turns 23 = .ok (.iload_n 1, 1) := by decide +kernel
theorem dX12_turns_24 : decode cX12_turns 24 = .ok (.aload_n 0, 1) := by decide +kernel
theorem dX12_turns_25 : decode cX12_turns 25 = .ok (.getfield 47, 3) := by decide +kernel
theorem dX12_turns_28 : decode cX12_turns 28 = .ok (.aload_n 0, 1) := by decide +kernel
theorem dX12_turns_29 : decode cX12_turns 29 = .ok (.getfield 360, 3) := by decide +kernel
theorem dX12_turns_32 : decode cX12_turns 32 = .ok (.iconst 1, 1) := by decide +kernel
theorem dX12_turns_33 : decode cX12_turns 33 = .ok (.isub, 1) := by decide +kernel
theorem dX12_turns_34 : decode cX12_turns 34 = .ok (.iload_n 1, 1) := by decide +kernel
theorem dX12_turns_35 : decode cX12_turns 35 = .ok (.isub, 1) := by decide +kernel
theorem dX12_turns_36 : decode cX12_turns 36 = .ok (.iaload, 1) := by decide +kernel
theorem dX12_turns_37 : decode cX12_turns 37 = .ok (.iastore, 1) := by decide +kernel
theorem dX12_turns_38 : decode cX12_turns 38 = .ok (.aload_n 0, 1) := by decide +kernel
theorem dX12_turns_39 : decode cX12_turns 39 = .ok (.getfield 47, 3) := by decide +kernel
theorem dX12_turns_42 : decode cX12_turns 42 = .ok (.aload_n 0, 1) := by decide +kernel
theorem dX12_turns_43 : decode cX12_turns 43 = .ok (.getfield 360, 3) := by decide +kernel
theorem dX12_turns_46 : decode cX12_turns 46 = .ok (.iconst 1, 1) := by decide +kernel
theorem dX12_turns_47 : decode cX12_turns 47 = .ok (.isub, 1) := by decide +kernel
theorem dX12_turns_48 : decode cX12_turns 48 = .ok (.iload_n 1, 1) := by decide +kernel
theorem dX12_turns_49 : decode cX12_turns 49 = .ok (.isub, 1) := by decide +kernel
theorem dX12_turns_50 : decode cX12_turns 50 = .ok (.iload_n 2, 1) := by decide +kernel
theorem dX12_turns_51 : decode cX12_turns 51 = .ok (.iastore, 1) := by decide +kernel
theorem dX12_turns_52 : decode cX12_turns 52 = .ok (.iinc 1 1, 3) := by decide +kernel
theorem dX12_turns_55 : decode cX12_turns 55 = .ok (.goto (-53), 3) := by decide +kernel
theorem dX12_turns_58 : decode cX12_turns 58 = .ok (.return_, 1) := by decide +kernel
set_option maxRecDepth 20000 in
theorem ggX12_goesStep_X12_stays : GoodIn wsX12_goesStep wsX12_stays := goodIn_r _ [10, 1, 11, 12, 13, 9, 14, 2, 3, 15, 16, 17, 18, 19, 20, 21, 22, 27, 28, 29, 30, 31, 32, 33, 34, 35, 36, 37, 38, 39, 40, 41, 42, 43, 44, 45, 46, 47, 48, 49, 50, 51, 52, 53, 54, 55, 56, 57, 58, 59, 60, 61, 62, 63, 64, 65, 66, 67] rfl (by decide +kernel)
set_option maxRecDepth 20000 in
theorem gX12_goesStep_X12_stays : GoodIn wsX12_goesStep (wsV RX12 363 RX12 yX12_stays wsX12_stays) := goodIn_app (goodIn_r _ [6, 7, 8, 9] rfl (by decide +kernel)) ggX12_goesStep_X12_stays
set_option maxRecDepth 20000 in
theorem ggX12_goesStep_X12_turns : GoodIn wsX12_goesStep wsX12_turns := goodIn_r _ [26, 4, 5, 27, 28, 29, 30, 31, 32, 33, 34, 35, 36, 37, 38, 39, 40, 41, 42, 43, 44, 45, 46, 47, 48, 49, 50, 51, 52, 53, 54, 55, 56, 57, 58, 59, 60, 61, 62, 63, 64, 65, 66, 67] rfl (by decide +kernel)
set_option maxRecDepth 20000 in
theorem gX12_goesStep_X12_turns : GoodIn wsX12_goesStep (wsV RX12 366 RX12 yX12_turns wsX12_turns) := goodIn_app (goodIn_r _ [23, 24, 25, 9] rfl (by decide +kernel)) ggX12_goesStep_X12_turns
theorem dX12_goesStep_0 : decode cX12_goesStep 0 = .ok (.bipush 16, 2) := by decide +kernel
theorem dX12_goesStep_2 : decode cX12_goesStep 2 = .ok (.bipush 28, 2) := by decide +kernel
theorem dX12_goesStep_4 : decode cX12_goesStep 4 = .ok (.iload_n 1, 1) := by decide +kernel
theorem dX12_goesStep_5 : decode cX12_goesStep 5 = .ok (.imul, 1) := by decide +kernel
theorem dX12_goesStep_6 : decode cX12_goesStep 6 = .ok (.iadd, 1) := by decide +kernel
theorem dX12_goesStep_7 : decode cX12_goesStep 7 = .ok (.istore_n 2, 1) := by decide +kernel
theorem dX12_goesStep_8 : decode cX12_goesStep 8 = .ok (.aload_n 0, 1) := by decide +kernel
theorem dX12_goesStep_9 : decode cX12_goesStep 9 = .ok (.aload_n 0, 1) := by decide +kernel
theorem dX12_goesStep_10 : decode cX12_goesStep 10 = .ok (.getfield 7, 3) := by decide +kernel
theorem dX12_goesStep_13 : decode cX12_goesStep 13 = .ok (.iload_n 2, 1) := by decide +kernel
theorem dX12_goesStep_14 : decode cX12_goesStep 14 = .ok (.iconst 2, 1) := by decide +kernel
theorem dX12_goesStep_15 : decode cX12_goesStep 15 = .ok (.iadd, 1) := by decide +kernel
theorem dX12_goesStep_16 : decode cX12_goesStep 16 = .ok (.iaload, 1) := by decide +kernel
theorem dX12_goesStep_17 : decode cX12_goesStep 17 = .ok (.putfield 70, 3) := by decide +kernel
theorem dX12_goesStep_20 : decode cX12_goesStep 20 = .ok (.iconst 0, 1) := by decide +kernel
theorem dX12_goesStep_21 : decode cX12_goesStep 21 = .ok (.istore_n 3, 1) := by decide +kernel
theorem dX12_goesStep_22 : decode cX12_goesStep 22 = .ok (.iload_n 3, 1) := by decide +kernel
theorem dX12_goesStep_23 : decode cX12_goesStep 23 = .ok (.aload_n 0, 1) := by decide +kernel
theorem dX12_goesStep_24 : decode cX12_goesStep 24 = .ok (.getfield 70, 3) := by decide +kernel
theorem dX12_goesStep_27 : decode cX12_goesStep 27 = .ok (.if_icmp .ge 25, 3) := by decide +kernel
theorem dX12_goesStep_30 : decode cX12_goesStep 30 = .ok (.aload_n 0, 1) := by decide +kernel
theorem dX12_goesStep_31 : decode cX12_goesStep 31 = .ok (.getfield 13, 3) := by decide +kernel
theorem dX12_goesStep_34 : decode cX12_goesStep 34 = .ok (.iload_n 3, 1) := by decide +kernel
theorem dX12_goesStep_35 : decode cX12_goesStep 35 = .ok (.aload_n 0, 1) := by decide +kernel
theorem dX12_goesStep_36 : decode cX12_goesStep 36 = .ok (.getfield 7, 3) := by decide +kernel
theorem dX12_goesStep_39 : decode cX12_goesStep 39 = .ok (.iload_n 2, 1) := by decide +kernel
theorem dX12_goesStep_40 : decode cX12_goesStep 40 = .ok (.iconst 3, 1) := by decide +kernel
theorem dX12_goesStep_41 : decode cX12_goesStep 41 = .ok (.iadd, 1) := by decide +kernel
theorem dX12_goesStep_42 : decode cX12_goesStep 42 = .ok (.iload_n 3, 1) := by decide +kernel
theorem dX12_goesStep_43 : decode cX12_goesStep 43 = .ok (.iadd, 1) := by decide +kernel
theorem dX12_goesStep_44 : decode cX12_goesStep 44 = .ok (.iaload, 1) := by decide +kernel
theorem dX12_goesStep_45 : decode cX12_goesStep 45 = .ok (.iastore, 1) := by decide +kernel
theorem dX12_goesStep_46 : decode cX12_goesStep 46 = .ok (.iinc 3 1, 3) := by decide +kernel
theorem dX12_goesStep_49 : decode cX12_goesStep 49 = .ok (.goto (-27), 3) := by decide +kernel
theorem dX12_goesStep_52 : decode cX12_goesStep 52 = .ok (.iconst 0, 1) := by decide +kernel
theorem dX12_goesStep_53 : decode cX12_goesStep 53 = .ok (.istore_n 3, 1) := by decide +kernel
theorem dX12_goesStep_54 : decode cX12_goesStep 54 = .ok (.iconst 0, 1) := by decide +kernel
theorem dX12_goesStep_55 : decode cX12_goesStep 55 = .ok (.istore 4, 2) := by decide +kernel
theorem dX12_goesStep_57 : decode cX12_goesStep 57 = .ok (.iload 4, 2) := by decide +kernel
theorem dX12_goesStep_59 : decode cX12_goesStep 59 = .ok (.aload_n 0, 1) := by decide +kernel
theorem dX12_goesStep_60 : decode cX12_goesStep 60 = .ok (.getfield 360, 3) := by decide +kernel
theorem dX12_goesStep_63 : decode cX12_goesStep 63 = .ok (.if_icmp .ge 46, 3) := by decide +kernel
theorem dX12_goesStep_66 : decode cX12_goesStep 66 = .ok (.aload_n 0, 1) := by decide +kernel
theorem dX12_goesStep_67 : decode cX12_goesStep 67 = .ok (.iload_n 1, 1) := by decide +kernel
theorem dX12_goesStep_68 : decode cX12_goesStep 68 = .ok (.aload_n 0, 1) := by decide +kernel
theorem dX12_goesStep_69 : decode cX12_goesStep 69 = .ok (.getfield 47, 3) := by decide +kernel
theorem dX12_goesStep_72 : decode cX12_goesStep 72 = .ok (.iload 4, 2) := by decide +kernel
theorem dX12_goesStep_74 : decode cX12_goesStep 74 = .ok (.iaload, 1) := by decide +kernel
theorem dX12_goesStep_75 : decode cX12_goesStep 75 = .ok (.iload 4, 2) := by decide +kernel
theorem dX12_goesStep_77 : decode cX12_goesStep 77 = .ok (.invokevirtual 363, 3) := by decide +kernel
theorem dX12_goesStep_80 : decode cX12_goesStep 80 = .ok (.ifCond .ne 6, 3) := by decide +kernel
theorem dX12_goesStep_83 : decode cX12_goesStep 83 = .ok (.goto 20, 3) := by decide +kernel
theorem dX12_goesStep_86 : decode cX12_goesStep 86 = .ok (.aload_n 0, 1) := by decide +kernel
theorem dX12_goesStep_87 : decode cX12_goesStep 87 = .ok (.getfield 47, 3) := by decide +kernel
theorem dX12_goesStep_90 : decode cX12_goesStep 90 = .ok (.iload_n 3, 1) := by decide +kernel
theorem dX12_goesStep_91 : decode cX12_goesStep 91 = .ok (.aload_n 0, 1) := by decide +kernel
theorem dX12_goesStep_92 : decode cX12_goesStep 92 = .ok (.getfield 47, 3) := by decide +kernel
theorem dX12_goesStep_95 : decode cX12_goesStep 95 = .ok (.iload 4, 2) := by decide +kernel
theorem dX12_goesStep_97 : decode cX12_goesStep 97 = .ok (.iaload, 1) := by decide +kernel
theorem dX12_goesStep_98 : decode cX12_goesStep 98 = .ok (.iastore, 1) := by decide +kernel
theorem dX12_goesStep_99 : decode cX12_goesStep 99 = .ok (.iload_n 3, 1) := by decide +kernel
theorem dX12_goesStep_100 : decode cX12_goesStep 100 = .ok (.iconst 1, 1) := by decide +kernel
theorem dX12_goesStep_101 : decode cX12_goesStep 101 = .ok (.iadd, 1) := by decide +kernel
theorem dX12_goesStep_102 : decode cX12_goesStep 102 = .ok (.istore_n 3, 1) := by decide +kernel
theorem dX12_goesStep_103 : decode cX12_goesStep 103 = .ok (.iinc 4 1, 3) := by decide +kernel
theorem dX12_goesStep_106 : decode cX12_goesStep 106 = .ok (.goto (-49), 3) := by decide +kernel
theorem dX12_goesStep_109 : decode cX12_goesStep 109 = .ok (.aload_n 0, 1) := by decide +kernel
theorem dX12_goesStep_110 : decode cX12_goesStep 110 = .ok (.iload_n 3, 1) := by decide +kernel
theorem dX12_goesStep_111 : decode cX12_goesStep 111 = .ok (.putfield 360, 3) := by decide +kernel
theorem dX12_goesStep_114 : decode cX12_goesStep 114 = .ok (.aload_n 0, 1) := by decide +kernel
theorem dX12_goesStep_115 : decode cX12_goesStep 115 = .ok (.getfield 7, 3) := by decide +kernel
theorem dX12_goesStep_118 : decode cX12_goesStep 118 = .ok (.iload_n 2, 1) := by decide +kernel
theorem dX12_goesStep_119 : decode cX12_goesStep 119 = .ok (.iaload, 1) := by decide +kernel
theorem dX12_goesStep_120 : decode cX12_goesStep 120 = .ok (.bipush 114, 2) := by decide +kernel
theorem dX12_goesStep_122 : decode cX12_goesStep 122 = .ok (.if_icmp .ne 7, 3) := by decide +kernel
theorem dX12_goesStep_125 : decode cX12_goesStep 125 = .ok (.aload_n 0, 1) := by decide +kernel
theorem dX12_goesStep_126 : decode cX12_goesStep 126 = .ok (.invokevirtual 366, 3) := by decide +kernel
theorem dX12_goesStep_129 : decode cX12_goesStep 129 = .ok (.return_, 1) := by decide +kernel
set_option maxRecDepth 20000 in
theorem ggX12_finds_X12_many : GoodIn wsX12_finds wsX12_many := goodIn_r _ [8, 3, 35, 36, 37, 38, 39, 40, 41, 42, 43, 44, 45, 46, 47, 48, 49, 50, 51, 52, 53, 54, 55, 56, 57, 58, 59, 60, 61, 62, 63, 64, 65, 66, 67, 68, 69, 70, 71, 72, 73, 74, 75] rfl (by decide +kernel)
set_option maxRecDepth 20000 in
theorem gX12_finds_X12_many : GoodIn wsX12_finds (wsV RX12 62 RX12 yX12_many wsX12_many) := goodIn_app (goodIn_r _ [4, 5, 6, 7] rfl (by decide +kernel)) ggX12_finds_X12_many
set_option maxRecDepth 20000 in
theorem ggX12_finds_X12_goesStep : GoodIn wsX12_finds wsX12_goesStep := goodIn_r _ [12, 3, 13, 14, 1, 2, 15, 16, 17, 7, 18, 19, 20, 21, 22, 23, 24, 25, 26, 27, 28, 29, 30, 31, 32, 33, 34, 35, 36, 37, 38, 39, 40, 41, 42, 43, 44, 45, 46, 47, 48, 49, 50, 51, 52, 53, 54, 55, 56, 57, 58, 59, 60, 61, 62, 63, 64, 65, 66, 67, 68, 69, 70, 71, 72, 73, 74, 75] rfl (by decide +kernel)
set_option maxRecDepth 20000 in
theorem gX12_finds_X12_goesStep : GoodIn wsX12_finds (wsV RX12 369 RX12 yX12_goesStep wsX12_goesStep) := goodIn_app (goodIn_r _ [9, 10, 11, 7] rfl (by decide +kernel)) ggX12_finds_X12_goesStep
theorem dX12_finds_0 : decode cX12_finds 0 = .ok (.aload_n 0, 1) := by decide +kernel
theorem dX12_finds_1 : decode cX12_finds 1 = .ok (.aload_n 0, 1) := by decide +kernel
theorem dX12_finds_2 : decode cX12_finds 2 = .ok (.invokevirtual 62, 3) := by decide +kernel
theorem dX12_finds_5 : decode cX12_finds 5 = .ok (.putfield 360, 3) := by decide +kernel
theorem dX12_finds_8 : decode cX12_finds 8 = .ok (.iconst 0, 1) := by decide +kernel
theorem dX12_finds_9 : decode cX12_finds 9 = .ok (.istore_n 1, 1) := by decide +kernel
theorem dX12_finds_10 : decode cX12_finds 10 = .ok (.iload_n 1, 1) := by decide +kernel
theorem dX12_finds_11 : decode cX12_finds 11 = .ok (.aload_n 0, 1) := by decide +kernel
theorem dX12_finds_12 : decode cX12_finds 12 = .ok (.invokevirtual 62, 3) := by decide +kernel
theorem dX12_finds_15 : decode cX12_finds 15 = .ok (.if_icmp .ge 16, 3) := by decide +kernel
theorem dX12_finds_18 : decode cX12_finds 18 = .ok (.aload_n 0, 1) := by decide +kernel
theorem dX12_finds_19 : decode cX12_finds 19 = .ok (.getfield 47, 3) := by decide +kernel
theorem dX12_finds_22 : decode cX12_finds 22 = .ok (.iload_n 1, 1) := by decide +kernel
theorem dX12_finds_23 : decode cX12_finds 23 = .ok (.iload_n 1, 1) := by decide +kernel
theorem dX12_finds_24 : decode cX12_finds 24 = .ok (.iastore, 1) := by decide +kernel
theorem dX12_finds_25 : decode cX12_finds 25 = .ok (.iinc 1 1, 3) := by decide +kernel
theorem dX12_finds_28 : decode cX12_finds 28 = .ok (.goto (-18), 3) := by decide +kernel
theorem dX12_finds_31 : decode cX12_finds 31 = .ok (.iconst 0, 1) := by decide +kernel
theorem dX12_finds_32 : decode cX12_finds 32 = .ok (.istore_n 1, 1) := by decide +kernel
theorem dX12_finds_33 : decode cX12_finds 33 = .ok (.iload_n 1, 1) := by decide +kernel
theorem dX12_finds_34 : decode cX12_finds 34 = .ok (.aload_n 0, 1) := by decide +kernel
theorem dX12_finds_35 : decode cX12_finds 35 = .ok (.getfield 7, 3) := by decide +kernel
theorem dX12_finds_38 : decode cX12_finds 38 = .ok (.bipush 7, 2) := by decide +kernel
theorem dX12_finds_40 : decode cX12_finds 40 = .ok (.iaload, 1) := by decide +kernel
theorem dX12_finds_41 : decode cX12_finds 41 = .ok (.if_icmp .ge 14, 3) := by decide +kernel
theorem dX12_finds_44 : decode cX12_finds 44 = .ok (.aload_n 0, 1) := by decide +kernel
theorem dX12_finds_45 : decode cX12_finds 45 = .ok (.iload_n 1, 1) := by decide +kernel
theorem dX12_finds_46 : decode cX12_finds 46 = .ok (.invokevirtual 369, 3) := by decide +kernel
theorem dX12_finds_49 : decode cX12_finds 49 = .ok (.iinc 1 1, 3) := by decide +kernel
theorem dX12_finds_52 : decode cX12_finds 52 = .ok (.goto (-19), 3) := by decide +kernel
theorem dX12_finds_55 : decode cX12_finds 55 = .ok (.return_, 1) := by decide +kernel
set_option maxRecDepth 20000 in
theorem ggX12_unlikeValues_X12_of : GoodIn wsX12_unlikeValues wsX12_of := goodIn_r _ [7, 8, 9, 10, 11, 12, 13, 14, 15, 16, 17, 18, 19, 20, 21, 22, 23, 24, 25, 26, 27, 28, 29, 30, 31, 32, 33, 34, 35, 36, 37, 38, 39, 40, 41, 42, 43, 44, 45, 46, 47, 48, 49] rfl (by decide +kernel)
set_option maxRecDepth 20000 in
theorem gX12_unlikeValues_X12_of : GoodIn wsX12_unlikeValues (wsV RX12 50 RX12 yX12_of wsX12_of) := goodIn_app (goodIn_r _ [3, 4, 5, 6] rfl (by decide +kernel)) ggX12_unlikeValues_X12_of
theorem dX12_unlikeValues_0 : decode cX12_unlikeValues 0 = .ok (.iconst 0, 1) := by decide +kernel
theorem dX12_unlikeValues_1 : decode cX12_unlikeValues 1 = .ok (.istore_n 1, 1) := by decide +kernel
theorem dX12_unlikeValues_2 : decode cX12_unlikeValues 2 = .ok (.iconst 0, 1) := by decide +kernel
theorem dX12_unlikeValues_3 : decode cX12_unlikeValues 3 = .ok (.istore_n 2, 1) := by decide +kernel
theorem dX12_unlikeValues_4 : decode cX12_unlikeValues 4 = .ok (.iload_n 2, 1) := by decide +kernel
theorem dX12_unlikeValues_5 : decode cX12_unlikeValues 5 = .ok (.aload_n 0, 1) := by decide +kernel
theorem dX12_unlikeValues_6 : decode cX12_unlikeValues 6 = .ok (.getfield 360, 3) := by decide +kernel
theorem dX12_unlikeValues_9 : decode cX12_unlikeValues 9 = .ok (.if_icmp .ge 70, 3) := by decide +kernel
theorem dX12_unlikeValues_12 : decode cX12_unlikeValues 12 = .ok (.iconst 1, 1) := by decide +kernel
theorem dX12_unlikeValues_13 : decode cX12_unlikeValues 13 = .ok (.istore_n 3, 1) := by decide +kernel
theorem dX12_unlikeValues_14 : decode cX12_unlikeValues 14 = .ok (.iconst 0, 1) := by decide +kernel
theorem dX12_unlikeValues_15 : decode cX12_unlikeValues 15 = .ok (.istore 4, 2) := by decide +kernel
theorem dX12_unlikeValues_17 : decode cX12_unlikeValues 17 = .ok (.iload 4, 2) := by decide +kernel
theorem dX12_unlikeValues_19 : decode cX12_unlikeValues 19 = .ok (.iload_n 2, 1) := by decide +kernel
theorem dX12_unlikeValues_20 : decode cX12_unlikeValues 20 = .ok (.if_icmp .ge 45, 3) := by decide +kernel
theorem dX12_unlikeValues_23 : decode cX12_unlikeValues 23 = .ok (.iload_n 3, 1) := by decide +kernel
theorem dX12_unlikeValues_24 : decode cX12_unlikeValues 24 = .ok (.ifCond .eq 33, 3) := by decide +kernel
theorem dX12_unlikeValues_27 : decode cX12_unlikeValues 27 = .ok (.aload_n 0, 1) := by decide +kernel
theorem dX12_unlikeValues_28 : decode cX12_unlikeValues 28 = .ok (.aload_n 0, 1) := by decide +kernel
theorem dX12_unlikeValues_29 : decode cX12_unlikeValues 29 = .ok (.getfield 47, 3) := by decide +kernel
theorem dX12_unlikeValues_32 : decode cX12_unlikeValues 32 = .ok (.iload 4, 2) := by decide +kernel
theorem dX12_unlikeValues_34 : decode cX12_unlikeValues 34 = .ok (.iaload, 1) := by decide +kernel
theorem dX12_unlikeValues_35 : decode cX12_unlikeValues 35 = .ok (.iconst 1, 1) := by decide +kernel
theorem dX12_unlikeValues_36 : decode cX12_unlikeValues 36 = .ok (.invokevirtual 50, 3) := by decide +kernel
theorem dX12_unlikeValues_39 : decode cX12_unlikeValues 39 = .ok (.aload_n 0, 1) := by decide +kernel
theorem dX12_unlikeValues_40 : decode cX12_unlikeValues 40 = .ok (.aload_n 0, 1) := by decide +kernel
theorem dX12_unlikeValues_41 : decode cX12_unlikeValues 41 = .ok (.getfield 47, 3) := by decide +kernel
theorem dX12_unlikeValues_44 : decode cX12_unlikeValues 44 = .ok (.iload_n 2, 1) := by decide +kernel
theorem dX12_unlikeValues_45 : decode cX12_unlikeValues 45 = .ok (.iaload, 1) := by decide +kernel
theorem dX12_unlikeValues_46 : decode cX12_unlikeValues 46 = .ok (.iconst 1, 1) := by decide +kernel
theorem dX12_unlikeValues_47 : decode cX12_unlikeValues 47 = .ok (.invokevirtual 50, 3) := by decide +kernel
theorem dX12_unlikeValues_50 : decode cX12_unlikeValues 50 = .ok (.if_icmp .eq 7, 3) := by decide +kernel
theorem dX12_unlikeValues_53 : decode cX12_unlikeValues 53 = .ok (.iconst 1, 1) := by decide +kernel
theorem dX12_unlikeValues_54 : decode cX12_unlikeValues 54 = .ok (.goto 4, 3) := by decide +kernel
theorem dX12_unlikeValues_57 : decode cX12_unlikeValues 57 = .ok (.iconst 0, 1) := by decide +kernel
theorem dX12_unlikeValues_58 : decode cX12_unlikeValues 58 = .ok (.istore_n 3, 1) := by decide +kernel
theorem dX12_unlikeValues_59 : decode cX12_unlikeValues 59 = .ok (.iinc 4 1, 3) := by decide +kernel
theorem dX12_unlikeValues_62 : decode cX12_unlikeValues 62 = .ok (.goto (-45), 3) := by decide +kernel
theorem dX12_unlikeValues_65 : decode cX12_unlikeValues 65 = .ok (.iload_n 3, 1) := by decide +kernel
theorem dX12_unlikeValues_66 : decode cX12_unlikeValues 66 = .ok (.ifCond .eq 7, 3) := by decide +kernel
theorem dX12_unlikeValues_69 : decode cX12_unlikeValues 69 = .ok (.iload_n 1, 1) := by decide +kernel
theorem dX12_unlikeValues_70 : decode cX12_unlikeValues 70 = .ok (.iconst 1, 1) := by decide +kernel
theorem dX12_unlikeValues_71 : decode cX12_unlikeValues 71 = .ok (.iadd, 1) := by decide +kernel
theorem dX12_unlikeValues_72 : decode cX12_unlikeValues 72 = .ok (.istore_n 1, 1) := by decide +kernel
theorem dX12_unlikeValues_73 : decode cX12_unlikeValues 73 = .ok (.iinc 2 1, 3) := by decide +kernel
theorem dX12_unlikeValues_76 : decode cX12_unlikeValues 76 = .ok (.goto (-72), 3) := by decide +kernel
theorem dX12_unlikeValues_79 : decode cX12_unlikeValues 79 = .ok (.iload_n 1, 1) := by decide +kernel
theorem dX12_unlikeValues_80 : decode cX12_unlikeValues 80 = .ok (.ireturn, 1) := by decide +kernel
set_option maxRecDepth 20000 in
theorem ggX12_found_X12_in : GoodIn wsX12_found wsX12_in := goodIn_r _ [7] rfl (by decide +kernel)
set_option maxRecDepth 20000 in
theorem gX12_found_X12_in : GoodIn wsX12_found (va_wsS RX12 66 yX12_in wsX12_in) := goodIn_app (goodIn_r _ [4, 5, 6] rfl (by decide +kernel)) ggX12_found_X12_in
set_option maxRecDepth 20000 in
theorem ggX12_found_X12_finds : GoodIn wsX12_found wsX12_finds := goodIn_r _ [11, 2, 3, 12, 13, 14, 15, 6, 16, 17, 18, 19, 20, 21, 22, 23, 24, 25, 26, 27, 28, 29, 30, 31, 32, 33, 34, 35, 36, 37, 38, 39, 40, 41, 42, 53, 54, 55, 56, 57, 58, 59, 60, 61, 62, 63, 64, 65, 66, 67, 68, 69, 70, 71, 72, 73, 74, 75, 76, 77, 78, 79, 80, 81, 82, 83, 84, 85, 86, 87, 88, 89, 90, 91, 92, 93] rfl (by decide +kernel)
set_option maxRecDepth 20000 in
theorem gX12_found_X12_finds : GoodIn wsX12_found (wsV RX12 357 RX12 yX12_finds wsX12_finds) := goodIn_app (goodIn_r _ [8, 9, 10, 6] rfl (by decide +kernel)) ggX12_found_X12_finds
set_option maxRecDepth 20000 in
theorem ggX12_found_X12_of : GoodIn wsX12_found wsX12_of := goodIn_r _ [34, 12, 53, 54, 55, 56, 57, 58, 59, 60, 61, 62, 63, 64, 65, 66, 67, 68, 69, 70, 71, 72, 73, 74, 75, 76, 77, 78, 79, 80, 81, 82, 83, 84, 85, 86, 87, 88, 89, 90, 91, 92, 93] rfl (by decide +kernel)
set_option maxRecDepth 20000 in
theorem gX12_found_X12_of : GoodIn wsX12_found (wsV RX12 50 RX12 yX12_of wsX12_of) := goodIn_app (goodIn_r _ [31, 32, 33, 6] rfl (by decide +kernel)) ggX12_found_X12_of
set_option maxRecDepth 20000 in
theorem ggX12_found_X12_max : GoodIn wsX12_found wsX12_max := goodIn_r _ [45] rfl (by decide +kernel)
set_option maxRecDepth 20000 in
theorem gX12_found_X12_max : GoodIn wsX12_found (va_wsS RX12 279 yX12_max wsX12_max) := goodIn_app (goodIn_r _ [43, 44, 6] rfl (by decide +kernel)) ggX12_found_X12_max
set_option maxRecDepth 20000 in
theorem ggX12_found_X12_min : GoodIn wsX12_found wsX12_min := goodIn_r _ [48] rfl (by decide +kernel)
set_option maxRecDepth 20000 in
theorem gX12_found_X12_min : GoodIn wsX12_found (va_wsS RX12 246 yX12_min wsX12_min) := goodIn_app (goodIn_r _ [46, 47, 6] rfl (by decide +kernel)) ggX12_found_X12_min
set_option maxRecDepth 20000 in
theorem ggX12_found_X12_unlikeValues : GoodIn wsX12_found wsX12_unlikeValues := goodIn_r _ [52, 2, 3, 31, 32, 33, 6, 34, 12, 53, 54, 55, 56, 57, 58, 59, 60, 61, 62, 63, 64, 65, 66, 67, 68, 69, 70, 71, 72, 73, 74, 75, 76, 77, 78, 79, 80, 81, 82, 83, 84, 85, 86, 87, 88, 89, 90, 91, 92, 93] rfl (by decide +kernel)
set_option maxRecDepth 20000 in
theorem gX12_found_X12_unlikeValues : GoodIn wsX12_found (wsV RX12 373 RX12 yX12_unlikeValues wsX12_unlikeValues) := goodIn_app (goodIn_r _ [49, 50, 51, 6] rfl (by decide +kernel)) ggX12_found_X12_unlikeValues
theorem dX12_found_0 : decode cX12_found 0 = .ok (.iload_n 1, 1) := by decide +kernel
theorem dX12_found_1 : decode cX12_found 1 = .ok (.iconst 0, 1) := by decide +kernel
theorem dX12_found_2 : decode cX12_found 2 = .ok (.iconst 5, 1) := by decide +kernel
theorem dX12_found_3 : decode cX12_found 3 = .ok (.invokestatic 66, 3) := by decide +kernel
theorem dX12_found_6 : decode cX12_found 6 = .ok (.ifCond .ne 5, 3) := by decide +kernel
theorem dX12_found_9 : decode cX12_found 9 = .ok (.iconst (-1), 1) := by decide +kernel
theorem dX12_found_10 : decode cX12_found 10 = .ok (.ireturn, 1) := by decide +kernel
theorem dX12_found_11 : decode cX12_found 11 = .ok (.aload_n 0, 1) := by decide +kernel
theorem dX12_found_12 : decode cX12_found 12 = .ok (.invokevirtual 357, 3) := by decide +kernel
theorem dX12_found_15 : decode cX12_found 15 = .ok (.iconst 0, 1) := by decide +kernel
theorem dX12_found_16 : decode cX12_found 16 = .ok (.istore_n 2, 1) := by decide +kernel
theorem dX12_found_17 : decode cX12_found 17 = .ok (.iconst 0, 1) := by decide +kernel
theorem dX12_found_18 : decode cX12_found 18 = .ok (.istore_n 3, 1) := by decide +kernel
theorem dX12_found_19 : decode cX12_found 19 = .ok (.bipush (-2), 2) := by decide +kernel
theorem dX12_found_21 : decode cX12_found 21 = .ok (.istore 4, 2) := by decide +kernel
theorem dX12_found_23 : decode cX12_found 23 = .ok (.ldc_w 372, 3) := by decide +kernel
theorem dX12_found_26 : decode cX12_found 26 = .ok (.istore 5, 2) := by decide +kernel
theorem dX12_found_28 : decode cX12_found 28 = .ok (.iconst 0, 1) := by decide +kernel
theorem dX12_found_29 : decode cX12_found 29 = .ok (.istore 6, 2) := by decide +kernel
theorem dX12_found_31 : decode cX12_found 31 = .ok (.iload 6, 2) := by decide +kernel
theorem dX12_found_33 : decode cX12_found 33 = .ok (.aload_n 0, 1) := by decide +kernel
theorem dX12_found_34 : decode cX12_found 34 = .ok (.getfield 360, 3) := by decide +kernel
theorem dX12_found_37 : decode cX12_found 37 = .ok (.if_icmp .ge 61, 3) := by decide +kernel
theorem dX12_found_40 : decode cX12_found 40 = .ok (.aload_n 0, 1) := by decide +kernel
theorem dX12_found_41 : decode cX12_found 41 = .ok (.aload_n 0, 1) := by decide +kernel
theorem dX12_found_42 : decode cX12_found 42 = .ok (.getfield 47, 3) := by decide +kernel
theorem dX12_found_45 : decode cX12_found 45 = .ok (.iload 6, 2) := by decide +kernel
theorem dX12_found_47 : decode cX12_found 47 = .ok (.iaload, 1) := by decide +kernel
theorem dX12_found_48 : decode cX12_found 48 = .ok (.iconst 1, 1) := by decide +kernel
theorem dX12_found_49 : decode cX12_found 49 = .ok (.invokevirtual 50, 3) := by decide +kernel
theorem dX12_found_52 : decode cX12_found 52 = .ok (.istore 7, 2) := by decide +kernel
theorem dX12_found_54 : decode cX12_found 54 = .ok (.iload_n 2, 1) := by decide +kernel
theorem dX12_found_55 : decode cX12_found 55 = .ok (.iload 7, 2) := by decide +kernel
theorem dX12_found_57 : decode cX12_found 57 = .ok (.iadd, 1) := by decide +kernel
theorem dX12_found_58 : decode cX12_found 58 = .ok (.istore_n 2, 1) := by decide +kernel
theorem dX12_found_59 : decode cX12_found 59 = .ok (.iload_n 3, 1) := by decide +kernel
theorem dX12_found_60 : decode cX12_found 60 = .ok (.aload_n 0, 1) := by decide +kernel
theorem dX12_found_61 : decode cX12_found 61 = .ok (.aload_n 0, 1) := by decide +kernel
theorem dX12_found_62 : decode cX12_found 62 = .ok (.getfield 47, 3) := by decide +kernel
theorem dX12_found_65 : decode cX12_found 65 = .ok (.iload 6, 2) := by decide +kernel
theorem dX12_found_67 : decode cX12_found 67 = .ok (.iaload, 1) := by decide +kernel
theorem dX12_found_68 : decode cX12_found 68 = .ok (.iconst 0, 1) := by decide +kernel
theorem dX12_found_69 : decode cX12_found 69 = .ok (.invokevirtual 50, 3) := by decide +kernel
theorem dX12_found_72 : decode cX12_found 72 = .ok (.iadd, 1) := by decide +kernel
theorem dX12_found_73 : decode cX12_found 73 = .ok (.istore_n 3, 1) := by decide +kernel
theorem dX12_found_74 : decode cX12_found 74 = .ok (.iload 4, 2) := by decide +kernel
theorem dX12_found_76 : decode cX12_found 76 = .ok (.iload 7, 2) := by decide +kernel
theorem dX12_found_78 : decode cX12_found 78 = .ok (.invokestatic 279, 3) := by decide +kernel
theorem dX12_found_81 : decode cX12_found 81 = .ok (.istore 4, 2) := by decide +kernel
theorem dX12_found_83 : decode cX12_found 83 = .ok (.iload 5, 2) := by decide +kernel
theorem dX12_found_85 : decode cX12_found 85 = .ok (.iload 7, 2) := by decide +kernel
theorem dX12_found_87 : decode cX12_found 87 = .ok (.invokestatic 246, 3) := by decide +kernel
theorem dX12_found_90 : decode cX12_found 90 = .ok (.istore 5, 2) := by decide +kernel
theorem dX12_found_92 : decode cX12_found 92 = .ok (.iinc 6 1, 3) := by decide +kernel
theorem dX12_found_95 : decode cX12_found 95 = .ok (.goto (-64), 3) := by decide +kernel
theorem dX12_found_98 : decode cX12_found 98 = .ok (.iload_n 1, 1) := by decide +kernel
theorem dX12_found_99 : decode cX12_found 99 = .ok (.tableswitch 61 0 4 #[33, 38, 40, 43, 59], 33) := by decide +kernel
theorem dX12_found_132 : decode cX12_found 132 = .ok (.aload_n 0, 1) := by decide +kernel
theorem dX12_found_133 : decode cX12_found 133 = .ok (.getfield 360, 3) := by decide +kernel
theorem dX12_found_136 : decode cX12_found 136 = .ok (.ireturn, 1) := by decide +kernel
theorem dX12_found_137 : decode cX12_found 137 = .ok (.iload_n 2, 1) := by decide +kernel
theorem dX12_found_138 : decode cX12_found 138 = .ok (.ireturn, 1) := by decide +kernel
theorem dX12_found_139 : decode cX12_found 139 = .ok (.iload 4, 2) := by decide +kernel
theorem dX12_found_141 : decode cX12_found 141 = .ok (.ireturn, 1) := by decide +kernel
theorem dX12_found_142 : decode cX12_found 142 = .ok (.iload 5, 2) := by decide +kernel
theorem dX12_found_144 : decode cX12_found 144 = .ok (.ldc_w 372, 3) := by decide +kernel
theorem dX12_found_147 : decode cX12_found 147 = .ok (.if_icmp .ne 8, 3) := by decide +kernel
theorem dX12_found_150 : decode cX12_found 150 = .ok (.bipush (-2), 2) := by decide +kernel
theorem dX12_found_152 : decode cX12_found 152 = .ok (.goto 5, 3) := by decide +kernel
theorem dX12_found_155 : decode cX12_found 155 = .ok (.iload 5, 2) := by decide +kernel
theorem dX12_found_157 : decode cX12_found 157 = .ok (.ireturn, 1) := by decide +kernel
theorem dX12_found_158 : decode cX12_found 158 = .ok (.iload_n 3, 1) := by decide +kernel
theorem dX12_found_159 : decode cX12_found 159 = .ok (.ireturn, 1) := by decide +kernel
theorem dX12_found_160 : decode cX12_found 160 = .ok (.aload_n 0, 1) := by decide +kernel
theorem dX12_found_161 : decode cX12_found 161 = .ok (.invokevirtual 373, 3) := by decide +kernel
theorem dX12_found_164 : decode cX12_found 164 = .ok (.ireturn, 1) := by decide +kernel
set_option maxRecDepth 20000 in
theorem ggX12_foundAt_X12_finds : GoodIn wsX12_foundAt wsX12_finds := goodIn_r _ [7, 1, 2, 8, 9, 10, 11, 6, 12, 13, 14, 15, 16, 17, 18, 19, 20, 21, 22, 23, 24, 25, 26, 27, 28, 29, 30, 31, 32, 33, 34, 35, 36, 37, 38, 39, 40, 41, 42, 43, 44, 45, 46, 47, 48, 49, 50, 51, 52, 53, 54, 55, 56, 57, 58, 59, 60, 61, 62, 63, 64, 65, 66, 67, 68, 69, 70, 71, 72, 73, 74, 75, 76, 77, 78, 79] rfl (by decide +kernel)
set_option maxRecDepth 20000 in
theorem gX12_foundAt_X12_finds : GoodIn wsX12_foundAt (wsV RX12 357 RX12 yX12_finds wsX12_finds) := goodIn_app (goodIn_r _ [3, 4, 5, 6] rfl (by decide +kernel)) ggX12_foundAt_X12_finds
theorem dX12_foundAt_0 : decode cX12_foundAt 0 = .ok (.iload_n 1, 1) := by decide +kernel
theorem dX12_foundAt_1 : decode cX12_foundAt 1 = .ok (.ifCond .ge 5, 3) := by decide +kernel
theorem dX12_foundAt_4 : decode cX12_foundAt 4 = .ok (.iconst (-1), 1) := by decide +kernel
theorem dX12_foundAt_5 : decode cX12_foundAt 5 = .ok (.ireturn, 1) := by decide +kernel
theorem dX12_foundAt_6 : decode cX12_foundAt 6 = .ok (.aload_n 0, 1) := by decide +kernel
theorem dX12_foundAt_7 : decode cX12_foundAt 7 = .ok (.invokevirtual 357, 3) := by decide +kernel
theorem dX12_foundAt_10 : decode cX12_foundAt 10 = .ok (.iload_n 1, 1) := by decide +kernel
theorem dX12_foundAt_11 : decode cX12_foundAt 11 = .ok (.aload_n 0, 1) := by decide +kernel
theorem dX12_foundAt_12 : decode cX12_foundAt 12 = .ok (.getfield 360, 3) := by decide +kernel
theorem dX12_foundAt_15 : decode cX12_foundAt 15 = .ok (.if_icmp .ge 12, 3) := by decide +kernel
theorem dX12_foundAt_18 : decode cX12_foundAt 18 = .ok (.aload_n 0, 1) := by decide +kernel
theorem dX12_foundAt_19 : decode cX12_foundAt 19 = .ok (.getfield 47, 3) := by decide +kernel
theorem dX12_foundAt_22 : decode cX12_foundAt 22 = .ok (.iload_n 1, 1) := by decide +kernel
theorem dX12_foundAt_23 : decode cX12_foundAt 23 = .ok (.iaload, 1) := by decide +kernel
theorem dX12_foundAt_24 : decode cX12_foundAt 24 = .ok (.goto 5, 3) := by decide +kernel
theorem dX12_foundAt_27 : decode cX12_foundAt 27 = .ok (.bipush (-4), 2) := by decide +kernel
theorem dX12_foundAt_29 : decode cX12_foundAt 29 = .ok (.ireturn, 1) := by decide +kernel
set_option maxRecDepth 20000 in
theorem ggX12_takeFound_X12_finds : GoodIn wsX12_takeFound wsX12_finds := goodIn_r _ [7, 1, 2, 8, 9, 10, 11, 6, 12, 13, 14, 15, 16, 17, 18, 19, 20, 21, 22, 23, 24, 25, 26, 27, 28, 29, 30, 31, 32, 33, 34, 35, 36, 37, 38, 107, 108, 109, 110, 111, 112, 113, 114, 115, 116, 117, 118, 119, 120, 121, 122, 123, 124, 125, 126, 127, 128, 129, 130, 131, 132, 133, 134, 135, 136, 137, 138, 139, 140, 141, 142, 143, 144, 145, 146, 147] rfl (by decide +kernel)
set_option maxRecDepth 20000 in
theorem gX12_takeFound_X12_finds : GoodIn wsX12_takeFound (wsV RX12 357 RX12 yX12_finds wsX12_finds) := goodIn_app (goodIn_r _ [3, 4, 5, 6] rfl (by decide +kernel)) ggX12_takeFound_X12_finds
set_option maxRecDepth 20000 in
theorem ggX12_takeFound_X12_goes : GoodIn wsX12_takeFound wsX12_goes := goodIn_r _ [42, 8, 43, 44, 45, 46, 47, 6, 48, 17, 49, 50, 51, 52, 18, 27, 28, 29, 30, 31, 32, 33, 34, 53, 54, 55, 56, 9, 10, 11, 12, 57, 58, 59, 60, 61, 62, 63, 64, 65, 66, 67, 68, 69, 70, 71, 72, 73, 74, 75, 76, 77, 78, 79, 80, 81, 82, 83, 84, 85, 86, 87, 88, 89, 90, 91, 92, 93, 94, 95, 96, 97, 98, 99, 100, 101, 102, 103, 104, 105, 106, 107, 108, 109, 110, 111, 112, 113, 114, 115, 116, 117, 118, 119, 120, 121, 122, 123, 124, 125, 126, 127, 128, 129, 130, 131, 132, 133, 134, 135, 136, 137, 138, 139, 140, 141, 142, 143, 144, 145, 146, 147] rfl (by decide +kernel)
set_option maxRecDepth 20000 in
theorem gX12_takeFound_X12_goes : GoodIn wsX12_takeFound (wsV RX12 174 RX12 yX12_goes wsX12_goes) := goodIn_app (goodIn_r _ [39, 40, 41, 6] rfl (by decide +kernel)) ggX12_takeFound_X12_goes
theorem dX12_takeFound_0 : decode cX12_takeFound 0 = .ok (.aload_n 0, 1) := by decide +kernel
theorem dX12_takeFound_1 : decode cX12_takeFound 1 = .ok (.invokevirtual 357, 3) := by decide +kernel
theorem dX12_takeFound_4 : decode cX12_takeFound 4 = .ok (.aload_n 0, 1) := by decide +kernel
theorem dX12_takeFound_5 : decode cX12_takeFound 5 = .ok (.getfield 360, 3) := by decide +kernel
theorem dX12_takeFound_8 : decode cX12_takeFound 8 = .ok (.istore_n 1, 1) := by decide +kernel
theorem dX12_takeFound_9 : decode cX12_takeFound 9 = .ok (.iconst 0, 1) := by decide +kernel
theorem dX12_takeFound_10 : decode cX12_takeFound 10 = .ok (.istore_n 2, 1) := by decide +kernel
theorem dX12_takeFound_11 : decode cX12_takeFound 11 = .ok (.iload_n 2, 1) := by decide +kernel
theorem dX12_takeFound_12 : decode cX12_takeFound 12 = .ok (.iload_n 1, 1) := by decide +kernel
theorem dX12_takeFound_13 : decode cX12_takeFound 13 = .ok (.if_icmp .ge 65, 3) := by decide +kernel
theorem dX12_takeFound_16 : decode cX12_takeFound 16 = .ok (.aload_n 0, 1) := by decide +kernel
theorem dX12_takeFound_17 : decode cX12_takeFound 17 = .ok (.getfield 47, 3) := by decide +kernel
theorem dX12_takeFound_20 : decode cX12_takeFound 20 = .ok (.iload_n 2, 1) := by decide +kernel
theorem dX12_takeFound_21 : decode cX12_takeFound 21 = .ok (.iaload, 1) := by decide +kernel
theorem dX12_takeFound_22 : decode cX12_takeFound 22 = .ok (.istore_n 3, 1) := by decide +kernel
theorem dX12_takeFound_23 : decode cX12_takeFound 23 = .ok (.aload_n 0, 1) := by decide +kernel
theorem dX12_takeFound_24 : decode cX12_takeFound 24 = .ok (.iload_n 3, 1) := by decide +kernel
theorem dX12_takeFound_25 : decode cX12_takeFound 25 = .ok (.invokevirtual 174, 3) := by decide +kernel
theorem dX12_takeFound_28 : decode cX12_takeFound 28 = .ok (.iload_n 2, 1) := by decide +kernel
theorem dX12_takeFound_29 : decode cX12_takeFound 29 = .ok (.iconst 1, 1) := by decide +kernel
theorem dX12_takeFound_30 : decode cX12_takeFound 30 = .ok (.iadd, 1) := by decide +kernel
theorem dX12_takeFound_31 : decode cX12_takeFound 31 = .ok (.istore 4, 2) := by decide +kernel
theorem dX12_takeFound_33 : decode cX12_takeFound 33 = .ok (.iload 4, 2) := by decide +kernel
theorem dX12_takeFound_35 : decode cX12_takeFound 35 = .ok (.iload_n 1, 1) := by decide +kernel
theorem dX12_takeFound_36 : decode cX12_takeFound 36 = .ok (.if_icmp .ge 36, 3) := by decide +kernel
theorem dX12_takeFound_39 : decode cX12_takeFound 39 = .ok (.aload_n 0, 1) := by decide +kernel
theorem dX12_takeFound_40 : decode cX12_takeFound 40 = .ok (.getfield 47, 3) := by decide +kernel
theorem dX12_takeFound_43 : decode cX12_takeFound 43 = .ok (.iload 4, 2) := by decide +kernel
theorem dX12_takeFound_45 : decode cX12_takeFound 45 = .ok (.iaload, 1) := by decide +kernel
theorem dX12_takeFound_46 : decode cX12_takeFound 46 = .ok (.iload_n 3, 1) := by decide +kernel
theorem dX12_takeFound_47 : decode cX12_takeFound 47 = .ok (.if_icmp .le 19, 3) := by decide +kernel
theorem dX12_takeFound_50 : decode cX12_takeFound 50 = .ok (.aload_n 0, 1) := by decide +kernel
theorem dX12_takeFound_51 : decode cX12_takeFound 51 = .ok (.getfield 47, 3) := by decide +kernel
theorem dX12_takeFound_54 : decode cX12_takeFound 54 = .ok (.iload 4, 2) := by decide +kernel
theorem dX12_takeFound_56 : decode cX12_takeFound 56 = .ok (.aload_n 0, 1) := by decide +kernel
theorem dX12_takeFound_57 : decode cX12_takeFound 57 = .ok (.getfield 47, 3) := by decide +kernel
theorem dX12_takeFound_60 : decode cX12_takeFound 60 = .ok (.iload 4, 2) := by decide +kernel
theorem dX12_takeFound_62 : decode cX12_takeFound 62 = .ok (.iaload, 1) := by decide +kernel
theorem dX12_takeFound_63 : decode cX12_takeFound 63 = .ok (.iconst 1, 1) := by decide +kernel
theorem dX12_takeFound_64 : decode cX12_takeFound 64 = .ok (.isub, 1) := by decide +kernel
theorem dX12_takeFound_65 : decode cX12_takeFound 65 = .ok (.iastore, 1) := by decide +kernel
theorem dX12_takeFound_66 : decode cX12_takeFound 66 = .ok (.iinc 4 1, 3) := by decide +kernel
theorem dX12_takeFound_69 : decode cX12_takeFound 69 = .ok (.goto (-36), 3) := by decide +kernel
theorem dX12_takeFound_72 : decode cX12_takeFound 72 = .ok (.iinc 2 1, 3) := by decide +kernel
theorem dX12_takeFound_75 : decode cX12_takeFound 75 = .ok (.goto (-64), 3) := by decide +kernel
theorem dX12_takeFound_78 : decode cX12_takeFound 78 = .ok (.iload_n 1, 1) := by decide +kernel
theorem dX12_takeFound_79 : decode cX12_takeFound 79 = .ok (.ireturn, 1) := by decide +kernel
set_option maxRecDepth 20000 in
theorem ggX12_change_X12_in : GoodIn wsX12_change wsX12_in := goodIn_r _ [8] rfl (by decide +kernel)
set_option maxRecDepth 20000 in
theorem gX12_change_X12_in : GoodIn wsX12_change (va_wsS RX12 66 yX12_in wsX12_in) := goodIn_app (goodIn_r _ [5, 6, 7] rfl (by decide +kernel)) ggX12_change_X12_in
set_option maxRecDepth 20000 in
theorem ggX12_change_X12_finds : GoodIn wsX12_change wsX12_finds := goodIn_r _ [12, 2, 3, 13, 14, 15, 16, 7, 17, 18, 19, 20, 21, 22, 23, 24, 25, 26, 27, 28, 29, 30, 31, 32, 33, 34, 35, 36, 37, 38, 39, 40, 41, 42, 43, 48, 49, 50, 51, 52, 53, 54, 55, 56, 57, 58, 59, 60, 61, 62, 63, 64, 65, 66, 67, 68, 69, 70, 71, 72, 73, 74, 75, 76, 77, 78, 79, 80, 81, 82, 83, 84, 85, 86, 87, 88] rfl (by decide +kernel)
set_option maxRecDepth 20000 in
theorem gX12_change_X12_finds : GoodIn wsX12_change (wsV RX12 357 RX12 yX12_finds wsX12_finds) := goodIn_app (goodIn_r _ [9, 10, 11, 7] rfl (by decide +kernel)) ggX12_change_X12_finds
set_option maxRecDepth 20000 in
theorem ggX12_change_X12_of : GoodIn wsX12_change wsX12_of := goodIn_r _ [35, 13, 48, 49, 50, 51, 52, 53, 54, 55, 56, 57, 58, 59, 60, 61, 62, 63, 64, 65, 66, 67, 68, 69, 70, 71, 72, 73, 74, 75, 76, 77, 78, 79, 80, 81, 82, 83, 84, 85, 86, 87, 88] rfl (by decide +kernel)
set_option maxRecDepth 20000 in
theorem gX12_change_X12_of : GoodIn wsX12_change (wsV RX12 50 RX12 yX12_of wsX12_of) := goodIn_app (goodIn_r _ [32, 33, 34, 7] rfl (by decide +kernel)) ggX12_change_X12_of
set_option maxRecDepth 20000 in
theorem ggX12_change_X12_sets : GoodIn wsX12_change wsX12_sets := goodIn_r _ [47, 13, 48, 49, 50, 51, 52, 53, 54, 55, 56, 57, 58, 59, 60, 61, 62, 63, 64, 65, 66, 67, 68, 69, 70, 71, 72, 73, 74, 75, 76, 77, 78, 79, 80, 81, 82, 83, 84, 85, 86, 87, 88] rfl (by decide +kernel)
set_option maxRecDepth 20000 in
theorem gX12_change_X12_sets : GoodIn wsX12_change (wsV RX12 58 RX12 yX12_sets wsX12_sets) := goodIn_app (goodIn_r _ [44, 45, 46, 7] rfl (by decide +kernel)) ggX12_change_X12_sets
theorem dX12_change_0 : decode cX12_change 0 = .ok (.iload_n 1, 1) := by decide +kernel
theorem dX12_change_1 : decode cX12_change 1 = .ok (.iconst 0, 1) := by decide +kernel
theorem dX12_change_2 : decode cX12_change 2 = .ok (.iconst 2, 1) := by decide +kernel
theorem dX12_change_3 : decode cX12_change 3 = .ok (.invokestatic 66, 3) := by decide +kernel
theorem dX12_change_6 : decode cX12_change 6 = .ok (.ifCond .eq 13, 3) := by decide +kernel
theorem dX12_change_9 : decode cX12_change 9 = .ok (.iload_n 2, 1) := by decide +kernel
theorem dX12_change_10 : decode cX12_change 10 = .ok (.iconst 0, 1) := by decide +kernel
theorem dX12_change_11 : decode cX12_change 11 = .ok (.ldc 160, 2) := by decide +kernel
theorem dX12_change_13 : decode cX12_change 13 = .ok (.invokestatic 66, 3) := by decide +kernel
theorem dX12_change_16 : decode cX12_change 16 = .ok (.ifCond .ne 5, 3) := by decide +kernel
theorem dX12_change_19 : decode cX12_change 19 = .ok (.iconst (-1), 1) := by decide +kernel
theorem dX12_change_20 : decode cX12_change 20 = .ok (.ireturn, 1) := by decide +kernel
theorem dX12_change_21 : decode cX12_change 21 = .ok (.aload_n 0, 1) := by decide +kernel
theorem dX12_change_22 : decode cX12_change 22 = .ok (.invokevirtual 357, 3) := by decide +kernel
theorem dX12_change_25 : decode cX12_change 25 = .ok (.iconst 0, 1) := by decide +kernel
theorem dX12_change_26 : decode cX12_change 26 = .ok (.istore_n 3, 1) := by decide +kernel
theorem dX12_change_27 : decode cX12_change 27 = .ok (.iload_n 3, 1) := by decide +kernel
theorem dX12_change_28 : decode cX12_change 28 = .ok (.aload_n 0, 1) := by decide +kernel
theorem dX12_change_29 : decode cX12_change 29 = .ok (.getfield 360, 3) := by decide +kernel
theorem dX12_change_32 : decode cX12_change 32 = .ok (.if_icmp .ge 80, 3) := by decide +kernel
theorem dX12_change_35 : decode cX12_change 35 = .ok (.aload_n 0, 1) := by decide +kernel
theorem dX12_change_36 : decode cX12_change 36 = .ok (.aload_n 0, 1) := by decide +kernel
theorem dX12_change_37 : decode cX12_change 37 = .ok (.getfield 47, 3) := by decide +kernel
theorem dX12_change_40 : decode cX12_change 40 = .ok (.iload_n 3, 1) := by decide +kernel
theorem dX12_change_41 : decode cX12_change 41 = .ok (.iaload, 1) := by decide +kernel
theorem dX12_change_42 : decode cX12_change 42 = .ok (.iconst 1, 1) := by decide +kernel
theorem dX12_change_43 : decode cX12_change 43 = .ok (.invokevirtual 50, 3) := by decide +kernel
theorem dX12_change_46 : decode cX12_change 46 = .ok (.i2l, 1) := by decide +kernel
theorem dX12_change_47 : decode cX12_change 47 = .ok (.lstore 4, 2) := by decide +kernel
theorem dX12_change_49 : decode cX12_change 49 = .ok (.iload_n 1, 1) := by decide +kernel
theorem dX12_change_50 : decode cX12_change 50 = .ok (.ifCond .ne 11, 3) := by decide +kernel
theorem dX12_change_53 : decode cX12_change 53 = .ok (.lload 4, 2) := by decide +kernel
theorem dX12_change_55 : decode cX12_change 55 = .ok (.iload_n 2, 1) := by decide +kernel
theorem dX12_change_56 : decode cX12_change 56 = .ok (.i2l, 1) := by decide +kernel
theorem dX12_change_57 : decode cX12_change 57 = .ok (.ladd, 1) := by decide +kernel
theorem dX12_change_58 : decode cX12_change 58 = .ok (.goto 18, 3) := by decide +kernel
theorem dX12_change_61 : decode cX12_change 61 = .ok (.iload_n 1, 1) := by decide +kernel
theorem dX12_change_62 : decode cX12_change 62 = .ok (.iconst 1, 1) := by decide +kernel
theorem dX12_change_63 : decode cX12_change 63 = .ok (.if_icmp .ne 11, 3) := by decide +kernel
theorem dX12_change_66 : decode cX12_change 66 = .ok (.lload 4, 2) := by decide +kernel
theorem dX12_change_68 : decode cX12_change 68 = .ok (.iload_n 2, 1) := by decide +kernel
theorem dX12_change_69 : decode cX12_change 69 = .ok (.i2l, 1) := by decide +kernel
theorem dX12_change_70 : decode cX12_change 70 = .ok (.lmul, 1) := by decide +kernel
theorem dX12_change_71 : decode cX12_change 71 = .ok (.goto 5, 3) := by decide +kernel
theorem dX12_change_74 : decode cX12_change 74 = .ok (.iload_n 2, 1) := by decide +kernel
theorem dX12_change_75 : decode cX12_change 75 = .ok (.i2l, 1) := by decide +kernel
theorem dX12_change_76 : decode cX12_change 76 = .ok (.lstore 6, 2) := by decide +kernel
theorem dX12_change_78 : decode cX12_change 78 = .ok (.aload_n 0, 1) := by decide +kernel
theorem dX12_change_79 : decode cX12_change 79 = .ok (.aload_n 0, 1) := by decide +kernel
theorem dX12_change_80 : decode cX12_change 80 = .ok (.getfield 47, 3) := by decide +kernel
theorem dX12_change_83 : decode cX12_change 83 = .ok (.iload_n 3, 1) := by decide +kernel
theorem dX12_change_84 : decode cX12_change 84 = .ok (.iaload, 1) := by decide +kernel
theorem dX12_change_85 : decode cX12_change 85 = .ok (.iconst 1, 1) := by decide +kernel
theorem dX12_change_86 : decode cX12_change 86 = .ok (.lload 6, 2) := by decide +kernel
theorem dX12_change_88 : decode cX12_change 88 = .ok (.ldc2_w 376, 3) := by decide +kernel
theorem dX12_change_91 : decode cX12_change 91 = .ok (.lcmp, 1) := by decide +kernel
theorem dX12_change_92 : decode cX12_change 92 = .ok (.ifCond .le 8, 3) := by decide +kernel
theorem dX12_change_95 : decode cX12_change 95 = .ok (.ldc 160, 2) := by decide +kernel
theorem dX12_change_97 : decode cX12_change 97 = .ok (.goto 6, 3) := by decide +kernel
theorem dX12_change_100 : decode cX12_change 100 = .ok (.lload 6, 2) := by decide +kernel
theorem dX12_change_102 : decode cX12_change 102 = .ok (.l2i, 1) := by decide +kernel
theorem dX12_change_103 : decode cX12_change 103 = .ok (.invokevirtual 58, 3) := by decide +kernel
theorem dX12_change_106 : decode cX12_change 106 = .ok (.iinc 3 1, 3) := by decide +kernel
theorem dX12_change_109 : decode cX12_change 109 = .ok (.goto (-82), 3) := by decide +kernel
theorem dX12_change_112 : decode cX12_change 112 = .ok (.aload_n 0, 1) := by decide +kernel
theorem dX12_change_113 : decode cX12_change 113 = .ok (.getfield 360, 3) := by decide +kernel
theorem dX12_change_116 : decode cX12_change 116 = .ok (.ireturn, 1) := by decide +kernel
set_option maxRecDepth 20000 in
theorem ggX12_comesAnew_X12_copies : GoodIn wsX12_comesAnew wsX12_copies := goodIn_r _ [8, 1, 94, 95, 96, 97, 98, 99, 100, 101, 102, 103, 104, 105, 106, 107, 108, 109, 110, 111, 112, 113, 114, 115, 116, 117, 118, 119, 120, 121, 122, 123, 124, 125, 126, 127, 128, 129, 130, 131, 132, 133, 134] rfl (by decide +kernel)
set_option maxRecDepth 20000 in
theorem gX12_comesAnew_X12_copies : GoodIn wsX12_comesAnew (wsV RX12 237 RX12 yX12_copies wsX12_copies) := goodIn_app (goodIn_r _ [4, 5, 6, 7] rfl (by decide +kernel)) ggX12_comesAnew_X12_copies
set_option maxRecDepth 20000 in
theorem ggX12_comesAnew_X12_many : GoodIn wsX12_comesAnew wsX12_many := goodIn_r _ [12, 1, 94, 95, 96, 97, 98, 99, 100, 101, 102, 103, 104, 105, 106, 107, 108, 109, 110, 111, 112, 113, 114, 115, 116, 117, 118, 119, 120, 121, 122, 123, 124, 125, 126, 127, 128, 129, 130, 131, 132, 133, 134] rfl (by decide +kernel)
set_option maxRecDepth 20000 in
theorem gX12_comesAnew_X12_many : GoodIn wsX12_comesAnew (wsV RX12 62 RX12 yX12_many wsX12_many) := goodIn_app (goodIn_r _ [9, 10, 11, 7] rfl (by decide +kernel)) ggX12_comesAnew_X12_many
set_option maxRecDepth 20000 in
theorem ggX12_comesAnew_X12_empties : GoodIn wsX12_comesAnew wsX12_empties := goodIn_r _ [16, 1, 94, 95, 96, 97, 98, 99, 100, 101, 102, 103, 104, 105, 106, 107, 108, 109, 110, 111, 112, 113, 114, 115, 116, 117, 118, 119, 120, 121, 122, 123, 124, 125, 126, 127, 128, 129, 130, 131, 132, 133, 134] rfl (by decide +kernel)
set_option maxRecDepth 20000 in
theorem gX12_comesAnew_X12_empties : GoodIn wsX12_comesAnew (wsV RX12 144 RX12 yX12_empties wsX12_empties) := goodIn_app (goodIn_r _ [13, 14, 15, 7] rfl (by decide +kernel)) ggX12_comesAnew_X12_empties
set_option maxRecDepth 20000 in
theorem ggX12_comesAnew_X12_comes : GoodIn wsX12_comesAnew wsX12_comes := goodIn_r _ [20, 21, 22, 23, 1, 24, 25, 26, 7, 27, 2, 28, 29, 30, 31, 32, 33, 9, 10, 11, 12, 34, 35, 36, 37, 3, 38, 39, 40, 41, 42, 43, 44, 45, 46, 47, 48, 49, 50, 51, 52, 53, 54, 55, 56, 57, 58, 59, 60, 61, 62, 63, 64, 65, 66, 67, 68, 69, 70, 71, 72, 73, 74, 75, 76, 77, 78, 79, 80, 81, 82, 83, 84, 85, 86, 87, 88, 89, 90, 91, 92, 93, 94, 95, 96, 97, 98, 99, 100, 101, 102, 103, 104, 105, 106, 107, 108, 109, 110, 111, 112, 113, 114, 115, 116, 117, 118, 119, 120, 121, 122, 123, 124, 125, 126, 127, 128, 129, 130, 131, 132, 133, 134] rfl (by decide +kernel)
set_option maxRecDepth 20000 in
theorem gX12_comesAnew_X12_comes : GoodIn wsX12_comesAnew (wsV RX12 171 RX12 yX12_comes wsX12_comes) := goodIn_app (goodIn_r _ [17, 18, 19, 7] rfl (by decide +kernel)) ggX12_comesAnew_X12_comes
theorem dX12_comesAnew_0 : decode cX12_comesAnew 0 = .ok (.aload_n 0, 1) := by decide +kernel
theorem dX12_comesAnew_1 : decode cX12_comesAnew 1 = .ok (.iconst 0, 1) := by decide +kernel
theorem dX12_comesAnew_2 : decode cX12_comesAnew 2 = .ok (.iconst 2, 1) := by decide +kernel
theorem dX12_comesAnew_3 : decode cX12_comesAnew 3 = .ok (.invokevirtual 237, 3) := by decide +kernel
theorem dX12_comesAnew_6 : decode cX12_comesAnew 6 = .ok (.aload_n 0, 1) := by decide +kernel
theorem dX12_comesAnew_7 : decode cX12_comesAnew 7 = .ok (.invokevirtual 62, 3) := by decide +kernel
theorem dX12_comesAnew_10 : decode cX12_comesAnew 10 = .ok (.istore_n 3, 1) := by decide +kernel
theorem dX12_comesAnew_11 : decode cX12_comesAnew 11 = .ok (.aload_n 0, 1) := by decide +kernel
theorem dX12_comesAnew_12 : decode cX12_comesAnew 12 = .ok (.iload_n 1, 1) := by decide +kernel
theorem dX12_comesAnew_13 : decode cX12_comesAnew 13 = .ok (.iload_n 2, 1) := by decide +kernel
theorem dX12_comesAnew_14 : decode cX12_comesAnew 14 = .ok (.invokevirtual 144, 3) := by decide +kernel
theorem dX12_comesAnew_17 : decode cX12_comesAnew 17 = .ok (.iconst 0, 1) := by decide +kernel
theorem dX12_comesAnew_18 : decode cX12_comesAnew 18 = .ok (.istore 4, 2) := by decide +kernel
theorem dX12_comesAnew_20 : decode cX12_comesAnew 20 = .ok (.iload 4, 2) := by decide +kernel
theorem dX12_comesAnew_22 : decode cX12_comesAnew 22 = .ok (.iload_n 3, 1) := by decide +kernel
theorem dX12_comesAnew_23 : decode cX12_comesAnew 23 = .ok (.if_icmp .ge 83, 3) := by decide +kernel
theorem dX12_comesAnew_26 : decode cX12_comesAnew 26 = .ok (.sipush 9052, 3) := by decide +kernel
theorem dX12_comesAnew_29 : decode cX12_comesAnew 29 = .ok (.bipush 27, 2) := by decide +kernel
theorem dX12_comesAnew_31 : decode cX12_comesAnew 31 = .ok (.iload 4, 2) := by decide +kernel
theorem dX12_comesAnew_33 : decode cX12_comesAnew 33 = .ok (.imul, 1) := by decide +kernel
theorem dX12_comesAnew_34 : decode cX12_comesAnew 34 = .ok (.iadd, 1) := by decide +kernel
theorem dX12_comesAnew_35 : decode cX12_comesAnew 35 = .ok (.istore 5, 2) := by decide +kernel
theorem dX12_comesAnew_37 : decode cX12_comesAnew 37 = .ok (.aload_n 0, 1) := by decide +kernel
theorem dX12_comesAnew_38 : decode cX12_comesAnew 38 = .ok (.aload_n 0, 1) := by decide +kernel
theorem dX12_comesAnew_39 : decode cX12_comesAnew 39 = .ok (.getfield 7, 3) := by decide +kernel
theorem dX12_comesAnew_42 : decode cX12_comesAnew 42 = .ok (.iload 5, 2) := by decide +kernel
theorem dX12_comesAnew_44 : decode cX12_comesAnew 44 = .ok (.iconst 0, 1) := by decide +kernel
theorem dX12_comesAnew_45 : decode cX12_comesAnew 45 = .ok (.iadd, 1) := by decide +kernel
theorem dX12_comesAnew_46 : decode cX12_comesAnew 46 = .ok (.iaload, 1) := by decide +kernel
theorem dX12_comesAnew_47 : decode cX12_comesAnew 47 = .ok (.putfield 70, 3) := by decide +kernel
theorem dX12_comesAnew_50 : decode cX12_comesAnew 50 = .ok (.iconst 0, 1) := by decide +kernel
theorem dX12_comesAnew_51 : decode cX12_comesAnew 51 = .ok (.istore 6, 2) := by decide +kernel
theorem dX12_comesAnew_53 : decode cX12_comesAnew 53 = .ok (.iload 6, 2) := by decide +kernel
theorem dX12_comesAnew_55 : decode cX12_comesAnew 55 = .ok (.aload_n 0, 1) := by decide +kernel
theorem dX12_comesAnew_56 : decode cX12_comesAnew 56 = .ok (.getfield 70, 3) := by decide +kernel
theorem dX12_comesAnew_59 : decode cX12_comesAnew 59 = .ok (.if_icmp .ge 28, 3) := by decide +kernel
theorem dX12_comesAnew_62 : decode cX12_comesAnew 62 = .ok (.aload_n 0, 1) := by decide +kernel
theorem dX12_comesAnew_63 : decode cX12_comesAnew 63 = .ok (.getfield 13, 3) := by decide +kernel
theorem dX12_comesAnew_66 : decode cX12_comesAnew 66 = .ok (.iload 6, 2) := by decide +kernel
theorem dX12_comesAnew_68 : decode cX12_comesAnew 68 = .ok (.aload_n 0, 1) := by decide +kernel
theorem dX12_comesAnew_69 : decode cX12_comesAnew 69 = .ok (.getfield 7, 3) := by decide +kernel
theorem dX12_comesAnew_72 : decode cX12_comesAnew 72 = .ok (.iload 5, 2) := by decide +kernel
theorem dX12_comesAnew_74 : decode cX12_comesAnew 74 = .ok (.iconst 3, 1) := by decide +kernel
theorem dX12_comesAnew_75 : decode cX12_comesAnew 75 = .ok (.iadd, 1) := by decide +kernel
theorem dX12_comesAnew_76 : decode cX12_comesAnew 76 = .ok (.iload 6, 2) := by decide +kernel
theorem dX12_comesAnew_78 : decode cX12_comesAnew 78 = .ok (.iadd, 1) := by decide +kernel
theorem dX12_comesAnew_79 : decode cX12_comesAnew 79 = .ok (.iaload, 1) := by decide +kernel
theorem dX12_comesAnew_80 : decode cX12_comesAnew 80 = .ok (.iastore, 1) := by decide +kernel
theorem dX12_comesAnew_81 : decode cX12_comesAnew 81 = .ok (.iinc 6 1, 3) := by decide +kernel
theorem dX12_comesAnew_84 : decode cX12_comesAnew 84 = .ok (.goto (-31), 3) := by decide +kernel
theorem dX12_comesAnew_87 : decode cX12_comesAnew 87 = .ok (.aload_n 0, 1) := by decide +kernel
theorem dX12_comesAnew_88 : decode cX12_comesAnew 88 = .ok (.aload_n 0, 1) := by decide +kernel
theorem dX12_comesAnew_89 : decode cX12_comesAnew 89 = .ok (.getfield 7, 3) := by decide +kernel
theorem dX12_comesAnew_92 : decode cX12_comesAnew 92 = .ok (.iload 5, 2) := by decide +kernel
theorem dX12_comesAnew_94 : decode cX12_comesAnew 94 = .ok (.iconst 1, 1) := by decide +kernel
theorem dX12_comesAnew_95 : decode cX12_comesAnew 95 = .ok (.iadd, 1) := by decide +kernel
theorem dX12_comesAnew_96 : decode cX12_comesAnew 96 = .ok (.iaload, 1) := by decide +kernel
theorem dX12_comesAnew_97 : decode cX12_comesAnew 97 = .ok (.invokevirtual 171, 3) := by decide +kernel
theorem dX12_comesAnew_100 : decode cX12_comesAnew 100 = .ok (.iinc 4 1, 3) := by decide +kernel
theorem dX12_comesAnew_103 : decode cX12_comesAnew 103 = .ok (.goto (-83), 3) := by decide +kernel
theorem dX12_comesAnew_106 : decode cX12_comesAnew 106 = .ok (.return_, 1) := by decide +kernel
set_option maxRecDepth 20000 in
theorem ggX12_tried_X12_in : GoodIn wsX12_tried wsX12_in := goodIn_r _ [4] rfl (by decide +kernel)
set_option maxRecDepth 20000 in
theorem gX12_tried_X12_in : GoodIn wsX12_tried (va_wsS RX12 66 yX12_in wsX12_in) := goodIn_app (goodIn_r _ [1, 2, 3] rfl (by decide +kernel)) ggX12_tried_X12_in
set_option maxRecDepth 20000 in
theorem ggX12_tried_X12_comesAnew : GoodIn wsX12_tried wsX12_comesAnew := goodIn_r _ [8, 9, 10, 11, 12, 13, 14, 3, 15, 16, 17, 18, 19, 20, 21, 22, 23, 24, 25, 26, 27, 28, 29, 30, 31, 32, 33, 34, 35, 36, 37, 38, 39, 40, 41, 42, 43, 44, 45, 46, 47, 48, 49, 50, 51, 52, 53, 54, 55, 56, 57, 58, 59, 60, 61, 62, 63, 64, 65, 66, 67, 68, 69, 70, 71, 72, 73, 74, 75, 76, 77, 78, 79, 80, 81, 82, 83, 84, 85, 86, 87, 88, 89, 90, 91, 92, 93, 94, 95, 96, 97, 98, 99, 100, 154, 155, 156, 157, 158, 159, 160, 161, 162, 163, 164, 165, 166, 167, 168, 169, 170, 171, 172, 173, 174, 175, 176, 177, 178, 179, 180, 181, 182, 183, 184, 185, 186, 187, 188, 189, 190, 191, 192, 193, 194] rfl (by decide +kernel)
set_option maxRecDepth 20000 in
theorem gX12_tried_X12_comesAnew : GoodIn wsX12_tried (wsV RX12 378 RX12 yX12_comesAnew wsX12_comesAnew) := goodIn_app (goodIn_r _ [5, 6, 7, 3] rfl (by decide +kernel)) ggX12_tried_X12_comesAnew
set_option maxRecDepth 20000 in
theorem ggX12_tried_X12_sumOf : GoodIn wsX12_tried wsX12_sumOf := goodIn_r _ [104, 105, 106, 107, 108, 109, 110, 111, 9, 112, 113, 114, 3, 115, 16, 17, 18, 19, 45, 46, 47, 48, 116, 117, 118, 119, 35, 36, 120, 121, 122, 123, 10, 11, 49, 50, 51, 52, 37, 38, 39, 40, 41, 42, 43, 44, 69, 70, 71, 72, 28, 73, 30, 74, 75, 76, 77, 124, 125, 126, 127, 128, 129, 130, 131, 90, 91, 92, 93, 94, 95, 96, 132, 133, 134, 135, 136, 137, 138, 139, 140, 141, 142, 143, 144, 145, 146, 147, 148, 149, 150, 151, 152, 153, 154, 155, 156, 157, 158, 159, 160, 161, 162, 163, 164, 165, 166, 167, 168, 169, 170, 171, 172, 173, 174, 175, 176, 177, 178, 179, 180, 181, 182, 183, 184, 185, 186, 187, 188, 189, 190, 191, 192, 193, 194] rfl (by decide +kernel)
set_option maxRecDepth 20000 in
theorem gX12_tried_X12_sumOf : GoodIn wsX12_tried (wsV RX12 294 RX12 yX12_sumOf wsX12_sumOf) := goodIn_app (goodIn_r _ [101, 102, 103, 3] rfl (by decide +kernel)) ggX12_tried_X12_sumOf
set_option maxRecDepth 20000 in
theorem ggX12_tried_X12_copies : GoodIn wsX12_tried wsX12_copies := goodIn_r _ [15, 9, 154, 155, 156, 157, 158, 159, 160, 161, 162, 163, 164, 165, 166, 167, 168, 169, 170, 171, 172, 173, 174, 175, 176, 177, 178, 179, 180, 181, 182, 183, 184, 185, 186, 187, 188, 189, 190, 191, 192, 193, 194] rfl (by decide +kernel)
set_option maxRecDepth 20000 in
theorem gX12_tried_X12_copies : GoodIn wsX12_tried (wsV RX12 237 RX12 yX12_copies wsX12_copies) := goodIn_app (goodIn_r _ [12, 13, 14, 3] rfl (by decide +kernel)) ggX12_tried_X12_copies
theorem dX12_tried_0 : decode cX12_tried 0 = .ok (.iload_n 1, 1) := by decide +kernel
theorem dX12_tried_1 : decode cX12_tried 1 = .ok (.iconst 1, 1) := by decide +kernel
theorem dX12_tried_2 : decode cX12_tried 2 = .ok (.bipush 8, 2) := by decide +kernel
theorem dX12_tried_4 : decode cX12_tried 4 = .ok (.invokestatic 66, 3) := by decide +kernel
theorem dX12_tried_7 : decode cX12_tried 7 = .ok (.ifCond .eq 23, 3) := by decide +kernel
theorem dX12_tried_10 : decode cX12_tried 10 = .ok (.iload_n 2, 1) := by decide +kernel
theorem dX12_tried_11 : decode cX12_tried 11 = .ok (.iconst 2, 1) := by decide +kernel
theorem dX12_tried_12 : decode cX12_tried 12 = .ok (.bipush 8, 2) := by decide +kernel
theorem dX12_tried_14 : decode cX12_tried 14 = .ok (.invokestatic 66, 3) := by decide +kernel
theorem dX12_tried_17 : decode cX12_tried 17 = .ok (.ifCond .eq 13, 3) := by decide +kernel
theorem dX12_tried_20 : decode cX12_tried 20 = .ok (.iload_n 3, 1) := by decide +kernel
theorem dX12_tried_21 : decode cX12_tried 21 = .ok (.iconst 3, 1) := by decide +kernel
theorem dX12_tried_22 : decode cX12_tried 22 = .ok (.bipush 13, 2) := by decide +kernel
theorem dX12_tried_24 : decode cX12_tried 24 = .ok (.invokestatic 66, 3) := by decide +kernel
theorem dX12_tried_27 : decode cX12_tried 27 = .ok (.ifCond .ne 5, 3) := by decide +kernel
theorem dX12_tried_30 : decode cX12_tried 30 = .ok (.iconst (-1), 1) := by decide +kernel
theorem dX12_tried_31 : decode cX12_tried 31 = .ok (.ireturn, 1) := by decide +kernel
theorem dX12_tried_32 : decode cX12_tried 32 = .ok (.aload_n 0, 1) := by decide +kernel
theorem dX12_tried_33 : decode cX12_tried 33 = .ok (.iload_n 1, 1) := by decide +kernel
theorem dX12_tried_34 : decode cX12_tried 34 = .ok (.iload_n 2, 1) := by decide +kernel
theorem dX12_tried_35 : decode cX12_tried 35 = .ok (.invokevirtual 378, 3) := by decide +kernel
theorem dX12_tried_38 : decode cX12_tried 38 = .ok (.aload_n 0, 1) := by decide +kernel
theorem dX12_tried_39 : decode cX12_tried 39 = .ok (.iload_n 3, 1) := by decide +kernel
theorem dX12_tried_40 : decode cX12_tried 40 = .ok (.invokevirtual 294, 3) := by decide +kernel
theorem dX12_tried_43 : decode cX12_tried 43 = .ok (.istore 4, 2) := by decide +kernel
theorem dX12_tried_45 : decode cX12_tried 45 = .ok (.aload_n 0, 1) := by decide +kernel
theorem dX12_tried_46 : decode cX12_tried 46 = .ok (.iconst 2, 1) := by decide +kernel
theorem dX12_tried_47 : decode cX12_tried 47 = .ok (.iconst 0, 1) := by decide +kernel
theorem dX12_tried_48 : decode cX12_tried 48 = .ok (.invokevirtual 237, 3) := by decide +kernel
theorem dX12_tried_51 : decode cX12_tried 51 = .ok (.iload 4, 2) := by decide +kernel
theorem dX12_tried_53 : decode cX12_tried 53 = .ok (.ireturn, 1) := by decide +kernel
set_option maxRecDepth 20000 in
theorem ggX12_best_X12_in : GoodIn wsX12_best wsX12_in := goodIn_r _ [6] rfl (by decide +kernel)
set_option maxRecDepth 20000 in
theorem gX12_best_X12_in : GoodIn wsX12_best (va_wsS RX12 66 yX12_in wsX12_in) := goodIn_app (goodIn_r _ [3, 4, 5] rfl (by decide +kernel)) ggX12_best_X12_in
set_option maxRecDepth 20000 in
theorem ggX12_best_X12_tried : GoodIn wsX12_best wsX12_tried := goodIn_r _ [10, 3, 4, 5, 6, 11, 12, 13, 14, 2, 15, 16, 17, 18, 19, 20, 21, 22, 23, 24, 25, 26, 27, 28, 29, 30, 31, 32, 33, 34, 35, 36, 37, 38, 39, 40, 41, 42, 43, 44, 45, 46, 47, 48, 49, 50, 51, 52, 53, 54, 55, 56, 57, 58, 59, 60, 61, 62, 63, 64, 65, 66, 67, 68, 69, 70, 71, 72, 73, 74, 75, 76, 77, 78, 79, 80, 81, 82, 83, 84, 85, 86, 87, 88, 89, 90, 91, 92, 93, 94, 95, 96, 97, 98, 99, 100, 101, 102, 103, 104, 105, 106, 107, 108, 109, 110, 111, 112, 113, 114, 115, 116, 117, 118, 119, 120, 121, 122, 123, 124, 125, 126, 127, 128, 129, 130, 131, 132, 133, 134, 135, 136, 137, 138, 139, 140, 141, 142, 143, 144, 145, 146, 147, 148, 149, 150, 151, 152, 153, 154, 155, 156, 157, 158, 159, 160, 161, 162, 163, 164, 165, 166, 167, 168, 169, 170, 171, 172, 173, 174, 175, 176, 177, 178, 179, 180, 181, 182, 183, 184, 185, 186, 187, 188, 189, 190, 191, 192, 193, 194, 195, 196, 197, 198, 199] rfl (by decide +kernel)
set_option maxRecDepth 20000 in
theorem gX12_best_X12_tried : GoodIn wsX12_best (wsV RX12 381 RX12 yX12_tried wsX12_tried) := goodIn_app (goodIn_r _ [7, 8, 9, 5] rfl (by decide +kernel)) ggX12_best_X12_tried
set_option maxRecDepth 20000 in
theorem ggX12_best_X12_min : GoodIn wsX12_best wsX12_min := goodIn_r _ [154] rfl (by decide +kernel)
set_option maxRecDepth 20000 in
theorem gX12_best_X12_min : GoodIn wsX12_best (va_wsS RX12 246 yX12_min wsX12_min) := goodIn_app (goodIn_r _ [152, 153, 5] rfl (by decide +kernel)) ggX12_best_X12_min
theorem dX12_best_0 : decode cX12_best 0 = .ok (.iload_n 1, 1) := by decide +kernel
theorem dX12_best_1 : decode cX12_best 1 = .ok (.iconst 0, 1) := by decide +kernel
theorem dX12_best_2 : decode cX12_best 2 = .ok (.iconst 1, 1) := by decide +kernel
theorem dX12_best_3 : decode cX12_best 3 = .ok (.invokestatic 66, 3) := by decide +kernel
theorem dX12_best_6 : decode cX12_best 6 = .ok (.ifCond .ne 5, 3) := by decide +kernel
theorem dX12_best_9 : decode cX12_best 9 = .ok (.iconst (-1), 1) := by decide +kernel
theorem dX12_best_10 : decode cX12_best 10 = .ok (.ireturn, 1) := by decide +kernel
theorem dX12_best_11 : decode cX12_best 11 = .ok (.iconst 1, 1) := by decide +kernel
theorem dX12_best_12 : decode cX12_best 12 = .ok (.istore_n 2, 1) := by decide +kernel
theorem dX12_best_13 : decode cX12_best 13 = .ok (.ldc_w 372, 3) := by decide +kernel
theorem dX12_best_16 : decode cX12_best 16 = .ok (.istore_n 3, 1) := by decide +kernel
theorem dX12_best_17 : decode cX12_best 17 = .ok (.iconst 1, 1) := by decide +kernel
theorem dX12_best_18 : decode cX12_best 18 = .ok (.istore 4, 2) := by decide +kernel
theorem dX12_best_20 : decode cX12_best 20 = .ok (.iload 4, 2) := by decide +kernel
theorem dX12_best_22 : decode cX12_best 22 = .ok (.bipush 8, 2) := by decide +kernel
theorem dX12_best_24 : decode cX12_best 24 = .ok (.if_icmp .gt 41, 3) := by decide +kernel
theorem dX12_best_27 : decode cX12_best 27 = .ok (.aload_n 0, 1) := by decide +kernel
theorem dX12_best_28 : decode cX12_best 28 = .ok (.iload 4, 2) := by decide +kernel
theorem dX12_best_30 : decode cX12_best 30 = .ok (.aload_n 0, 1) := by decide +kernel
theorem dX12_best_31 : decode cX12_best 31 = .ok (.getfield 7, 3) := by decide +kernel
theorem dX12_best_34 : decode cX12_best 34 = .ok (.iconst 2, 1) := by decide +kernel
theorem dX12_best_35 : decode cX12_best 35 = .ok (.iaload, 1) := by decide +kernel
theorem dX12_best_36 : decode cX12_best 36 = .ok (.bipush 13, 2) := by decide +kernel
theorem dX12_best_38 : decode cX12_best 38 = .ok (.invokevirtual 381, 3) := by decide +kernel
theorem dX12_best_41 : decode cX12_best 41 = .ok (.istore 5, 2) := by decide +kernel
theorem dX12_best_43 : decode cX12_best 43 = .ok (.iload 5, 2) := by decide +kernel
theorem dX12_best_45 : decode cX12_best 45 = .ok (.iload_n 3, 1) := by decide +kernel
theorem dX12_best_46 : decode cX12_best 46 = .ok (.if_icmp .ge 6, 3) := by decide +kernel
theorem dX12_best_49 : decode cX12_best 49 = .ok (.iload 4, 2) := by decide +kernel
theorem dX12_best_51 : decode cX12_best 51 = .ok (.istore_n 2, 1) := by decide +kernel
theorem dX12_best_52 : decode cX12_best 52 = .ok (.iload_n 3, 1) := by decide +kernel
theorem dX12_best_53 : decode cX12_best 53 = .ok (.iload 5, 2) := by decide +kernel
theorem dX12_best_55 : decode cX12_best 55 = .ok (.invokestatic 246, 3) := by decide +kernel
theorem dX12_best_58 : decode cX12_best 58 = .ok (.istore_n 3, 1) := by decide +kernel
theorem dX12_best_59 : decode cX12_best 59 = .ok (.iinc 4 1, 3) := by decide +kernel
theorem dX12_best_62 : decode cX12_best 62 = .ok (.goto (-42), 3) := by decide +kernel
theorem dX12_best_65 : decode cX12_best 65 = .ok (.iload_n 1, 1) := by decide +kernel
theorem dX12_best_66 : decode cX12_best 66 = .ok (.ifCond .ne 7, 3) := by decide +kernel
theorem dX12_best_69 : decode cX12_best 69 = .ok (.iload_n 2, 1) := by decide +kernel
theorem dX12_best_70 : decode cX12_best 70 = .ok (.goto 4, 3) := by decide +kernel
theorem dX12_best_73 : decode cX12_best 73 = .ok (.iload_n 3, 1) := by decide +kernel
theorem dX12_best_74 : decode cX12_best 74 = .ok (.ireturn, 1) := by decide +kernel
set_option maxRecDepth 20000 in
theorem ggX12_keep_X12_copies : GoodIn wsX12_keep wsX12_copies := goodIn_r _ [6, 7, 12, 13, 14, 15, 16, 17, 18, 19, 20, 21, 22, 23, 24, 25, 26, 27, 28, 29, 30, 31, 32, 33, 34, 35, 36, 37, 38, 39, 40, 41, 42, 43, 44, 45, 46, 47, 48, 49, 50, 51, 52] rfl (by decide +kernel)
set_option maxRecDepth 20000 in
theorem gX12_keep_X12_copies : GoodIn wsX12_keep (wsV RX12 237 RX12 yX12_copies wsX12_copies) := goodIn_app (goodIn_r _ [2, 3, 4, 5] rfl (by decide +kernel)) ggX12_keep_X12_copies
set_option maxRecDepth 20000 in
theorem ggX12_keep_X12_many : GoodIn wsX12_keep wsX12_many := goodIn_r _ [11, 7, 12, 13, 14, 15, 16, 17, 18, 19, 20, 21, 22, 23, 24, 25, 26, 27, 28, 29, 30, 31, 32, 33, 34, 35, 36, 37, 38, 39, 40, 41, 42, 43, 44, 45, 46, 47, 48, 49, 50, 51, 52] rfl (by decide +kernel)
set_option maxRecDepth 20000 in
theorem gX12_keep_X12_many : GoodIn wsX12_keep (wsV RX12 62 RX12 yX12_many wsX12_many) := goodIn_app (goodIn_r _ [8, 9, 10, 5] rfl (by decide +kernel)) ggX12_keep_X12_many
theorem dX12_keep_0 : decode cX12_keep 0 = .ok (.aload_n 0, 1) := by decide +kernel
theorem dX12_keep_1 : decode cX12_keep 1 = .ok (.iconst 1, 1) := by decide +kernel
theorem dX12_keep_2 : decode cX12_keep 2 = .ok (.putfield 385, 3) := by decide +kernel
theorem dX12_keep_5 : decode cX12_keep 5 = .ok (.aload_n 0, 1) := by decide +kernel
theorem dX12_keep_6 : decode cX12_keep 6 = .ok (.iconst 0, 1) := by decide +kernel
theorem dX12_keep_7 : decode cX12_keep 7 = .ok (.iconst 1, 1) := by decide +kernel
theorem dX12_keep_8 : decode cX12_keep 8 = .ok (.invokevirtual 237, 3) := by decide +kernel
theorem dX12_keep_11 : decode cX12_keep 11 = .ok (.aload_n 0, 1) := by decide +kernel
theorem dX12_keep_12 : decode cX12_keep 12 = .ok (.invokevirtual 62, 3) := by decide +kernel
theorem dX12_keep_15 : decode cX12_keep 15 = .ok (.ireturn, 1) := by decide +kernel
set_option maxRecDepth 20000 in
theorem ggX12_undo_X12_copies : GoodIn wsX12_undo wsX12_copies := goodIn_r _ [6, 7, 8, 9, 10, 11, 12, 13, 14, 15, 16, 17, 18, 19, 20, 21, 22, 23, 24, 25, 26, 27, 28, 29, 30, 31, 32, 33, 34, 35, 36, 37, 38, 39, 40, 41, 42, 43, 44, 45, 46, 47, 48] rfl (by decide +kernel)
set_option maxRecDepth 20000 in
theorem gX12_undo_X12_copies : GoodIn wsX12_undo (wsV RX12 237 RX12 yX12_copies wsX12_copies) := goodIn_app (goodIn_r _ [2, 3, 4, 5] rfl (by decide +kernel)) ggX12_undo_X12_copies
theorem dX12_undo_0 : decode cX12_undo 0 = .ok (.aload_n 0, 1) := by decide +kernel
theorem dX12_undo_1 : decode cX12_undo 1 = .ok (.getfield 385, 3) := by decide +kernel
theorem dX12_undo_4 : decode cX12_undo 4 = .ok (.ifCond .ne 5, 3) := by decide +kernel
theorem dX12_undo_7 : decode cX12_undo 7 = .ok (.iconst 0, 1) := by decide +kernel
theorem dX12_undo_8 : decode cX12_undo 8 = .ok (.ireturn, 1) := by decide +kernel
theorem dX12_undo_9 : decode cX12_undo 9 = .ok (.aload_n 0, 1) := by decide +kernel
theorem dX12_undo_10 : decode cX12_undo 10 = .ok (.iconst 1, 1) := by decide +kernel
theorem dX12_undo_11 : decode cX12_undo 11 = .ok (.iconst 0, 1) := by decide +kernel
theorem dX12_undo_12 : decode cX12_undo 12 = .ok (.invokevirtual 237, 3) := by decide +kernel
theorem dX12_undo_15 : decode cX12_undo 15 = .ok (.iconst 1, 1) := by decide +kernel
theorem dX12_undo_16 : decode cX12_undo 16 = .ok (.ireturn, 1) := by decide +kernel
theorem dX12_keptOf_0 : decode cX12_keptOf 0 = .ok (.aload_n 0, 1) := by decide +kernel
theorem dX12_keptOf_1 : decode cX12_keptOf 1 = .ok (.getfield 7, 3) := by decide +kernel
theorem dX12_keptOf_4 : decode cX12_keptOf 4 = .ok (.sipush 4646, 3) := by decide +kernel
theorem dX12_keptOf_7 : decode cX12_keptOf 7 = .ok (.bipush 27, 2) := by decide +kernel
theorem dX12_keptOf_9 : decode cX12_keptOf 9 = .ok (.iload_n 1, 1) := by decide +kernel
theorem dX12_keptOf_10 : decode cX12_keptOf 10 = .ok (.imul, 1) := by decide +kernel
theorem dX12_keptOf_11 : decode cX12_keptOf 11 = .ok (.iadd, 1) := by decide +kernel
theorem dX12_keptOf_12 : decode cX12_keptOf 12 = .ok (.iload_n 2, 1) := by decide +kernel
theorem dX12_keptOf_13 : decode cX12_keptOf 13 = .ok (.iadd, 1) := by decide +kernel
theorem dX12_keptOf_14 : decode cX12_keptOf 14 = .ok (.iaload, 1) := by decide +kernel
theorem dX12_keptOf_15 : decode cX12_keptOf 15 = .ok (.ireturn, 1) := by decide +kernel
set_option maxRecDepth 20000 in
theorem ggX12_keptAs_X12_keptOf : GoodIn wsX12_keptAs wsX12_keptOf := goodIn_r _ [6, 1, 15, 16, 17, 18, 19, 20, 21, 22, 23, 24, 25, 26, 27, 28, 29, 30, 31, 32, 33, 34, 35, 36, 37, 38, 39, 40, 41, 42, 43, 44, 45, 46, 47, 48, 49, 50, 51, 52, 53, 54, 55] rfl (by decide +kernel)
set_option maxRecDepth 20000 in
theorem gX12_keptAs_X12_keptOf : GoodIn wsX12_keptAs (wsV RX12 389 RX12 yX12_keptOf wsX12_keptOf) := goodIn_app (goodIn_r _ [2, 3, 4, 5] rfl (by decide +kernel)) ggX12_keptAs_X12_keptOf
set_option maxRecDepth 20000 in
theorem ggX12_keptAs_X12_of : GoodIn wsX12_keptAs wsX12_of := goodIn_r _ [10, 1, 15, 16, 17, 18, 19, 20, 21, 22, 23, 24, 25, 26, 27, 28, 29, 30, 31, 32, 33, 34, 35, 36, 37, 38, 39, 40, 41, 42, 43, 44, 45, 46, 47, 48, 49, 50, 51, 52, 53, 54, 55] rfl (by decide +kernel)
set_option maxRecDepth 20000 in
theorem gX12_keptAs_X12_of : GoodIn wsX12_keptAs (wsV RX12 50 RX12 yX12_of wsX12_of) := goodIn_app (goodIn_r _ [7, 8, 9, 5] rfl (by decide +kernel)) ggX12_keptAs_X12_of
set_option maxRecDepth 20000 in
theorem ggX12_keptAs_X12_byteOf : GoodIn wsX12_keptAs wsX12_byteOf := goodIn_r _ [14, 1, 15, 16, 17, 18, 19, 20, 21, 22, 23, 24, 25, 26, 27, 28, 29, 30, 31, 32, 33, 34, 35, 36, 37, 38, 39, 40, 41, 42, 43, 44, 45, 46, 47, 48, 49, 50, 51, 52, 53, 54, 55] rfl (by decide +kernel)
set_option maxRecDepth 20000 in
theorem gX12_keptAs_X12_byteOf : GoodIn wsX12_keptAs (wsV RX12 74 RX12 yX12_byteOf wsX12_byteOf) := goodIn_app (goodIn_r _ [11, 12, 13, 5] rfl (by decide +kernel)) ggX12_keptAs_X12_byteOf
theorem dX12_keptAs_0 : decode cX12_keptAs 0 = .ok (.iconst 0, 1) := by decide +kernel
theorem dX12_keptAs_1 : decode cX12_keptAs 1 = .ok (.istore_n 2, 1) := by decide +kernel
theorem dX12_keptAs_2 : decode cX12_keptAs 2 = .ok (.iload_n 2, 1) := by decide +kernel
theorem dX12_keptAs_3 : decode cX12_keptAs 3 = .ok (.aload_n 0, 1) := by decide +kernel
theorem dX12_keptAs_4 : decode cX12_keptAs 4 = .ok (.getfield 7, 3) := by decide +kernel
theorem dX12_keptAs_7 : decode cX12_keptAs 7 = .ok (.sipush 4406, 3) := by decide +kernel
theorem dX12_keptAs_10 : decode cX12_keptAs 10 = .ok (.iaload, 1) := by decide +kernel
theorem dX12_keptAs_11 : decode cX12_keptAs 11 = .ok (.if_icmp .ge 85, 3) := by decide +kernel
theorem dX12_keptAs_14 : decode cX12_keptAs 14 = .ok (.aload_n 0, 1) := by decide +kernel
theorem dX12_keptAs_15 : decode cX12_keptAs 15 = .ok (.iload_n 2, 1) := by decide +kernel
theorem dX12_keptAs_16 : decode cX12_keptAs 16 = .ok (.iconst 0, 1) := by decide +kernel
theorem dX12_keptAs_17 : decode cX12_keptAs 17 = .ok (.invokevirtual 389, 3) := by decide +kernel
theorem dX12_keptAs_20 : decode cX12_keptAs 20 = .ok (.aload_n 0, 1) := by decide +kernel
theorem dX12_keptAs_21 : decode cX12_keptAs 21 = .ok (.iload_n 1, 1) := by decide +kernel
theorem dX12_keptAs_22 : decode cX12_keptAs 22 = .ok (.iconst 0, 1) := by decide +kernel
theorem dX12_keptAs_23 : decode cX12_keptAs 23 = .ok (.invokevirtual 50, 3) := by decide +kernel
theorem dX12_keptAs_26 : decode cX12_keptAs 26 = .ok (.if_icmp .ne 7, 3) := by decide +kernel
theorem dX12_keptAs_29 : decode cX12_keptAs 29 = .ok (.iconst 1, 1) := by decide +kernel
theorem dX12_keptAs_30 : decode cX12_keptAs 30 = .ok (.goto 4, 3) := by decide +kernel
theorem dX12_keptAs_33 : decode cX12_keptAs 33 = .ok (.iconst 0, 1) := by decide +kernel
theorem dX12_keptAs_34 : decode cX12_keptAs 34 = .ok (.istore_n 3, 1) := by decide +kernel
theorem dX12_keptAs_35 : decode cX12_keptAs 35 = .ok (.iconst 0, 1) := by decide +kernel
theorem dX12_keptAs_36 : decode cX12_keptAs 36 = .ok (.istore 4, 2) := by decide +kernel
theorem dX12_keptAs_38 : decode cX12_keptAs 38 = .ok (.iload 4, 2) := by decide +kernel
theorem dX12_keptAs_40 : decode cX12_keptAs 40 = .ok (.aload_n 0, 1) := by decide +kernel
theorem dX12_keptAs_41 : decode cX12_keptAs 41 = .ok (.iload_n 1, 1) := by decide +kernel
theorem dX12_keptAs_42 : decode cX12_keptAs 42 = .ok (.iconst 0, 1) := by decide +kernel
theorem dX12_keptAs_43 : decode cX12_keptAs 43 = .ok (.invokevirtual 50, 3) := by decide +kernel
theorem dX12_keptAs_46 : decode cX12_keptAs 46 = .ok (.if_icmp .ge 38, 3) := by decide +kernel
theorem dX12_keptAs_49 : decode cX12_keptAs 49 = .ok (.iload_n 3, 1) := by decide +kernel
theorem dX12_keptAs_50 : decode cX12_keptAs 50 = .ok (.ifCond .eq 34, 3) := by decide +kernel
theorem dX12_keptAs_53 : decode cX12_keptAs 53 = .ok (.aload_n 0, 1) := by decide +kernel
theorem dX12_keptAs_54 : decode cX12_keptAs 54 = .ok (.iload_n 2, 1) := by decide +kernel
theorem dX12_keptAs_55 : decode cX12_keptAs 55 = .ok (.iconst 3, 1) := by decide +kernel
theorem dX12_keptAs_56 : decode cX12_keptAs 56 = .ok (.iload 4, 2) := by decide +kernel
theorem dX12_keptAs_58 : decode cX12_keptAs 58 = .ok (.iadd, 1) := by decide +kernel
theorem dX12_keptAs_59 : decode cX12_keptAs 59 = .ok (.invokevirtual 389, 3) := by decide +kernel
theorem dX12_keptAs_62 : decode cX12_keptAs 62 = .ok (.aload_n 0, 1) := by decide +kernel
theorem dX12_keptAs_63 : decode cX12_keptAs 63 = .ok (.iload_n 1, 1) := by decide +kernel
theorem dX12_keptAs_64 : decode cX12_keptAs 64 = .ok (.iload 4, 2) := by decide +kernel
theorem dX12_keptAs_66 : decode cX12_keptAs 66 = .ok (.invokevirtual 74, 3) := by decide +kernel
theorem dX12_keptAs_69 : decode cX12_keptAs 69 = .ok (.if_icmp .ne 7, 3) := by decide +kernel
theorem dX12_keptAs_72 : decode cX12_keptAs 72 = .ok (.iconst 1, 1) := by decide +kernel
theorem dX12_keptAs_73 : decode cX12_keptAs 73 = .ok (.goto 4, 3) := by decide +kernel
theorem dX12_keptAs_76 : decode cX12_keptAs 76 = .ok (.iconst 0, 1) := by decide +kernel
theorem dX12_keptAs_77 : decode cX12_keptAs 77 = .ok (.istore_n 3, 1) := by decide +kernel
theorem dX12_keptAs_78 : decode cX12_keptAs 78 = .ok (.iinc 4 1, 3) := by decide +kernel
theorem dX12_keptAs_81 : decode cX12_keptAs 81 = .ok (.goto (-43), 3) := by decide +kernel
theorem dX12_keptAs_84 : decode cX12_keptAs 84 = .ok (.iload_n 3, 1) := by decide +kernel
theorem dX12_keptAs_85 : decode cX12_keptAs 85 = .ok (.ifCond .eq 5, 3) := by decide +kernel
theorem dX12_keptAs_88 : decode cX12_keptAs 88 = .ok (.iload_n 2, 1) := by decide +kernel
theorem dX12_keptAs_89 : decode cX12_keptAs 89 = .ok (.ireturn, 1) := by decide +kernel
theorem dX12_keptAs_90 : decode cX12_keptAs 90 = .ok (.iinc 2 1, 3) := by decide +kernel
theorem dX12_keptAs_93 : decode cX12_keptAs 93 = .ok (.goto (-91), 3) := by decide +kernel
theorem dX12_keptAs_96 : decode cX12_keptAs 96 = .ok (.iconst (-1), 1) := by decide +kernel
theorem dX12_keptAs_97 : decode cX12_keptAs 97 = .ok (.ireturn, 1) := by decide +kernel
set_option maxRecDepth 20000 in
theorem ggX12_unlike_X12_in : GoodIn wsX12_unlike wsX12_in := goodIn_r _ [6] rfl (by decide +kernel)
set_option maxRecDepth 20000 in
theorem gX12_unlike_X12_in : GoodIn wsX12_unlike (va_wsS RX12 66 yX12_in wsX12_in) := goodIn_app (goodIn_r _ [3, 4, 5] rfl (by decide +kernel)) ggX12_unlike_X12_in
set_option maxRecDepth 20000 in
theorem ggX12_unlike_X12_many : GoodIn wsX12_unlike wsX12_many := goodIn_r _ [10, 2, 27, 28, 29, 30, 31, 32, 33, 34, 35, 36, 37, 38, 39, 40, 41, 42, 43, 44, 45, 46, 47, 48, 49, 50, 51, 52, 53, 54, 55, 56, 57, 58, 59, 60, 61, 62, 63, 64, 65, 66, 67] rfl (by decide +kernel)
set_option maxRecDepth 20000 in
theorem gX12_unlike_X12_many : GoodIn wsX12_unlike (wsV RX12 62 RX12 yX12_many wsX12_many) := goodIn_app (goodIn_r _ [7, 8, 9, 5] rfl (by decide +kernel)) ggX12_unlike_X12_many
set_option maxRecDepth 20000 in
theorem ggX12_unlike_X12_keptAs : GoodIn wsX12_unlike wsX12_keptAs := goodIn_r _ [14, 2, 15, 16, 17, 5, 18, 19, 20, 21, 22, 23, 24, 25, 26, 27, 28, 29, 30, 31, 32, 33, 34, 35, 36, 37, 38, 39, 40, 41, 42, 43, 44, 45, 46, 47, 48, 49, 50, 51, 52, 53, 54, 55, 56, 57, 58, 59, 60, 61, 62, 63, 64, 65, 66, 67] rfl (by decide +kernel)
set_option maxRecDepth 20000 in
theorem gX12_unlike_X12_keptAs : GoodIn wsX12_unlike (wsV RX12 392 RX12 yX12_keptAs wsX12_keptAs) := goodIn_app (goodIn_r _ [11, 12, 13, 5] rfl (by decide +kernel)) ggX12_unlike_X12_keptAs
set_option maxRecDepth 20000 in
theorem ggX12_unlike_X12_keptOf : GoodIn wsX12_unlike wsX12_keptOf := goodIn_r _ [18, 2, 27, 28, 29, 30, 31, 32, 33, 34, 35, 36, 37, 38, 39, 40, 41, 42, 43, 44, 45, 46, 47, 48, 49, 50, 51, 52, 53, 54, 55, 56, 57, 58, 59, 60, 61, 62, 63, 64, 65, 66, 67] rfl (by decide +kernel)
set_option maxRecDepth 20000 in
theorem gX12_unlike_X12_keptOf : GoodIn wsX12_unlike (wsV RX12 389 RX12 yX12_keptOf wsX12_keptOf) := goodIn_app (goodIn_r _ [15, 16, 17, 5] rfl (by decide +kernel)) ggX12_unlike_X12_keptOf
set_option maxRecDepth 20000 in
theorem ggX12_unlike_X12_of : GoodIn wsX12_unlike wsX12_of := goodIn_r _ [22, 2, 27, 28, 29, 30, 31, 32, 33, 34, 35, 36, 37, 38, 39, 40, 41, 42, 43, 44, 45, 46, 47, 48, 49, 50, 51, 52, 53, 54, 55, 56, 57, 58, 59, 60, 61, 62, 63, 64, 65, 66, 67] rfl (by decide +kernel)
set_option maxRecDepth 20000 in
theorem gX12_unlike_X12_of : GoodIn wsX12_unlike (wsV RX12 50 RX12 yX12_of wsX12_of) := goodIn_app (goodIn_r _ [19, 20, 21, 5] rfl (by decide +kernel)) ggX12_unlike_X12_of
theorem dX12_unlike_0 : decode cX12_unlike 0 = .ok (.iload_n 1, 1) := by decide +kernel
theorem dX12_unlike_1 : decode cX12_unlike 1 = .ok (.iconst 0, 1) := by decide +kernel
theorem dX12_unlike_2 : decode cX12_unlike 2 = .ok (.iconst 2, 1) := by decide +kernel
theorem dX12_unlike_3 : decode cX12_unlike 3 = .ok (.invokestatic 66, 3) := by decide +kernel
theorem dX12_unlike_6 : decode cX12_unlike 6 = .ok (.ifCond .ne 5, 3) := by decide +kernel
theorem dX12_unlike_9 : decode cX12_unlike 9 = .ok (.iconst (-1), 1) := by decide +kernel
theorem dX12_unlike_10 : decode cX12_unlike 10 = .ok (.ireturn, 1) := by decide +kernel
theorem dX12_unlike_11 : decode cX12_unlike 11 = .ok (.aload_n 0, 1) := by decide +kernel
theorem dX12_unlike_12 : decode cX12_unlike 12 = .ok (.getfield 385, 3) := by decide +kernel
theorem dX12_unlike_15 : decode cX12_unlike 15 = .ok (.ifCond .ne 6, 3) := by decide +kernel
theorem dX12_unlike_18 : decode cX12_unlike 18 = .ok (.bipush (-2), 2) := by decide +kernel
theorem dX12_unlike_20 : decode cX12_unlike 20 = .ok (.ireturn, 1) := by decide +kernel
theorem dX12_unlike_21 : decode cX12_unlike 21 = .ok (.iconst 0, 1) := by decide +kernel
theorem dX12_unlike_22 : decode cX12_unlike 22 = .ok (.istore_n 2, 1) := by decide +kernel
theorem dX12_unlike_23 : decode cX12_unlike 23 = .ok (.iconst 0, 1) := by decide +kernel
theorem dX12_unlike_24 : decode cX12_unlike 24 = .ok (.istore_n 3, 1) := by decide +kernel
theorem dX12_unlike_25 : decode cX12_unlike 25 = .ok (.iconst 0, 1) := by decide +kernel
theorem dX12_unlike_26 : decode cX12_unlike 26 = .ok (.istore 4, 2) := by decide +kernel
theorem dX12_unlike_28 : decode cX12_unlike 28 = .ok (.iload 4, 2) := by decide +kernel
theorem dX12_unlike_30 : decode cX12_unlike 30 = .ok (.aload_n 0, 1) := by decide +kernel
theorem dX12_unlike_31 : decode cX12_unlike 31 = .ok (.invokevirtual 62, 3) := by decide +kernel
theorem dX12_unlike_34 : decode cX12_unlike 34 = .ok (.if_icmp .ge 51, 3) := by decide +kernel
theorem dX12_unlike_37 : decode cX12_unlike 37 = .ok (.aload_n 0, 1) := by decide +kernel
theorem dX12_unlike_38 : decode cX12_unlike 38 = .ok (.iload 4, 2) := by decide +kernel
theorem dX12_unlike_40 : decode cX12_unlike 40 = .ok (.invokevirtual 392, 3) := by decide +kernel
theorem dX12_unlike_43 : decode cX12_unlike 43 = .ok (.istore 5, 2) := by decide +kernel
theorem dX12_unlike_45 : decode cX12_unlike 45 = .ok (.iload 5, 2) := by decide +kernel
theorem dX12_unlike_47 : decode cX12_unlike 47 = .ok (.iconst (-1), 1) := by decide +kernel
theorem dX12_unlike_48 : decode cX12_unlike 48 = .ok (.if_icmp .ne 6, 3) := by decide +kernel
theorem dX12_unlike_51 : decode cX12_unlike 51 = .ok (.goto 28, 3) := by decide +kernel
theorem dX12_unlike_54 : decode cX12_unlike 54 = .ok (.iload_n 2, 1) := by decide +kernel
theorem dX12_unlike_55 : decode cX12_unlike 55 = .ok (.iconst 1, 1) := by decide +kernel
theorem dX12_unlike_56 : decode cX12_unlike 56 = .ok (.iadd, 1) := by decide +kernel
theorem dX12_unlike_57 : decode cX12_unlike 57 = .ok (.istore_n 2, 1) := by decide +kernel
theorem dX12_unlike_58 : decode cX12_unlike 58 = .ok (.aload_n 0, 1) := by decide +kernel
theorem dX12_unlike_59 : decode cX12_unlike 59 = .ok (.iload 5, 2) := by decide +kernel
theorem dX12_unlike_61 : decode cX12_unlike 61 = .ok (.iconst 1, 1) := by decide +kernel
theorem dX12_unlike_62 : decode cX12_unlike 62 = .ok (.invokevirtual 389, 3) := by decide +kernel
theorem dX12_unlike_65 : decode cX12_unlike 65 = .ok (.aload_n 0, 1) := by decide +kernel
theorem dX12_unlike_66 : decode cX12_unlike 66 = .ok (.iload 4, 2) := by decide +kernel
theorem dX12_unlike_68 : decode cX12_unlike 68 = .ok (.iconst 1, 1) := by decide +kernel
theorem dX12_unlike_69 : decode cX12_unlike 69 = .ok (.invokevirtual 50, 3) := by decide +kernel
theorem dX12_unlike_72 : decode cX12_unlike 72 = .ok (.if_icmp .eq 7, 3) := by decide +kernel
theorem dX12_unlike_75 : decode cX12_unlike 75 = .ok (.iload_n 3, 1) := by decide +kernel
theorem dX12_unlike_76 : decode cX12_unlike 76 = .ok (.iconst 1, 1) := by decide +kernel
theorem dX12_unlike_77 : decode cX12_unlike 77 = .ok (.iadd, 1) := by decide +kernel
theorem dX12_unlike_78 : decode cX12_unlike 78 = .ok (.istore_n 3, 1) := by decide +kernel
theorem dX12_unlike_79 : decode cX12_unlike 79 = .ok (.iinc 4 1, 3) := by decide +kernel
theorem dX12_unlike_82 : decode cX12_unlike 82 = .ok (.goto (-54), 3) := by decide +kernel
theorem dX12_unlike_85 : decode cX12_unlike 85 = .ok (.iload_n 1, 1) := by decide +kernel
theorem dX12_unlike_86 : decode cX12_unlike 86 = .ok (.ifCond .ne 12, 3) := by decide +kernel
theorem dX12_unlike_89 : decode cX12_unlike 89 = .ok (.aload_n 0, 1) := by decide +kernel
theorem dX12_unlike_90 : decode cX12_unlike 90 = .ok (.invokevirtual 62, 3) := by decide +kernel
theorem dX12_unlike_93 : decode cX12_unlike 93 = .ok (.iload_n 2, 1) := by decide +kernel
theorem dX12_unlike_94 : decode cX12_unlike 94 = .ok (.isub, 1) := by decide +kernel
theorem dX12_unlike_95 : decode cX12_unlike 95 = .ok (.goto 22, 3) := by decide +kernel
theorem dX12_unlike_98 : decode cX12_unlike 98 = .ok (.iload_n 1, 1) := by decide +kernel
theorem dX12_unlike_99 : decode cX12_unlike 99 = .ok (.iconst 1, 1) := by decide +kernel
theorem dX12_unlike_100 : decode cX12_unlike 100 = .ok (.if_icmp .ne 16, 3) := by decide +kernel
theorem dX12_unlike_103 : decode cX12_unlike 103 = .ok (.aload_n 0, 1) := by decide +kernel
theorem dX12_unlike_104 : decode cX12_unlike 104 = .ok (.getfield 7, 3) := by decide +kernel
theorem dX12_unlike_107 : decode cX12_unlike 107 = .ok (.sipush 4406, 3) := by decide +kernel
theorem dX12_unlike_110 : decode cX12_unlike 110 = .ok (.iaload, 1) := by decide +kernel
theorem dX12_unlike_111 : decode cX12_unlike 111 = .ok (.iload_n 2, 1) := by decide +kernel
theorem dX12_unlike_112 : decode cX12_unlike 112 = .ok (.isub, 1) := by decide +kernel
theorem dX12_unlike_113 : decode cX12_unlike 113 = .ok (.goto 4, 3) := by decide +kernel
theorem dX12_unlike_116 : decode cX12_unlike 116 = .ok (.iload_n 3, 1) := by decide +kernel
theorem dX12_unlike_117 : decode cX12_unlike 117 = .ok (.ireturn, 1) := by decide +kernel
set_option maxRecDepth 20000 in
theorem ggX12_check_X12_in : GoodIn wsX12_check wsX12_in := goodIn_r _ [6] rfl (by decide +kernel)
set_option maxRecDepth 20000 in
theorem gX12_check_X12_in : GoodIn wsX12_check (va_wsS RX12 66 yX12_in wsX12_in) := goodIn_app (goodIn_r _ [3, 4, 5] rfl (by decide +kernel)) ggX12_check_X12_in
set_option maxRecDepth 20000 in
theorem ggX12_check_X12_many : GoodIn wsX12_check wsX12_many := goodIn_r _ [10, 11, 20, 21, 22, 23, 24, 25, 26, 27, 28, 29, 30, 31, 32, 33, 34, 35, 36, 37, 38, 39, 40, 41, 42, 43, 44, 45, 46, 47, 48, 49, 50, 51, 52, 53, 54, 55, 56, 57, 58, 59, 60] rfl (by decide +kernel)
set_option maxRecDepth 20000 in
theorem gX12_check_X12_many : GoodIn wsX12_check (wsV RX12 62 RX12 yX12_many wsX12_many) := goodIn_app (goodIn_r _ [7, 8, 9, 5] rfl (by decide +kernel)) ggX12_check_X12_many
set_option maxRecDepth 20000 in
theorem ggX12_check_X12_of : GoodIn wsX12_check wsX12_of := goodIn_r _ [15, 11, 20, 21, 22, 23, 24, 25, 26, 27, 28, 29, 30, 31, 32, 33, 34, 35, 36, 37, 38, 39, 40, 41, 42, 43, 44, 45, 46, 47, 48, 49, 50, 51, 52, 53, 54, 55, 56, 57, 58, 59, 60] rfl (by decide +kernel)
set_option maxRecDepth 20000 in
theorem gX12_check_X12_of : GoodIn wsX12_check (wsV RX12 50 RX12 yX12_of wsX12_of) := goodIn_app (goodIn_r _ [12, 13, 14, 5] rfl (by decide +kernel)) ggX12_check_X12_of
set_option maxRecDepth 20000 in
theorem ggX12_check_X12_byteOf : GoodIn wsX12_check wsX12_byteOf := goodIn_r _ [19, 11, 20, 21, 22, 23, 24, 25, 26, 27, 28, 29, 30, 31, 32, 33, 34, 35, 36, 37, 38, 39, 40, 41, 42, 43, 44, 45, 46, 47, 48, 49, 50, 51, 52, 53, 54, 55, 56, 57, 58, 59, 60] rfl (by decide +kernel)
set_option maxRecDepth 20000 in
theorem gX12_check_X12_byteOf : GoodIn wsX12_check (wsV RX12 74 RX12 yX12_byteOf wsX12_byteOf) := goodIn_app (goodIn_r _ [16, 17, 18, 5] rfl (by decide +kernel)) ggX12_check_X12_byteOf
theorem dX12_check_0 : decode cX12_check 0 = .ok (.iload_n 1, 1) := by decide +kernel
theorem dX12_check_1 : decode cX12_check 1 = .ok (.iconst 0, 1) := by decide +kernel
theorem dX12_check_2 : decode cX12_check 2 = .ok (.bipush 24, 2) := by decide +kernel
theorem dX12_check_4 : decode cX12_check 4 = .ok (.invokestatic 66, 3) := by decide +kernel
theorem dX12_check_7 : decode cX12_check 7 = .ok (.ifCond .eq 11, 3) := by decide +kernel
theorem dX12_check_10 : decode cX12_check 10 = .ok (.iload_n 1, 1) := by decide +kernel
theorem dX12_check_11 : decode cX12_check 11 = .ok (.aload_n 0, 1) := by decide +kernel
theorem dX12_check_12 : decode cX12_check 12 = .ok (.getfield 147, 3) := by decide +kernel
theorem dX12_check_15 : decode cX12_check 15 = .ok (.if_icmp .le 6, 3) := by decide +kernel
theorem dX12_check_18 : decode cX12_check 18 = .ok (.bipush (-2), 2) := by decide +kernel
theorem dX12_check_20 : decode cX12_check 20 = .ok (.ireturn, 1) := by decide +kernel
theorem dX12_check_21 : decode cX12_check 21 = .ok (.iconst (-1), 1) := by decide +kernel
theorem dX12_check_22 : decode cX12_check 22 = .ok (.istore_n 2, 1) := by decide +kernel
theorem dX12_check_23 : decode cX12_check 23 = .ok (.iload_n 1, 1) := by decide +kernel
theorem dX12_check_24 : decode cX12_check 24 = .ok (.iconst 1, 1) := by decide +kernel
theorem dX12_check_25 : decode cX12_check 25 = .ok (.isub, 1) := by decide +kernel
theorem dX12_check_26 : decode cX12_check 26 = .ok (.istore_n 3, 1) := by decide +kernel
theorem dX12_check_27 : decode cX12_check 27 = .ok (.iload_n 3, 1) := by decide +kernel
theorem dX12_check_28 : decode cX12_check 28 = .ok (.ifCond .lt 47, 3) := by decide +kernel
theorem dX12_check_31 : decode cX12_check 31 = .ok (.aload_n 0, 1) := by decide +kernel
theorem dX12_check_32 : decode cX12_check 32 = .ok (.invokevirtual 62, 3) := by decide +kernel
theorem dX12_check_35 : decode cX12_check 35 = .ok (.ifCond .eq 32, 3) := by decide +kernel
theorem dX12_check_38 : decode cX12_check 38 = .ok (.iload_n 3, 1) := by decide +kernel
theorem dX12_check_39 : decode cX12_check 39 = .ok (.aload_n 0, 1) := by decide +kernel
theorem dX12_check_40 : decode cX12_check 40 = .ok (.iconst 0, 1) := by decide +kernel
theorem dX12_check_41 : decode cX12_check 41 = .ok (.iconst 0, 1) := by decide +kernel
theorem dX12_check_42 : decode cX12_check 42 = .ok (.invokevirtual 50, 3) := by decide +kernel
theorem dX12_check_45 : decode cX12_check 45 = .ok (.if_icmp .ge 22, 3) := by decide +kernel
theorem dX12_check_48 : decode cX12_check 48 = .ok (.aload_n 0, 1) := by decide +kernel
theorem dX12_check_49 : decode cX12_check 49 = .ok (.getfield 22, 3) := by decide +kernel
theorem dX12_check_52 : decode cX12_check 52 = .ok (.iload_n 3, 1) := by decide +kernel
theorem dX12_check_53 : decode cX12_check 53 = .ok (.baload, 1) := by decide +kernel
theorem dX12_check_54 : decode cX12_check 54 = .ok (.sipush 255, 3) := by decide +kernel
theorem dX12_check_57 : decode cX12_check 57 = .ok (.iand, 1) := by decide +kernel
theorem dX12_check_58 : decode cX12_check 58 = .ok (.aload_n 0, 1) := by decide +kernel
theorem dX12_check_59 : decode cX12_check 59 = .ok (.iconst 0, 1) := by decide +kernel
theorem dX12_check_60 : decode cX12_check 60 = .ok (.iload_n 3, 1) := by decide +kernel
theorem dX12_check_61 : decode cX12_check 61 = .ok (.invokevirtual 74, 3) := by decide +kernel
theorem dX12_check_64 : decode cX12_check 64 = .ok (.if_icmp .eq 5, 3) := by decide +kernel
theorem dX12_check_67 : decode cX12_check 67 = .ok (.iload_n 3, 1) := by decide +kernel
theorem dX12_check_68 : decode cX12_check 68 = .ok (.istore_n 2, 1) := by decide +kernel
theorem dX12_check_69 : decode cX12_check 69 = .ok (.iinc 3 (-1), 3) := by decide +kernel
theorem dX12_check_72 : decode cX12_check 72 = .ok (.goto (-45), 3) := by decide +kernel
theorem dX12_check_75 : decode cX12_check 75 = .ok (.aload_n 0, 1) := by decide +kernel
theorem dX12_check_76 : decode cX12_check 76 = .ok (.iconst 0, 1) := by decide +kernel
theorem dX12_check_77 : decode cX12_check 77 = .ok (.putfield 147, 3) := by decide +kernel
theorem dX12_check_80 : decode cX12_check 80 = .ok (.iload_n 2, 1) := by decide +kernel
theorem dX12_check_81 : decode cX12_check 81 = .ok (.ireturn, 1) := by decide +kernel
theorem dJ9_max_7cf53_0 : decode cJ9_max_7cf53 0 = .ok (.iload_n 0, 1) := by decide +kernel
theorem dJ9_max_7cf53_1 : decode cJ9_max_7cf53 1 = .ok (.iload_n 1, 1) := by decide +kernel
theorem dJ9_max_7cf53_2 : decode cJ9_max_7cf53 2 = .ok (.if_icmp .lt 7, 3) := by decide +kernel
theorem dJ9_max_7cf53_5 : decode cJ9_max_7cf53 5 = .ok (.iload_n 0, 1) := by decide +kernel
theorem dJ9_max_7cf53_6 : decode cJ9_max_7cf53 6 = .ok (.goto 4, 3) := by decide +kernel
theorem dJ9_max_7cf53_9 : decode cJ9_max_7cf53 9 = .ok (.iload_n 1, 1) := by decide +kernel
theorem dJ9_max_7cf53_10 : decode cJ9_max_7cf53 10 = .ok (.ireturn, 1) := by decide +kernel
theorem dJ9_max_f86c9_0 : decode cJ9_max_f86c9 0 = .ok (.lload_n 0, 1) := by decide +kernel
theorem dJ9_max_f86c9_1 : decode cJ9_max_f86c9 1 = .ok (.lload_n 2, 1) := by decide +kernel
theorem dJ9_max_f86c9_2 : decode cJ9_max_f86c9 2 = .ok (.lcmp, 1) := by decide +kernel
theorem dJ9_max_f86c9_3 : decode cJ9_max_f86c9 3 = .ok (.ifCond .lt 7, 3) := by decide +kernel
theorem dJ9_max_f86c9_6 : decode cJ9_max_f86c9 6 = .ok (.lload_n 0, 1) := by decide +kernel
theorem dJ9_max_f86c9_7 : decode cJ9_max_f86c9 7 = .ok (.goto 4, 3) := by decide +kernel
theorem dJ9_max_f86c9_10 : decode cJ9_max_f86c9 10 = .ok (.lload_n 2, 1) := by decide +kernel
theorem dJ9_max_f86c9_11 : decode cJ9_max_f86c9 11 = .ok (.lreturn, 1) := by decide +kernel
theorem dJ9_min_7cf53_0 : decode cJ9_min_7cf53 0 = .ok (.iload_n 0, 1) := by decide +kernel
theorem dJ9_min_7cf53_1 : decode cJ9_min_7cf53 1 = .ok (.iload_n 1, 1) := by decide +kernel
theorem dJ9_min_7cf53_2 : decode cJ9_min_7cf53 2 = .ok (.if_icmp .gt 7, 3) := by decide +kernel
theorem dJ9_min_7cf53_5 : decode cJ9_min_7cf53 5 = .ok (.iload_n 0, 1) := by decide +kernel
theorem dJ9_min_7cf53_6 : decode cJ9_min_7cf53 6 = .ok (.goto 4, 3) := by decide +kernel
theorem dJ9_min_7cf53_9 : decode cJ9_min_7cf53 9 = .ok (.iload_n 1, 1) := by decide +kernel
theorem dJ9_min_7cf53_10 : decode cJ9_min_7cf53 10 = .ok (.ireturn, 1) := by decide +kernel
theorem dJ9_min_f86c9_0 : decode cJ9_min_f86c9 0 = .ok (.lload_n 0, 1) := by decide +kernel
theorem dJ9_min_f86c9_1 : decode cJ9_min_f86c9 1 = .ok (.lload_n 2, 1) := by decide +kernel
theorem dJ9_min_f86c9_2 : decode cJ9_min_f86c9 2 = .ok (.lcmp, 1) := by decide +kernel
theorem dJ9_min_f86c9_3 : decode cJ9_min_f86c9 3 = .ok (.ifCond .gt 7, 3) := by decide +kernel
theorem dJ9_min_f86c9_6 : decode cJ9_min_f86c9 6 = .ok (.lload_n 0, 1) := by decide +kernel
theorem dJ9_min_f86c9_7 : decode cJ9_min_f86c9 7 = .ok (.goto 4, 3) := by decide +kernel
theorem dJ9_min_f86c9_10 : decode cJ9_min_f86c9 10 = .ok (.lload_n 2, 1) := by decide +kernel
theorem dJ9_min_f86c9_11 : decode cJ9_min_f86c9 11 = .ok (.lreturn, 1) := by decide +kernel
