theorem dX12_beginsLayer_5 : decode cX12_beginsLayer 5 = .ok (.aload_n 0, 1) := by decide +kernel
theorem dX12_beginsLayer_6 : decode cX12_beginsLayer 6 = .ok (.iload_n 2, 1) := by decide +kernel
theorem dX12_beginsLayer_7 : decode cX12_beginsLayer 7 = .ok (.aload_n 0, 1) := by decide +kernel
theorem dX12_beginsLayer_8 : decode cX12_beginsLayer 8 = .ok (.getfield 7, 3) := by decide +kernel
theorem dX12_beginsLayer_11 : decode cX12_beginsLayer 11 = .ok (.iconst 1, 1) := by decide +kernel
theorem dX12_beginsLayer_12 : decode cX12_beginsLayer 12 = .ok (.iaload, 1) := by decide +kernel
theorem dX12_beginsLayer_13 : decode cX12_beginsLayer 13 = .ok (.imul, 1) := by decide +kernel
theorem dX12_beginsLayer_14 : decode cX12_beginsLayer 14 = .ok (.invokevirtual 93, 3) := by decide +kernel
theorem dX12_beginsLayer_17 : decode cX12_beginsLayer 17 = .ok (.iload_n 2, 1) := by decide +kernel
theorem dX12_beginsLayer_18 : decode cX12_beginsLayer 18 = .ok (.ifCond .ne 15, 3) := by decide +kernel
theorem dX12_beginsLayer_21 : decode cX12_beginsLayer 21 = .ok (.iload_n 1, 1) := by decide +kernel
theorem dX12_beginsLayer_22 : decode cX12_beginsLayer 22 = .ok (.ifCond .ne 7, 3) := by decide +kernel
theorem dX12_beginsLayer_25 : decode cX12_beginsLayer 25 = .ok (.iconst 1, 1) := by decide +kernel
theorem dX12_beginsLayer_26 : decode cX12_beginsLayer 26 = .ok (.goto 33, 3) := by decide +kernel
theorem dX12_beginsLayer_29 : decode cX12_beginsLayer 29 = .ok (.iconst 0, 1) := by decide +kernel
theorem dX12_beginsLayer_30 : decode cX12_beginsLayer 30 = .ok (.goto 29, 3) := by decide +kernel
theorem dX12_beginsLayer_33 : decode cX12_beginsLayer 33 = .ok (.aload_n 0, 1) := by decide +kernel
theorem dX12_beginsLayer_34 : decode cX12_beginsLayer 34 = .ok (.getfield 84, 3) := by decide +kernel
theorem dX12_beginsLayer_37 : decode cX12_beginsLayer 37 = .ok (.iload_n 1, 1) := by decide +kernel
theorem dX12_beginsLayer_38 : decode cX12_beginsLayer 38 = .ok (.if_icmp .ne 20, 3) := by decide +kernel
theorem dX12_beginsLayer_41 : decode cX12_beginsLayer 41 = .ok (.aload_n 0, 1) := by decide +kernel
theorem dX12_beginsLayer_42 : decode cX12_beginsLayer 42 = .ok (.getfield 90, 3) := by decide +kernel
theorem dX12_beginsLayer_45 : decode cX12_beginsLayer 45 = .ok (.aload_n 0, 1) := by decide +kernel
theorem dX12_beginsLayer_46 : decode cX12_beginsLayer 46 = .ok (.getfield 84, 3) := by decide +kernel
theorem dX12_beginsLayer_49 : decode cX12_beginsLayer 49 = .ok (.isub, 1) := by decide +kernel
theorem dX12_beginsLayer_50 : decode cX12_beginsLayer 50 = .ok (.iconst 1, 1) := by decide +kernel
theorem dX12_beginsLayer_51 : decode cX12_beginsLayer 51 = .ok (.if_icmp .le 7, 3) := by decide +kernel
theorem dX12_beginsLayer_54 : decode cX12_beginsLayer 54 = .ok (.iconst 1, 1) := by decide +kernel
theorem dX12_beginsLayer_55 : decode cX12_beginsLayer 55 = .ok (.goto 4, 3) := by decide +kernel
theorem dX12_beginsLayer_58 : decode cX12_beginsLayer 58 = .ok (.iconst 0, 1) := by decide +kernel
theorem dX12_beginsLayer_59 : decode cX12_beginsLayer 59 = .ok (.ireturn, 1) := by decide +kernel
set_option maxRecDepth 20000 in
theorem ggX12_goesLayer_X12_many : GoodIn wsX12_goesLayer wsX12_many := goodIn_r _ [8, 3, 36, 37, 38, 39, 40, 41, 42, 43, 44, 45, 46, 47, 48, 49, 50, 51, 52, 53, 54, 55, 56, 57, 58, 59, 60, 61, 62, 63, 64, 65, 66, 67, 68, 69, 70, 71, 72, 73, 74, 75, 76] (by decide +kernel) (by decide +kernel)
set_option maxRecDepth 20000 in
theorem gX12_goesLayer_X12_many : GoodIn wsX12_goesLayer (wsV RX12 62 RX12 yX12_many wsX12_many) := goodIn_app (goodIn_of _ (by decide +kernel)) ggX12_goesLayer_X12_many
set_option maxRecDepth 20000 in
theorem ggX12_goesLayer_X12_takesHand : GoodIn wsX12_goesLayer wsX12_takesHand := goodIn_r _ [12, 2, 13, 14, 15, 16, 7, 17, 3, 18, 19, 20, 21, 36, 37, 38, 39, 40, 41, 42, 43, 44, 45, 46, 47, 48, 49, 50, 51, 52, 53, 54, 55, 56, 57, 58, 59, 60, 61, 62, 63, 64, 65, 66, 67, 68, 69, 70, 71, 72, 73, 74, 75, 76] (by decide +kernel) (by decide +kernel)
set_option maxRecDepth 20000 in
theorem gX12_goesLayer_X12_takesHand : GoodIn wsX12_goesLayer (wsV RX12 106 RX12 yX12_takesHand wsX12_takesHand) := goodIn_app (goodIn_of _ (by decide +kernel)) ggX12_goesLayer_X12_takesHand
set_option maxRecDepth 20000 in
theorem ggX12_goesLayer_X12_of : GoodIn wsX12_goesLayer wsX12_of := goodIn_r _ [17, 3, 36, 37, 38, 39, 40, 41, 42, 43, 44, 45, 46, 47, 48, 49, 50, 51, 52, 53, 54, 55, 56, 57, 58, 59, 60, 61, 62, 63, 64, 65, 66, 67, 68, 69, 70, 71, 72, 73, 74, 75, 76] (by decide +kernel) (by decide +kernel)
set_option maxRecDepth 20000 in
theorem gX12_goesLayer_X12_of : GoodIn wsX12_goesLayer (wsV RX12 50 RX12 yX12_of wsX12_of) := goodIn_app (goodIn_of _ (by decide +kernel)) ggX12_goesLayer_X12_of
set_option maxRecDepth 20000 in
theorem ggX12_goesLayer_X12_beginsLayer : GoodIn wsX12_goesLayer wsX12_beginsLayer := goodIn_r _ [25, 3, 26, 27, 9, 10, 11, 7, 12, 2, 13, 14, 15, 16, 17, 18, 19, 20, 21, 28, 29, 30, 31, 4, 5, 6, 8, 32, 33, 34, 35, 36, 37, 38, 39, 40, 41, 42, 43, 44, 45, 46, 47, 48, 49, 50, 51, 52, 53, 54, 55, 56, 57, 58, 59, 60, 61, 62, 63, 64, 65, 66, 67, 68, 69, 70, 71, 72, 73, 74, 75, 76] (by decide +kernel) (by decide +kernel)
set_option maxRecDepth 20000 in
theorem gX12_goesLayer_X12_beginsLayer : GoodIn wsX12_goesLayer (wsV RX12 243 RX12 yX12_beginsLayer wsX12_beginsLayer) := goodIn_app (goodIn_of _ (by decide +kernel)) ggX12_goesLayer_X12_beginsLayer
theorem dX12_goesLayer_0 : decode cX12_goesLayer 0 = .ok (.aload_n 0, 1) := by decide +kernel
theorem dX12_goesLayer_1 : decode cX12_goesLayer 1 = .ok (.iconst 0, 1) := by decide +kernel
theorem dX12_goesLayer_2 : decode cX12_goesLayer 2 = .ok (.putfield 240, 3) := by decide +kernel
theorem dX12_goesLayer_5 : decode cX12_goesLayer 5 = .ok (.aload_n 0, 1) := by decide +kernel
theorem dX12_goesLayer_6 : decode cX12_goesLayer 6 = .ok (.iconst 0, 1) := by decide +kernel
theorem dX12_goesLayer_7 : decode cX12_goesLayer 7 = .ok (.putfield 70, 3) := by decide +kernel
theorem dX12_goesLayer_10 : decode cX12_goesLayer 10 = .ok (.iconst 0, 1) := by decide +kernel
theorem dX12_goesLayer_11 : decode cX12_goesLayer 11 = .ok (.istore_n 2, 1) := by decide +kernel
theorem dX12_goesLayer_12 : decode cX12_goesLayer 12 = .ok (.iload_n 1, 1) := by decide +kernel
theorem dX12_goesLayer_13 : decode cX12_goesLayer 13 = .ok (.ifCond .ne 17, 3) := by decide +kernel
theorem dX12_goesLayer_16 : decode cX12_goesLayer 16 = .ok (.aload_n 0, 1) := by decide +kernel
theorem dX12_goesLayer_17 : decode cX12_goesLayer 17 = .ok (.invokevirtual 62, 3) := by decide +kernel
theorem dX12_goesLayer_20 : decode cX12_goesLayer 20 = .ok (.ifCond .le 8, 3) := by decide +kernel
theorem dX12_goesLayer_23 : decode cX12_goesLayer 23 = .ok (.aload_n 0, 1) := by decide +kernel
theorem dX12_goesLayer_24 : decode cX12_goesLayer 24 = .ok (.iconst 0, 1) := by decide +kernel
theorem dX12_goesLayer_25 : decode cX12_goesLayer 25 = .ok (.invokevirtual 106, 3) := by decide +kernel
theorem dX12_goesLayer_28 : decode cX12_goesLayer 28 = .ok (.iconst 1, 1) := by decide +kernel
theorem dX12_goesLayer_29 : decode cX12_goesLayer 29 = .ok (.ireturn, 1) := by decide +kernel
theorem dX12_goesLayer_30 : decode cX12_goesLayer 30 = .ok (.iconst 0, 1) := by decide +kernel
theorem dX12_goesLayer_31 : decode cX12_goesLayer 31 = .ok (.istore_n 3, 1) := by decide +kernel
theorem dX12_goesLayer_32 : decode cX12_goesLayer 32 = .ok (.iload_n 3, 1) := by decide +kernel
theorem dX12_goesLayer_33 : decode cX12_goesLayer 33 = .ok (.aload_n 0, 1) := by decide +kernel
theorem dX12_goesLayer_34 : decode cX12_goesLayer 34 = .ok (.invokevirtual 62, 3) := by decide +kernel
theorem dX12_goesLayer_37 : decode cX12_goesLayer 37 = .ok (.if_icmp .ge 66, 3) := by decide +kernel
theorem dX12_goesLayer_40 : decode cX12_goesLayer 40 = .ok (.iconst 0, 1) := by decide +kernel
theorem dX12_goesLayer_41 : decode cX12_goesLayer 41 = .ok (.istore 4, 2) := by decide +kernel
theorem dX12_goesLayer_43 : decode cX12_goesLayer 43 = .ok (.iload 4, 2) := by decide +kernel
theorem dX12_goesLayer_45 : decode cX12_goesLayer 45 = .ok (.aload_n 0, 1) := by decide +kernel
theorem dX12_goesLayer_46 : decode cX12_goesLayer 46 = .ok (.getfield 7, 3) := by decide +kernel
theorem dX12_goesLayer_49 : decode cX12_goesLayer 49 = .ok (.iconst 1, 1) := by decide +kernel
theorem dX12_goesLayer_50 : decode cX12_goesLayer 50 = .ok (.iaload, 1) := by decide +kernel
theorem dX12_goesLayer_51 : decode cX12_goesLayer 51 = .ok (.imul, 1) := by decide +kernel
theorem dX12_goesLayer_52 : decode cX12_goesLayer 52 = .ok (.aload_n 0, 1) := by decide +kernel
theorem dX12_goesLayer_53 : decode cX12_goesLayer 53 = .ok (.iload_n 3, 1) := by decide +kernel
theorem dX12_goesLayer_54 : decode cX12_goesLayer 54 = .ok (.iconst 0, 1) := by decide +kernel
theorem dX12_goesLayer_55 : decode cX12_goesLayer 55 = .ok (.invokevirtual 50, 3) := by decide +kernel
theorem dX12_goesLayer_58 : decode cX12_goesLayer 58 = .ok (.if_icmp .ge 39, 3) := by decide +kernel
theorem dX12_goesLayer_61 : decode cX12_goesLayer 61 = .ok (.aload_n 0, 1) := by decide +kernel
theorem dX12_goesLayer_62 : decode cX12_goesLayer 62 = .ok (.iload_n 3, 1) := by decide +kernel
theorem dX12_goesLayer_63 : decode cX12_goesLayer 63 = .ok (.iload 4, 2) := by decide +kernel
theorem dX12_goesLayer_65 : decode cX12_goesLayer 65 = .ok (.invokevirtual 243, 3) := by decide +kernel
theorem dX12_goesLayer_68 : decode cX12_goesLayer 68 = .ok (.ifCond .ne 6, 3) := by decide +kernel
theorem dX12_goesLayer_71 : decode cX12_goesLayer 71 = .ok (.goto 20, 3) := by decide +kernel
theorem dX12_goesLayer_74 : decode cX12_goesLayer 74 = .ok (.iload_n 2, 1) := by decide +kernel
theorem dX12_goesLayer_75 : decode cX12_goesLayer 75 = .ok (.iload_n 1, 1) := by decide +kernel
theorem dX12_goesLayer_76 : decode cX12_goesLayer 76 = .ok (.if_icmp .ne 11, 3) := by decide +kernel
theorem dX12_goesLayer_79 : decode cX12_goesLayer 79 = .ok (.aload_n 0, 1) := by decide +kernel
theorem dX12_goesLayer_80 : decode cX12_goesLayer 80 = .ok (.iload 4, 2) := by decide +kernel
theorem dX12_goesLayer_82 : decode cX12_goesLayer 82 = .ok (.putfield 240, 3) := by decide +kernel
theorem dX12_goesLayer_85 : decode cX12_goesLayer 85 = .ok (.iconst 1, 1) := by decide +kernel
theorem dX12_goesLayer_86 : decode cX12_goesLayer 86 = .ok (.ireturn, 1) := by decide +kernel
theorem dX12_goesLayer_87 : decode cX12_goesLayer 87 = .ok (.iload_n 2, 1) := by decide +kernel
theorem dX12_goesLayer_88 : decode cX12_goesLayer 88 = .ok (.iconst 1, 1) := by decide +kernel
theorem dX12_goesLayer_89 : decode cX12_goesLayer 89 = .ok (.iadd, 1) := by decide +kernel
theorem dX12_goesLayer_90 : decode cX12_goesLayer 90 = .ok (.istore_n 2, 1) := by decide +kernel
theorem dX12_goesLayer_91 : decode cX12_goesLayer 91 = .ok (.iinc 4 1, 3) := by decide +kernel
theorem dX12_goesLayer_94 : decode cX12_goesLayer 94 = .ok (.goto (-51), 3) := by decide +kernel
theorem dX12_goesLayer_97 : decode cX12_goesLayer 97 = .ok (.iinc 3 1, 3) := by decide +kernel
theorem dX12_goesLayer_100 : decode cX12_goesLayer 100 = .ok (.goto (-68), 3) := by decide +kernel
theorem dX12_goesLayer_103 : decode cX12_goesLayer 103 = .ok (.iconst 0, 1) := by decide +kernel
theorem dX12_goesLayer_104 : decode cX12_goesLayer 104 = .ok (.ireturn, 1) := by decide +kernel
set_option maxRecDepth 20000 in
theorem ggX12_pagesOf_X12_beginsPage : GoodIn wsX12_pagesOf wsX12_beginsPage := goodIn_r _ [7, 8, 9, 10, 6, 11, 12, 13, 14, 15, 16, 17, 18, 19, 20, 21, 22, 23, 24, 25, 26, 27, 28, 29, 30, 31, 32, 33, 34, 35, 36, 37, 38, 39, 40, 41, 42, 43, 44, 45, 46, 47, 48, 49, 50, 51, 52, 53, 54, 55, 56] (by decide +kernel) (by decide +kernel)
set_option maxRecDepth 20000 in
theorem gX12_pagesOf_X12_beginsPage : GoodIn wsX12_pagesOf (wsV RX12 103 RX12 yX12_beginsPage wsX12_beginsPage) := goodIn_app (goodIn_of _ (by decide +kernel)) ggX12_pagesOf_X12_beginsPage
theorem dX12_pagesOf_0 : decode cX12_pagesOf 0 = .ok (.iconst 0, 1) := by decide +kernel
theorem dX12_pagesOf_1 : decode cX12_pagesOf 1 = .ok (.istore_n 2, 1) := by decide +kernel
theorem dX12_pagesOf_2 : decode cX12_pagesOf 2 = .ok (.iconst 0, 1) := by decide +kernel
theorem dX12_pagesOf_3 : decode cX12_pagesOf 3 = .ok (.istore_n 3, 1) := by decide +kernel
theorem dX12_pagesOf_4 : decode cX12_pagesOf 4 = .ok (.iload_n 3, 1) := by decide +kernel
theorem dX12_pagesOf_5 : decode cX12_pagesOf 5 = .ok (.aload_n 0, 1) := by decide +kernel
theorem dX12_pagesOf_6 : decode cX12_pagesOf 6 = .ok (.getfield 97, 3) := by decide +kernel
theorem dX12_pagesOf_9 : decode cX12_pagesOf 9 = .ok (.if_icmp .ge 27, 3) := by decide +kernel
theorem dX12_pagesOf_12 : decode cX12_pagesOf 12 = .ok (.aload_n 0, 1) := by decide +kernel
theorem dX12_pagesOf_13 : decode cX12_pagesOf 13 = .ok (.aload_n 0, 1) := by decide +kernel
theorem dX12_pagesOf_14 : decode cX12_pagesOf 14 = .ok (.getfield 16, 3) := by decide +kernel
theorem dX12_pagesOf_17 : decode cX12_pagesOf 17 = .ok (.iload_n 3, 1) := by decide +kernel
theorem dX12_pagesOf_18 : decode cX12_pagesOf 18 = .ok (.iaload, 1) := by decide +kernel
theorem dX12_pagesOf_19 : decode cX12_pagesOf 19 = .ok (.iload_n 1, 1) := by decide +kernel
theorem dX12_pagesOf_20 : decode cX12_pagesOf 20 = .ok (.invokevirtual 103, 3) := by decide +kernel
theorem dX12_pagesOf_23 : decode cX12_pagesOf 23 = .ok (.ifCond .eq 7, 3) := by decide +kernel
theorem dX12_pagesOf_26 : decode cX12_pagesOf 26 = .ok (.iload_n 2, 1) := by decide +kernel
theorem dX12_pagesOf_27 : decode cX12_pagesOf 27 = .ok (.iconst 1, 1) := by decide +kernel
theorem dX12_pagesOf_28 : decode cX12_pagesOf 28 = .ok (.iadd, 1) := by decide +kernel
theorem dX12_pagesOf_29 : decode cX12_pagesOf 29 = .ok (.istore_n 2, 1) := by decide +kernel
theorem dX12_pagesOf_30 : decode cX12_pagesOf 30 = .ok (.iinc 3 1, 3) := by decide +kernel
theorem dX12_pagesOf_33 : decode cX12_pagesOf 33 = .ok (.goto (-29), 3) := by decide +kernel
theorem dX12_pagesOf_36 : decode cX12_pagesOf 36 = .ok (.iload_n 2, 1) := by decide +kernel
theorem dX12_pagesOf_37 : decode cX12_pagesOf 37 = .ok (.ireturn, 1) := by decide +kernel
theorem dX12_kindsOf_0 : decode cX12_kindsOf 0 = .ok (.iconst 0, 1) := by decide +kernel
theorem dX12_kindsOf_1 : decode cX12_kindsOf 1 = .ok (.istore_n 2, 1) := by decide +kernel
theorem dX12_kindsOf_2 : decode cX12_kindsOf 2 = .ok (.iconst 0, 1) := by decide +kernel
theorem dX12_kindsOf_3 : decode cX12_kindsOf 3 = .ok (.istore_n 3, 1) := by decide +kernel
theorem dX12_kindsOf_4 : decode cX12_kindsOf 4 = .ok (.iload_n 3, 1) := by decide +kernel
theorem dX12_kindsOf_5 : decode cX12_kindsOf 5 = .ok (.aload_n 0, 1) := by decide +kernel
theorem dX12_kindsOf_6 : decode cX12_kindsOf 6 = .ok (.getfield 97, 3) := by decide +kernel
theorem dX12_kindsOf_9 : decode cX12_kindsOf 9 = .ok (.if_icmp .ge 23, 3) := by decide +kernel
theorem dX12_kindsOf_12 : decode cX12_kindsOf 12 = .ok (.aload_n 0, 1) := by decide +kernel
theorem dX12_kindsOf_13 : decode cX12_kindsOf 13 = .ok (.getfield 19, 3) := by decide +kernel
theorem dX12_kindsOf_16 : decode cX12_kindsOf 16 = .ok (.iload_n 3, 1) := by decide +kernel
theorem dX12_kindsOf_17 : decode cX12_kindsOf 17 = .ok (.iaload, 1) := by decide +kernel
theorem dX12_kindsOf_18 : decode cX12_kindsOf 18 = .ok (.iload_n 1, 1) := by decide +kernel
theorem dX12_kindsOf_19 : decode cX12_kindsOf 19 = .ok (.if_icmp .ne 7, 3) := by decide +kernel
theorem dX12_kindsOf_22 : decode cX12_kindsOf 22 = .ok (.iload_n 2, 1) := by decide +kernel
theorem dX12_kindsOf_23 : decode cX12_kindsOf 23 = .ok (.iconst 1, 1) := by decide +kernel
theorem dX12_kindsOf_24 : decode cX12_kindsOf 24 = .ok (.iadd, 1) := by decide +kernel
theorem dX12_kindsOf_25 : decode cX12_kindsOf 25 = .ok (.istore_n 2, 1) := by decide +kernel
theorem dX12_kindsOf_26 : decode cX12_kindsOf 26 = .ok (.iinc 3 1, 3) := by decide +kernel
theorem dX12_kindsOf_29 : decode cX12_kindsOf 29 = .ok (.goto (-25), 3) := by decide +kernel
theorem dX12_kindsOf_32 : decode cX12_kindsOf 32 = .ok (.iload_n 2, 1) := by decide +kernel
theorem dX12_kindsOf_33 : decode cX12_kindsOf 33 = .ok (.ireturn, 1) := by decide +kernel
set_option maxRecDepth 20000 in
theorem ggX12_partLong_X12_of : GoodIn wsX12_partLong wsX12_of := goodIn_r _ [7, 1, 11, 12, 13, 14, 15, 16, 17, 18, 19, 20, 21, 22, 23, 24, 25, 26, 27, 28, 29, 30, 31, 32, 33, 34, 35, 36, 37, 38, 39, 40, 41, 42, 43, 44, 45, 46, 47, 48, 49, 50, 51] (by decide +kernel) (by decide +kernel)
set_option maxRecDepth 20000 in
theorem gX12_partLong_X12_of : GoodIn wsX12_partLong (wsV RX12 50 RX12 yX12_of wsX12_of) := goodIn_app (goodIn_of _ (by decide +kernel)) ggX12_partLong_X12_of
set_option maxRecDepth 20000 in
theorem ggX12_partLong_X12_min : GoodIn wsX12_partLong wsX12_min := goodIn_r _ [10] (by decide +kernel) (by decide +kernel)
set_option maxRecDepth 20000 in
theorem gX12_partLong_X12_min : GoodIn wsX12_partLong (va_wsS RX12 246 yX12_min wsX12_min) := goodIn_app (goodIn_of _ (by decide +kernel)) ggX12_partLong_X12_min
theorem dX12_partLong_0 : decode cX12_partLong 0 = .ok (.aload_n 0, 1) := by decide +kernel
theorem dX12_partLong_1 : decode cX12_partLong 1 = .ok (.getfield 7, 3) := by decide +kernel
theorem dX12_partLong_4 : decode cX12_partLong 4 = .ok (.iconst 1, 1) := by decide +kernel
theorem dX12_partLong_5 : decode cX12_partLong 5 = .ok (.iaload, 1) := by decide +kernel
theorem dX12_partLong_6 : decode cX12_partLong 6 = .ok (.aload_n 0, 1) := by decide +kernel
theorem dX12_partLong_7 : decode cX12_partLong 7 = .ok (.aload_n 0, 1) := by decide +kernel
theorem dX12_partLong_8 : decode cX12_partLong 8 = .ok (.getfield 16, 3) := by decide +kernel
theorem dX12_partLong_11 : decode cX12_partLong 11 = .ok (.iload_n 1, 1) := by decide +kernel
theorem dX12_partLong_12 : decode cX12_partLong 12 = .ok (.iaload, 1) := by decide +kernel
theorem dX12_partLong_13 : decode cX12_partLong 13 = .ok (.iconst 0, 1) := by decide +kernel
theorem dX12_partLong_14 : decode cX12_partLong 14 = .ok (.invokevirtual 50, 3) := by decide +kernel
theorem dX12_partLong_17 : decode cX12_partLong 17 = .ok (.iload_n 2, 1) := by decide +kernel
theorem dX12_partLong_18 : decode cX12_partLong 18 = .ok (.aload_n 0, 1) := by decide +kernel
theorem dX12_partLong_19 : decode cX12_partLong 19 = .ok (.getfield 7, 3) := by decide +kernel
theorem dX12_partLong_22 : decode cX12_partLong 22 = .ok (.iconst 1, 1) := by decide +kernel
theorem dX12_partLong_23 : decode cX12_partLong 23 = .ok (.iaload, 1) := by decide +kernel
theorem dX12_partLong_24 : decode cX12_partLong 24 = .ok (.imul, 1) := by decide +kernel
theorem dX12_partLong_25 : decode cX12_partLong 25 = .ok (.isub, 1) := by decide +kernel
theorem dX12_partLong_26 : decode cX12_partLong 26 = .ok (.invokestatic 246, 3) := by decide +kernel
theorem dX12_partLong_29 : decode cX12_partLong 29 = .ok (.ireturn, 1) := by decide +kernel
set_option maxRecDepth 20000 in
theorem ggX12_restLong_X12_of : GoodIn wsX12_restLong wsX12_of := goodIn_r _ [8, 3, 9, 10, 11, 12, 13, 14, 15, 16, 17, 18, 19, 20, 21, 22, 23, 24, 25, 26, 27, 28, 29, 30, 31, 32, 33, 34, 35, 36, 37, 38, 39, 40, 41, 42, 43, 44, 45, 46, 47, 48, 49] (by decide +kernel) (by decide +kernel)
set_option maxRecDepth 20000 in
theorem gX12_restLong_X12_of : GoodIn wsX12_restLong (wsV RX12 50 RX12 yX12_of wsX12_of) := goodIn_app (goodIn_of _ (by decide +kernel)) ggX12_restLong_X12_of
theorem dX12_restLong_0 : decode cX12_restLong 0 = .ok (.aload_n 0, 1) := by decide +kernel
theorem dX12_restLong_1 : decode cX12_restLong 1 = .ok (.getfield 19, 3) := by decide +kernel
theorem dX12_restLong_4 : decode cX12_restLong 4 = .ok (.iload_n 1, 1) := by decide +kernel
theorem dX12_restLong_5 : decode cX12_restLong 5 = .ok (.iaload, 1) := by decide +kernel
theorem dX12_restLong_6 : decode cX12_restLong 6 = .ok (.iconst 1, 1) := by decide +kernel
theorem dX12_restLong_7 : decode cX12_restLong 7 = .ok (.if_icmp .ne 28, 3) := by decide +kernel
theorem dX12_restLong_10 : decode cX12_restLong 10 = .ok (.aload_n 0, 1) := by decide +kernel
theorem dX12_restLong_11 : decode cX12_restLong 11 = .ok (.aload_n 0, 1) := by decide +kernel
theorem dX12_restLong_12 : decode cX12_restLong 12 = .ok (.getfield 16, 3) := by decide +kernel
theorem dX12_restLong_15 : decode cX12_restLong 15 = .ok (.iload_n 1, 1) := by decide +kernel
theorem dX12_restLong_16 : decode cX12_restLong 16 = .ok (.iaload, 1) := by decide +kernel
theorem dX12_restLong_17 : decode cX12_restLong 17 = .ok (.iconst 0, 1) := by decide +kernel
theorem dX12_restLong_18 : decode cX12_restLong 18 = .ok (.invokevirtual 50, 3) := by decide +kernel
theorem dX12_restLong_21 : decode cX12_restLong 21 = .ok (.iload_n 2, 1) := by decide +kernel
theorem dX12_restLong_22 : decode cX12_restLong 22 = .ok (.iconst 1, 1) := by decide +kernel
theorem dX12_restLong_23 : decode cX12_restLong 23 = .ok (.iadd, 1) := by decide +kernel
theorem dX12_restLong_24 : decode cX12_restLong 24 = .ok (.aload_n 0, 1) := by decide +kernel
theorem dX12_restLong_25 : decode cX12_restLong 25 = .ok (.getfield 7, 3) := by decide +kernel
theorem dX12_restLong_28 : decode cX12_restLong 28 = .ok (.iconst 1, 1) := by decide +kernel
theorem dX12_restLong_29 : decode cX12_restLong 29 = .ok (.iaload, 1) := by decide +kernel
theorem dX12_restLong_30 : decode cX12_restLong 30 = .ok (.imul, 1) := by decide +kernel
theorem dX12_restLong_31 : decode cX12_restLong 31 = .ok (.isub, 1) := by decide +kernel
theorem dX12_restLong_32 : decode cX12_restLong 32 = .ok (.goto 4, 3) := by decide +kernel
theorem dX12_restLong_35 : decode cX12_restLong 35 = .ok (.iconst 0, 1) := by decide +kernel
theorem dX12_restLong_36 : decode cX12_restLong 36 = .ok (.ireturn, 1) := by decide +kernel
set_option maxRecDepth 20000 in
theorem ggX12_weightOf_X12_pagesOf : GoodIn wsX12_weightOf wsX12_pagesOf := goodIn_r _ [6, 1, 7, 8, 9, 10, 5, 11, 12, 13, 14, 15, 16, 17, 18, 19, 32, 33, 34, 35, 36, 37, 38, 39, 40, 41, 42, 43, 44, 45, 46, 47, 48, 49, 50, 51, 52, 53, 54, 55, 56, 57, 58, 59, 60, 61, 62, 63, 64, 65, 66, 67, 68, 69, 70, 71, 72] (by decide +kernel) (by decide +kernel)
set_option maxRecDepth 20000 in
theorem gX12_weightOf_X12_pagesOf : GoodIn wsX12_weightOf (wsV RX12 249 RX12 yX12_pagesOf wsX12_pagesOf) := goodIn_app (goodIn_of _ (by decide +kernel)) ggX12_weightOf_X12_pagesOf
set_option maxRecDepth 20000 in
theorem ggX12_weightOf_X12_partLong : GoodIn wsX12_weightOf wsX12_partLong := goodIn_r _ [23, 16, 7, 12, 13, 14, 5, 15, 24, 25, 26, 32, 33, 34, 35, 36, 37, 38, 39, 40, 41, 42, 43, 44, 45, 46, 47, 48, 49, 50, 51, 52, 53, 54, 55, 56, 57, 58, 59, 60, 61, 62, 63, 64, 65, 66, 67, 68, 69, 70, 71, 72] (by decide +kernel) (by decide +kernel)
set_option maxRecDepth 20000 in
theorem gX12_weightOf_X12_partLong : GoodIn wsX12_weightOf (wsV RX12 252 RX12 yX12_partLong wsX12_partLong) := goodIn_app (goodIn_of _ (by decide +kernel)) ggX12_weightOf_X12_partLong
set_option maxRecDepth 20000 in
theorem ggX12_weightOf_X12_restLong : GoodIn wsX12_weightOf wsX12_restLong := goodIn_r _ [30, 31, 7, 16, 12, 13, 14, 5, 15, 32, 33, 34, 35, 36, 37, 38, 39, 40, 41, 42, 43, 44, 45, 46, 47, 48, 49, 50, 51, 52, 53, 54, 55, 56, 57, 58, 59, 60, 61, 62, 63, 64, 65, 66, 67, 68, 69, 70, 71, 72] (by decide +kernel) (by decide +kernel)
set_option maxRecDepth 20000 in
theorem gX12_weightOf_X12_restLong : GoodIn wsX12_weightOf (wsV RX12 255 RX12 yX12_restLong wsX12_restLong) := goodIn_app (goodIn_of _ (by decide +kernel)) ggX12_weightOf_X12_restLong
theorem dX12_weightOf_0 : decode cX12_weightOf 0 = .ok (.bipush 8, 2) := by decide +kernel
theorem dX12_weightOf_2 : decode cX12_weightOf 2 = .ok (.iconst 4, 1) := by decide +kernel
theorem dX12_weightOf_3 : decode cX12_weightOf 3 = .ok (.aload_n 0, 1) := by decide +kernel
theorem dX12_weightOf_4 : decode cX12_weightOf 4 = .ok (.iload_n 1, 1) := by decide +kernel
theorem dX12_weightOf_5 : decode cX12_weightOf 5 = .ok (.invokevirtual 249, 3) := by decide +kernel
theorem dX12_weightOf_8 : decode cX12_weightOf 8 = .ok (.imul, 1) := by decide +kernel
theorem dX12_weightOf_9 : decode cX12_weightOf 9 = .ok (.iadd, 1) := by decide +kernel
theorem dX12_weightOf_10 : decode cX12_weightOf 10 = .ok (.istore_n 2, 1) := by decide +kernel
theorem dX12_weightOf_11 : decode cX12_weightOf 11 = .ok (.iconst 0, 1) := by decide +kernel
theorem dX12_weightOf_12 : decode cX12_weightOf 12 = .ok (.istore_n 3, 1) := by decide +kernel
theorem dX12_weightOf_13 : decode cX12_weightOf 13 = .ok (.iload_n 3, 1) := by decide +kernel
theorem dX12_weightOf_14 : decode cX12_weightOf 14 = .ok (.aload_n 0, 1) := by decide +kernel
theorem dX12_weightOf_15 : decode cX12_weightOf 15 = .ok (.getfield 97, 3) := by decide +kernel
theorem dX12_weightOf_18 : decode cX12_weightOf 18 = .ok (.if_icmp .ge 27, 3) := by decide +kernel
theorem dX12_weightOf_21 : decode cX12_weightOf 21 = .ok (.iload_n 2, 1) := by decide +kernel
theorem dX12_weightOf_22 : decode cX12_weightOf 22 = .ok (.iconst 2, 1) := by decide +kernel
theorem dX12_weightOf_23 : decode cX12_weightOf 23 = .ok (.iadd, 1) := by decide +kernel
theorem dX12_weightOf_24 : decode cX12_weightOf 24 = .ok (.aload_n 0, 1) := by decide +kernel
theorem dX12_weightOf_25 : decode cX12_weightOf 25 = .ok (.iload_n 3, 1) := by decide +kernel
theorem dX12_weightOf_26 : decode cX12_weightOf 26 = .ok (.iload_n 1, 1) := by decide +kernel
theorem dX12_weightOf_27 : decode cX12_weightOf 27 = .ok (.invokevirtual 252, 3) := by decide +kernel
theorem dX12_weightOf_30 : decode cX12_weightOf 30 = .ok (.iadd, 1) := by decide +kernel
theorem dX12_weightOf_31 : decode cX12_weightOf 31 = .ok (.aload_n 0, 1) := by decide +kernel
theorem dX12_weightOf_32 : decode cX12_weightOf 32 = .ok (.iload_n 3, 1) := by decide +kernel
theorem dX12_weightOf_33 : decode cX12_weightOf 33 = .ok (.iload_n 1, 1) := by decide +kernel
theorem dX12_weightOf_34 : decode cX12_weightOf 34 = .ok (.invokevirtual 255, 3) := by decide +kernel
theorem dX12_weightOf_37 : decode cX12_weightOf 37 = .ok (.iadd, 1) := by decide +kernel
theorem dX12_weightOf_38 : decode cX12_weightOf 38 = .ok (.istore_n 2, 1) := by decide +kernel
theorem dX12_weightOf_39 : decode cX12_weightOf 39 = .ok (.iinc 3 1, 3) := by decide +kernel
theorem dX12_weightOf_42 : decode cX12_weightOf 42 = .ok (.goto (-29), 3) := by decide +kernel
theorem dX12_weightOf_45 : decode cX12_weightOf 45 = .ok (.iload_n 2, 1) := by decide +kernel
theorem dX12_weightOf_46 : decode cX12_weightOf 46 = .ok (.ireturn, 1) := by decide +kernel
set_option maxRecDepth 20000 in
theorem ggX12_addsLayer_X12_pagesOf : GoodIn wsX12_addsLayer wsX12_pagesOf := goodIn_r _ [12, 13, 14, 15, 16, 17, 11, 18, 19, 20, 21, 22, 23, 24, 25, 26, 50, 51, 52, 53, 54, 55, 56, 57, 58, 59, 60, 61, 62, 63, 64, 65, 66, 67, 68, 69, 70, 71, 72, 73, 74, 75, 76, 77, 78, 79, 80, 81, 82, 83, 84, 85, 86, 87, 88, 89, 90] (by decide +kernel) (by decide +kernel)
set_option maxRecDepth 20000 in
theorem gX12_addsLayer_X12_pagesOf : GoodIn wsX12_addsLayer (wsV RX12 249 RX12 yX12_pagesOf wsX12_pagesOf) := goodIn_app (goodIn_of _ (by decide +kernel)) ggX12_addsLayer_X12_pagesOf
set_option maxRecDepth 20000 in
theorem ggX12_addsLayer_X12_kindsOf : GoodIn wsX12_addsLayer wsX12_kindsOf := goodIn_r _ [30, 13, 31, 50, 51, 52, 53, 54, 55, 56, 57, 58, 59, 60, 61, 62, 63, 64, 65, 66, 67, 68, 69, 70, 71, 72, 73, 74, 75, 76, 77, 78, 79, 80, 81, 82, 83, 84, 85, 86, 87, 88, 89, 90] (by decide +kernel) (by decide +kernel)
set_option maxRecDepth 20000 in
theorem gX12_addsLayer_X12_kindsOf : GoodIn wsX12_addsLayer (wsV RX12 267 RX12 yX12_kindsOf wsX12_kindsOf) := goodIn_app (goodIn_of _ (by decide +kernel)) ggX12_addsLayer_X12_kindsOf
set_option maxRecDepth 20000 in
theorem ggX12_addsLayer_X12_max : GoodIn wsX12_addsLayer wsX12_max := goodIn_r _ [34] (by decide +kernel) (by decide +kernel)
set_option maxRecDepth 20000 in
theorem gX12_addsLayer_X12_max : GoodIn wsX12_addsLayer (va_wsS RX12 279 yX12_max wsX12_max) := goodIn_app (goodIn_of _ (by decide +kernel)) ggX12_addsLayer_X12_max
set_option maxRecDepth 20000 in
theorem ggX12_addsLayer_X12_weightOf : GoodIn wsX12_addsLayer wsX12_weightOf := goodIn_r _ [38, 13, 8, 9, 10, 11, 12, 14, 15, 16, 17, 18, 19, 20, 21, 22, 23, 24, 25, 26, 39, 40, 41, 42, 43, 44, 45, 46, 47, 48, 49, 31, 50, 51, 52, 53, 54, 55, 56, 57, 58, 59, 60, 61, 62, 63, 64, 65, 66, 67, 68, 69, 70, 71, 72, 73, 74, 75, 76, 77, 78, 79, 80, 81, 82, 83, 84, 85, 86, 87, 88, 89, 90] (by decide +kernel) (by decide +kernel)
set_option maxRecDepth 20000 in
theorem gX12_addsLayer_X12_weightOf : GoodIn wsX12_addsLayer (wsV RX12 285 RX12 yX12_weightOf wsX12_weightOf) := goodIn_app (goodIn_of _ (by decide +kernel)) ggX12_addsLayer_X12_weightOf
theorem dX12_addsLayer_0 : decode cX12_addsLayer 0 = .ok (.aload_n 0, 1) := by decide +kernel
theorem dX12_addsLayer_1 : decode cX12_addsLayer 1 = .ok (.aload_n 0, 1) := by decide +kernel
theorem dX12_addsLayer_2 : decode cX12_addsLayer 2 = .ok (.getfield 258, 3) := by decide +kernel
theorem dX12_addsLayer_5 : decode cX12_addsLayer 5 = .ok (.iconst 1, 1) := by decide +kernel
theorem dX12_addsLayer_6 : decode cX12_addsLayer 6 = .ok (.iadd, 1) := by decide +kernel
theorem dX12_addsLayer_7 : decode cX12_addsLayer 7 = .ok (.putfield 258, 3) := by decide +kernel
theorem dX12_addsLayer_10 : decode cX12_addsLayer 10 = .ok (.aload_n 0, 1) := by decide +kernel
theorem dX12_addsLayer_11 : decode cX12_addsLayer 11 = .ok (.aload_n 0, 1) := by decide +kernel
theorem dX12_addsLayer_12 : decode cX12_addsLayer 12 = .ok (.getfield 261, 3) := by decide +kernel
theorem dX12_addsLayer_15 : decode cX12_addsLayer 15 = .ok (.aload_n 0, 1) := by decide +kernel
theorem dX12_addsLayer_16 : decode cX12_addsLayer 16 = .ok (.iload_n 1, 1) := by decide +kernel
theorem dX12_addsLayer_17 : decode cX12_addsLayer 17 = .ok (.invokevirtual 249, 3) := by decide +kernel
theorem dX12_addsLayer_20 : decode cX12_addsLayer 20 = .ok (.iadd, 1) := by decide +kernel
theorem dX12_addsLayer_21 : decode cX12_addsLayer 21 = .ok (.putfield 261, 3) := by decide +kernel
theorem dX12_addsLayer_24 : decode cX12_addsLayer 24 = .ok (.aload_n 0, 1) := by decide +kernel
theorem dX12_addsLayer_25 : decode cX12_addsLayer 25 = .ok (.aload_n 0, 1) := by decide +kernel
theorem dX12_addsLayer_26 : decode cX12_addsLayer 26 = .ok (.getfield 264, 3) := by decide +kernel
theorem dX12_addsLayer_29 : decode cX12_addsLayer 29 = .ok (.aload_n 0, 1) := by decide +kernel
theorem dX12_addsLayer_30 : decode cX12_addsLayer 30 = .ok (.iconst 0, 1) := by decide +kernel
theorem dX12_addsLayer_31 : decode cX12_addsLayer 31 = .ok (.invokevirtual 267, 3) := by decide +kernel
theorem dX12_addsLayer_34 : decode cX12_addsLayer 34 = .ok (.iadd, 1) := by decide +kernel
theorem dX12_addsLayer_35 : decode cX12_addsLayer 35 = .ok (.putfield 264, 3) := by decide +kernel
theorem dX12_addsLayer_38 : decode cX12_addsLayer 38 = .ok (.aload_n 0, 1) := by decide +kernel
theorem dX12_addsLayer_39 : decode cX12_addsLayer 39 = .ok (.aload_n 0, 1) := by decide +kernel
theorem dX12_addsLayer_40 : decode cX12_addsLayer 40 = .ok (.getfield 270, 3) := by decide +kernel
theorem dX12_addsLayer_43 : decode cX12_addsLayer 43 = .ok (.aload_n 0, 1) := by decide +kernel
theorem dX12_addsLayer_44 : decode cX12_addsLayer 44 = .ok (.iconst 1, 1) := by decide +kernel
theorem dX12_addsLayer_45 : decode cX12_addsLayer 45 = .ok (.invokevirtual 267, 3) := by decide +kernel
theorem dX12_addsLayer_48 : decode cX12_addsLayer 48 = .ok (.iadd, 1) := by decide +kernel
theorem dX12_addsLayer_49 : decode cX12_addsLayer 49 = .ok (.putfield 270, 3) := by decide +kernel
theorem dX12_addsLayer_52 : decode cX12_addsLayer 52 = .ok (.aload_n 0, 1) := by decide +kernel
theorem dX12_addsLayer_53 : decode cX12_addsLayer 53 = .ok (.aload_n 0, 1) := by decide +kernel
theorem dX12_addsLayer_54 : decode cX12_addsLayer 54 = .ok (.getfield 273, 3) := by decide +kernel
theorem dX12_addsLayer_57 : decode cX12_addsLayer 57 = .ok (.aload_n 0, 1) := by decide +kernel
theorem dX12_addsLayer_58 : decode cX12_addsLayer 58 = .ok (.iconst 2, 1) := by decide +kernel
theorem dX12_addsLayer_59 : decode cX12_addsLayer 59 = .ok (.invokevirtual 267, 3) := by decide +kernel
theorem dX12_addsLayer_62 : decode cX12_addsLayer 62 = .ok (.iadd, 1) := by decide +kernel
theorem dX12_addsLayer_63 : decode cX12_addsLayer 63 = .ok (.putfield 273, 3) := by decide +kernel
theorem dX12_addsLayer_66 : decode cX12_addsLayer 66 = .ok (.aload_n 0, 1) := by decide +kernel
theorem dX12_addsLayer_67 : decode cX12_addsLayer 67 = .ok (.aload_n 0, 1) := by decide +kernel
theorem dX12_addsLayer_68 : decode cX12_addsLayer 68 = .ok (.getfield 276, 3) := by decide +kernel
theorem dX12_addsLayer_71 : decode cX12_addsLayer 71 = .ok (.iload_n 1, 1) := by decide +kernel
theorem dX12_addsLayer_72 : decode cX12_addsLayer 72 = .ok (.iconst 1, 1) := by decide +kernel
theorem dX12_addsLayer_73 : decode cX12_addsLayer 73 = .ok (.iadd, 1) := by decide +kernel
theorem dX12_addsLayer_74 : decode cX12_addsLayer 74 = .ok (.invokestatic 279, 3) := by decide +kernel
theorem dX12_addsLayer_77 : decode cX12_addsLayer 77 = .ok (.putfield 276, 3) := by decide +kernel
theorem dX12_addsLayer_80 : decode cX12_addsLayer 80 = .ok (.aload_n 0, 1) := by decide +kernel
theorem dX12_addsLayer_81 : decode cX12_addsLayer 81 = .ok (.aload_n 0, 1) := by decide +kernel
theorem dX12_addsLayer_82 : decode cX12_addsLayer 82 = .ok (.getfield 282, 3) := by decide +kernel
theorem dX12_addsLayer_85 : decode cX12_addsLayer 85 = .ok (.aload_n 0, 1) := by decide +kernel
theorem dX12_addsLayer_86 : decode cX12_addsLayer 86 = .ok (.iload_n 1, 1) := by decide +kernel
theorem dX12_addsLayer_87 : decode cX12_addsLayer 87 = .ok (.invokevirtual 285, 3) := by decide +kernel
theorem dX12_addsLayer_90 : decode cX12_addsLayer 90 = .ok (.iadd, 1) := by decide +kernel
theorem dX12_addsLayer_91 : decode cX12_addsLayer 91 = .ok (.putfield 282, 3) := by decide +kernel
theorem dX12_addsLayer_94 : decode cX12_addsLayer 94 = .ok (.return_, 1) := by decide +kernel
set_option maxRecDepth 20000 in
theorem ggX12_sums_X12_many : GoodIn wsX12_sums wsX12_many := goodIn_r _ [13, 8, 90, 91, 92, 93, 94, 95, 96, 97, 98, 99, 100, 101, 102, 103, 104, 105, 106, 107, 108, 109, 110, 111, 112, 113, 114, 115, 116, 117, 118, 119, 120, 121, 122, 123, 124, 125, 126, 127, 128, 129, 130] (by decide +kernel) (by decide +kernel)
set_option maxRecDepth 20000 in
theorem gX12_sums_X12_many : GoodIn wsX12_sums (wsV RX12 62 RX12 yX12_many wsX12_many) := goodIn_app (goodIn_of _ (by decide +kernel)) ggX12_sums_X12_many
set_option maxRecDepth 20000 in
theorem ggX12_sums_X12_of : GoodIn wsX12_sums wsX12_of := goodIn_r _ [17, 8, 90, 91, 92, 93, 94, 95, 96, 97, 98, 99, 100, 101, 102, 103, 104, 105, 106, 107, 108, 109, 110, 111, 112, 113, 114, 115, 116, 117, 118, 119, 120, 121, 122, 123, 124, 125, 126, 127, 128, 129, 130] (by decide +kernel) (by decide +kernel)
set_option maxRecDepth 20000 in
theorem gX12_sums_X12_of : GoodIn wsX12_sums (wsV RX12 50 RX12 yX12_of wsX12_of) := goodIn_app (goodIn_of _ (by decide +kernel)) ggX12_sums_X12_of
set_option maxRecDepth 20000 in
theorem ggX12_sums_X12_beginsLayer : GoodIn wsX12_sums wsX12_beginsLayer := goodIn_r _ [21, 8, 22, 23, 24, 25, 26, 12, 27, 28, 29, 14, 15, 16, 17, 30, 31, 32, 33, 34, 35, 36, 37, 9, 10, 11, 13, 38, 39, 40, 41, 90, 91, 92, 93, 94, 95, 96, 97, 98, 99, 100, 101, 102, 103, 104, 105, 106, 107, 108, 109, 110, 111, 112, 113, 114, 115, 116, 117, 118, 119, 120, 121, 122, 123, 124, 125, 126, 127, 128, 129, 130] (by decide +kernel) (by decide +kernel)
set_option maxRecDepth 20000 in
theorem gX12_sums_X12_beginsLayer : GoodIn wsX12_sums (wsV RX12 243 RX12 yX12_beginsLayer wsX12_beginsLayer) := goodIn_app (goodIn_of _ (by decide +kernel)) ggX12_sums_X12_beginsLayer
set_option maxRecDepth 20000 in
theorem ggX12_sums_X12_findsEntries : GoodIn wsX12_sums wsX12_findsEntries := goodIn_r _ [45, 8, 46, 22, 23, 47, 48, 34, 35, 36, 12, 37, 9, 10, 11, 13, 38, 39, 40, 41, 28, 29, 14, 15, 16, 17, 30, 31, 32, 33, 49, 50, 51, 52, 90, 91, 92, 93, 94, 95, 96, 97, 98, 99, 100, 101, 102, 103, 104, 105, 106, 107, 108, 109, 110, 111, 112, 113, 114, 115, 116, 117, 118, 119, 120, 121, 122, 123, 124, 125, 126, 127, 128, 129, 130] (by decide +kernel) (by decide +kernel)
set_option maxRecDepth 20000 in
theorem gX12_sums_X12_findsEntries : GoodIn wsX12_sums (wsV RX12 119 RX12 yX12_findsEntries wsX12_findsEntries) := goodIn_app (goodIn_of _ (by decide +kernel)) ggX12_sums_X12_findsEntries
set_option maxRecDepth 20000 in
theorem ggX12_sums_X12_addsLayer : GoodIn wsX12_sums wsX12_addsLayer := goodIn_r _ [56, 1, 2, 3, 4, 5, 6, 7, 57, 58, 59, 12, 60, 46, 48, 61, 62, 63, 64, 14, 15, 16, 17, 8, 65, 66, 67, 68, 69, 70, 71, 47, 72, 73, 74, 75, 76, 77, 78, 79, 80, 81, 82, 83, 84, 85, 86, 87, 88, 89, 90, 91, 92, 93, 94, 95, 96, 97, 98, 99, 100, 101, 102, 103, 104, 105, 106, 107, 108, 109, 110, 111, 112, 113, 114, 115, 116, 117, 118, 119, 120, 121, 122, 123, 124, 125, 126, 127, 128, 129, 130] (by decide +kernel) (by decide +kernel)
set_option maxRecDepth 20000 in
theorem gX12_sums_X12_addsLayer : GoodIn wsX12_sums (wsV RX12 288 RX12 yX12_addsLayer wsX12_addsLayer) := goodIn_app (goodIn_of _ (by decide +kernel)) ggX12_sums_X12_addsLayer
theorem dX12_sums_0 : decode cX12_sums 0 = .ok (.aload_n 0, 1) := by decide +kernel
theorem dX12_sums_1 : decode cX12_sums 1 = .ok (.iconst 0, 1) := by decide +kernel
theorem dX12_sums_2 : decode cX12_sums 2 = .ok (.putfield 258, 3) := by decide +kernel
theorem dX12_sums_5 : decode cX12_sums 5 = .ok (.aload_n 0, 1) := by decide +kernel
theorem dX12_sums_6 : decode cX12_sums 6 = .ok (.iconst 0, 1) := by decide +kernel
theorem dX12_sums_7 : decode cX12_sums 7 = .ok (.putfield 261, 3) := by decide +kernel
theorem dX12_sums_10 : decode cX12_sums 10 = .ok (.aload_n 0, 1) := by decide +kernel
theorem dX12_sums_11 : decode cX12_sums 11 = .ok (.iconst 0, 1) := by decide +kernel
theorem dX12_sums_12 : decode cX12_sums 12 = .ok (.putfield 264, 3) := by decide +kernel
theorem dX12_sums_15 : decode cX12_sums 15 = .ok (.aload_n 0, 1) := by decide +kernel
theorem dX12_sums_16 : decode cX12_sums 16 = .ok (.iconst 0, 1) := by decide +kernel
theorem dX12_sums_17 : decode cX12_sums 17 = .ok (.putfield 270, 3) := by decide +kernel
theorem dX12_sums_20 : decode cX12_sums 20 = .ok (.aload_n 0, 1) := by decide +kernel
theorem dX12_sums_21 : decode cX12_sums 21 = .ok (.iconst 0, 1) := by decide +kernel
theorem dX12_sums_22 : decode cX12_sums 22 = .ok (.putfield 273, 3) := by decide +kernel
theorem dX12_sums_25 : decode cX12_sums 25 = .ok (.aload_n 0, 1) := by decide +kernel
theorem dX12_sums_26 : decode cX12_sums 26 = .ok (.iconst 1, 1) := by decide +kernel
theorem dX12_sums_27 : decode cX12_sums 27 = .ok (.putfield 276, 3) := by decide +kernel
theorem dX12_sums_30 : decode cX12_sums 30 = .ok (.aload_n 0, 1) := by decide +kernel
theorem dX12_sums_31 : decode cX12_sums 31 = .ok (.bipush 8, 2) := by decide +kernel
theorem dX12_sums_33 : decode cX12_sums 33 = .ok (.putfield 282, 3) := by decide +kernel
theorem dX12_sums_36 : decode cX12_sums 36 = .ok (.aload_n 0, 1) := by decide +kernel
theorem dX12_sums_37 : decode cX12_sums 37 = .ok (.invokevirtual 62, 3) := by decide +kernel
theorem dX12_sums_40 : decode cX12_sums 40 = .ok (.ifCond .ne 8, 3) := by decide +kernel
theorem dX12_sums_43 : decode cX12_sums 43 = .ok (.aload_n 0, 1) := by decide +kernel
theorem dX12_sums_44 : decode cX12_sums 44 = .ok (.iconst 1, 1) := by decide +kernel
theorem dX12_sums_45 : decode cX12_sums 45 = .ok (.putfield 258, 3) := by decide +kernel
theorem dX12_sums_48 : decode cX12_sums 48 = .ok (.aload_n 0, 1) := by decide +kernel
theorem dX12_sums_49 : decode cX12_sums 49 = .ok (.invokevirtual 62, 3) := by decide +kernel
theorem dX12_sums_52 : decode cX12_sums 52 = .ok (.ifCond .le 8, 3) := by decide +kernel
theorem dX12_sums_55 : decode cX12_sums 55 = .ok (.aload_n 0, 1) := by decide +kernel
theorem dX12_sums_56 : decode cX12_sums 56 = .ok (.iconst 0, 1) := by decide +kernel
theorem dX12_sums_57 : decode cX12_sums 57 = .ok (.putfield 282, 3) := by decide +kernel
theorem dX12_sums_60 : decode cX12_sums 60 = .ok (.iconst 0, 1) := by decide +kernel
theorem dX12_sums_61 : decode cX12_sums 61 = .ok (.istore_n 1, 1) := by decide +kernel
theorem dX12_sums_62 : decode cX12_sums 62 = .ok (.iload_n 1, 1) := by decide +kernel
theorem dX12_sums_63 : decode cX12_sums 63 = .ok (.aload_n 0, 1) := by decide +kernel
theorem dX12_sums_64 : decode cX12_sums 64 = .ok (.invokevirtual 62, 3) := by decide +kernel
theorem dX12_sums_67 : decode cX12_sums 67 = .ok (.if_icmp .ge 56, 3) := by decide +kernel
theorem dX12_sums_70 : decode cX12_sums 70 = .ok (.iconst 0, 1) := by decide +kernel
theorem dX12_sums_71 : decode cX12_sums 71 = .ok (.istore_n 2, 1) := by decide +kernel
theorem dX12_sums_72 : decode cX12_sums 72 = .ok (.iload_n 2, 1) := by decide +kernel
theorem dX12_sums_73 : decode cX12_sums 73 = .ok (.aload_n 0, 1) := by decide +kernel
theorem dX12_sums_74 : decode cX12_sums 74 = .ok (.getfield 7, 3) := by decide +kernel
theorem dX12_sums_77 : decode cX12_sums 77 = .ok (.iconst 1, 1) := by decide +kernel
theorem dX12_sums_78 : decode cX12_sums 78 = .ok (.iaload, 1) := by decide +kernel
theorem dX12_sums_79 : decode cX12_sums 79 = .ok (.imul, 1) := by decide +kernel
theorem dX12_sums_80 : decode cX12_sums 80 = .ok (.aload_n 0, 1) := by decide +kernel
theorem dX12_sums_81 : decode cX12_sums 81 = .ok (.iload_n 1, 1) := by decide +kernel
theorem dX12_sums_82 : decode cX12_sums 82 = .ok (.iconst 0, 1) := by decide +kernel
theorem dX12_sums_83 : decode cX12_sums 83 = .ok (.invokevirtual 50, 3) := by decide +kernel
theorem dX12_sums_86 : decode cX12_sums 86 = .ok (.if_icmp .ge 31, 3) := by decide +kernel
theorem dX12_sums_89 : decode cX12_sums 89 = .ok (.aload_n 0, 1) := by decide +kernel
theorem dX12_sums_90 : decode cX12_sums 90 = .ok (.iload_n 1, 1) := by decide +kernel
theorem dX12_sums_91 : decode cX12_sums 91 = .ok (.iload_n 2, 1) := by decide +kernel
theorem dX12_sums_92 : decode cX12_sums 92 = .ok (.invokevirtual 243, 3) := by decide +kernel
theorem dX12_sums_95 : decode cX12_sums 95 = .ok (.ifCond .ne 6, 3) := by decide +kernel
theorem dX12_sums_98 : decode cX12_sums 98 = .ok (.goto 13, 3) := by decide +kernel
theorem dX12_sums_101 : decode cX12_sums 101 = .ok (.aload_n 0, 1) := by decide +kernel
theorem dX12_sums_102 : decode cX12_sums 102 = .ok (.iload_n 2, 1) := by decide +kernel
theorem dX12_sums_103 : decode cX12_sums 103 = .ok (.invokevirtual 119, 3) := by decide +kernel
theorem dX12_sums_106 : decode cX12_sums 106 = .ok (.aload_n 0, 1) := by decide +kernel
theorem dX12_sums_107 : decode cX12_sums 107 = .ok (.iload_n 2, 1) := by decide +kernel
theorem dX12_sums_108 : decode cX12_sums 108 = .ok (.invokevirtual 288, 3) := by decide +kernel
theorem dX12_sums_111 : decode cX12_sums 111 = .ok (.iinc 2 1, 3) := by decide +kernel
theorem dX12_sums_114 : decode cX12_sums 114 = .ok (.goto (-42), 3) := by decide +kernel
theorem dX12_sums_117 : decode cX12_sums 117 = .ok (.iinc 1 1, 3) := by decide +kernel
theorem dX12_sums_120 : decode cX12_sums 120 = .ok (.goto (-58), 3) := by decide +kernel
theorem dX12_sums_123 : decode cX12_sums 123 = .ok (.return_, 1) := by decide +kernel
set_option maxRecDepth 20000 in
theorem ggX12_valuesAll_X12_many : GoodIn wsX12_valuesAll wsX12_many := goodIn_r _ [5, 6, 11, 12, 13, 14, 15, 16, 17, 18, 19, 20, 21, 22, 23, 24, 25, 26, 27, 28, 29, 30, 31, 32, 33, 34, 35, 36, 37, 38, 39, 40, 41, 42, 43, 44, 45, 46, 47, 48, 49, 50, 51] (by decide +kernel) (by decide +kernel)
set_option maxRecDepth 20000 in
theorem gX12_valuesAll_X12_many : GoodIn wsX12_valuesAll (wsV RX12 62 RX12 yX12_many wsX12_many) := goodIn_app (goodIn_of _ (by decide +kernel)) ggX12_valuesAll_X12_many
set_option maxRecDepth 20000 in
theorem ggX12_valuesAll_X12_of : GoodIn wsX12_valuesAll wsX12_of := goodIn_r _ [10, 6, 11, 12, 13, 14, 15, 16, 17, 18, 19, 20, 21, 22, 23, 24, 25, 26, 27, 28, 29, 30, 31, 32, 33, 34, 35, 36, 37, 38, 39, 40, 41, 42, 43, 44, 45, 46, 47, 48, 49, 50, 51] (by decide +kernel) (by decide +kernel)
set_option maxRecDepth 20000 in
theorem gX12_valuesAll_X12_of : GoodIn wsX12_valuesAll (wsV RX12 50 RX12 yX12_of wsX12_of) := goodIn_app (goodIn_of _ (by decide +kernel)) ggX12_valuesAll_X12_of
theorem dX12_valuesAll_0 : decode cX12_valuesAll 0 = .ok (.iconst 0, 1) := by decide +kernel
theorem dX12_valuesAll_1 : decode cX12_valuesAll 1 = .ok (.istore_n 1, 1) := by decide +kernel
theorem dX12_valuesAll_2 : decode cX12_valuesAll 2 = .ok (.iconst 0, 1) := by decide +kernel
theorem dX12_valuesAll_3 : decode cX12_valuesAll 3 = .ok (.istore_n 2, 1) := by decide +kernel
theorem dX12_valuesAll_4 : decode cX12_valuesAll 4 = .ok (.iload_n 2, 1) := by decide +kernel
theorem dX12_valuesAll_5 : decode cX12_valuesAll 5 = .ok (.aload_n 0, 1) := by decide +kernel
theorem dX12_valuesAll_6 : decode cX12_valuesAll 6 = .ok (.invokevirtual 62, 3) := by decide +kernel
theorem dX12_valuesAll_9 : decode cX12_valuesAll 9 = .ok (.if_icmp .ge 18, 3) := by decide +kernel
theorem dX12_valuesAll_12 : decode cX12_valuesAll 12 = .ok (.iload_n 1, 1) := by decide +kernel
theorem dX12_valuesAll_13 : decode cX12_valuesAll 13 = .ok (.aload_n 0, 1) := by decide +kernel
theorem dX12_valuesAll_14 : decode cX12_valuesAll 14 = .ok (.iload_n 2, 1) := by decide +kernel
theorem dX12_valuesAll_15 : decode cX12_valuesAll 15 = .ok (.iconst 1, 1) := by decide +kernel
theorem dX12_valuesAll_16 : decode cX12_valuesAll 16 = .ok (.invokevirtual 50, 3) := by decide +kernel
theorem dX12_valuesAll_19 : decode cX12_valuesAll 19 = .ok (.iadd, 1) := by decide +kernel
theorem dX12_valuesAll_20 : decode cX12_valuesAll 20 = .ok (.istore_n 1, 1) := by decide +kernel
theorem dX12_valuesAll_21 : decode cX12_valuesAll 21 = .ok (.iinc 2 1, 3) := by decide +kernel
theorem dX12_valuesAll_24 : decode cX12_valuesAll 24 = .ok (.goto (-20), 3) := by decide +kernel
theorem dX12_valuesAll_27 : decode cX12_valuesAll 27 = .ok (.iload_n 1, 1) := by decide +kernel
theorem dX12_valuesAll_28 : decode cX12_valuesAll 28 = .ok (.ireturn, 1) := by decide +kernel
set_option maxRecDepth 20000 in
theorem ggX12_sumOf_X12_sums : GoodIn wsX12_sumOf wsX12_sums := goodIn_r _ [13, 1, 2, 3, 4, 5, 6, 7, 8, 14, 15, 16, 12, 17, 18, 19, 20, 21, 22, 23, 24, 25, 26, 27, 28, 29, 30, 31, 32, 33, 34, 35, 36, 37, 38, 39, 40, 41, 42, 43, 44, 45, 46, 47, 48, 49, 50, 51, 52, 53, 54, 55, 56, 57, 58, 59, 60, 61, 62, 63, 64, 65, 66, 67, 68, 69, 70, 71, 72, 73, 74, 75, 76, 77, 78, 79, 80, 81, 82, 83, 84, 85, 86, 87, 88, 89, 90, 91, 92, 93, 94, 95, 96, 97, 98, 99, 100, 101, 102, 103, 104, 105, 106, 107, 108, 109, 110, 111, 112, 113, 114, 115, 116, 117, 118, 119, 120, 121, 122, 123, 124, 125, 126, 127, 128, 129, 130, 131, 132, 133, 134] (by decide +kernel) (by decide +kernel)
set_option maxRecDepth 20000 in
theorem gX12_sumOf_X12_sums : GoodIn wsX12_sumOf (wsV RX12 291 RX12 yX12_sums wsX12_sums) := goodIn_app (goodIn_of _ (by decide +kernel)) ggX12_sumOf_X12_sums
theorem dX12_sumOf_0 : decode cX12_sumOf 0 = .ok (.aload_n 0, 1) := by decide +kernel
theorem dX12_sumOf_1 : decode cX12_sumOf 1 = .ok (.invokevirtual 291, 3) := by decide +kernel
theorem dX12_sumOf_4 : decode cX12_sumOf 4 = .ok (.iload_n 1, 1) := by decide +kernel
theorem dX12_sumOf_5 : decode cX12_sumOf 5 = .ok (.tableswitch 94 3 13 #[59, 64, 69, 74, 79, 84, 94, 94, 94, 94, 89], 59) := by decide +kernel
theorem dX12_sumOf_64 : decode cX12_sumOf 64 = .ok (.aload_n 0, 1) := by decide +kernel
theorem dX12_sumOf_65 : decode cX12_sumOf 65 = .ok (.getfield 258, 3) := by decide +kernel
theorem dX12_sumOf_68 : decode cX12_sumOf 68 = .ok (.ireturn, 1) := by decide +kernel
theorem dX12_sumOf_69 : decode cX12_sumOf 69 = .ok (.aload_n 0, 1) := by decide +kernel
theorem dX12_sumOf_70 : decode cX12_sumOf 70 = .ok (.getfield 261, 3) := by decide +kernel
theorem dX12_sumOf_73 : decode cX12_sumOf 73 = .ok (.ireturn, 1) := by decide +kernel
theorem dX12_sumOf_74 : decode cX12_sumOf 74 = .ok (.aload_n 0, 1) := by decide +kernel
theorem dX12_sumOf_75 : decode cX12_sumOf 75 = .ok (.getfield 264, 3) := by decide +kernel
theorem dX12_sumOf_78 : decode cX12_sumOf 78 = .ok (.ireturn, 1) := by decide +kernel
theorem dX12_sumOf_79 : decode cX12_sumOf 79 = .ok (.aload_n 0, 1) := by decide +kernel
theorem dX12_sumOf_80 : decode cX12_sumOf 80 = .ok (.getfield 270, 3) := by decide +kernel
theorem dX12_sumOf_83 : decode cX12_sumOf 83 = .ok (.ireturn, 1) := by decide +kernel
theorem dX12_sumOf_84 : decode cX12_sumOf 84 = .ok (.aload_n 0, 1) := by decide +kernel
theorem dX12_sumOf_85 : decode cX12_sumOf 85 = .ok (.getfield 273, 3) := by decide +kernel
theorem dX12_sumOf_88 : decode cX12_sumOf 88 = .ok (.ireturn, 1) := by decide +kernel
theorem dX12_sumOf_89 : decode cX12_sumOf 89 = .ok (.aload_n 0, 1) := by decide +kernel
theorem dX12_sumOf_90 : decode cX12_sumOf 90 = .ok (.getfield 276, 3) := by decide +kernel
theorem dX12_sumOf_93 : decode cX12_sumOf 93 = .ok (.ireturn, 1) := by decide +kernel
theorem dX12_sumOf_94 : decode cX12_sumOf 94 = .ok (.aload_n 0, 1) := by decide +kernel
theorem dX12_sumOf_95 : decode cX12_sumOf 95 = .ok (.getfield 282, 3) := by decide +kernel
theorem dX12_sumOf_98 : decode cX12_sumOf 98 = .ok (.ireturn, 1) := by decide +kernel
theorem dX12_sumOf_99 : decode cX12_sumOf 99 = .ok (.aload_n 0, 1) := by decide +kernel
theorem dX12_sumOf_100 : decode cX12_sumOf 100 = .ok (.getfield 7, 3) := by decide +kernel
theorem dX12_sumOf_103 : decode cX12_sumOf 103 = .ok (.iconst 3, 1) := by decide +kernel
theorem dX12_sumOf_104 : decode cX12_sumOf 104 = .ok (.iload_n 1, 1) := by decide +kernel
theorem dX12_sumOf_105 : decode cX12_sumOf 105 = .ok (.iadd, 1) := by decide +kernel
theorem dX12_sumOf_106 : decode cX12_sumOf 106 = .ok (.bipush 9, 2) := by decide +kernel
theorem dX12_sumOf_108 : decode cX12_sumOf 108 = .ok (.isub, 1) := by decide +kernel
theorem dX12_sumOf_109 : decode cX12_sumOf 109 = .ok (.iaload, 1) := by decide +kernel
theorem dX12_sumOf_110 : decode cX12_sumOf 110 = .ok (.ireturn, 1) := by decide +kernel
set_option maxRecDepth 20000 in
theorem ggX12_count_X12_in : GoodIn wsX12_count wsX12_in := goodIn_r _ [6] (by decide +kernel) (by decide +kernel)
set_option maxRecDepth 20000 in
theorem gX12_count_X12_in : GoodIn wsX12_count (va_wsS RX12 66 yX12_in wsX12_in) := goodIn_app (goodIn_of _ (by decide +kernel)) ggX12_count_X12_in
set_option maxRecDepth 20000 in
theorem ggX12_count_X12_sumOf : GoodIn wsX12_count wsX12_sumOf := goodIn_r _ [10, 11, 12, 13, 14, 15, 16, 17, 1, 18, 19, 20, 5, 21, 22, 23, 24, 25, 26, 27, 28, 29, 30, 31, 32, 33, 34, 35, 36, 37, 38, 39, 40, 41, 42, 43, 44, 45, 46, 47, 48, 49, 50, 51, 52, 53, 54, 55, 56, 57, 58, 59, 60, 61, 62, 63, 64, 65, 66, 67, 68, 69, 70, 71, 72, 73, 74, 75, 76, 77, 78, 79, 80, 81, 82, 83, 84, 85, 86, 87, 88, 89, 90, 91, 92, 93, 94, 95, 96, 97, 98, 99, 100, 101, 106, 107, 108, 109, 110, 111, 112, 113, 114, 115, 116, 117, 118, 119, 120, 121, 122, 123, 124, 125, 126, 127, 128, 129, 130, 131, 132, 133, 134, 135, 136, 137, 138, 139, 140, 141, 142, 143, 144, 145, 146] (by decide +kernel) (by decide +kernel)
set_option maxRecDepth 20000 in
theorem gX12_count_X12_sumOf : GoodIn wsX12_count (wsV RX12 294 RX12 yX12_sumOf wsX12_sumOf) := goodIn_app (goodIn_of _ (by decide +kernel)) ggX12_count_X12_sumOf
set_option maxRecDepth 20000 in
theorem ggX12_count_X12_many : GoodIn wsX12_count wsX12_many := goodIn_r _ [25, 1, 106, 107, 108, 109, 110, 111, 112, 113, 114, 115, 116, 117, 118, 119, 120, 121, 122, 123, 124, 125, 126, 127, 128, 129, 130, 131, 132, 133, 134, 135, 136, 137, 138, 139, 140, 141, 142, 143, 144, 145, 146] (by decide +kernel) (by decide +kernel)
set_option maxRecDepth 20000 in
theorem gX12_count_X12_many : GoodIn wsX12_count (wsV RX12 62 RX12 yX12_many wsX12_many) := goodIn_app (goodIn_of _ (by decide +kernel)) ggX12_count_X12_many
set_option maxRecDepth 20000 in
theorem ggX12_count_X12_valuesAll : GoodIn wsX12_count wsX12_valuesAll := goodIn_r _ [105, 22, 23, 24, 5, 25, 1, 26, 27, 28, 29, 106, 107, 108, 109, 110, 111, 112, 113, 114, 115, 116, 117, 118, 119, 120, 121, 122, 123, 124, 125, 126, 127, 128, 129, 130, 131, 132, 133, 134, 135, 136, 137, 138, 139, 140, 141, 142, 143, 144, 145, 146] (by decide +kernel) (by decide +kernel)
set_option maxRecDepth 20000 in
theorem gX12_count_X12_valuesAll : GoodIn wsX12_count (wsV RX12 297 RX12 yX12_valuesAll wsX12_valuesAll) := goodIn_app (goodIn_of _ (by decide +kernel)) ggX12_count_X12_valuesAll
theorem dX12_count_0 : decode cX12_count 0 = .ok (.iload_n 1, 1) := by decide +kernel
theorem dX12_count_1 : decode cX12_count 1 = .ok (.iconst 3, 1) := by decide +kernel
theorem dX12_count_2 : decode cX12_count 2 = .ok (.bipush 13, 2) := by decide +kernel
theorem dX12_count_4 : decode cX12_count 4 = .ok (.invokestatic 66, 3) := by decide +kernel
theorem dX12_count_7 : decode cX12_count 7 = .ok (.ifCond .eq 9, 3) := by decide +kernel
theorem dX12_count_10 : decode cX12_count 10 = .ok (.aload_n 0, 1) := by decide +kernel
theorem dX12_count_11 : decode cX12_count 11 = .ok (.iload_n 1, 1) := by decide +kernel
theorem dX12_count_12 : decode cX12_count 12 = .ok (.invokevirtual 294, 3) := by decide +kernel
theorem dX12_count_15 : decode cX12_count 15 = .ok (.ireturn, 1) := by decide +kernel
theorem dX12_count_16 : decode cX12_count 16 = .ok (.iload_n 1, 1) := by decide +kernel
theorem dX12_count_17 : decode cX12_count 17 = .ok (.lookupswitch 80 #[(0, 51), (1, 56), (2, 63), (14, 70), (15, 75)], 51) := by decide +kernel
theorem dX12_count_68 : decode cX12_count 68 = .ok (.aload_n 0, 1) := by decide +kernel
theorem dX12_count_69 : decode cX12_count 69 = .ok (.invokevirtual 62, 3) := by decide +kernel
theorem dX12_count_72 : decode cX12_count 72 = .ok (.ireturn, 1) := by decide +kernel
theorem dX12_count_73 : decode cX12_count 73 = .ok (.aload_n 0, 1) := by decide +kernel
theorem dX12_count_74 : decode cX12_count 74 = .ok (.getfield 7, 3) := by decide +kernel
theorem dX12_count_77 : decode cX12_count 77 = .ok (.iconst 1, 1) := by decide +kernel
theorem dX12_count_78 : decode cX12_count 78 = .ok (.iaload, 1) := by decide +kernel
theorem dX12_count_79 : decode cX12_count 79 = .ok (.ireturn, 1) := by decide +kernel
theorem dX12_count_80 : decode cX12_count 80 = .ok (.aload_n 0, 1) := by decide +kernel
theorem dX12_count_81 : decode cX12_count 81 = .ok (.getfield 7, 3) := by decide +kernel
theorem dX12_count_84 : decode cX12_count 84 = .ok (.iconst 2, 1) := by decide +kernel
theorem dX12_count_85 : decode cX12_count 85 = .ok (.iaload, 1) := by decide +kernel
theorem dX12_count_86 : decode cX12_count 86 = .ok (.ireturn, 1) := by decide +kernel
theorem dX12_count_87 : decode cX12_count 87 = .ok (.aload_n 0, 1) := by decide +kernel
theorem dX12_count_88 : decode cX12_count 88 = .ok (.invokevirtual 297, 3) := by decide +kernel
theorem dX12_count_91 : decode cX12_count 91 = .ok (.ireturn, 1) := by decide +kernel
theorem dX12_count_92 : decode cX12_count 92 = .ok (.aload_n 0, 1) := by decide +kernel
theorem dX12_count_93 : decode cX12_count 93 = .ok (.getfield 147, 3) := by decide +kernel
theorem dX12_count_96 : decode cX12_count 96 = .ok (.ireturn, 1) := by decide +kernel
theorem dX12_count_97 : decode cX12_count 97 = .ok (.iconst (-1), 1) := by decide +kernel
theorem dX12_count_98 : decode cX12_count 98 = .ok (.ireturn, 1) := by decide +kernel
set_option maxRecDepth 20000 in
theorem ggX12_layer_X12_in : GoodIn wsX12_layer wsX12_in := goodIn_r _ [9] (by decide +kernel) (by decide +kernel)
set_option maxRecDepth 20000 in
theorem gX12_layer_X12_in : GoodIn wsX12_layer (va_wsS RX12 66 yX12_in wsX12_in) := goodIn_app (goodIn_of _ (by decide +kernel)) ggX12_layer_X12_in
set_option maxRecDepth 20000 in
theorem ggX12_layer_X12_goesLayer : GoodIn wsX12_layer wsX12_goesLayer := goodIn_r _ [13, 1, 14, 4, 15, 16, 17, 8, 18, 19, 20, 21, 22, 23, 24, 25, 26, 27, 28, 29, 30, 31, 32, 33, 34, 35, 3, 2, 36, 37, 38, 39, 40, 41, 42, 43, 73, 74, 75, 76, 77, 78, 79, 80, 81, 82, 83, 84, 85, 86, 87, 88, 89, 90, 91, 92, 93, 94, 95, 96, 97, 98, 99, 100, 101, 102, 103, 104, 105, 106, 107, 108, 109, 110, 111, 112, 113] (by decide +kernel) (by decide +kernel)
set_option maxRecDepth 20000 in
theorem gX12_layer_X12_goesLayer : GoodIn wsX12_layer (wsV RX12 300 RX12 yX12_goesLayer wsX12_goesLayer) := goodIn_app (goodIn_of _ (by decide +kernel)) ggX12_layer_X12_goesLayer
set_option maxRecDepth 20000 in
theorem ggX12_layer_X12_findsEntries : GoodIn wsX12_layer wsX12_findsEntries := goodIn_r _ [47, 4, 5, 3, 2, 48, 49, 36, 37, 38, 8, 39, 15, 16, 17, 18, 40, 41, 42, 43, 14, 23, 24, 25, 26, 27, 28, 29, 30, 31, 50, 51, 52, 53, 73, 74, 75, 76, 77, 78, 79, 80, 81, 82, 83, 84, 85, 86, 87, 88, 89, 90, 91, 92, 93, 94, 95, 96, 97, 98, 99, 100, 101, 102, 103, 104, 105, 106, 107, 108, 109, 110, 111, 112, 113] (by decide +kernel) (by decide +kernel)
set_option maxRecDepth 20000 in
theorem gX12_layer_X12_findsEntries : GoodIn wsX12_layer (wsV RX12 119 RX12 yX12_findsEntries wsX12_findsEntries) := goodIn_app (goodIn_of _ (by decide +kernel)) ggX12_layer_X12_findsEntries
set_option maxRecDepth 20000 in
theorem ggX12_layer_X12_pagesOf : GoodIn wsX12_layer wsX12_pagesOf := goodIn_r _ [57, 5, 49, 58, 59, 60, 8, 61, 24, 25, 26, 27, 4, 62, 63, 64, 73, 74, 75, 76, 77, 78, 79, 80, 81, 82, 83, 84, 85, 86, 87, 88, 89, 90, 91, 92, 93, 94, 95, 96, 97, 98, 99, 100, 101, 102, 103, 104, 105, 106, 107, 108, 109, 110, 111, 112, 113] (by decide +kernel) (by decide +kernel)
set_option maxRecDepth 20000 in
theorem gX12_layer_X12_pagesOf : GoodIn wsX12_layer (wsV RX12 249 RX12 yX12_pagesOf wsX12_pagesOf) := goodIn_app (goodIn_of _ (by decide +kernel)) ggX12_layer_X12_pagesOf
set_option maxRecDepth 20000 in
theorem ggX12_layer_X12_pageSize : GoodIn wsX12_layer wsX12_pageSize := goodIn_r _ [68, 5, 49, 1, 58, 59, 60, 8, 61, 24, 25, 26, 27, 4, 62, 63, 64, 69, 70, 71, 72, 73, 74, 75, 76, 77, 78, 79, 80, 81, 82, 83, 84, 85, 86, 87, 88, 89, 90, 91, 92, 93, 94, 95, 96, 97, 98, 99, 100, 101, 102, 103, 104, 105, 106, 107, 108, 109, 110, 111, 112, 113] (by decide +kernel) (by decide +kernel)
set_option maxRecDepth 20000 in
theorem gX12_layer_X12_pageSize : GoodIn wsX12_layer (wsV RX12 303 RX12 yX12_pageSize wsX12_pageSize) := goodIn_app (goodIn_of _ (by decide +kernel)) ggX12_layer_X12_pageSize
theorem dX12_layer_0 : decode cX12_layer 0 = .ok (.iload_n 1, 1) := by decide +kernel
theorem dX12_layer_1 : decode cX12_layer 1 = .ok (.ifCond .lt 25, 3) := by decide +kernel
theorem dX12_layer_4 : decode cX12_layer 4 = .ok (.iload_n 2, 1) := by decide +kernel
theorem dX12_layer_5 : decode cX12_layer 5 = .ok (.ifCond .lt 21, 3) := by decide +kernel
theorem dX12_layer_8 : decode cX12_layer 8 = .ok (.iload_n 2, 1) := by decide +kernel
theorem dX12_layer_9 : decode cX12_layer 9 = .ok (.iconst 4, 1) := by decide +kernel
theorem dX12_layer_10 : decode cX12_layer 10 = .ok (.bipush 9, 2) := by decide +kernel
theorem dX12_layer_12 : decode cX12_layer 12 = .ok (.invokestatic 66, 3) := by decide +kernel
theorem dX12_layer_15 : decode cX12_layer 15 = .ok (.ifCond .ne 11, 3) := by decide +kernel
theorem dX12_layer_18 : decode cX12_layer 18 = .ok (.aload_n 0, 1) := by decide +kernel
theorem dX12_layer_19 : decode cX12_layer 19 = .ok (.iload_n 1, 1) := by decide +kernel
theorem dX12_layer_20 : decode cX12_layer 20 = .ok (.invokevirtual 300, 3) := by decide +kernel
theorem dX12_layer_23 : decode cX12_layer 23 = .ok (.ifCond .ne 5, 3) := by decide +kernel
theorem dX12_layer_26 : decode cX12_layer 26 = .ok (.iconst (-1), 1) := by decide +kernel
theorem dX12_layer_27 : decode cX12_layer 27 = .ok (.ireturn, 1) := by decide +kernel
theorem dX12_layer_28 : decode cX12_layer 28 = .ok (.aload_n 0, 1) := by decide +kernel
theorem dX12_layer_29 : decode cX12_layer 29 = .ok (.aload_n 0, 1) := by decide +kernel
theorem dX12_layer_30 : decode cX12_layer 30 = .ok (.getfield 240, 3) := by decide +kernel
theorem dX12_layer_33 : decode cX12_layer 33 = .ok (.invokevirtual 119, 3) := by decide +kernel
theorem dX12_layer_36 : decode cX12_layer 36 = .ok (.aload_n 0, 1) := by decide +kernel
theorem dX12_layer_37 : decode cX12_layer 37 = .ok (.getfield 90, 3) := by decide +kernel
theorem dX12_layer_40 : decode cX12_layer 40 = .ok (.aload_n 0, 1) := by decide +kernel
theorem dX12_layer_41 : decode cX12_layer 41 = .ok (.getfield 84, 3) := by decide +kernel
theorem dX12_layer_44 : decode cX12_layer 44 = .ok (.isub, 1) := by decide +kernel
theorem dX12_layer_45 : decode cX12_layer 45 = .ok (.istore_n 3, 1) := by decide +kernel
theorem dX12_layer_46 : decode cX12_layer 46 = .ok (.iload_n 2, 1) := by decide +kernel
theorem dX12_layer_47 : decode cX12_layer 47 = .ok (.tableswitch 57 0 3 #[29, 41, 46, 55], 29) := by decide +kernel
theorem dX12_layer_76 : decode cX12_layer 76 = .ok (.aload_n 0, 1) := by decide +kernel
theorem dX12_layer_77 : decode cX12_layer 77 = .ok (.getfield 240, 3) := by decide +kernel
theorem dX12_layer_80 : decode cX12_layer 80 = .ok (.aload_n 0, 1) := by decide +kernel
theorem dX12_layer_81 : decode cX12_layer 81 = .ok (.getfield 7, 3) := by decide +kernel
theorem dX12_layer_84 : decode cX12_layer 84 = .ok (.iconst 1, 1) := by decide +kernel
theorem dX12_layer_85 : decode cX12_layer 85 = .ok (.iaload, 1) := by decide +kernel
theorem dX12_layer_86 : decode cX12_layer 86 = .ok (.imul, 1) := by decide +kernel
theorem dX12_layer_87 : decode cX12_layer 87 = .ok (.ireturn, 1) := by decide +kernel
theorem dX12_layer_88 : decode cX12_layer 88 = .ok (.aload_n 0, 1) := by decide +kernel
theorem dX12_layer_89 : decode cX12_layer 89 = .ok (.getfield 97, 3) := by decide +kernel
theorem dX12_layer_92 : decode cX12_layer 92 = .ok (.ireturn, 1) := by decide +kernel
theorem dX12_layer_93 : decode cX12_layer 93 = .ok (.aload_n 0, 1) := by decide +kernel
theorem dX12_layer_94 : decode cX12_layer 94 = .ok (.aload_n 0, 1) := by decide +kernel
theorem dX12_layer_95 : decode cX12_layer 95 = .ok (.getfield 240, 3) := by decide +kernel
theorem dX12_layer_98 : decode cX12_layer 98 = .ok (.invokevirtual 249, 3) := by decide +kernel
theorem dX12_layer_101 : decode cX12_layer 101 = .ok (.ireturn, 1) := by decide +kernel
theorem dX12_layer_102 : decode cX12_layer 102 = .ok (.iload_n 3, 1) := by decide +kernel
theorem dX12_layer_103 : decode cX12_layer 103 = .ok (.ireturn, 1) := by decide +kernel
theorem dX12_layer_104 : decode cX12_layer 104 = .ok (.aload_n 0, 1) := by decide +kernel
theorem dX12_layer_105 : decode cX12_layer 105 = .ok (.iload_n 2, 1) := by decide +kernel
theorem dX12_layer_106 : decode cX12_layer 106 = .ok (.bipush 10, 2) := by decide +kernel
theorem dX12_layer_108 : decode cX12_layer 108 = .ok (.isub, 1) := by decide +kernel
theorem dX12_layer_109 : decode cX12_layer 109 = .ok (.invokevirtual 303, 3) := by decide +kernel
theorem dX12_layer_112 : decode cX12_layer 112 = .ok (.ireturn, 1) := by decide +kernel
set_option maxRecDepth 20000 in
theorem ggX12_pageSize_X12_beginsPage : GoodIn wsX12_pageSize wsX12_beginsPage := goodIn_r _ [8, 9, 10, 11, 7, 12, 13, 14, 15, 16, 21, 22, 23, 24, 25, 26, 27, 28, 29, 30, 31, 32, 33, 34, 35, 36, 37, 38, 39, 40, 41, 42, 43, 44, 45, 46, 47, 48, 49, 50, 51, 52, 53, 54, 55, 56, 57, 58, 59, 60, 61] (by decide +kernel) (by decide +kernel)
set_option maxRecDepth 20000 in
theorem gX12_pageSize_X12_beginsPage : GoodIn wsX12_pageSize (wsV RX12 103 RX12 yX12_beginsPage wsX12_beginsPage) := goodIn_app (goodIn_of _ (by decide +kernel)) ggX12_pageSize_X12_beginsPage
set_option maxRecDepth 20000 in
theorem ggX12_pageSize_X12_pageEnd : GoodIn wsX12_pageSize wsX12_pageEnd := goodIn_r _ [20, 1, 2, 4, 5, 6, 7, 8, 9, 10, 11, 12, 13, 14, 15, 16, 21, 22, 23, 24, 25, 26, 27, 28, 29, 30, 31, 32, 33, 34, 35, 36, 37, 38, 39, 40, 41, 42, 43, 44, 45, 46, 47, 48, 49, 50, 51, 52, 53, 54, 55, 56, 57, 58, 59, 60, 61] (by decide +kernel) (by decide +kernel)
set_option maxRecDepth 20000 in
theorem gX12_pageSize_X12_pageEnd : GoodIn wsX12_pageSize (wsV RX12 132 RX12 yX12_pageEnd wsX12_pageEnd) := goodIn_app (goodIn_of _ (by decide +kernel)) ggX12_pageSize_X12_pageEnd
theorem dX12_pageSize_0 : decode cX12_pageSize 0 = .ok (.iconst (-1), 1) := by decide +kernel
theorem dX12_pageSize_1 : decode cX12_pageSize 1 = .ok (.istore_n 2, 1) := by decide +kernel
theorem dX12_pageSize_2 : decode cX12_pageSize 2 = .ok (.iconst 0, 1) := by decide +kernel
theorem dX12_pageSize_3 : decode cX12_pageSize 3 = .ok (.istore_n 3, 1) := by decide +kernel
theorem dX12_pageSize_4 : decode cX12_pageSize 4 = .ok (.iload_n 3, 1) := by decide +kernel
theorem dX12_pageSize_5 : decode cX12_pageSize 5 = .ok (.aload_n 0, 1) := by decide +kernel
theorem dX12_pageSize_6 : decode cX12_pageSize 6 = .ok (.getfield 97, 3) := by decide +kernel
theorem dX12_pageSize_9 : decode cX12_pageSize 9 = .ok (.if_icmp .ge 50, 3) := by decide +kernel
theorem dX12_pageSize_12 : decode cX12_pageSize 12 = .ok (.aload_n 0, 1) := by decide +kernel
theorem dX12_pageSize_13 : decode cX12_pageSize 13 = .ok (.aload_n 0, 1) := by decide +kernel
theorem dX12_pageSize_14 : decode cX12_pageSize 14 = .ok (.getfield 16, 3) := by decide +kernel
theorem dX12_pageSize_17 : decode cX12_pageSize 17 = .ok (.iload_n 3, 1) := by decide +kernel
theorem dX12_pageSize_18 : decode cX12_pageSize 18 = .ok (.iaload, 1) := by decide +kernel
theorem dX12_pageSize_19 : decode cX12_pageSize 19 = .ok (.aload_n 0, 1) := by decide +kernel
theorem dX12_pageSize_20 : decode cX12_pageSize 20 = .ok (.getfield 240, 3) := by decide +kernel
theorem dX12_pageSize_23 : decode cX12_pageSize 23 = .ok (.invokevirtual 103, 3) := by decide +kernel
theorem dX12_pageSize_26 : decode cX12_pageSize 26 = .ok (.ifCond .ne 6, 3) := by decide +kernel
theorem dX12_pageSize_29 : decode cX12_pageSize 29 = .ok (.goto 24, 3) := by decide +kernel
theorem dX12_pageSize_32 : decode cX12_pageSize 32 = .ok (.iload_n 2, 1) := by decide +kernel
theorem dX12_pageSize_33 : decode cX12_pageSize 33 = .ok (.iconst 1, 1) := by decide +kernel
theorem dX12_pageSize_34 : decode cX12_pageSize 34 = .ok (.iadd, 1) := by decide +kernel
theorem dX12_pageSize_35 : decode cX12_pageSize 35 = .ok (.istore_n 2, 1) := by decide +kernel
theorem dX12_pageSize_36 : decode cX12_pageSize 36 = .ok (.iload_n 2, 1) := by decide +kernel
theorem dX12_pageSize_37 : decode cX12_pageSize 37 = .ok (.iload_n 1, 1) := by decide +kernel
theorem dX12_pageSize_38 : decode cX12_pageSize 38 = .ok (.if_icmp .ne 15, 3) := by decide +kernel
theorem dX12_pageSize_41 : decode cX12_pageSize 41 = .ok (.aload_n 0, 1) := by decide +kernel
theorem dX12_pageSize_42 : decode cX12_pageSize 42 = .ok (.iload_n 3, 1) := by decide +kernel
theorem dX12_pageSize_43 : decode cX12_pageSize 43 = .ok (.aload_n 0, 1) := by decide +kernel
theorem dX12_pageSize_44 : decode cX12_pageSize 44 = .ok (.getfield 240, 3) := by decide +kernel
theorem dX12_pageSize_47 : decode cX12_pageSize 47 = .ok (.invokevirtual 132, 3) := by decide +kernel
theorem dX12_pageSize_50 : decode cX12_pageSize 50 = .ok (.iload_n 3, 1) := by decide +kernel
theorem dX12_pageSize_51 : decode cX12_pageSize 51 = .ok (.isub, 1) := by decide +kernel
theorem dX12_pageSize_52 : decode cX12_pageSize 52 = .ok (.ireturn, 1) := by decide +kernel
theorem dX12_pageSize_53 : decode cX12_pageSize 53 = .ok (.iinc 3 1, 3) := by decide +kernel
theorem dX12_pageSize_56 : decode cX12_pageSize 56 = .ok (.goto (-52), 3) := by decide +kernel
theorem dX12_pageSize_59 : decode cX12_pageSize 59 = .ok (.bipush (-4), 2) := by decide +kernel
theorem dX12_pageSize_61 : decode cX12_pageSize 61 = .ok (.ireturn, 1) := by decide +kernel
set_option maxRecDepth 20000 in
theorem ggX12_pageNumber_X12_beginsPage : GoodIn wsX12_pageNumber wsX12_beginsPage := goodIn_r _ [7, 8, 9, 10, 6, 11, 12, 13, 14, 15, 16, 17, 18, 19, 20, 21, 22, 23, 24, 25, 26, 27, 28, 29, 30, 31, 32, 33, 34, 35, 36, 37, 38, 39, 40, 41, 42, 43, 44, 45, 46, 47, 48, 49, 50, 51, 52, 53, 54, 55, 56] (by decide +kernel) (by decide +kernel)
set_option maxRecDepth 20000 in
theorem gX12_pageNumber_X12_beginsPage : GoodIn wsX12_pageNumber (wsV RX12 103 RX12 yX12_beginsPage wsX12_beginsPage) := goodIn_app (goodIn_of _ (by decide +kernel)) ggX12_pageNumber_X12_beginsPage
theorem dX12_pageNumber_0 : decode cX12_pageNumber 0 = .ok (.iconst (-1), 1) := by decide +kernel
theorem dX12_pageNumber_1 : decode cX12_pageNumber 1 = .ok (.istore_n 2, 1) := by decide +kernel
theorem dX12_pageNumber_2 : decode cX12_pageNumber 2 = .ok (.iconst 0, 1) := by decide +kernel
theorem dX12_pageNumber_3 : decode cX12_pageNumber 3 = .ok (.istore_n 3, 1) := by decide +kernel
theorem dX12_pageNumber_4 : decode cX12_pageNumber 4 = .ok (.iload_n 3, 1) := by decide +kernel
theorem dX12_pageNumber_5 : decode cX12_pageNumber 5 = .ok (.iload_n 1, 1) := by decide +kernel
theorem dX12_pageNumber_6 : decode cX12_pageNumber 6 = .ok (.if_icmp .gt 30, 3) := by decide +kernel
theorem dX12_pageNumber_9 : decode cX12_pageNumber 9 = .ok (.aload_n 0, 1) := by decide +kernel
theorem dX12_pageNumber_10 : decode cX12_pageNumber 10 = .ok (.aload_n 0, 1) := by decide +kernel
theorem dX12_pageNumber_11 : decode cX12_pageNumber 11 = .ok (.getfield 16, 3) := by decide +kernel
theorem dX12_pageNumber_14 : decode cX12_pageNumber 14 = .ok (.iload_n 3, 1) := by decide +kernel
theorem dX12_pageNumber_15 : decode cX12_pageNumber 15 = .ok (.iaload, 1) := by decide +kernel
theorem dX12_pageNumber_16 : decode cX12_pageNumber 16 = .ok (.aload_n 0, 1) := by decide +kernel
theorem dX12_pageNumber_17 : decode cX12_pageNumber 17 = .ok (.getfield 240, 3) := by decide +kernel
theorem dX12_pageNumber_20 : decode cX12_pageNumber 20 = .ok (.invokevirtual 103, 3) := by decide +kernel
theorem dX12_pageNumber_23 : decode cX12_pageNumber 23 = .ok (.ifCond .eq 7, 3) := by decide +kernel
theorem dX12_pageNumber_26 : decode cX12_pageNumber 26 = .ok (.iload_n 2, 1) := by decide +kernel
theorem dX12_pageNumber_27 : decode cX12_pageNumber 27 = .ok (.iconst 1, 1) := by decide +kernel
theorem dX12_pageNumber_28 : decode cX12_pageNumber 28 = .ok (.iadd, 1) := by decide +kernel
theorem dX12_pageNumber_29 : decode cX12_pageNumber 29 = .ok (.istore_n 2, 1) := by decide +kernel
theorem dX12_pageNumber_30 : decode cX12_pageNumber 30 = .ok (.iinc 3 1, 3) := by decide +kernel
theorem dX12_pageNumber_33 : decode cX12_pageNumber 33 = .ok (.goto (-29), 3) := by decide +kernel
theorem dX12_pageNumber_36 : decode cX12_pageNumber 36 = .ok (.iload_n 2, 1) := by decide +kernel
theorem dX12_pageNumber_37 : decode cX12_pageNumber 37 = .ok (.ireturn, 1) := by decide +kernel
set_option maxRecDepth 20000 in
theorem ggX12_entry_X12_in : GoodIn wsX12_entry wsX12_in := goodIn_r _ [9] (by decide +kernel) (by decide +kernel)
set_option maxRecDepth 20000 in
theorem gX12_entry_X12_in : GoodIn wsX12_entry (va_wsS RX12 66 yX12_in wsX12_in) := goodIn_app (goodIn_of _ (by decide +kernel)) ggX12_entry_X12_in
set_option maxRecDepth 20000 in
theorem ggX12_entry_X12_goesLayer : GoodIn wsX12_entry wsX12_goesLayer := goodIn_r _ [13, 1, 14, 4, 15, 16, 17, 8, 18, 19, 20, 21, 22, 23, 24, 25, 26, 27, 28, 29, 30, 31, 32, 33, 34, 35, 36, 37, 38, 39, 40, 41, 42, 43, 44, 45, 76, 77, 78, 79, 80, 81, 82, 83, 84, 85, 86, 87, 88, 89, 90, 91, 92, 93, 94, 95, 96, 97, 98, 99, 100, 101, 102, 103, 104, 105, 106, 107, 108, 109, 110, 111, 112, 113, 114, 115, 116] (by decide +kernel) (by decide +kernel)
set_option maxRecDepth 20000 in
theorem gX12_entry_X12_goesLayer : GoodIn wsX12_entry (wsV RX12 300 RX12 yX12_goesLayer wsX12_goesLayer) := goodIn_app (goodIn_of _ (by decide +kernel)) ggX12_entry_X12_goesLayer
set_option maxRecDepth 20000 in
theorem ggX12_entry_X12_findsEntries : GoodIn wsX12_entry wsX12_findsEntries := goodIn_r _ [49, 4, 2, 36, 37, 5, 3, 38, 39, 40, 8, 41, 15, 16, 17, 18, 42, 43, 44, 45, 14, 23, 24, 25, 26, 27, 28, 29, 30, 31, 50, 51, 52, 53, 76, 77, 78, 79, 80, 81, 82, 83, 84, 85, 86, 87, 88, 89, 90, 91, 92, 93, 94, 95, 96, 97, 98, 99, 100, 101, 102, 103, 104, 105, 106, 107, 108, 109, 110, 111, 112, 113, 114, 115, 116] (by decide +kernel) (by decide +kernel)
set_option maxRecDepth 20000 in
theorem gX12_entry_X12_findsEntries : GoodIn wsX12_entry (wsV RX12 119 RX12 yX12_findsEntries wsX12_findsEntries) := goodIn_app (goodIn_of _ (by decide +kernel)) ggX12_entry_X12_findsEntries
set_option maxRecDepth 20000 in
theorem ggX12_entry_X12_restLong : GoodIn wsX12_entry wsX12_restLong := goodIn_r _ [57, 5, 3, 4, 24, 25, 26, 8, 27, 76, 77, 78, 79, 80, 81, 82, 83, 84, 85, 86, 87, 88, 89, 90, 91, 92, 93, 94, 95, 96, 97, 98, 99, 100, 101, 102, 103, 104, 105, 106, 107, 108, 109, 110, 111, 112, 113, 114, 115, 116] (by decide +kernel) (by decide +kernel)
set_option maxRecDepth 20000 in
theorem gX12_entry_X12_restLong : GoodIn wsX12_entry (wsV RX12 255 RX12 yX12_restLong wsX12_restLong) := goodIn_app (goodIn_of _ (by decide +kernel)) ggX12_entry_X12_restLong
set_option maxRecDepth 20000 in
theorem ggX12_entry_X12_byteOf : GoodIn wsX12_entry wsX12_byteOf := goodIn_r _ [31, 4, 76, 77, 78, 79, 80, 81, 82, 83, 84, 85, 86, 87, 88, 89, 90, 91, 92, 93, 94, 95, 96, 97, 98, 99, 100, 101, 102, 103, 104, 105, 106, 107, 108, 109, 110, 111, 112, 113, 114, 115, 116] (by decide +kernel) (by decide +kernel)
set_option maxRecDepth 20000 in
theorem gX12_entry_X12_byteOf : GoodIn wsX12_entry (wsV RX12 74 RX12 yX12_byteOf wsX12_byteOf) := goodIn_app (goodIn_of _ (by decide +kernel)) ggX12_entry_X12_byteOf
set_option maxRecDepth 20000 in
theorem ggX12_entry_X12_partLong : GoodIn wsX12_entry wsX12_partLong := goodIn_r _ [61, 4, 3, 24, 25, 26, 8, 27, 62, 63, 64, 76, 77, 78, 79, 80, 81, 82, 83, 84, 85, 86, 87, 88, 89, 90, 91, 92, 93, 94, 95, 96, 97, 98, 99, 100, 101, 102, 103, 104, 105, 106, 107, 108, 109, 110, 111, 112, 113, 114, 115, 116] (by decide +kernel) (by decide +kernel)
set_option maxRecDepth 20000 in
theorem gX12_entry_X12_partLong : GoodIn wsX12_entry (wsV RX12 252 RX12 yX12_partLong wsX12_partLong) := goodIn_app (goodIn_of _ (by decide +kernel)) ggX12_entry_X12_partLong
set_option maxRecDepth 20000 in
theorem ggX12_entry_X12_of : GoodIn wsX12_entry wsX12_of := goodIn_r _ [27, 4, 76, 77, 78, 79, 80, 81, 82, 83, 84, 85, 86, 87, 88, 89, 90, 91, 92, 93, 94, 95, 96, 97, 98, 99, 100, 101, 102, 103, 104, 105, 106, 107, 108, 109, 110, 111, 112, 113, 114, 115, 116] (by decide +kernel) (by decide +kernel)
set_option maxRecDepth 20000 in
theorem gX12_entry_X12_of : GoodIn wsX12_entry (wsV RX12 50 RX12 yX12_of wsX12_of) := goodIn_app (goodIn_of _ (by decide +kernel)) ggX12_entry_X12_of
set_option maxRecDepth 20000 in
theorem ggX12_entry_X12_pageNumber : GoodIn wsX12_entry wsX12_pageNumber := goodIn_r _ [68, 3, 1, 69, 70, 71, 8, 72, 24, 25, 26, 27, 4, 73, 74, 75, 76, 77, 78, 79, 80, 81, 82, 83, 84, 85, 86, 87, 88, 89, 90, 91, 92, 93, 94, 95, 96, 97, 98, 99, 100, 101, 102, 103, 104, 105, 106, 107, 108, 109, 110, 111, 112, 113, 114, 115, 116] (by decide +kernel) (by decide +kernel)
set_option maxRecDepth 20000 in
theorem gX12_entry_X12_pageNumber : GoodIn wsX12_entry (wsV RX12 306 RX12 yX12_pageNumber wsX12_pageNumber) := goodIn_app (goodIn_of _ (by decide +kernel)) ggX12_entry_X12_pageNumber
theorem dX12_entry_0 : decode cX12_entry 0 = .ok (.iload_n 3, 1) := by decide +kernel
theorem dX12_entry_1 : decode cX12_entry 1 = .ok (.iconst 0, 1) := by decide +kernel
theorem dX12_entry_2 : decode cX12_entry 2 = .ok (.iconst 4, 1) := by decide +kernel
theorem dX12_entry_3 : decode cX12_entry 3 = .ok (.invokestatic 66, 3) := by decide +kernel
theorem dX12_entry_6 : decode cX12_entry 6 = .ok (.ifCond .ne 25, 3) := by decide +kernel
theorem dX12_entry_9 : decode cX12_entry 9 = .ok (.iload_n 3, 1) := by decide +kernel
theorem dX12_entry_10 : decode cX12_entry 10 = .ok (.bipush 10, 2) := by decide +kernel
theorem dX12_entry_12 : decode cX12_entry 12 = .ok (.bipush 17, 2) := by decide +kernel
theorem dX12_entry_14 : decode cX12_entry 14 = .ok (.invokestatic 66, 3) := by decide +kernel
theorem dX12_entry_17 : decode cX12_entry 17 = .ok (.ifCond .ne 14, 3) := by decide +kernel
theorem dX12_entry_20 : decode cX12_entry 20 = .ok (.iload_n 3, 1) := by decide +kernel
theorem dX12_entry_21 : decode cX12_entry 21 = .ok (.bipush 20, 2) := by decide +kernel
theorem dX12_entry_23 : decode cX12_entry 23 = .ok (.bipush 42, 2) := by decide +kernel
theorem dX12_entry_25 : decode cX12_entry 25 = .ok (.invokestatic 66, 3) := by decide +kernel
theorem dX12_entry_28 : decode cX12_entry 28 = .ok (.ifCond .eq 7, 3) := by decide +kernel
theorem dX12_entry_31 : decode cX12_entry 31 = .ok (.iconst 1, 1) := by decide +kernel
theorem dX12_entry_32 : decode cX12_entry 32 = .ok (.goto 4, 3) := by decide +kernel
theorem dX12_entry_35 : decode cX12_entry 35 = .ok (.iconst 0, 1) := by decide +kernel
theorem dX12_entry_36 : decode cX12_entry 36 = .ok (.istore 4, 2) := by decide +kernel
theorem dX12_entry_38 : decode cX12_entry 38 = .ok (.iload_n 1, 1) := by decide +kernel
theorem dX12_entry_39 : decode cX12_entry 39 = .ok (.ifCond .lt 20, 3) := by decide +kernel
theorem dX12_entry_42 : decode cX12_entry 42 = .ok (.iload_n 2, 1) := by decide +kernel
theorem dX12_entry_43 : decode cX12_entry 43 = .ok (.ifCond .lt 16, 3) := by decide +kernel
theorem dX12_entry_46 : decode cX12_entry 46 = .ok (.iload 4, 2) := by decide +kernel
theorem dX12_entry_48 : decode cX12_entry 48 = .ok (.ifCond .eq 11, 3) := by decide +kernel
theorem dX12_entry_51 : decode cX12_entry 51 = .ok (.aload_n 0, 1) := by decide +kernel
theorem dX12_entry_52 : decode cX12_entry 52 = .ok (.iload_n 1, 1) := by decide +kernel
theorem dX12_entry_53 : decode cX12_entry 53 = .ok (.invokevirtual 300, 3) := by decide +kernel
theorem dX12_entry_56 : decode cX12_entry 56 = .ok (.ifCond .ne 5, 3) := by decide +kernel
theorem dX12_entry_59 : decode cX12_entry 59 = .ok (.iconst (-1), 1) := by decide +kernel
theorem dX12_entry_60 : decode cX12_entry 60 = .ok (.ireturn, 1) := by decide +kernel
theorem dX12_entry_61 : decode cX12_entry 61 = .ok (.aload_n 0, 1) := by decide +kernel
theorem dX12_entry_62 : decode cX12_entry 62 = .ok (.aload_n 0, 1) := by decide +kernel
theorem dX12_entry_63 : decode cX12_entry 63 = .ok (.getfield 240, 3) := by decide +kernel
theorem dX12_entry_66 : decode cX12_entry 66 = .ok (.invokevirtual 119, 3) := by decide +kernel
theorem dX12_entry_69 : decode cX12_entry 69 = .ok (.iload_n 2, 1) := by decide +kernel
theorem dX12_entry_70 : decode cX12_entry 70 = .ok (.aload_n 0, 1) := by decide +kernel
theorem dX12_entry_71 : decode cX12_entry 71 = .ok (.getfield 97, 3) := by decide +kernel
theorem dX12_entry_74 : decode cX12_entry 74 = .ok (.if_icmp .lt 5, 3) := by decide +kernel
theorem dX12_entry_77 : decode cX12_entry 77 = .ok (.iconst (-1), 1) := by decide +kernel
theorem dX12_entry_78 : decode cX12_entry 78 = .ok (.ireturn, 1) := by decide +kernel
theorem dX12_entry_79 : decode cX12_entry 79 = .ok (.aload_n 0, 1) := by decide +kernel
theorem dX12_entry_80 : decode cX12_entry 80 = .ok (.getfield 16, 3) := by decide +kernel
theorem dX12_entry_83 : decode cX12_entry 83 = .ok (.iload_n 2, 1) := by decide +kernel
theorem dX12_entry_84 : decode cX12_entry 84 = .ok (.iaload, 1) := by decide +kernel
theorem dX12_entry_85 : decode cX12_entry 85 = .ok (.istore 5, 2) := by decide +kernel
theorem dX12_entry_87 : decode cX12_entry 87 = .ok (.aload_n 0, 1) := by decide +kernel
theorem dX12_entry_88 : decode cX12_entry 88 = .ok (.getfield 240, 3) := by decide +kernel
theorem dX12_entry_91 : decode cX12_entry 91 = .ok (.aload_n 0, 1) := by decide +kernel
theorem dX12_entry_92 : decode cX12_entry 92 = .ok (.getfield 7, 3) := by decide +kernel
theorem dX12_entry_95 : decode cX12_entry 95 = .ok (.iconst 1, 1) := by decide +kernel
theorem dX12_entry_96 : decode cX12_entry 96 = .ok (.iaload, 1) := by decide +kernel
theorem dX12_entry_97 : decode cX12_entry 97 = .ok (.imul, 1) := by decide +kernel
theorem dX12_entry_98 : decode cX12_entry 98 = .ok (.istore 6, 2) := by decide +kernel
theorem dX12_entry_100 : decode cX12_entry 100 = .ok (.iload_n 3, 1) := by decide +kernel
theorem dX12_entry_101 : decode cX12_entry 101 = .ok (.bipush 20, 2) := by decide +kernel
theorem dX12_entry_103 : decode cX12_entry 103 = .ok (.if_icmp .lt 45, 3) := by decide +kernel
theorem dX12_entry_106 : decode cX12_entry 106 = .ok (.iload_n 3, 1) := by decide +kernel
theorem dX12_entry_107 : decode cX12_entry 107 = .ok (.bipush 20, 2) := by decide +kernel
theorem dX12_entry_109 : decode cX12_entry 109 = .ok (.isub, 1) := by decide +kernel
theorem dX12_entry_110 : decode cX12_entry 110 = .ok (.aload_n 0, 1) := by decide +kernel
theorem dX12_entry_111 : decode cX12_entry 111 = .ok (.iload_n 2, 1) := by decide +kernel
theorem dX12_entry_112 : decode cX12_entry 112 = .ok (.aload_n 0, 1) := by decide +kernel
theorem dX12_entry_113 : decode cX12_entry 113 = .ok (.getfield 240, 3) := by decide +kernel
theorem dX12_entry_116 : decode cX12_entry 116 = .ok (.invokevirtual 255, 3) := by decide +kernel
theorem dX12_entry_119 : decode cX12_entry 119 = .ok (.if_icmp .ge 26, 3) := by decide +kernel
theorem dX12_entry_122 : decode cX12_entry 122 = .ok (.aload_n 0, 1) := by decide +kernel
theorem dX12_entry_123 : decode cX12_entry 123 = .ok (.iload 5, 2) := by decide +kernel
theorem dX12_entry_125 : decode cX12_entry 125 = .ok (.iload 6, 2) := by decide +kernel
theorem dX12_entry_127 : decode cX12_entry 127 = .ok (.aload_n 0, 1) := by decide +kernel
theorem dX12_entry_128 : decode cX12_entry 128 = .ok (.getfield 7, 3) := by decide +kernel
theorem dX12_entry_131 : decode cX12_entry 131 = .ok (.iconst 1, 1) := by decide +kernel
theorem dX12_entry_132 : decode cX12_entry 132 = .ok (.iaload, 1) := by decide +kernel
theorem dX12_entry_133 : decode cX12_entry 133 = .ok (.iadd, 1) := by decide +kernel
theorem dX12_entry_134 : decode cX12_entry 134 = .ok (.iload_n 3, 1) := by decide +kernel
theorem dX12_entry_135 : decode cX12_entry 135 = .ok (.iadd, 1) := by decide +kernel
theorem dX12_entry_136 : decode cX12_entry 136 = .ok (.bipush 20, 2) := by decide +kernel
theorem dX12_entry_138 : decode cX12_entry 138 = .ok (.isub, 1) := by decide +kernel
theorem dX12_entry_139 : decode cX12_entry 139 = .ok (.invokevirtual 74, 3) := by decide +kernel
theorem dX12_entry_142 : decode cX12_entry 142 = .ok (.goto 5, 3) := by decide +kernel
theorem dX12_entry_145 : decode cX12_entry 145 = .ok (.bipush (-4), 2) := by decide +kernel
theorem dX12_entry_147 : decode cX12_entry 147 = .ok (.ireturn, 1) := by decide +kernel
theorem dX12_entry_148 : decode cX12_entry 148 = .ok (.iload_n 3, 1) := by decide +kernel
theorem dX12_entry_149 : decode cX12_entry 149 = .ok (.bipush 10, 2) := by decide +kernel
theorem dX12_entry_151 : decode cX12_entry 151 = .ok (.if_icmp .lt 38, 3) := by decide +kernel
theorem dX12_entry_154 : decode cX12_entry 154 = .ok (.iload_n 3, 1) := by decide +kernel
theorem dX12_entry_155 : decode cX12_entry 155 = .ok (.bipush 10, 2) := by decide +kernel
theorem dX12_entry_157 : decode cX12_entry 157 = .ok (.isub, 1) := by decide +kernel
theorem dX12_entry_158 : decode cX12_entry 158 = .ok (.aload_n 0, 1) := by decide +kernel
theorem dX12_entry_159 : decode cX12_entry 159 = .ok (.iload_n 2, 1) := by decide +kernel
theorem dX12_entry_160 : decode cX12_entry 160 = .ok (.aload_n 0, 1) := by decide +kernel
theorem dX12_entry_161 : decode cX12_entry 161 = .ok (.getfield 240, 3) := by decide +kernel
theorem dX12_entry_164 : decode cX12_entry 164 = .ok (.invokevirtual 252, 3) := by decide +kernel
theorem dX12_entry_167 : decode cX12_entry 167 = .ok (.if_icmp .ge 19, 3) := by decide +kernel
theorem dX12_entry_170 : decode cX12_entry 170 = .ok (.aload_n 0, 1) := by decide +kernel
theorem dX12_entry_171 : decode cX12_entry 171 = .ok (.iload 5, 2) := by decide +kernel
theorem dX12_entry_173 : decode cX12_entry 173 = .ok (.iload 6, 2) := by decide +kernel
theorem dX12_entry_175 : decode cX12_entry 175 = .ok (.iload_n 3, 1) := by decide +kernel
theorem dX12_entry_176 : decode cX12_entry 176 = .ok (.iadd, 1) := by decide +kernel
theorem dX12_entry_177 : decode cX12_entry 177 = .ok (.bipush 10, 2) := by decide +kernel
theorem dX12_entry_179 : decode cX12_entry 179 = .ok (.isub, 1) := by decide +kernel
theorem dX12_entry_180 : decode cX12_entry 180 = .ok (.invokevirtual 74, 3) := by decide +kernel
theorem dX12_entry_183 : decode cX12_entry 183 = .ok (.goto 5, 3) := by decide +kernel
theorem dX12_entry_186 : decode cX12_entry 186 = .ok (.bipush (-4), 2) := by decide +kernel
theorem dX12_entry_188 : decode cX12_entry 188 = .ok (.ireturn, 1) := by decide +kernel
theorem dX12_entry_189 : decode cX12_entry 189 = .ok (.iload_n 3, 1) := by decide +kernel
theorem dX12_entry_190 : decode cX12_entry 190 = .ok (.tableswitch 80 0 3 #[30, 37, 47, 70], 30) := by decide +kernel
theorem dX12_entry_220 : decode cX12_entry 220 = .ok (.aload_n 0, 1) := by decide +kernel
theorem dX12_entry_221 : decode cX12_entry 221 = .ok (.getfield 19, 3) := by decide +kernel
theorem dX12_entry_224 : decode cX12_entry 224 = .ok (.iload_n 2, 1) := by decide +kernel
theorem dX12_entry_225 : decode cX12_entry 225 = .ok (.iaload, 1) := by decide +kernel
theorem dX12_entry_226 : decode cX12_entry 226 = .ok (.ireturn, 1) := by decide +kernel
theorem dX12_entry_227 : decode cX12_entry 227 = .ok (.aload_n 0, 1) := by decide +kernel
theorem dX12_entry_228 : decode cX12_entry 228 = .ok (.iload_n 2, 1) := by decide +kernel
theorem dX12_entry_229 : decode cX12_entry 229 = .ok (.aload_n 0, 1) := by decide +kernel
theorem dX12_entry_230 : decode cX12_entry 230 = .ok (.getfield 240, 3) := by decide +kernel
theorem dX12_entry_233 : decode cX12_entry 233 = .ok (.invokevirtual 252, 3) := by decide +kernel
theorem dX12_entry_236 : decode cX12_entry 236 = .ok (.ireturn, 1) := by decide +kernel
theorem dX12_entry_237 : decode cX12_entry 237 = .ok (.aload_n 0, 1) := by decide +kernel
theorem dX12_entry_238 : decode cX12_entry 238 = .ok (.getfield 19, 3) := by decide +kernel
theorem dX12_entry_241 : decode cX12_entry 241 = .ok (.iload_n 2, 1) := by decide +kernel
theorem dX12_entry_242 : decode cX12_entry 242 = .ok (.iaload, 1) := by decide +kernel
theorem dX12_entry_243 : decode cX12_entry 243 = .ok (.iconst 2, 1) := by decide +kernel
theorem dX12_entry_244 : decode cX12_entry 244 = .ok (.if_icmp .ne 8, 3) := by decide +kernel
theorem dX12_entry_247 : decode cX12_entry 247 = .ok (.bipush (-2), 2) := by decide +kernel
theorem dX12_entry_249 : decode cX12_entry 249 = .ok (.goto 10, 3) := by decide +kernel
theorem dX12_entry_252 : decode cX12_entry 252 = .ok (.aload_n 0, 1) := by decide +kernel
theorem dX12_entry_253 : decode cX12_entry 253 = .ok (.iload 5, 2) := by decide +kernel
theorem dX12_entry_255 : decode cX12_entry 255 = .ok (.iconst 1, 1) := by decide +kernel
theorem dX12_entry_256 : decode cX12_entry 256 = .ok (.invokevirtual 50, 3) := by decide +kernel
theorem dX12_entry_259 : decode cX12_entry 259 = .ok (.ireturn, 1) := by decide +kernel
theorem dX12_entry_260 : decode cX12_entry 260 = .ok (.aload_n 0, 1) := by decide +kernel
theorem dX12_entry_261 : decode cX12_entry 261 = .ok (.iload_n 2, 1) := by decide +kernel
theorem dX12_entry_262 : decode cX12_entry 262 = .ok (.aload_n 0, 1) := by decide +kernel
theorem dX12_entry_263 : decode cX12_entry 263 = .ok (.getfield 240, 3) := by decide +kernel
theorem dX12_entry_266 : decode cX12_entry 266 = .ok (.invokevirtual 255, 3) := by decide +kernel
theorem dX12_entry_269 : decode cX12_entry 269 = .ok (.ireturn, 1) := by decide +kernel
theorem dX12_entry_270 : decode cX12_entry 270 = .ok (.aload_n 0, 1) := by decide +kernel
theorem dX12_entry_271 : decode cX12_entry 271 = .ok (.iload_n 2, 1) := by decide +kernel
theorem dX12_entry_272 : decode cX12_entry 272 = .ok (.invokevirtual 306, 3) := by decide +kernel
theorem dX12_entry_275 : decode cX12_entry 275 = .ok (.ireturn, 1) := by decide +kernel
set_option maxRecDepth 20000 in
theorem ggX12_value_X12_isLong : GoodIn wsX12_value wsX12_isLong := goodIn_r _ [5, 6, 7, 8, 4, 9, 45, 46, 47, 48, 49, 50, 51, 52, 53, 54, 55, 56, 57, 58, 59, 60, 61, 62, 63, 64, 65, 66, 67, 68, 69, 70, 71, 72, 73, 74, 75, 76, 77, 78, 79, 80, 81, 82, 83, 84, 85] (by decide +kernel) (by decide +kernel)
set_option maxRecDepth 20000 in
theorem gX12_value_X12_isLong : GoodIn wsX12_value (wsV RX12 157 RX12 yX12_isLong wsX12_isLong) := goodIn_app (goodIn_of _ (by decide +kernel)) ggX12_value_X12_isLong
set_option maxRecDepth 20000 in
theorem ggX12_value_X12_takesKey : GoodIn wsX12_value wsX12_takesKey := goodIn_r _ [13, 6, 14, 15, 16, 17, 18, 4, 19, 7, 8, 9, 45, 46, 47, 48, 49, 50, 51, 52, 53, 54, 55, 56, 57, 58, 59, 60, 61, 62, 63, 64, 65, 66, 67, 68, 69, 70, 71, 72, 73, 74, 75, 76, 77, 78, 79, 80, 81, 82, 83, 84, 85] (by decide +kernel) (by decide +kernel)
set_option maxRecDepth 20000 in
theorem gX12_value_X12_takesKey : GoodIn wsX12_value (wsV RX12 161 RX12 yX12_takesKey wsX12_takesKey) := goodIn_app (goodIn_of _ (by decide +kernel)) ggX12_value_X12_takesKey
set_option maxRecDepth 20000 in
theorem ggX12_value_X12_isHandThere : GoodIn wsX12_value wsX12_isHandThere := goodIn_r _ [23, 24, 25, 26, 4, 27, 28, 29, 30, 31, 32, 33, 34, 35, 36, 14, 15, 37, 38, 39, 40, 41, 42, 43, 44, 45, 46, 47, 48, 49, 50, 51, 52, 53, 54, 55, 56, 57, 58, 59, 60, 61, 62, 63, 64, 65, 66, 67, 68, 69, 70, 71, 72, 73, 74, 75, 76, 77, 78, 79, 80, 81, 82, 83, 84, 85] (by decide +kernel) (by decide +kernel)
set_option maxRecDepth 20000 in
theorem gX12_value_X12_isHandThere : GoodIn wsX12_value (wsV RX12 167 RX12 yX12_isHandThere wsX12_isHandThere) := goodIn_app (goodIn_of _ (by decide +kernel)) ggX12_value_X12_isHandThere
set_option maxRecDepth 20000 in
theorem ggX12_value_X12_rankOfHand : GoodIn wsX12_value wsX12_rankOfHand := goodIn_r _ [27, 28, 29, 30, 4, 31, 32, 33, 34, 35, 36, 14, 15, 37, 38, 39, 40, 41, 42, 43, 44, 45, 46, 47, 48, 49, 50, 51, 52, 53, 54, 55, 56, 57, 58, 59, 60, 61, 62, 63, 64, 65, 66, 67, 68, 69, 70, 71, 72, 73, 74, 75, 76, 77, 78, 79, 80, 81, 82, 83, 84, 85] (by decide +kernel) (by decide +kernel)
set_option maxRecDepth 20000 in
theorem gX12_value_X12_rankOfHand : GoodIn wsX12_value (wsV RX12 81 RX12 yX12_rankOfHand wsX12_rankOfHand) := goodIn_app (goodIn_of _ (by decide +kernel)) ggX12_value_X12_rankOfHand
set_option maxRecDepth 20000 in
theorem ggX12_value_X12_of : GoodIn wsX12_value wsX12_of := goodIn_r _ [40, 32, 45, 46, 47, 48, 49, 50, 51, 52, 53, 54, 55, 56, 57, 58, 59, 60, 61, 62, 63, 64, 65, 66, 67, 68, 69, 70, 71, 72, 73, 74, 75, 76, 77, 78, 79, 80, 81, 82, 83, 84, 85] (by decide +kernel) (by decide +kernel)
set_option maxRecDepth 20000 in
theorem gX12_value_X12_of : GoodIn wsX12_value (wsV RX12 50 RX12 yX12_of wsX12_of) := goodIn_app (goodIn_of _ (by decide +kernel)) ggX12_value_X12_of
theorem dX12_value_0 : decode cX12_value 0 = .ok (.aload_n 0, 1) := by decide +kernel
theorem dX12_value_1 : decode cX12_value 1 = .ok (.iload_n 1, 1) := by decide +kernel
theorem dX12_value_2 : decode cX12_value 2 = .ok (.invokevirtual 157, 3) := by decide +kernel
theorem dX12_value_5 : decode cX12_value 5 = .ok (.ifCond .ne 5, 3) := by decide +kernel
theorem dX12_value_8 : decode cX12_value 8 = .ok (.iconst (-1), 1) := by decide +kernel
theorem dX12_value_9 : decode cX12_value 9 = .ok (.ireturn, 1) := by decide +kernel
theorem dX12_value_10 : decode cX12_value 10 = .ok (.aload_n 0, 1) := by decide +kernel
theorem dX12_value_11 : decode cX12_value 11 = .ok (.iload_n 1, 1) := by decide +kernel
theorem dX12_value_12 : decode cX12_value 12 = .ok (.invokevirtual 161, 3) := by decide +kernel
theorem dX12_value_15 : decode cX12_value 15 = .ok (.ifCond .ne 6, 3) := by decide +kernel
theorem dX12_value_18 : decode cX12_value 18 = .ok (.bipush (-2), 2) := by decide +kernel
theorem dX12_value_20 : decode cX12_value 20 = .ok (.ireturn, 1) := by decide +kernel
theorem dX12_value_21 : decode cX12_value 21 = .ok (.aload_n 0, 1) := by decide +kernel
theorem dX12_value_22 : decode cX12_value 22 = .ok (.invokevirtual 167, 3) := by decide +kernel
theorem dX12_value_25 : decode cX12_value 25 = .ok (.ifCond .eq 15, 3) := by decide +kernel
theorem dX12_value_28 : decode cX12_value 28 = .ok (.aload_n 0, 1) := by decide +kernel
theorem dX12_value_29 : decode cX12_value 29 = .ok (.aload_n 0, 1) := by decide +kernel
theorem dX12_value_30 : decode cX12_value 30 = .ok (.invokevirtual 81, 3) := by decide +kernel
theorem dX12_value_33 : decode cX12_value 33 = .ok (.iconst 1, 1) := by decide +kernel
theorem dX12_value_34 : decode cX12_value 34 = .ok (.invokevirtual 50, 3) := by decide +kernel
theorem dX12_value_37 : decode cX12_value 37 = .ok (.goto 5, 3) := by decide +kernel
theorem dX12_value_40 : decode cX12_value 40 = .ok (.bipush (-3), 2) := by decide +kernel
theorem dX12_value_42 : decode cX12_value 42 = .ok (.ireturn, 1) := by decide +kernel
set_option maxRecDepth 20000 in
theorem ggX12_rank_X12_isLong : GoodIn wsX12_rank wsX12_isLong := goodIn_r _ [5, 6, 7, 8, 4, 9, 41, 42, 43, 44, 45, 46, 47, 48, 49, 50, 51, 52, 53, 54, 55, 56, 57, 58, 59, 60, 61, 62, 63, 64, 65, 66, 67, 68, 69, 70, 71, 72, 73, 74, 75, 76, 77, 78, 79, 80, 81] (by decide +kernel) (by decide +kernel)
set_option maxRecDepth 20000 in
theorem gX12_rank_X12_isLong : GoodIn wsX12_rank (wsV RX12 157 RX12 yX12_isLong wsX12_isLong) := goodIn_app (goodIn_of _ (by decide +kernel)) ggX12_rank_X12_isLong
set_option maxRecDepth 20000 in
theorem ggX12_rank_X12_takesKey : GoodIn wsX12_rank wsX12_takesKey := goodIn_r _ [13, 6, 14, 15, 16, 17, 18, 4, 19, 7, 8, 9, 41, 42, 43, 44, 45, 46, 47, 48, 49, 50, 51, 52, 53, 54, 55, 56, 57, 58, 59, 60, 61, 62, 63, 64, 65, 66, 67, 68, 69, 70, 71, 72, 73, 74, 75, 76, 77, 78, 79, 80, 81] (by decide +kernel) (by decide +kernel)
set_option maxRecDepth 20000 in
theorem gX12_rank_X12_takesKey : GoodIn wsX12_rank (wsV RX12 161 RX12 yX12_takesKey wsX12_takesKey) := goodIn_app (goodIn_of _ (by decide +kernel)) ggX12_rank_X12_takesKey
set_option maxRecDepth 20000 in
theorem ggX12_rank_X12_rankOfHand : GoodIn wsX12_rank wsX12_rankOfHand := goodIn_r _ [23, 24, 25, 26, 4, 27, 28, 29, 30, 31, 32, 14, 15, 33, 34, 35, 36, 37, 38, 39, 40, 41, 42, 43, 44, 45, 46, 47, 48, 49, 50, 51, 52, 53, 54, 55, 56, 57, 58, 59, 60, 61, 62, 63, 64, 65, 66, 67, 68, 69, 70, 71, 72, 73, 74, 75, 76, 77, 78, 79, 80, 81] (by decide +kernel) (by decide +kernel)
set_option maxRecDepth 20000 in
theorem gX12_rank_X12_rankOfHand : GoodIn wsX12_rank (wsV RX12 81 RX12 yX12_rankOfHand wsX12_rankOfHand) := goodIn_app (goodIn_of _ (by decide +kernel)) ggX12_rank_X12_rankOfHand
theorem dX12_rank_0 : decode cX12_rank 0 = .ok (.aload_n 0, 1) := by decide +kernel
theorem dX12_rank_1 : decode cX12_rank 1 = .ok (.iload_n 1, 1) := by decide +kernel
theorem dX12_rank_2 : decode cX12_rank 2 = .ok (.invokevirtual 157, 3) := by decide +kernel
theorem dX12_rank_5 : decode cX12_rank 5 = .ok (.ifCond .ne 5, 3) := by decide +kernel
theorem dX12_rank_8 : decode cX12_rank 8 = .ok (.iconst (-1), 1) := by decide +kernel
theorem dX12_rank_9 : decode cX12_rank 9 = .ok (.ireturn, 1) := by decide +kernel
theorem dX12_rank_10 : decode cX12_rank 10 = .ok (.aload_n 0, 1) := by decide +kernel
theorem dX12_rank_11 : decode cX12_rank 11 = .ok (.iload_n 1, 1) := by decide +kernel
theorem dX12_rank_12 : decode cX12_rank 12 = .ok (.invokevirtual 161, 3) := by decide +kernel
theorem dX12_rank_15 : decode cX12_rank 15 = .ok (.ifCond .eq 10, 3) := by decide +kernel
theorem dX12_rank_18 : decode cX12_rank 18 = .ok (.aload_n 0, 1) := by decide +kernel
theorem dX12_rank_19 : decode cX12_rank 19 = .ok (.invokevirtual 81, 3) := by decide +kernel
theorem dX12_rank_22 : decode cX12_rank 22 = .ok (.goto 5, 3) := by decide +kernel
theorem dX12_rank_25 : decode cX12_rank 25 = .ok (.bipush (-2), 2) := by decide +kernel
theorem dX12_rank_27 : decode cX12_rank 27 = .ok (.ireturn, 1) := by decide +kernel
set_option maxRecDepth 20000 in
theorem ggX12_away_X12_depthOf : GoodIn wsX12_away wsX12_depthOf := goodIn_r _ [6, 7, 8, 9, 10, 11, 12, 13, 5, 14, 15, 16, 17, 18, 19, 20, 21, 22, 23, 24, 25, 26, 27, 28, 29, 30, 31, 32, 33, 34, 35, 57, 58, 59, 60, 61, 62, 63, 64, 65, 66, 67, 68, 69, 70, 71, 72, 73, 74, 75, 76, 77, 78, 79, 80, 81, 82, 83, 84, 85, 86, 87, 88, 89, 90, 91, 92, 93, 94, 95, 96, 97] (by decide +kernel) (by decide +kernel)
set_option maxRecDepth 20000 in
theorem gX12_away_X12_depthOf : GoodIn wsX12_away (wsV RX12 135 RX12 yX12_depthOf wsX12_depthOf) := goodIn_app (goodIn_of _ (by decide +kernel)) ggX12_away_X12_depthOf
set_option maxRecDepth 20000 in
theorem ggX12_away_X12_findsEntries : GoodIn wsX12_away wsX12_findsEntries := goodIn_r _ [39, 7, 40, 10, 9, 41, 1, 24, 25, 26, 5, 27, 28, 29, 30, 31, 32, 33, 34, 35, 8, 15, 16, 17, 18, 19, 20, 21, 22, 23, 42, 43, 44, 45, 57, 58, 59, 60, 61, 62, 63, 64, 65, 66, 67, 68, 69, 70, 71, 72, 73, 74, 75, 76, 77, 78, 79, 80, 81, 82, 83, 84, 85, 86, 87, 88, 89, 90, 91, 92, 93, 94, 95, 96, 97] (by decide +kernel) (by decide +kernel)
set_option maxRecDepth 20000 in
theorem gX12_away_X12_findsEntries : GoodIn wsX12_away (wsV RX12 119 RX12 yX12_findsEntries wsX12_findsEntries) := goodIn_app (goodIn_of _ (by decide +kernel)) ggX12_away_X12_findsEntries
set_option maxRecDepth 20000 in
theorem ggX12_away_X12_entryOf : GoodIn wsX12_away wsX12_entryOf := goodIn_r _ [49, 1, 57, 58, 59, 60, 61, 62, 63, 64, 65, 66, 67, 68, 69, 70, 71, 72, 73, 74, 75, 76, 77, 78, 79, 80, 81, 82, 83, 84, 85, 86, 87, 88, 89, 90, 91, 92, 93, 94, 95, 96, 97] (by decide +kernel) (by decide +kernel)
set_option maxRecDepth 20000 in
theorem gX12_away_X12_entryOf : GoodIn wsX12_away (wsV RX12 126 RX12 yX12_entryOf wsX12_entryOf) := goodIn_app (goodIn_of _ (by decide +kernel)) ggX12_away_X12_entryOf
set_option maxRecDepth 20000 in
theorem ggX12_away_X12_beginsPage : GoodIn wsX12_away wsX12_beginsPage := goodIn_r _ [53, 16, 17, 18, 5, 19, 7, 54, 55, 56, 57, 58, 59, 60, 61, 62, 63, 64, 65, 66, 67, 68, 69, 70, 71, 72, 73, 74, 75, 76, 77, 78, 79, 80, 81, 82, 83, 84, 85, 86, 87, 88, 89, 90, 91, 92, 93, 94, 95, 96, 97] (by decide +kernel) (by decide +kernel)
set_option maxRecDepth 20000 in
theorem gX12_away_X12_beginsPage : GoodIn wsX12_away (wsV RX12 103 RX12 yX12_beginsPage wsX12_beginsPage) := goodIn_app (goodIn_of _ (by decide +kernel)) ggX12_away_X12_beginsPage
theorem dX12_away_0 : decode cX12_away 0 = .ok (.aload_n 0, 1) := by decide +kernel
theorem dX12_away_1 : decode cX12_away 1 = .ok (.iload_n 1, 1) := by decide +kernel
theorem dX12_away_2 : decode cX12_away 2 = .ok (.invokevirtual 135, 3) := by decide +kernel
theorem dX12_away_5 : decode cX12_away 5 = .ok (.istore_n 2, 1) := by decide +kernel
theorem dX12_away_6 : decode cX12_away 6 = .ok (.iconst 0, 1) := by decide +kernel
theorem dX12_away_7 : decode cX12_away 7 = .ok (.istore_n 3, 1) := by decide +kernel
theorem dX12_away_8 : decode cX12_away 8 = .ok (.iconst 0, 1) := by decide +kernel
theorem dX12_away_9 : decode cX12_away 9 = .ok (.istore 4, 2) := by decide +kernel
theorem dX12_away_11 : decode cX12_away 11 = .ok (.iload 4, 2) := by decide +kernel
theorem dX12_away_13 : decode cX12_away 13 = .ok (.iload_n 2, 1) := by decide +kernel
theorem dX12_away_14 : decode cX12_away 14 = .ok (.if_icmp .gt 58, 3) := by decide +kernel
theorem dX12_away_17 : decode cX12_away 17 = .ok (.aload_n 0, 1) := by decide +kernel
theorem dX12_away_18 : decode cX12_away 18 = .ok (.iload 4, 2) := by decide +kernel
theorem dX12_away_20 : decode cX12_away 20 = .ok (.invokevirtual 119, 3) := by decide +kernel
theorem dX12_away_23 : decode cX12_away 23 = .ok (.aload_n 0, 1) := by decide +kernel
theorem dX12_away_24 : decode cX12_away 24 = .ok (.iload_n 1, 1) := by decide +kernel
theorem dX12_away_25 : decode cX12_away 25 = .ok (.invokevirtual 126, 3) := by decide +kernel
theorem dX12_away_28 : decode cX12_away 28 = .ok (.istore 5, 2) := by decide +kernel
theorem dX12_away_30 : decode cX12_away 30 = .ok (.iconst 0, 1) := by decide +kernel
theorem dX12_away_31 : decode cX12_away 31 = .ok (.istore 6, 2) := by decide +kernel
theorem dX12_away_33 : decode cX12_away 33 = .ok (.iload 6, 2) := by decide +kernel
theorem dX12_away_35 : decode cX12_away 35 = .ok (.iload 5, 2) := by decide +kernel
theorem dX12_away_37 : decode cX12_away 37 = .ok (.if_icmp .gt 29, 3) := by decide +kernel
theorem dX12_away_40 : decode cX12_away 40 = .ok (.aload_n 0, 1) := by decide +kernel
theorem dX12_away_41 : decode cX12_away 41 = .ok (.aload_n 0, 1) := by decide +kernel
theorem dX12_away_42 : decode cX12_away 42 = .ok (.getfield 16, 3) := by decide +kernel
theorem dX12_away_45 : decode cX12_away 45 = .ok (.iload 6, 2) := by decide +kernel
theorem dX12_away_47 : decode cX12_away 47 = .ok (.iaload, 1) := by decide +kernel
theorem dX12_away_48 : decode cX12_away 48 = .ok (.iload 4, 2) := by decide +kernel
theorem dX12_away_50 : decode cX12_away 50 = .ok (.invokevirtual 103, 3) := by decide +kernel
theorem dX12_away_53 : decode cX12_away 53 = .ok (.ifCond .eq 7, 3) := by decide +kernel
theorem dX12_away_56 : decode cX12_away 56 = .ok (.iload_n 3, 1) := by decide +kernel
theorem dX12_away_57 : decode cX12_away 57 = .ok (.iconst 1, 1) := by decide +kernel
theorem dX12_away_58 : decode cX12_away 58 = .ok (.iadd, 1) := by decide +kernel
theorem dX12_away_59 : decode cX12_away 59 = .ok (.istore_n 3, 1) := by decide +kernel
theorem dX12_away_60 : decode cX12_away 60 = .ok (.iinc 6 1, 3) := by decide +kernel
theorem dX12_away_63 : decode cX12_away 63 = .ok (.goto (-30), 3) := by decide +kernel
theorem dX12_away_66 : decode cX12_away 66 = .ok (.iinc 4 1, 3) := by decide +kernel
theorem dX12_away_69 : decode cX12_away 69 = .ok (.goto (-58), 3) := by decide +kernel
theorem dX12_away_72 : decode cX12_away 72 = .ok (.iload_n 3, 1) := by decide +kernel
theorem dX12_away_73 : decode cX12_away 73 = .ok (.ireturn, 1) := by decide +kernel
set_option maxRecDepth 20000 in
theorem ggX12_key_X12_isThere : GoodIn wsX12_key wsX12_isThere := goodIn_r _ [5, 6, 7, 8, 4, 9, 10, 11, 12, 13, 68, 69, 70, 71, 72, 73, 74, 75, 76, 77, 78, 79, 80, 81, 82, 83, 84, 85, 86, 87, 88, 89, 90, 91, 92, 93, 94, 95, 96, 97, 98, 99, 100, 101, 102, 103, 104, 105, 106, 107, 108] (by decide +kernel) (by decide +kernel)
set_option maxRecDepth 20000 in
theorem gX12_key_X12_isThere : GoodIn wsX12_key (wsV RX12 309 RX12 yX12_isThere wsX12_isThere) := goodIn_app (goodIn_of _ (by decide +kernel)) ggX12_key_X12_isThere
set_option maxRecDepth 20000 in
theorem ggX12_key_X12_of : GoodIn wsX12_key wsX12_of := goodIn_r _ [17, 10, 68, 69, 70, 71, 72, 73, 74, 75, 76, 77, 78, 79, 80, 81, 82, 83, 84, 85, 86, 87, 88, 89, 90, 91, 92, 93, 94, 95, 96, 97, 98, 99, 100, 101, 102, 103, 104, 105, 106, 107, 108] (by decide +kernel) (by decide +kernel)
set_option maxRecDepth 20000 in
theorem gX12_key_X12_of : GoodIn wsX12_key (wsV RX12 50 RX12 yX12_of wsX12_of) := goodIn_app (goodIn_of _ (by decide +kernel)) ggX12_key_X12_of
set_option maxRecDepth 20000 in
theorem ggX12_key_X12_away : GoodIn wsX12_key wsX12_away := goodIn_r _ [21, 22, 23, 24, 25, 4, 26, 10, 27, 28, 29, 30, 31, 32, 33, 34, 14, 15, 16, 17, 35, 36, 37, 38, 39, 40, 41, 42, 6, 7, 8, 9, 43, 44, 45, 46, 47, 48, 49, 50, 51, 52, 53, 54, 55, 56, 57, 58, 59, 60, 61, 62, 63, 64, 65, 66, 67, 68, 69, 70, 71, 72, 73, 74, 75, 76, 77, 78, 79, 80, 81, 82, 83, 84, 85, 86, 87, 88, 89, 90, 91, 92, 93, 94, 95, 96, 97, 98, 99, 100, 101, 102, 103, 104, 105, 106, 107, 108] (by decide +kernel) (by decide +kernel)
set_option maxRecDepth 20000 in
theorem gX12_key_X12_away : GoodIn wsX12_key (wsV RX12 312 RX12 yX12_away wsX12_away) := goodIn_app (goodIn_of _ (by decide +kernel)) ggX12_key_X12_away
set_option maxRecDepth 20000 in
theorem ggX12_key_X12_byteOf : GoodIn wsX12_key wsX12_byteOf := goodIn_r _ [38, 10, 68, 69, 70, 71, 72, 73, 74, 75, 76, 77, 78, 79, 80, 81, 82, 83, 84, 85, 86, 87, 88, 89, 90, 91, 92, 93, 94, 95, 96, 97, 98, 99, 100, 101, 102, 103, 104, 105, 106, 107, 108] (by decide +kernel) (by decide +kernel)
set_option maxRecDepth 20000 in
theorem gX12_key_X12_byteOf : GoodIn wsX12_key (wsV RX12 74 RX12 yX12_byteOf wsX12_byteOf) := goodIn_app (goodIn_of _ (by decide +kernel)) ggX12_key_X12_byteOf
theorem dX12_key_0 : decode cX12_key 0 = .ok (.aload_n 0, 1) := by decide +kernel
theorem dX12_key_1 : decode cX12_key 1 = .ok (.iload_n 1, 1) := by decide +kernel
theorem dX12_key_2 : decode cX12_key 2 = .ok (.invokevirtual 309, 3) := by decide +kernel
theorem dX12_key_5 : decode cX12_key 5 = .ok (.ifCond .eq 9, 3) := by decide +kernel
theorem dX12_key_8 : decode cX12_key 8 = .ok (.iload_n 2, 1) := by decide +kernel
theorem dX12_key_9 : decode cX12_key 9 = .ok (.bipush (-3), 2) := by decide +kernel
theorem dX12_key_11 : decode cX12_key 11 = .ok (.if_icmp .ge 5, 3) := by decide +kernel
theorem dX12_key_14 : decode cX12_key 14 = .ok (.iconst (-1), 1) := by decide +kernel
theorem dX12_key_15 : decode cX12_key 15 = .ok (.ireturn, 1) := by decide +kernel
theorem dX12_key_16 : decode cX12_key 16 = .ok (.iload_n 2, 1) := by decide +kernel
theorem dX12_key_17 : decode cX12_key 17 = .ok (.tableswitch 47 (-3) (-1) #[41, 34, 27], 27) := by decide +kernel
theorem dX12_key_44 : decode cX12_key 44 = .ok (.aload_n 0, 1) := by decide +kernel
theorem dX12_key_45 : decode cX12_key 45 = .ok (.iload_n 1, 1) := by decide +kernel
theorem dX12_key_46 : decode cX12_key 46 = .ok (.iconst 0, 1) := by decide +kernel
theorem dX12_key_47 : decode cX12_key 47 = .ok (.invokevirtual 50, 3) := by decide +kernel
theorem dX12_key_50 : decode cX12_key 50 = .ok (.ireturn, 1) := by decide +kernel
theorem dX12_key_51 : decode cX12_key 51 = .ok (.aload_n 0, 1) := by decide +kernel
theorem dX12_key_52 : decode cX12_key 52 = .ok (.iload_n 1, 1) := by decide +kernel
theorem dX12_key_53 : decode cX12_key 53 = .ok (.iconst 1, 1) := by decide +kernel
theorem dX12_key_54 : decode cX12_key 54 = .ok (.invokevirtual 50, 3) := by decide +kernel
theorem dX12_key_57 : decode cX12_key 57 = .ok (.ireturn, 1) := by decide +kernel
theorem dX12_key_58 : decode cX12_key 58 = .ok (.aload_n 0, 1) := by decide +kernel
theorem dX12_key_59 : decode cX12_key 59 = .ok (.iload_n 1, 1) := by decide +kernel
theorem dX12_key_60 : decode cX12_key 60 = .ok (.invokevirtual 312, 3) := by decide +kernel
theorem dX12_key_63 : decode cX12_key 63 = .ok (.ireturn, 1) := by decide +kernel
theorem dX12_key_64 : decode cX12_key 64 = .ok (.iload_n 2, 1) := by decide +kernel
theorem dX12_key_65 : decode cX12_key 65 = .ok (.aload_n 0, 1) := by decide +kernel
theorem dX12_key_66 : decode cX12_key 66 = .ok (.iload_n 1, 1) := by decide +kernel
theorem dX12_key_67 : decode cX12_key 67 = .ok (.iconst 0, 1) := by decide +kernel
theorem dX12_key_68 : decode cX12_key 68 = .ok (.invokevirtual 50, 3) := by decide +kernel
theorem dX12_key_71 : decode cX12_key 71 = .ok (.if_icmp .ge 12, 3) := by decide +kernel
theorem dX12_key_74 : decode cX12_key 74 = .ok (.aload_n 0, 1) := by decide +kernel
theorem dX12_key_75 : decode cX12_key 75 = .ok (.iload_n 1, 1) := by decide +kernel
theorem dX12_key_76 : decode cX12_key 76 = .ok (.iload_n 2, 1) := by decide +kernel
theorem dX12_key_77 : decode cX12_key 77 = .ok (.invokevirtual 74, 3) := by decide +kernel
theorem dX12_key_80 : decode cX12_key 80 = .ok (.goto 5, 3) := by decide +kernel
theorem dX12_key_83 : decode cX12_key 83 = .ok (.bipush (-4), 2) := by decide +kernel
theorem dX12_key_85 : decode cX12_key 85 = .ok (.ireturn, 1) := by decide +kernel
set_option maxRecDepth 20000 in
theorem ggX12_near_X12_isLong : GoodIn wsX12_near wsX12_isLong := goodIn_r _ [5, 6, 7, 8, 4, 9, 49, 50, 51, 52, 53, 54, 55, 56, 57, 58, 59, 60, 61, 62, 63, 64, 65, 66, 67, 68, 69, 70, 71, 72, 73, 74, 75, 76, 77, 78, 79, 80, 81, 82, 83, 84, 85, 86, 87, 88, 89] (by decide +kernel) (by decide +kernel)
set_option maxRecDepth 20000 in
theorem gX12_near_X12_isLong : GoodIn wsX12_near (wsV RX12 157 RX12 yX12_isLong wsX12_isLong) := goodIn_app (goodIn_of _ (by decide +kernel)) ggX12_near_X12_isLong
set_option maxRecDepth 20000 in
theorem ggX12_near_X12_in : GoodIn wsX12_near wsX12_in := goodIn_r _ [9] (by decide +kernel) (by decide +kernel)
set_option maxRecDepth 20000 in
theorem gX12_near_X12_in : GoodIn wsX12_near (va_wsS RX12 66 yX12_in wsX12_in) := goodIn_app (goodIn_of _ (by decide +kernel)) ggX12_near_X12_in
set_option maxRecDepth 20000 in
theorem ggX12_near_X12_takesKey : GoodIn wsX12_near wsX12_takesKey := goodIn_r _ [13, 6, 14, 15, 16, 17, 18, 4, 19, 7, 8, 9, 49, 50, 51, 52, 53, 54, 55, 56, 57, 58, 59, 60, 61, 62, 63, 64, 65, 66, 67, 68, 69, 70, 71, 72, 73, 74, 75, 76, 77, 78, 79, 80, 81, 82, 83, 84, 85, 86, 87, 88, 89] (by decide +kernel) (by decide +kernel)
set_option maxRecDepth 20000 in
theorem gX12_near_X12_takesKey : GoodIn wsX12_near (wsV RX12 161 RX12 yX12_takesKey wsX12_takesKey) := goodIn_app (goodIn_of _ (by decide +kernel)) ggX12_near_X12_takesKey
set_option maxRecDepth 20000 in
theorem ggX12_near_X12_rankOfHand : GoodIn wsX12_near wsX12_rankOfHand := goodIn_r _ [23, 24, 25, 26, 4, 27, 28, 29, 30, 31, 32, 14, 15, 33, 34, 35, 36, 37, 38, 39, 40, 49, 50, 51, 52, 53, 54, 55, 56, 57, 58, 59, 60, 61, 62, 63, 64, 65, 66, 67, 68, 69, 70, 71, 72, 73, 74, 75, 76, 77, 78, 79, 80, 81, 82, 83, 84, 85, 86, 87, 88, 89] (by decide +kernel) (by decide +kernel)
set_option maxRecDepth 20000 in
theorem gX12_near_X12_rankOfHand : GoodIn wsX12_near (wsV RX12 81 RX12 yX12_rankOfHand wsX12_rankOfHand) := goodIn_app (goodIn_of _ (by decide +kernel)) ggX12_near_X12_rankOfHand
set_option maxRecDepth 20000 in
theorem ggX12_near_X12_isHandThere : GoodIn wsX12_near wsX12_isHandThere := goodIn_r _ [44, 20, 21, 22, 4, 23, 24, 25, 26, 27, 28, 29, 30, 31, 32, 14, 15, 33, 34, 35, 36, 37, 38, 39, 40, 49, 50, 51, 52, 53, 54, 55, 56, 57, 58, 59, 60, 61, 62, 63, 64, 65, 66, 67, 68, 69, 70, 71, 72, 73, 74, 75, 76, 77, 78, 79, 80, 81, 82, 83, 84, 85, 86, 87, 88, 89] (by decide +kernel) (by decide +kernel)
set_option maxRecDepth 20000 in
theorem gX12_near_X12_isHandThere : GoodIn wsX12_near (wsV RX12 167 RX12 yX12_isHandThere wsX12_isHandThere) := goodIn_app (goodIn_of _ (by decide +kernel)) ggX12_near_X12_isHandThere
set_option maxRecDepth 20000 in
theorem ggX12_near_X12_isThere : GoodIn wsX12_near wsX12_isThere := goodIn_r _ [48, 24, 25, 26, 4, 27, 28, 7, 8, 9, 49, 50, 51, 52, 53, 54, 55, 56, 57, 58, 59, 60, 61, 62, 63, 64, 65, 66, 67, 68, 69, 70, 71, 72, 73, 74, 75, 76, 77, 78, 79, 80, 81, 82, 83, 84, 85, 86, 87, 88, 89] (by decide +kernel) (by decide +kernel)
set_option maxRecDepth 20000 in
theorem gX12_near_X12_isThere : GoodIn wsX12_near (wsV RX12 309 RX12 yX12_isThere wsX12_isThere) := goodIn_app (goodIn_of _ (by decide +kernel)) ggX12_near_X12_isThere
theorem dX12_near_0 : decode cX12_near 0 = .ok (.aload_n 0, 1) := by decide +kernel
theorem dX12_near_1 : decode cX12_near 1 = .ok (.iload_n 1, 1) := by decide +kernel
theorem dX12_near_2 : decode cX12_near 2 = .ok (.invokevirtual 157, 3) := by decide +kernel
theorem dX12_near_5 : decode cX12_near 5 = .ok (.ifCond .eq 12, 3) := by decide +kernel
theorem dX12_near_8 : decode cX12_near 8 = .ok (.iload_n 2, 1) := by decide +kernel
theorem dX12_near_9 : decode cX12_near 9 = .ok (.iconst 0, 1) := by decide +kernel
theorem dX12_near_10 : decode cX12_near 10 = .ok (.iconst 3, 1) := by decide +kernel
theorem dX12_near_11 : decode cX12_near 11 = .ok (.invokestatic 66, 3) := by decide +kernel
theorem dX12_near_14 : decode cX12_near 14 = .ok (.ifCond .ne 5, 3) := by decide +kernel
theorem dX12_near_17 : decode cX12_near 17 = .ok (.iconst (-1), 1) := by decide +kernel
theorem dX12_near_18 : decode cX12_near 18 = .ok (.ireturn, 1) := by decide +kernel
theorem dX12_near_19 : decode cX12_near 19 = .ok (.aload_n 0, 1) := by decide +kernel
theorem dX12_near_20 : decode cX12_near 20 = .ok (.iload_n 1, 1) := by decide +kernel
theorem dX12_near_21 : decode cX12_near 21 = .ok (.invokevirtual 161, 3) := by decide +kernel
theorem dX12_near_24 : decode cX12_near 24 = .ok (.ifCond .ne 6, 3) := by decide +kernel
theorem dX12_near_27 : decode cX12_near 27 = .ok (.bipush (-2), 2) := by decide +kernel
theorem dX12_near_29 : decode cX12_near 29 = .ok (.ireturn, 1) := by decide +kernel
theorem dX12_near_30 : decode cX12_near 30 = .ok (.aload_n 0, 1) := by decide +kernel
theorem dX12_near_31 : decode cX12_near 31 = .ok (.invokevirtual 81, 3) := by decide +kernel
theorem dX12_near_34 : decode cX12_near 34 = .ok (.istore_n 3, 1) := by decide +kernel
theorem dX12_near_35 : decode cX12_near 35 = .ok (.aload_n 0, 1) := by decide +kernel
theorem dX12_near_36 : decode cX12_near 36 = .ok (.invokevirtual 167, 3) := by decide +kernel
theorem dX12_near_39 : decode cX12_near 39 = .ok (.istore 4, 2) := by decide +kernel
theorem dX12_near_41 : decode cX12_near 41 = .ok (.iload_n 2, 1) := by decide +kernel
theorem dX12_near_42 : decode cX12_near 42 = .ok (.ifCond .ne 18, 3) := by decide +kernel
theorem dX12_near_45 : decode cX12_near 45 = .ok (.iload 4, 2) := by decide +kernel
theorem dX12_near_47 : decode cX12_near 47 = .ok (.ifCond .eq 7, 3) := by decide +kernel
theorem dX12_near_50 : decode cX12_near 50 = .ok (.iload_n 3, 1) := by decide +kernel
theorem dX12_near_51 : decode cX12_near 51 = .ok (.goto 41, 3) := by decide +kernel
theorem dX12_near_54 : decode cX12_near 54 = .ok (.iload_n 3, 1) := by decide +kernel
theorem dX12_near_55 : decode cX12_near 55 = .ok (.iconst 1, 1) := by decide +kernel
theorem dX12_near_56 : decode cX12_near 56 = .ok (.isub, 1) := by decide +kernel
theorem dX12_near_57 : decode cX12_near 57 = .ok (.goto 35, 3) := by decide +kernel
theorem dX12_near_60 : decode cX12_near 60 = .ok (.iload_n 2, 1) := by decide +kernel
theorem dX12_near_61 : decode cX12_near 61 = .ok (.iconst 1, 1) := by decide +kernel
theorem dX12_near_62 : decode cX12_near 62 = .ok (.if_icmp .ne 7, 3) := by decide +kernel
theorem dX12_near_65 : decode cX12_near 65 = .ok (.iload_n 3, 1) := by decide +kernel
theorem dX12_near_66 : decode cX12_near 66 = .ok (.goto 26, 3) := by decide +kernel
theorem dX12_near_69 : decode cX12_near 69 = .ok (.iload_n 2, 1) := by decide +kernel
theorem dX12_near_70 : decode cX12_near 70 = .ok (.iconst 2, 1) := by decide +kernel
theorem dX12_near_71 : decode cX12_near 71 = .ok (.if_icmp .ne 9, 3) := by decide +kernel
theorem dX12_near_74 : decode cX12_near 74 = .ok (.iload_n 3, 1) := by decide +kernel
theorem dX12_near_75 : decode cX12_near 75 = .ok (.iconst 1, 1) := by decide +kernel
theorem dX12_near_76 : decode cX12_near 76 = .ok (.isub, 1) := by decide +kernel
theorem dX12_near_77 : decode cX12_near 77 = .ok (.goto 15, 3) := by decide +kernel
theorem dX12_near_80 : decode cX12_near 80 = .ok (.iload 4, 2) := by decide +kernel
theorem dX12_near_82 : decode cX12_near 82 = .ok (.ifCond .eq 9, 3) := by decide +kernel
theorem dX12_near_85 : decode cX12_near 85 = .ok (.iload_n 3, 1) := by decide +kernel
theorem dX12_near_86 : decode cX12_near 86 = .ok (.iconst 1, 1) := by decide +kernel
theorem dX12_near_87 : decode cX12_near 87 = .ok (.iadd, 1) := by decide +kernel
theorem dX12_near_88 : decode cX12_near 88 = .ok (.goto 4, 3) := by decide +kernel
theorem dX12_near_91 : decode cX12_near 91 = .ok (.iload_n 3, 1) := by decide +kernel
theorem dX12_near_92 : decode cX12_near 92 = .ok (.istore 5, 2) := by decide +kernel
theorem dX12_near_94 : decode cX12_near 94 = .ok (.aload_n 0, 1) := by decide +kernel
theorem dX12_near_95 : decode cX12_near 95 = .ok (.iload 5, 2) := by decide +kernel
theorem dX12_near_97 : decode cX12_near 97 = .ok (.invokevirtual 309, 3) := by decide +kernel
theorem dX12_near_100 : decode cX12_near 100 = .ok (.ifCond .eq 8, 3) := by decide +kernel
theorem dX12_near_103 : decode cX12_near 103 = .ok (.iload 5, 2) := by decide +kernel
theorem dX12_near_105 : decode cX12_near 105 = .ok (.goto 5, 3) := by decide +kernel
theorem dX12_near_108 : decode cX12_near 108 = .ok (.bipush (-3), 2) := by decide +kernel
theorem dX12_near_110 : decode cX12_near 110 = .ok (.ireturn, 1) := by decide +kernel
set_option maxRecDepth 20000 in
theorem ggX12_beginsWith_X12_of : GoodIn wsX12_beginsWith wsX12_of := goodIn_r _ [7, 8, 13, 14, 15, 16, 17, 18, 19, 20, 21, 22, 23, 24, 25, 26, 27, 28, 29, 30, 31, 32, 33, 34, 35, 36, 37, 38, 39, 40, 41, 42, 43, 44, 45, 46, 47, 48, 49, 50, 51, 52, 53] (by decide +kernel) (by decide +kernel)
set_option maxRecDepth 20000 in
theorem gX12_beginsWith_X12_of : GoodIn wsX12_beginsWith (wsV RX12 50 RX12 yX12_of wsX12_of) := goodIn_app (goodIn_of _ (by decide +kernel)) ggX12_beginsWith_X12_of
set_option maxRecDepth 20000 in
theorem ggX12_beginsWith_X12_byteOf : GoodIn wsX12_beginsWith wsX12_byteOf := goodIn_r _ [12, 8, 13, 14, 15, 16, 17, 18, 19, 20, 21, 22, 23, 24, 25, 26, 27, 28, 29, 30, 31, 32, 33, 34, 35, 36, 37, 38, 39, 40, 41, 42, 43, 44, 45, 46, 47, 48, 49, 50, 51, 52, 53] (by decide +kernel) (by decide +kernel)
set_option maxRecDepth 20000 in
theorem gX12_beginsWith_X12_byteOf : GoodIn wsX12_beginsWith (wsV RX12 74 RX12 yX12_byteOf wsX12_byteOf) := goodIn_app (goodIn_of _ (by decide +kernel)) ggX12_beginsWith_X12_byteOf
theorem dX12_beginsWith_0 : decode cX12_beginsWith 0 = .ok (.aload_n 0, 1) := by decide +kernel
theorem dX12_beginsWith_1 : decode cX12_beginsWith 1 = .ok (.iload_n 1, 1) := by decide +kernel
theorem dX12_beginsWith_2 : decode cX12_beginsWith 2 = .ok (.iconst 0, 1) := by decide +kernel
theorem dX12_beginsWith_3 : decode cX12_beginsWith 3 = .ok (.invokevirtual 50, 3) := by decide +kernel
theorem dX12_beginsWith_6 : decode cX12_beginsWith 6 = .ok (.aload_n 0, 1) := by decide +kernel
theorem dX12_beginsWith_7 : decode cX12_beginsWith 7 = .ok (.getfield 70, 3) := by decide +kernel
theorem dX12_beginsWith_10 : decode cX12_beginsWith 10 = .ok (.if_icmp .ge 5, 3) := by decide +kernel
theorem dX12_beginsWith_13 : decode cX12_beginsWith 13 = .ok (.iconst 0, 1) := by decide +kernel
theorem dX12_beginsWith_14 : decode cX12_beginsWith 14 = .ok (.ireturn, 1) := by decide +kernel
theorem dX12_beginsWith_15 : decode cX12_beginsWith 15 = .ok (.iconst 0, 1) := by decide +kernel
theorem dX12_beginsWith_16 : decode cX12_beginsWith 16 = .ok (.istore_n 2, 1) := by decide +kernel
theorem dX12_beginsWith_17 : decode cX12_beginsWith 17 = .ok (.iload_n 2, 1) := by decide +kernel
theorem dX12_beginsWith_18 : decode cX12_beginsWith 18 = .ok (.aload_n 0, 1) := by decide +kernel
theorem dX12_beginsWith_19 : decode cX12_beginsWith 19 = .ok (.getfield 70, 3) := by decide +kernel
theorem dX12_beginsWith_22 : decode cX12_beginsWith 22 = .ok (.if_icmp .ge 26, 3) := by decide +kernel
theorem dX12_beginsWith_25 : decode cX12_beginsWith 25 = .ok (.aload_n 0, 1) := by decide +kernel
theorem dX12_beginsWith_26 : decode cX12_beginsWith 26 = .ok (.iload_n 1, 1) := by decide +kernel
theorem dX12_beginsWith_27 : decode cX12_beginsWith 27 = .ok (.iload_n 2, 1) := by decide +kernel
theorem dX12_beginsWith_28 : decode cX12_beginsWith 28 = .ok (.invokevirtual 74, 3) := by decide +kernel
theorem dX12_beginsWith_31 : decode cX12_beginsWith 31 = .ok (.aload_n 0, 1) := by decide +kernel
theorem dX12_beginsWith_32 : decode cX12_beginsWith 32 = .ok (.getfield 13, 3) := by decide +kernel
theorem dX12_beginsWith_35 : decode cX12_beginsWith 35 = .ok (.iload_n 2, 1) := by decide +kernel
theorem dX12_beginsWith_36 : decode cX12_beginsWith 36 = .ok (.iaload, 1) := by decide +kernel
theorem dX12_beginsWith_37 : decode cX12_beginsWith 37 = .ok (.if_icmp .eq 5, 3) := by decide +kernel
theorem dX12_beginsWith_40 : decode cX12_beginsWith 40 = .ok (.iconst 0, 1) := by decide +kernel
theorem dX12_beginsWith_41 : decode cX12_beginsWith 41 = .ok (.ireturn, 1) := by decide +kernel
theorem dX12_beginsWith_42 : decode cX12_beginsWith 42 = .ok (.iinc 2 1, 3) := by decide +kernel
theorem dX12_beginsWith_45 : decode cX12_beginsWith 45 = .ok (.goto (-28), 3) := by decide +kernel
theorem dX12_beginsWith_48 : decode cX12_beginsWith 48 = .ok (.iconst 1, 1) := by decide +kernel
theorem dX12_beginsWith_49 : decode cX12_beginsWith 49 = .ok (.ireturn, 1) := by decide +kernel
set_option maxRecDepth 20000 in
theorem ggX12_begins_X12_isLong : GoodIn wsX12_begins wsX12_isLong := goodIn_r _ [5, 6, 7, 8, 4, 9, 37, 38, 39, 40, 41, 42, 43, 44, 45, 46, 47, 48, 49, 50, 51, 52, 53, 54, 55, 56, 57, 58, 59, 60, 61, 62, 63, 64, 65, 66, 67, 68, 69, 70, 71, 72, 73, 74, 75, 76, 77] (by decide +kernel) (by decide +kernel)
set_option maxRecDepth 20000 in
theorem gX12_begins_X12_isLong : GoodIn wsX12_begins (wsV RX12 157 RX12 yX12_isLong wsX12_isLong) := goodIn_app (goodIn_of _ (by decide +kernel)) ggX12_begins_X12_isLong
set_option maxRecDepth 20000 in
theorem ggX12_begins_X12_in : GoodIn wsX12_begins wsX12_in := goodIn_r _ [9] (by decide +kernel) (by decide +kernel)
set_option maxRecDepth 20000 in
theorem gX12_begins_X12_in : GoodIn wsX12_begins (va_wsS RX12 66 yX12_in wsX12_in) := goodIn_app (goodIn_of _ (by decide +kernel)) ggX12_begins_X12_in
set_option maxRecDepth 20000 in
theorem ggX12_begins_X12_takesKey : GoodIn wsX12_begins wsX12_takesKey := goodIn_r _ [13, 6, 14, 15, 16, 17, 18, 4, 19, 7, 8, 9, 37, 38, 39, 40, 41, 42, 43, 44, 45, 46, 47, 48, 49, 50, 51, 52, 53, 54, 55, 56, 57, 58, 59, 60, 61, 62, 63, 64, 65, 66, 67, 68, 69, 70, 71, 72, 73, 74, 75, 76, 77] (by decide +kernel) (by decide +kernel)
set_option maxRecDepth 20000 in
theorem gX12_begins_X12_takesKey : GoodIn wsX12_begins (wsV RX12 161 RX12 yX12_takesKey wsX12_takesKey) := goodIn_app (goodIn_of _ (by decide +kernel)) ggX12_begins_X12_takesKey
set_option maxRecDepth 20000 in
theorem ggX12_begins_X12_many : GoodIn wsX12_begins wsX12_many := goodIn_r _ [23, 24, 37, 38, 39, 40, 41, 42, 43, 44, 45, 46, 47, 48, 49, 50, 51, 52, 53, 54, 55, 56, 57, 58, 59, 60, 61, 62, 63, 64, 65, 66, 67, 68, 69, 70, 71, 72, 73, 74, 75, 76, 77] (by decide +kernel) (by decide +kernel)
set_option maxRecDepth 20000 in
theorem gX12_begins_X12_many : GoodIn wsX12_begins (wsV RX12 62 RX12 yX12_many wsX12_many) := goodIn_app (goodIn_of _ (by decide +kernel)) ggX12_begins_X12_many
set_option maxRecDepth 20000 in
theorem ggX12_begins_X12_beginsWith : GoodIn wsX12_begins wsX12_beginsWith := goodIn_r _ [28, 14, 15, 29, 30, 31, 4, 32, 24, 33, 34, 35, 36, 37, 38, 39, 40, 41, 42, 43, 44, 45, 46, 47, 48, 49, 50, 51, 52, 53, 54, 55, 56, 57, 58, 59, 60, 61, 62, 63, 64, 65, 66, 67, 68, 69, 70, 71, 72, 73, 74, 75, 76, 77] (by decide +kernel) (by decide +kernel)
set_option maxRecDepth 20000 in
theorem gX12_begins_X12_beginsWith : GoodIn wsX12_begins (wsV RX12 315 RX12 yX12_beginsWith wsX12_beginsWith) := goodIn_app (goodIn_of _ (by decide +kernel)) ggX12_begins_X12_beginsWith
set_option maxRecDepth 20000 in
theorem ggX12_begins_X12_of : GoodIn wsX12_begins wsX12_of := goodIn_r _ [32, 24, 37, 38, 39, 40, 41, 42, 43, 44, 45, 46, 47, 48, 49, 50, 51, 52, 53, 54, 55, 56, 57, 58, 59, 60, 61, 62, 63, 64, 65, 66, 67, 68, 69, 70, 71, 72, 73, 74, 75, 76, 77] (by decide +kernel) (by decide +kernel)
set_option maxRecDepth 20000 in
theorem gX12_begins_X12_of : GoodIn wsX12_begins (wsV RX12 50 RX12 yX12_of wsX12_of) := goodIn_app (goodIn_of _ (by decide +kernel)) ggX12_begins_X12_of
theorem dX12_begins_0 : decode cX12_begins 0 = .ok (.aload_n 0, 1) := by decide +kernel
theorem dX12_begins_1 : decode cX12_begins 1 = .ok (.iload_n 1, 1) := by decide +kernel
theorem dX12_begins_2 : decode cX12_begins 2 = .ok (.invokevirtual 157, 3) := by decide +kernel
theorem dX12_begins_5 : decode cX12_begins 5 = .ok (.ifCond .eq 12, 3) := by decide +kernel
theorem dX12_begins_8 : decode cX12_begins 8 = .ok (.iload_n 2, 1) := by decide +kernel
theorem dX12_begins_9 : decode cX12_begins 9 = .ok (.iconst 0, 1) := by decide +kernel
theorem dX12_begins_10 : decode cX12_begins 10 = .ok (.iconst 2, 1) := by decide +kernel
theorem dX12_begins_11 : decode cX12_begins 11 = .ok (.invokestatic 66, 3) := by decide +kernel
theorem dX12_begins_14 : decode cX12_begins 14 = .ok (.ifCond .ne 5, 3) := by decide +kernel
theorem dX12_begins_17 : decode cX12_begins 17 = .ok (.iconst (-1), 1) := by decide +kernel
theorem dX12_begins_18 : decode cX12_begins 18 = .ok (.ireturn, 1) := by decide +kernel
theorem dX12_begins_19 : decode cX12_begins 19 = .ok (.aload_n 0, 1) := by decide +kernel
theorem dX12_begins_20 : decode cX12_begins 20 = .ok (.iload_n 1, 1) := by decide +kernel
theorem dX12_begins_21 : decode cX12_begins 21 = .ok (.invokevirtual 161, 3) := by decide +kernel
theorem dX12_begins_24 : decode cX12_begins 24 = .ok (.ifCond .ne 6, 3) := by decide +kernel
theorem dX12_begins_27 : decode cX12_begins 27 = .ok (.bipush (-2), 2) := by decide +kernel
theorem dX12_begins_29 : decode cX12_begins 29 = .ok (.ireturn, 1) := by decide +kernel
theorem dX12_begins_30 : decode cX12_begins 30 = .ok (.iconst 0, 1) := by decide +kernel
theorem dX12_begins_31 : decode cX12_begins 31 = .ok (.istore_n 3, 1) := by decide +kernel
theorem dX12_begins_32 : decode cX12_begins 32 = .ok (.bipush (-3), 2) := by decide +kernel
theorem dX12_begins_34 : decode cX12_begins 34 = .ok (.istore 4, 2) := by decide +kernel
theorem dX12_begins_36 : decode cX12_begins 36 = .ok (.iconst 0, 1) := by decide +kernel
theorem dX12_begins_37 : decode cX12_begins 37 = .ok (.istore 5, 2) := by decide +kernel
theorem dX12_begins_39 : decode cX12_begins 39 = .ok (.iconst 0, 1) := by decide +kernel
theorem dX12_begins_40 : decode cX12_begins 40 = .ok (.istore 6, 2) := by decide +kernel
theorem dX12_begins_42 : decode cX12_begins 42 = .ok (.iload 6, 2) := by decide +kernel
theorem dX12_begins_44 : decode cX12_begins 44 = .ok (.aload_n 0, 1) := by decide +kernel
theorem dX12_begins_45 : decode cX12_begins 45 = .ok (.invokevirtual 62, 3) := by decide +kernel
theorem dX12_begins_48 : decode cX12_begins 48 = .ok (.if_icmp .ge 45, 3) := by decide +kernel
theorem dX12_begins_51 : decode cX12_begins 51 = .ok (.aload_n 0, 1) := by decide +kernel
theorem dX12_begins_52 : decode cX12_begins 52 = .ok (.iload 6, 2) := by decide +kernel
theorem dX12_begins_54 : decode cX12_begins 54 = .ok (.invokevirtual 315, 3) := by decide +kernel
theorem dX12_begins_57 : decode cX12_begins 57 = .ok (.ifCond .ne 6, 3) := by decide +kernel
theorem dX12_begins_60 : decode cX12_begins 60 = .ok (.goto 27, 3) := by decide +kernel
theorem dX12_begins_63 : decode cX12_begins 63 = .ok (.iload_n 3, 1) := by decide +kernel
theorem dX12_begins_64 : decode cX12_begins 64 = .ok (.ifCond .ne 7, 3) := by decide +kernel
theorem dX12_begins_67 : decode cX12_begins 67 = .ok (.iload 6, 2) := by decide +kernel
theorem dX12_begins_69 : decode cX12_begins 69 = .ok (.istore 4, 2) := by decide +kernel
theorem dX12_begins_71 : decode cX12_begins 71 = .ok (.iload_n 3, 1) := by decide +kernel
theorem dX12_begins_72 : decode cX12_begins 72 = .ok (.iconst 1, 1) := by decide +kernel
theorem dX12_begins_73 : decode cX12_begins 73 = .ok (.iadd, 1) := by decide +kernel
theorem dX12_begins_74 : decode cX12_begins 74 = .ok (.istore_n 3, 1) := by decide +kernel
theorem dX12_begins_75 : decode cX12_begins 75 = .ok (.iload 5, 2) := by decide +kernel
theorem dX12_begins_77 : decode cX12_begins 77 = .ok (.aload_n 0, 1) := by decide +kernel
theorem dX12_begins_78 : decode cX12_begins 78 = .ok (.iload 6, 2) := by decide +kernel
theorem dX12_begins_80 : decode cX12_begins 80 = .ok (.iconst 1, 1) := by decide +kernel
theorem dX12_begins_81 : decode cX12_begins 81 = .ok (.invokevirtual 50, 3) := by decide +kernel
theorem dX12_begins_84 : decode cX12_begins 84 = .ok (.iadd, 1) := by decide +kernel
theorem dX12_begins_85 : decode cX12_begins 85 = .ok (.istore 5, 2) := by decide +kernel
theorem dX12_begins_87 : decode cX12_begins 87 = .ok (.iinc 6 1, 3) := by decide +kernel
theorem dX12_begins_90 : decode cX12_begins 90 = .ok (.goto (-48), 3) := by decide +kernel
theorem dX12_begins_93 : decode cX12_begins 93 = .ok (.iload_n 2, 1) := by decide +kernel
theorem dX12_begins_94 : decode cX12_begins 94 = .ok (.ifCond .ne 7, 3) := by decide +kernel
theorem dX12_begins_97 : decode cX12_begins 97 = .ok (.iload_n 3, 1) := by decide +kernel
theorem dX12_begins_98 : decode cX12_begins 98 = .ok (.goto 15, 3) := by decide +kernel
theorem dX12_begins_101 : decode cX12_begins 101 = .ok (.iload_n 2, 1) := by decide +kernel
theorem dX12_begins_102 : decode cX12_begins 102 = .ok (.iconst 1, 1) := by decide +kernel
theorem dX12_begins_103 : decode cX12_begins 103 = .ok (.if_icmp .ne 8, 3) := by decide +kernel
theorem dX12_begins_106 : decode cX12_begins 106 = .ok (.iload 4, 2) := by decide +kernel
theorem dX12_begins_108 : decode cX12_begins 108 = .ok (.goto 5, 3) := by decide +kernel
theorem dX12_begins_111 : decode cX12_begins 111 = .ok (.iload 5, 2) := by decide +kernel
theorem dX12_begins_113 : decode cX12_begins 113 = .ok (.ireturn, 1) := by decide +kernel
set_option maxRecDepth 20000 in
theorem ggX12_alike_X12_isThere : GoodIn wsX12_alike wsX12_isThere := goodIn_r _ [5, 6, 7, 8, 4, 9, 10, 11, 12, 13, 22, 23, 24, 25, 26, 27, 28, 29, 30, 31, 32, 33, 34, 35, 36, 37, 38, 39, 40, 41, 42, 43, 44, 45, 46, 47, 48, 49, 50, 51, 52, 53, 54, 55, 56, 57, 58, 59, 60, 61, 62] (by decide +kernel) (by decide +kernel)
set_option maxRecDepth 20000 in
theorem gX12_alike_X12_isThere : GoodIn wsX12_alike (wsV RX12 309 RX12 yX12_isThere wsX12_isThere) := goodIn_app (goodIn_of _ (by decide +kernel)) ggX12_alike_X12_isThere
set_option maxRecDepth 20000 in
theorem ggX12_alike_X12_of : GoodIn wsX12_alike wsX12_of := goodIn_r _ [17, 10, 22, 23, 24, 25, 26, 27, 28, 29, 30, 31, 32, 33, 34, 35, 36, 37, 38, 39, 40, 41, 42, 43, 44, 45, 46, 47, 48, 49, 50, 51, 52, 53, 54, 55, 56, 57, 58, 59, 60, 61, 62] (by decide +kernel) (by decide +kernel)
set_option maxRecDepth 20000 in
theorem gX12_alike_X12_of : GoodIn wsX12_alike (wsV RX12 50 RX12 yX12_of wsX12_of) := goodIn_app (goodIn_of _ (by decide +kernel)) ggX12_alike_X12_of
set_option maxRecDepth 20000 in
theorem ggX12_alike_X12_byteOf : GoodIn wsX12_alike wsX12_byteOf := goodIn_r _ [21, 10, 22, 23, 24, 25, 26, 27, 28, 29, 30, 31, 32, 33, 34, 35, 36, 37, 38, 39, 40, 41, 42, 43, 44, 45, 46, 47, 48, 49, 50, 51, 52, 53, 54, 55, 56, 57, 58, 59, 60, 61, 62] (by decide +kernel) (by decide +kernel)
set_option maxRecDepth 20000 in
theorem gX12_alike_X12_byteOf : GoodIn wsX12_alike (wsV RX12 74 RX12 yX12_byteOf wsX12_byteOf) := goodIn_app (goodIn_of _ (by decide +kernel)) ggX12_alike_X12_byteOf
theorem dX12_alike_0 : decode cX12_alike 0 = .ok (.aload_n 0, 1) := by decide +kernel
theorem dX12_alike_1 : decode cX12_alike 1 = .ok (.iload_n 1, 1) := by decide +kernel
theorem dX12_alike_2 : decode cX12_alike 2 = .ok (.invokevirtual 309, 3) := by decide +kernel
theorem dX12_alike_5 : decode cX12_alike 5 = .ok (.ifCond .eq 11, 3) := by decide +kernel
theorem dX12_alike_8 : decode cX12_alike 8 = .ok (.aload_n 0, 1) := by decide +kernel
theorem dX12_alike_9 : decode cX12_alike 9 = .ok (.iload_n 2, 1) := by decide +kernel
theorem dX12_alike_10 : decode cX12_alike 10 = .ok (.invokevirtual 309, 3) := by decide +kernel
theorem dX12_alike_13 : decode cX12_alike 13 = .ok (.ifCond .ne 5, 3) := by decide +kernel
theorem dX12_alike_16 : decode cX12_alike 16 = .ok (.iconst (-1), 1) := by decide +kernel
theorem dX12_alike_17 : decode cX12_alike 17 = .ok (.ireturn, 1) := by decide +kernel
theorem dX12_alike_18 : decode cX12_alike 18 = .ok (.iconst 0, 1) := by decide +kernel
theorem dX12_alike_19 : decode cX12_alike 19 = .ok (.istore_n 3, 1) := by decide +kernel
theorem dX12_alike_20 : decode cX12_alike 20 = .ok (.iload_n 3, 1) := by decide +kernel
theorem dX12_alike_21 : decode cX12_alike 21 = .ok (.aload_n 0, 1) := by decide +kernel
theorem dX12_alike_22 : decode cX12_alike 22 = .ok (.iload_n 1, 1) := by decide +kernel
theorem dX12_alike_23 : decode cX12_alike 23 = .ok (.iconst 0, 1) := by decide +kernel
theorem dX12_alike_24 : decode cX12_alike 24 = .ok (.invokevirtual 50, 3) := by decide +kernel
theorem dX12_alike_27 : decode cX12_alike 27 = .ok (.if_icmp .ge 35, 3) := by decide +kernel
theorem dX12_alike_30 : decode cX12_alike 30 = .ok (.iload_n 3, 1) := by decide +kernel
theorem dX12_alike_31 : decode cX12_alike 31 = .ok (.aload_n 0, 1) := by decide +kernel
theorem dX12_alike_32 : decode cX12_alike 32 = .ok (.iload_n 2, 1) := by decide +kernel
theorem dX12_alike_33 : decode cX12_alike 33 = .ok (.iconst 0, 1) := by decide +kernel
theorem dX12_alike_34 : decode cX12_alike 34 = .ok (.invokevirtual 50, 3) := by decide +kernel
theorem dX12_alike_37 : decode cX12_alike 37 = .ok (.if_icmp .ge 25, 3) := by decide +kernel
theorem dX12_alike_40 : decode cX12_alike 40 = .ok (.aload_n 0, 1) := by decide +kernel
theorem dX12_alike_41 : decode cX12_alike 41 = .ok (.iload_n 1, 1) := by decide +kernel
theorem dX12_alike_42 : decode cX12_alike 42 = .ok (.iload_n 3, 1) := by decide +kernel
theorem dX12_alike_43 : decode cX12_alike 43 = .ok (.invokevirtual 74, 3) := by decide +kernel
theorem dX12_alike_46 : decode cX12_alike 46 = .ok (.aload_n 0, 1) := by decide +kernel
theorem dX12_alike_47 : decode cX12_alike 47 = .ok (.iload_n 2, 1) := by decide +kernel
theorem dX12_alike_48 : decode cX12_alike 48 = .ok (.iload_n 3, 1) := by decide +kernel
theorem dX12_alike_49 : decode cX12_alike 49 = .ok (.invokevirtual 74, 3) := by decide +kernel
theorem dX12_alike_52 : decode cX12_alike 52 = .ok (.if_icmp .ne 10, 3) := by decide +kernel
theorem dX12_alike_55 : decode cX12_alike 55 = .ok (.iload_n 3, 1) := by decide +kernel
theorem dX12_alike_56 : decode cX12_alike 56 = .ok (.iconst 1, 1) := by decide +kernel
theorem dX12_alike_57 : decode cX12_alike 57 = .ok (.iadd, 1) := by decide +kernel
theorem dX12_alike_58 : decode cX12_alike 58 = .ok (.istore_n 3, 1) := by decide +kernel
theorem dX12_alike_59 : decode cX12_alike 59 = .ok (.goto (-39), 3) := by decide +kernel
theorem dX12_alike_62 : decode cX12_alike 62 = .ok (.iload_n 3, 1) := by decide +kernel
theorem dX12_alike_63 : decode cX12_alike 63 = .ok (.ireturn, 1) := by decide +kernel
set_option maxRecDepth 20000 in
theorem ggX12_closest_X12_in : GoodIn wsX12_closest wsX12_in := goodIn_r _ [4] (by decide +kernel) (by decide +kernel)
set_option maxRecDepth 20000 in
theorem gX12_closest_X12_in : GoodIn wsX12_closest (va_wsS RX12 66 yX12_in wsX12_in) := goodIn_app (goodIn_of _ (by decide +kernel)) ggX12_closest_X12_in
set_option maxRecDepth 20000 in
theorem ggX12_closest_X12_many : GoodIn wsX12_closest wsX12_many := goodIn_r _ [8, 9, 26, 27, 28, 29, 30, 31, 32, 33, 34, 35, 36, 37, 38, 39, 40, 41, 42, 43, 44, 45, 46, 47, 48, 49, 50, 51, 52, 53, 54, 55, 56, 57, 58, 59, 60, 61, 62, 63, 64, 65, 66] (by decide +kernel) (by decide +kernel)
set_option maxRecDepth 20000 in
theorem gX12_closest_X12_many : GoodIn wsX12_closest (wsV RX12 62 RX12 yX12_many wsX12_many) := goodIn_app (goodIn_of _ (by decide +kernel)) ggX12_closest_X12_many
set_option maxRecDepth 20000 in
theorem ggX12_closest_X12_alike : GoodIn wsX12_closest wsX12_alike := goodIn_r _ [13, 14, 15, 16, 3, 17, 5, 6, 7, 8, 9, 1, 2, 4, 18, 19, 20, 21, 22, 23, 24, 25, 26, 27, 28, 29, 30, 31, 32, 33, 34, 35, 36, 37, 38, 39, 40, 41, 42, 43, 44, 45, 46, 47, 48, 49, 50, 51, 52, 53, 54, 55, 56, 57, 58, 59, 60, 61, 62, 63, 64, 65, 66] (by decide +kernel) (by decide +kernel)
set_option maxRecDepth 20000 in
theorem gX12_closest_X12_alike : GoodIn wsX12_closest (wsV RX12 318 RX12 yX12_alike wsX12_alike) := goodIn_app (goodIn_of _ (by decide +kernel)) ggX12_closest_X12_alike
theorem dX12_closest_0 : decode cX12_closest 0 = .ok (.iload_n 1, 1) := by decide +kernel
theorem dX12_closest_1 : decode cX12_closest 1 = .ok (.iconst 0, 1) := by decide +kernel
theorem dX12_closest_2 : decode cX12_closest 2 = .ok (.iconst 1, 1) := by decide +kernel
theorem dX12_closest_3 : decode cX12_closest 3 = .ok (.invokestatic 66, 3) := by decide +kernel
theorem dX12_closest_6 : decode cX12_closest 6 = .ok (.ifCond .ne 5, 3) := by decide +kernel
theorem dX12_closest_9 : decode cX12_closest 9 = .ok (.iconst (-1), 1) := by decide +kernel
theorem dX12_closest_10 : decode cX12_closest 10 = .ok (.ireturn, 1) := by decide +kernel
theorem dX12_closest_11 : decode cX12_closest 11 = .ok (.aload_n 0, 1) := by decide +kernel
theorem dX12_closest_12 : decode cX12_closest 12 = .ok (.invokevirtual 62, 3) := by decide +kernel
theorem dX12_closest_15 : decode cX12_closest 15 = .ok (.iconst 2, 1) := by decide +kernel
theorem dX12_closest_16 : decode cX12_closest 16 = .ok (.if_icmp .ge 6, 3) := by decide +kernel
theorem dX12_closest_19 : decode cX12_closest 19 = .ok (.bipush (-2), 2) := by decide +kernel
theorem dX12_closest_21 : decode cX12_closest 21 = .ok (.ireturn, 1) := by decide +kernel
theorem dX12_closest_22 : decode cX12_closest 22 = .ok (.iconst 0, 1) := by decide +kernel
theorem dX12_closest_23 : decode cX12_closest 23 = .ok (.istore_n 2, 1) := by decide +kernel
theorem dX12_closest_24 : decode cX12_closest 24 = .ok (.iconst 1, 1) := by decide +kernel
theorem dX12_closest_25 : decode cX12_closest 25 = .ok (.istore_n 3, 1) := by decide +kernel
theorem dX12_closest_26 : decode cX12_closest 26 = .ok (.iload_n 3, 1) := by decide +kernel
theorem dX12_closest_27 : decode cX12_closest 27 = .ok (.iconst 1, 1) := by decide +kernel
theorem dX12_closest_28 : decode cX12_closest 28 = .ok (.iadd, 1) := by decide +kernel
theorem dX12_closest_29 : decode cX12_closest 29 = .ok (.aload_n 0, 1) := by decide +kernel
theorem dX12_closest_30 : decode cX12_closest 30 = .ok (.invokevirtual 62, 3) := by decide +kernel
theorem dX12_closest_33 : decode cX12_closest 33 = .ok (.if_icmp .ge 30, 3) := by decide +kernel
theorem dX12_closest_36 : decode cX12_closest 36 = .ok (.aload_n 0, 1) := by decide +kernel
theorem dX12_closest_37 : decode cX12_closest 37 = .ok (.iload_n 3, 1) := by decide +kernel
theorem dX12_closest_38 : decode cX12_closest 38 = .ok (.iload_n 3, 1) := by decide +kernel
theorem dX12_closest_39 : decode cX12_closest 39 = .ok (.iconst 1, 1) := by decide +kernel
theorem dX12_closest_40 : decode cX12_closest 40 = .ok (.iadd, 1) := by decide +kernel
theorem dX12_closest_41 : decode cX12_closest 41 = .ok (.invokevirtual 318, 3) := by decide +kernel
theorem dX12_closest_44 : decode cX12_closest 44 = .ok (.aload_n 0, 1) := by decide +kernel
theorem dX12_closest_45 : decode cX12_closest 45 = .ok (.iload_n 2, 1) := by decide +kernel
theorem dX12_closest_46 : decode cX12_closest 46 = .ok (.iload_n 2, 1) := by decide +kernel
theorem dX12_closest_47 : decode cX12_closest 47 = .ok (.iconst 1, 1) := by decide +kernel
theorem dX12_closest_48 : decode cX12_closest 48 = .ok (.iadd, 1) := by decide +kernel
theorem dX12_closest_49 : decode cX12_closest 49 = .ok (.invokevirtual 318, 3) := by decide +kernel
theorem dX12_closest_52 : decode cX12_closest 52 = .ok (.if_icmp .le 5, 3) := by decide +kernel
theorem dX12_closest_55 : decode cX12_closest 55 = .ok (.iload_n 3, 1) := by decide +kernel
theorem dX12_closest_56 : decode cX12_closest 56 = .ok (.istore_n 2, 1) := by decide +kernel
theorem dX12_closest_57 : decode cX12_closest 57 = .ok (.iinc 3 1, 3) := by decide +kernel
theorem dX12_closest_60 : decode cX12_closest 60 = .ok (.goto (-34), 3) := by decide +kernel
theorem dX12_closest_63 : decode cX12_closest 63 = .ok (.iload_n 1, 1) := by decide +kernel
theorem dX12_closest_64 : decode cX12_closest 64 = .ok (.ifCond .ne 14, 3) := by decide +kernel
theorem dX12_closest_67 : decode cX12_closest 67 = .ok (.aload_n 0, 1) := by decide +kernel
theorem dX12_closest_68 : decode cX12_closest 68 = .ok (.iload_n 2, 1) := by decide +kernel
theorem dX12_closest_69 : decode cX12_closest 69 = .ok (.iload_n 2, 1) := by decide +kernel
theorem dX12_closest_70 : decode cX12_closest 70 = .ok (.iconst 1, 1) := by decide +kernel
theorem dX12_closest_71 : decode cX12_closest 71 = .ok (.iadd, 1) := by decide +kernel
theorem dX12_closest_72 : decode cX12_closest 72 = .ok (.invokevirtual 318, 3) := by decide +kernel
theorem dX12_closest_75 : decode cX12_closest 75 = .ok (.goto 4, 3) := by decide +kernel
theorem dX12_closest_78 : decode cX12_closest 78 = .ok (.iload_n 2, 1) := by decide +kernel
theorem dX12_closest_79 : decode cX12_closest 79 = .ok (.ireturn, 1) := by decide +kernel
set_option maxRecDepth 20000 in
theorem ggX12_fullOf_X12_beginsPage : GoodIn wsX12_fullOf wsX12_beginsPage := goodIn_r _ [7, 8, 9, 10, 6, 11, 12, 13, 14, 15, 20, 21, 22, 23, 24, 25, 26, 27, 28, 29, 30, 31, 32, 33, 34, 35, 36, 37, 38, 39, 40, 41, 42, 43, 44, 45, 46, 47, 48, 49, 50, 51, 52, 53, 54, 55, 56, 57, 58, 59, 60] (by decide +kernel) (by decide +kernel)
set_option maxRecDepth 20000 in
theorem gX12_fullOf_X12_beginsPage : GoodIn wsX12_fullOf (wsV RX12 103 RX12 yX12_beginsPage wsX12_beginsPage) := goodIn_app (goodIn_of _ (by decide +kernel)) ggX12_fullOf_X12_beginsPage
set_option maxRecDepth 20000 in
theorem ggX12_fullOf_X12_pageEnd : GoodIn wsX12_fullOf wsX12_pageEnd := goodIn_r _ [19, 1, 2, 3, 4, 5, 6, 7, 8, 9, 10, 11, 12, 13, 14, 15, 20, 21, 22, 23, 24, 25, 26, 27, 28, 29, 30, 31, 32, 33, 34, 35, 36, 37, 38, 39, 40, 41, 42, 43, 44, 45, 46, 47, 48, 49, 50, 51, 52, 53, 54, 55, 56, 57, 58, 59, 60] (by decide +kernel) (by decide +kernel)
set_option maxRecDepth 20000 in
theorem gX12_fullOf_X12_pageEnd : GoodIn wsX12_fullOf (wsV RX12 132 RX12 yX12_pageEnd wsX12_pageEnd) := goodIn_app (goodIn_of _ (by decide +kernel)) ggX12_fullOf_X12_pageEnd
theorem dX12_fullOf_0 : decode cX12_fullOf 0 = .ok (.iconst 0, 1) := by decide +kernel
theorem dX12_fullOf_1 : decode cX12_fullOf 1 = .ok (.istore_n 3, 1) := by decide +kernel
theorem dX12_fullOf_2 : decode cX12_fullOf 2 = .ok (.iconst 0, 1) := by decide +kernel
theorem dX12_fullOf_3 : decode cX12_fullOf 3 = .ok (.istore 4, 2) := by decide +kernel
theorem dX12_fullOf_5 : decode cX12_fullOf 5 = .ok (.iload 4, 2) := by decide +kernel
theorem dX12_fullOf_7 : decode cX12_fullOf 7 = .ok (.aload_n 0, 1) := by decide +kernel
theorem dX12_fullOf_8 : decode cX12_fullOf 8 = .ok (.getfield 97, 3) := by decide +kernel
theorem dX12_fullOf_11 : decode cX12_fullOf 11 = .ok (.if_icmp .ge 42, 3) := by decide +kernel
theorem dX12_fullOf_14 : decode cX12_fullOf 14 = .ok (.aload_n 0, 1) := by decide +kernel
theorem dX12_fullOf_15 : decode cX12_fullOf 15 = .ok (.aload_n 0, 1) := by decide +kernel
theorem dX12_fullOf_16 : decode cX12_fullOf 16 = .ok (.getfield 16, 3) := by decide +kernel
theorem dX12_fullOf_19 : decode cX12_fullOf 19 = .ok (.iload 4, 2) := by decide +kernel
theorem dX12_fullOf_21 : decode cX12_fullOf 21 = .ok (.iaload, 1) := by decide +kernel
theorem dX12_fullOf_22 : decode cX12_fullOf 22 = .ok (.iload_n 1, 1) := by decide +kernel
theorem dX12_fullOf_23 : decode cX12_fullOf 23 = .ok (.invokevirtual 103, 3) := by decide +kernel
theorem dX12_fullOf_26 : decode cX12_fullOf 26 = .ok (.ifCond .eq 21, 3) := by decide +kernel
theorem dX12_fullOf_29 : decode cX12_fullOf 29 = .ok (.aload_n 0, 1) := by decide +kernel
theorem dX12_fullOf_30 : decode cX12_fullOf 30 = .ok (.iload 4, 2) := by decide +kernel
theorem dX12_fullOf_32 : decode cX12_fullOf 32 = .ok (.iload_n 1, 1) := by decide +kernel
theorem dX12_fullOf_33 : decode cX12_fullOf 33 = .ok (.invokevirtual 132, 3) := by decide +kernel
theorem dX12_fullOf_36 : decode cX12_fullOf 36 = .ok (.iload 4, 2) := by decide +kernel
theorem dX12_fullOf_38 : decode cX12_fullOf 38 = .ok (.isub, 1) := by decide +kernel
theorem dX12_fullOf_39 : decode cX12_fullOf 39 = .ok (.iload_n 2, 1) := by decide +kernel
theorem dX12_fullOf_40 : decode cX12_fullOf 40 = .ok (.if_icmp .ne 7, 3) := by decide +kernel
theorem dX12_fullOf_43 : decode cX12_fullOf 43 = .ok (.iload_n 3, 1) := by decide +kernel
theorem dX12_fullOf_44 : decode cX12_fullOf 44 = .ok (.iconst 1, 1) := by decide +kernel
theorem dX12_fullOf_45 : decode cX12_fullOf 45 = .ok (.iadd, 1) := by decide +kernel
theorem dX12_fullOf_46 : decode cX12_fullOf 46 = .ok (.istore_n 3, 1) := by decide +kernel
theorem dX12_fullOf_47 : decode cX12_fullOf 47 = .ok (.iinc 4 1, 3) := by decide +kernel
theorem dX12_fullOf_50 : decode cX12_fullOf 50 = .ok (.goto (-45), 3) := by decide +kernel
theorem dX12_fullOf_53 : decode cX12_fullOf 53 = .ok (.iload_n 3, 1) := by decide +kernel
theorem dX12_fullOf_54 : decode cX12_fullOf 54 = .ok (.ireturn, 1) := by decide +kernel
set_option maxRecDepth 20000 in
theorem ggX12_full_X12_in : GoodIn wsX12_full wsX12_in := goodIn_r _ [5] (by decide +kernel) (by decide +kernel)
set_option maxRecDepth 20000 in
theorem gX12_full_X12_in : GoodIn wsX12_full (va_wsS RX12 66 yX12_in wsX12_in) := goodIn_app (goodIn_of _ (by decide +kernel)) ggX12_full_X12_in
set_option maxRecDepth 20000 in
theorem ggX12_full_X12_many : GoodIn wsX12_full wsX12_many := goodIn_r _ [9, 1, 64, 65, 66, 67, 68, 69, 70, 71, 72, 73, 74, 75, 76, 77, 78, 79, 80, 81, 82, 83, 84, 85, 86, 87, 88, 89, 90, 91, 92, 93, 94, 95, 96, 97, 98, 99, 100, 101, 102, 103, 104] (by decide +kernel) (by decide +kernel)
set_option maxRecDepth 20000 in
theorem gX12_full_X12_many : GoodIn wsX12_full (wsV RX12 62 RX12 yX12_many wsX12_many) := goodIn_app (goodIn_of _ (by decide +kernel)) ggX12_full_X12_many
set_option maxRecDepth 20000 in
theorem ggX12_full_X12_of : GoodIn wsX12_full wsX12_of := goodIn_r _ [13, 1, 64, 65, 66, 67, 68, 69, 70, 71, 72, 73, 74, 75, 76, 77, 78, 79, 80, 81, 82, 83, 84, 85, 86, 87, 88, 89, 90, 91, 92, 93, 94, 95, 96, 97, 98, 99, 100, 101, 102, 103, 104] (by decide +kernel) (by decide +kernel)
set_option maxRecDepth 20000 in
theorem gX12_full_X12_of : GoodIn wsX12_full (wsV RX12 50 RX12 yX12_of wsX12_of) := goodIn_app (goodIn_of _ (by decide +kernel)) ggX12_full_X12_of
set_option maxRecDepth 20000 in
theorem ggX12_full_X12_beginsLayer : GoodIn wsX12_full wsX12_beginsLayer := goodIn_r _ [17, 1, 18, 19, 20, 21, 22, 4, 23, 24, 25, 10, 11, 12, 13, 26, 27, 28, 29, 30, 31, 32, 33, 6, 7, 8, 9, 34, 35, 36, 37, 64, 65, 66, 67, 68, 69, 70, 71, 72, 73, 74, 75, 76, 77, 78, 79, 80, 81, 82, 83, 84, 85, 86, 87, 88, 89, 90, 91, 92, 93, 94, 95, 96, 97, 98, 99, 100, 101, 102, 103, 104] (by decide +kernel) (by decide +kernel)
set_option maxRecDepth 20000 in
theorem gX12_full_X12_beginsLayer : GoodIn wsX12_full (wsV RX12 243 RX12 yX12_beginsLayer wsX12_beginsLayer) := goodIn_app (goodIn_of _ (by decide +kernel)) ggX12_full_X12_beginsLayer
set_option maxRecDepth 20000 in
theorem ggX12_full_X12_findsEntries : GoodIn wsX12_full wsX12_findsEntries := goodIn_r _ [41, 1, 42, 18, 19, 43, 44, 30, 31, 32, 4, 33, 6, 7, 8, 9, 34, 35, 36, 37, 24, 25, 10, 11, 12, 13, 26, 27, 28, 29, 45, 46, 47, 48, 64, 65, 66, 67, 68, 69, 70, 71, 72, 73, 74, 75, 76, 77, 78, 79, 80, 81, 82, 83, 84, 85, 86, 87, 88, 89, 90, 91, 92, 93, 94, 95, 96, 97, 98, 99, 100, 101, 102, 103, 104] (by decide +kernel) (by decide +kernel)
set_option maxRecDepth 20000 in
theorem gX12_full_X12_findsEntries : GoodIn wsX12_full (wsV RX12 119 RX12 yX12_findsEntries wsX12_findsEntries) := goodIn_app (goodIn_of _ (by decide +kernel)) ggX12_full_X12_findsEntries
set_option maxRecDepth 20000 in
theorem ggX12_full_X12_fullOf : GoodIn wsX12_full wsX12_fullOf := goodIn_r _ [52, 42, 44, 53, 54, 55, 4, 56, 10, 11, 12, 13, 1, 57, 58, 59, 60, 61, 62, 63, 64, 65, 66, 67, 68, 69, 70, 71, 72, 73, 74, 75, 76, 77, 78, 79, 80, 81, 82, 83, 84, 85, 86, 87, 88, 89, 90, 91, 92, 93, 94, 95, 96, 97, 98, 99, 100, 101, 102, 103, 104] (by decide +kernel) (by decide +kernel)
set_option maxRecDepth 20000 in
theorem gX12_full_X12_fullOf : GoodIn wsX12_full (wsV RX12 321 RX12 yX12_fullOf wsX12_fullOf) := goodIn_app (goodIn_of _ (by decide +kernel)) ggX12_full_X12_fullOf
theorem dX12_full_0 : decode cX12_full 0 = .ok (.iload_n 1, 1) := by decide +kernel
theorem dX12_full_1 : decode cX12_full 1 = .ok (.iconst 1, 1) := by decide +kernel
theorem dX12_full_2 : decode cX12_full 2 = .ok (.bipush 8, 2) := by decide +kernel
theorem dX12_full_4 : decode cX12_full 4 = .ok (.invokestatic 66, 3) := by decide +kernel
theorem dX12_full_7 : decode cX12_full 7 = .ok (.ifCond .ne 5, 3) := by decide +kernel
theorem dX12_full_10 : decode cX12_full 10 = .ok (.iconst (-1), 1) := by decide +kernel
theorem dX12_full_11 : decode cX12_full 11 = .ok (.ireturn, 1) := by decide +kernel
theorem dX12_full_12 : decode cX12_full 12 = .ok (.iconst 0, 1) := by decide +kernel
theorem dX12_full_13 : decode cX12_full 13 = .ok (.istore_n 2, 1) := by decide +kernel
theorem dX12_full_14 : decode cX12_full 14 = .ok (.iconst 0, 1) := by decide +kernel
theorem dX12_full_15 : decode cX12_full 15 = .ok (.istore_n 3, 1) := by decide +kernel
theorem dX12_full_16 : decode cX12_full 16 = .ok (.iload_n 3, 1) := by decide +kernel
theorem dX12_full_17 : decode cX12_full 17 = .ok (.aload_n 0, 1) := by decide +kernel
theorem dX12_full_18 : decode cX12_full 18 = .ok (.invokevirtual 62, 3) := by decide +kernel
theorem dX12_full_21 : decode cX12_full 21 = .ok (.if_icmp .ge 65, 3) := by decide +kernel
theorem dX12_full_24 : decode cX12_full 24 = .ok (.iconst 0, 1) := by decide +kernel
theorem dX12_full_25 : decode cX12_full 25 = .ok (.istore 4, 2) := by decide +kernel
theorem dX12_full_27 : decode cX12_full 27 = .ok (.iload 4, 2) := by decide +kernel
theorem dX12_full_29 : decode cX12_full 29 = .ok (.aload_n 0, 1) := by decide +kernel
theorem dX12_full_30 : decode cX12_full 30 = .ok (.getfield 7, 3) := by decide +kernel
theorem dX12_full_33 : decode cX12_full 33 = .ok (.iconst 1, 1) := by decide +kernel
theorem dX12_full_34 : decode cX12_full 34 = .ok (.iaload, 1) := by decide +kernel
theorem dX12_full_35 : decode cX12_full 35 = .ok (.imul, 1) := by decide +kernel
theorem dX12_full_36 : decode cX12_full 36 = .ok (.aload_n 0, 1) := by decide +kernel
theorem dX12_full_37 : decode cX12_full 37 = .ok (.iload_n 3, 1) := by decide +kernel
theorem dX12_full_38 : decode cX12_full 38 = .ok (.iconst 0, 1) := by decide +kernel
theorem dX12_full_39 : decode cX12_full 39 = .ok (.invokevirtual 50, 3) := by decide +kernel
theorem dX12_full_42 : decode cX12_full 42 = .ok (.if_icmp .ge 38, 3) := by decide +kernel
theorem dX12_full_45 : decode cX12_full 45 = .ok (.aload_n 0, 1) := by decide +kernel
theorem dX12_full_46 : decode cX12_full 46 = .ok (.iload_n 3, 1) := by decide +kernel
theorem dX12_full_47 : decode cX12_full 47 = .ok (.iload 4, 2) := by decide +kernel
theorem dX12_full_49 : decode cX12_full 49 = .ok (.invokevirtual 243, 3) := by decide +kernel
theorem dX12_full_52 : decode cX12_full 52 = .ok (.ifCond .ne 6, 3) := by decide +kernel
theorem dX12_full_55 : decode cX12_full 55 = .ok (.goto 19, 3) := by decide +kernel
theorem dX12_full_58 : decode cX12_full 58 = .ok (.aload_n 0, 1) := by decide +kernel
theorem dX12_full_59 : decode cX12_full 59 = .ok (.iload 4, 2) := by decide +kernel
theorem dX12_full_61 : decode cX12_full 61 = .ok (.invokevirtual 119, 3) := by decide +kernel
theorem dX12_full_64 : decode cX12_full 64 = .ok (.iload_n 2, 1) := by decide +kernel
theorem dX12_full_65 : decode cX12_full 65 = .ok (.aload_n 0, 1) := by decide +kernel
theorem dX12_full_66 : decode cX12_full 66 = .ok (.iload 4, 2) := by decide +kernel
theorem dX12_full_68 : decode cX12_full 68 = .ok (.iload_n 1, 1) := by decide +kernel
theorem dX12_full_69 : decode cX12_full 69 = .ok (.invokevirtual 321, 3) := by decide +kernel
theorem dX12_full_72 : decode cX12_full 72 = .ok (.iadd, 1) := by decide +kernel
theorem dX12_full_73 : decode cX12_full 73 = .ok (.istore_n 2, 1) := by decide +kernel
theorem dX12_full_74 : decode cX12_full 74 = .ok (.iinc 4 1, 3) := by decide +kernel
theorem dX12_full_77 : decode cX12_full 77 = .ok (.goto (-50), 3) := by decide +kernel
theorem dX12_full_80 : decode cX12_full 80 = .ok (.iinc 3 1, 3) := by decide +kernel
theorem dX12_full_83 : decode cX12_full 83 = .ok (.goto (-67), 3) := by decide +kernel
theorem dX12_full_86 : decode cX12_full 86 = .ok (.iload_n 2, 1) := by decide +kernel
theorem dX12_full_87 : decode cX12_full 87 = .ok (.ireturn, 1) := by decide +kernel
theorem dX12_cursorAt_0 : decode cX12_cursorAt 0 = .ok (.sipush 4290, 3) := by decide +kernel
theorem dX12_cursorAt_3 : decode cX12_cursorAt 3 = .ok (.bipush 29, 2) := by decide +kernel
theorem dX12_cursorAt_5 : decode cX12_cursorAt 5 = .ok (.iload_n 1, 1) := by decide +kernel
theorem dX12_cursorAt_6 : decode cX12_cursorAt 6 = .ok (.imul, 1) := by decide +kernel
theorem dX12_cursorAt_7 : decode cX12_cursorAt 7 = .ok (.iadd, 1) := by decide +kernel
theorem dX12_cursorAt_8 : decode cX12_cursorAt 8 = .ok (.ireturn, 1) := by decide +kernel
set_option maxRecDepth 20000 in
theorem ggX12_isCursor_X12_in : GoodIn wsX12_isCursor wsX12_in := goodIn_r _ [4] (by decide +kernel) (by decide +kernel)
set_option maxRecDepth 20000 in
theorem gX12_isCursor_X12_in : GoodIn wsX12_isCursor (va_wsS RX12 66 yX12_in wsX12_in) := goodIn_app (goodIn_of _ (by decide +kernel)) ggX12_isCursor_X12_in
theorem dX12_isCursor_0 : decode cX12_isCursor 0 = .ok (.iload_n 0, 1) := by decide +kernel
theorem dX12_isCursor_1 : decode cX12_isCursor 1 = .ok (.iconst 0, 1) := by decide +kernel
theorem dX12_isCursor_2 : decode cX12_isCursor 2 = .ok (.iconst 3, 1) := by decide +kernel
theorem dX12_isCursor_3 : decode cX12_isCursor 3 = .ok (.invokestatic 66, 3) := by decide +kernel
theorem dX12_isCursor_6 : decode cX12_isCursor 6 = .ok (.ireturn, 1) := by decide +kernel
set_option maxRecDepth 20000 in
theorem ggX12_laysCursor_X12_cursorAt : GoodIn wsX12_laysCursor wsX12_cursorAt := goodIn_r _ [8] (by decide +kernel) (by decide +kernel)
set_option maxRecDepth 20000 in
theorem gX12_laysCursor_X12_cursorAt : GoodIn wsX12_laysCursor (wsV RX12 324 RX12 yX12_cursorAt wsX12_cursorAt) := goodIn_app (goodIn_of _ (by decide +kernel)) ggX12_laysCursor_X12_cursorAt
theorem dX12_laysCursor_0 : decode cX12_laysCursor 0 = .ok (.aload_n 0, 1) := by decide +kernel
theorem dX12_laysCursor_1 : decode cX12_laysCursor 1 = .ok (.iload_n 1, 1) := by decide +kernel
theorem dX12_laysCursor_2 : decode cX12_laysCursor 2 = .ok (.invokevirtual 324, 3) := by decide +kernel
theorem dX12_laysCursor_5 : decode cX12_laysCursor 5 = .ok (.istore_n 2, 1) := by decide +kernel
theorem dX12_laysCursor_6 : decode cX12_laysCursor 6 = .ok (.aload_n 0, 1) := by decide +kernel
theorem dX12_laysCursor_7 : decode cX12_laysCursor 7 = .ok (.getfield 7, 3) := by decide +kernel
theorem dX12_laysCursor_10 : decode cX12_laysCursor 10 = .ok (.iload_n 2, 1) := by decide +kernel
theorem dX12_laysCursor_11 : decode cX12_laysCursor 11 = .ok (.iconst 1, 1) := by decide +kernel
theorem dX12_laysCursor_12 : decode cX12_laysCursor 12 = .ok (.iastore, 1) := by decide +kernel
theorem dX12_laysCursor_13 : decode cX12_laysCursor 13 = .ok (.aload_n 0, 1) := by decide +kernel
theorem dX12_laysCursor_14 : decode cX12_laysCursor 14 = .ok (.getfield 7, 3) := by decide +kernel
theorem dX12_laysCursor_17 : decode cX12_laysCursor 17 = .ok (.iload_n 2, 1) := by decide +kernel
theorem dX12_laysCursor_18 : decode cX12_laysCursor 18 = .ok (.iconst 4, 1) := by decide +kernel
theorem dX12_laysCursor_19 : decode cX12_laysCursor 19 = .ok (.iadd, 1) := by decide +kernel
theorem dX12_laysCursor_20 : decode cX12_laysCursor 20 = .ok (.aload_n 0, 1) := by decide +kernel
theorem dX12_laysCursor_21 : decode cX12_laysCursor 21 = .ok (.getfield 70, 3) := by decide +kernel
theorem dX12_laysCursor_24 : decode cX12_laysCursor 24 = .ok (.iastore, 1) := by decide +kernel
theorem dX12_laysCursor_25 : decode cX12_laysCursor 25 = .ok (.iconst 0, 1) := by decide +kernel
theorem dX12_laysCursor_26 : decode cX12_laysCursor 26 = .ok (.istore_n 3, 1) := by decide +kernel
theorem dX12_laysCursor_27 : decode cX12_laysCursor 27 = .ok (.iload_n 3, 1) := by decide +kernel
theorem dX12_laysCursor_28 : decode cX12_laysCursor 28 = .ok (.bipush 24, 2) := by decide +kernel
theorem dX12_laysCursor_30 : decode cX12_laysCursor 30 = .ok (.if_icmp .ge 37, 3) := by decide +kernel
theorem dX12_laysCursor_33 : decode cX12_laysCursor 33 = .ok (.aload_n 0, 1) := by decide +kernel
theorem dX12_laysCursor_34 : decode cX12_laysCursor 34 = .ok (.getfield 7, 3) := by decide +kernel
theorem dX12_laysCursor_37 : decode cX12_laysCursor 37 = .ok (.iload_n 2, 1) := by decide +kernel
theorem dX12_laysCursor_38 : decode cX12_laysCursor 38 = .ok (.iconst 5, 1) := by decide +kernel
theorem dX12_laysCursor_39 : decode cX12_laysCursor 39 = .ok (.iadd, 1) := by decide +kernel
theorem dX12_laysCursor_40 : decode cX12_laysCursor 40 = .ok (.iload_n 3, 1) := by decide +kernel
theorem dX12_laysCursor_41 : decode cX12_laysCursor 41 = .ok (.iadd, 1) := by decide +kernel
theorem dX12_laysCursor_42 : decode cX12_laysCursor 42 = .ok (.iload_n 3, 1) := by decide +kernel
theorem dX12_laysCursor_43 : decode cX12_laysCursor 43 = .ok (.aload_n 0, 1) := by decide +kernel
theorem dX12_laysCursor_44 : decode cX12_laysCursor 44 = .ok (.getfield 70, 3) := by decide +kernel
theorem dX12_laysCursor_47 : decode cX12_laysCursor 47 = .ok (.if_icmp .ge 12, 3) := by decide +kernel
theorem dX12_laysCursor_50 : decode cX12_laysCursor 50 = .ok (.aload_n 0, 1) := by decide +kernel
theorem dX12_laysCursor_51 : decode cX12_laysCursor 51 = .ok (.getfield 13, 3) := by decide +kernel
theorem dX12_laysCursor_54 : decode cX12_laysCursor 54 = .ok (.iload_n 3, 1) := by decide +kernel
theorem dX12_laysCursor_55 : decode cX12_laysCursor 55 = .ok (.iaload, 1) := by decide +kernel
theorem dX12_laysCursor_56 : decode cX12_laysCursor 56 = .ok (.goto 4, 3) := by decide +kernel
theorem dX12_laysCursor_59 : decode cX12_laysCursor 59 = .ok (.iconst 0, 1) := by decide +kernel
theorem dX12_laysCursor_60 : decode cX12_laysCursor 60 = .ok (.iastore, 1) := by decide +kernel
theorem dX12_laysCursor_61 : decode cX12_laysCursor 61 = .ok (.iinc 3 1, 3) := by decide +kernel
theorem dX12_laysCursor_64 : decode cX12_laysCursor 64 = .ok (.goto (-37), 3) := by decide +kernel
theorem dX12_laysCursor_67 : decode cX12_laysCursor 67 = .ok (.return_, 1) := by decide +kernel
set_option maxRecDepth 20000 in
theorem ggX12_handsCursor_X12_cursorAt : GoodIn wsX12_handsCursor wsX12_cursorAt := goodIn_r _ [8] (by decide +kernel) (by decide +kernel)
set_option maxRecDepth 20000 in
theorem gX12_handsCursor_X12_cursorAt : GoodIn wsX12_handsCursor (wsV RX12 324 RX12 yX12_cursorAt wsX12_cursorAt) := goodIn_app (goodIn_of _ (by decide +kernel)) ggX12_handsCursor_X12_cursorAt
theorem dX12_handsCursor_0 : decode cX12_handsCursor 0 = .ok (.aload_n 0, 1) := by decide +kernel
theorem dX12_handsCursor_1 : decode cX12_handsCursor 1 = .ok (.iload_n 1, 1) := by decide +kernel
theorem dX12_handsCursor_2 : decode cX12_handsCursor 2 = .ok (.invokevirtual 324, 3) := by decide +kernel
theorem dX12_handsCursor_5 : decode cX12_handsCursor 5 = .ok (.istore_n 2, 1) := by decide +kernel
theorem dX12_handsCursor_6 : decode cX12_handsCursor 6 = .ok (.aload_n 0, 1) := by decide +kernel
theorem dX12_handsCursor_7 : decode cX12_handsCursor 7 = .ok (.aload_n 0, 1) := by decide +kernel
theorem dX12_handsCursor_8 : decode cX12_handsCursor 8 = .ok (.getfield 7, 3) := by decide +kernel
theorem dX12_handsCursor_11 : decode cX12_handsCursor 11 = .ok (.iload_n 2, 1) := by decide +kernel
theorem dX12_handsCursor_12 : decode cX12_handsCursor 12 = .ok (.iconst 4, 1) := by decide +kernel
theorem dX12_handsCursor_13 : decode cX12_handsCursor 13 = .ok (.iadd, 1) := by decide +kernel
theorem dX12_handsCursor_14 : decode cX12_handsCursor 14 = .ok (.iaload, 1) := by decide +kernel
theorem dX12_handsCursor_15 : decode cX12_handsCursor 15 = .ok (.putfield 70, 3) := by decide +kernel
theorem dX12_handsCursor_18 : decode cX12_handsCursor 18 = .ok (.iconst 0, 1) := by decide +kernel
theorem dX12_handsCursor_19 : decode cX12_handsCursor 19 = .ok (.istore_n 3, 1) := by decide +kernel
theorem dX12_handsCursor_20 : decode cX12_handsCursor 20 = .ok (.iload_n 3, 1) := by decide +kernel
theorem dX12_handsCursor_21 : decode cX12_handsCursor 21 = .ok (.aload_n 0, 1) := by decide +kernel
theorem dX12_handsCursor_22 : decode cX12_handsCursor 22 = .ok (.getfield 70, 3) := by decide +kernel
theorem dX12_handsCursor_25 : decode cX12_handsCursor 25 = .ok (.if_icmp .ge 25, 3) := by decide +kernel
theorem dX12_handsCursor_28 : decode cX12_handsCursor 28 = .ok (.aload_n 0, 1) := by decide +kernel
theorem dX12_handsCursor_29 : decode cX12_handsCursor 29 = .ok (.getfield 13, 3) := by decide +kernel
theorem dX12_handsCursor_32 : decode cX12_handsCursor 32 = .ok (.iload_n 3, 1) := by decide +kernel
theorem dX12_handsCursor_33 : decode cX12_handsCursor 33 = .ok (.aload_n 0, 1) := by decide +kernel
theorem dX12_handsCursor_34 : decode cX12_handsCursor 34 = .ok (.getfield 7, 3) := by decide +kernel
theorem dX12_handsCursor_37 : decode cX12_handsCursor 37 = .ok (.iload_n 2, 1) := by decide +kernel
theorem dX12_handsCursor_38 : decode cX12_handsCursor 38 = .ok (.iconst 5, 1) := by decide +kernel
theorem dX12_handsCursor_39 : decode cX12_handsCursor 39 = .ok (.iadd, 1) := by decide +kernel
theorem dX12_handsCursor_40 : decode cX12_handsCursor 40 = .ok (.iload_n 3, 1) := by decide +kernel
theorem dX12_handsCursor_41 : decode cX12_handsCursor 41 = .ok (.iadd, 1) := by decide +kernel
theorem dX12_handsCursor_42 : decode cX12_handsCursor 42 = .ok (.iaload, 1) := by decide +kernel
theorem dX12_handsCursor_43 : decode cX12_handsCursor 43 = .ok (.iastore, 1) := by decide +kernel
theorem dX12_handsCursor_44 : decode cX12_handsCursor 44 = .ok (.iinc 3 1, 3) := by decide +kernel
theorem dX12_handsCursor_47 : decode cX12_handsCursor 47 = .ok (.goto (-27), 3) := by decide +kernel
theorem dX12_handsCursor_50 : decode cX12_handsCursor 50 = .ok (.return_, 1) := by decide +kernel
set_option maxRecDepth 20000 in
theorem ggX12_cursor_X12_isCursor : GoodIn wsX12_cursor wsX12_isCursor := goodIn_r _ [5, 6, 7, 4, 8] (by decide +kernel) (by decide +kernel)
set_option maxRecDepth 20000 in
theorem gX12_cursor_X12_isCursor : GoodIn wsX12_cursor (va_wsS RX12 327 yX12_isCursor wsX12_isCursor) := goodIn_app (goodIn_of _ (by decide +kernel)) ggX12_cursor_X12_isCursor
set_option maxRecDepth 20000 in
theorem ggX12_cursor_X12_isLong : GoodIn wsX12_cursor wsX12_isLong := goodIn_r _ [12, 13, 6, 7, 4, 8, 32, 33, 34, 35, 36, 37, 38, 39, 40, 41, 42, 43, 44, 45, 46, 47, 48, 49, 50, 51, 52, 53, 54, 55, 56, 57, 58, 59, 60, 61, 62, 63, 64, 65, 66, 67, 68, 69, 70, 71, 72] (by decide +kernel) (by decide +kernel)
set_option maxRecDepth 20000 in
theorem gX12_cursor_X12_isLong : GoodIn wsX12_cursor (wsV RX12 157 RX12 yX12_isLong wsX12_isLong) := goodIn_app (goodIn_of _ (by decide +kernel)) ggX12_cursor_X12_isLong
set_option maxRecDepth 20000 in
theorem ggX12_cursor_X12_takesKey : GoodIn wsX12_cursor wsX12_takesKey := goodIn_r _ [17, 13, 18, 19, 20, 21, 22, 4, 23, 6, 7, 8, 32, 33, 34, 35, 36, 37, 38, 39, 40, 41, 42, 43, 44, 45, 46, 47, 48, 49, 50, 51, 52, 53, 54, 55, 56, 57, 58, 59, 60, 61, 62, 63, 64, 65, 66, 67, 68, 69, 70, 71, 72] (by decide +kernel) (by decide +kernel)
set_option maxRecDepth 20000 in
theorem gX12_cursor_X12_takesKey : GoodIn wsX12_cursor (wsV RX12 161 RX12 yX12_takesKey wsX12_takesKey) := goodIn_app (goodIn_of _ (by decide +kernel)) ggX12_cursor_X12_takesKey
set_option maxRecDepth 20000 in
theorem ggX12_cursor_X12_laysCursor : GoodIn wsX12_cursor wsX12_laysCursor := goodIn_r _ [27, 1, 18, 19, 28, 29, 30, 4, 31, 32, 33, 34, 35, 36, 37, 38, 39, 40, 41, 42, 43, 44, 45, 46, 47, 48, 49, 50, 51, 52, 53, 54, 55, 56, 57, 58, 59, 60, 61, 62, 63, 64, 65, 66, 67, 68, 69, 70, 71, 72] (by decide +kernel) (by decide +kernel)
set_option maxRecDepth 20000 in
theorem gX12_cursor_X12_laysCursor : GoodIn wsX12_cursor (wsV RX12 330 RX12 yX12_laysCursor wsX12_laysCursor) := goodIn_app (goodIn_of _ (by decide +kernel)) ggX12_cursor_X12_laysCursor
set_option maxRecDepth 20000 in
theorem ggX12_cursor_X12_cursorAt : GoodIn wsX12_cursor wsX12_cursorAt := goodIn_r _ [31] (by decide +kernel) (by decide +kernel)
set_option maxRecDepth 20000 in
theorem gX12_cursor_X12_cursorAt : GoodIn wsX12_cursor (wsV RX12 324 RX12 yX12_cursorAt wsX12_cursorAt) := goodIn_app (goodIn_of _ (by decide +kernel)) ggX12_cursor_X12_cursorAt
theorem dX12_cursor_0 : decode cX12_cursor 0 = .ok (.iload_n 1, 1) := by decide +kernel
theorem dX12_cursor_1 : decode cX12_cursor 1 = .ok (.invokestatic 327, 3) := by decide +kernel
theorem dX12_cursor_4 : decode cX12_cursor 4 = .ok (.ifCond .eq 11, 3) := by decide +kernel
theorem dX12_cursor_7 : decode cX12_cursor 7 = .ok (.aload_n 0, 1) := by decide +kernel
theorem dX12_cursor_8 : decode cX12_cursor 8 = .ok (.iload_n 2, 1) := by decide +kernel
theorem dX12_cursor_9 : decode cX12_cursor 9 = .ok (.invokevirtual 157, 3) := by decide +kernel
theorem dX12_cursor_12 : decode cX12_cursor 12 = .ok (.ifCond .ne 5, 3) := by decide +kernel
theorem dX12_cursor_15 : decode cX12_cursor 15 = .ok (.iconst (-1), 1) := by decide +kernel
theorem dX12_cursor_16 : decode cX12_cursor 16 = .ok (.ireturn, 1) := by decide +kernel
theorem dX12_cursor_17 : decode cX12_cursor 17 = .ok (.aload_n 0, 1) := by decide +kernel
theorem dX12_cursor_18 : decode cX12_cursor 18 = .ok (.iload_n 2, 1) := by decide +kernel
theorem dX12_cursor_19 : decode cX12_cursor 19 = .ok (.invokevirtual 161, 3) := by decide +kernel
theorem dX12_cursor_22 : decode cX12_cursor 22 = .ok (.ifCond .ne 6, 3) := by decide +kernel
theorem dX12_cursor_25 : decode cX12_cursor 25 = .ok (.bipush (-2), 2) := by decide +kernel
theorem dX12_cursor_27 : decode cX12_cursor 27 = .ok (.ireturn, 1) := by decide +kernel
theorem dX12_cursor_28 : decode cX12_cursor 28 = .ok (.aload_n 0, 1) := by decide +kernel
theorem dX12_cursor_29 : decode cX12_cursor 29 = .ok (.iload_n 1, 1) := by decide +kernel
theorem dX12_cursor_30 : decode cX12_cursor 30 = .ok (.invokevirtual 330, 3) := by decide +kernel
theorem dX12_cursor_33 : decode cX12_cursor 33 = .ok (.iconst 1, 1) := by decide +kernel
theorem dX12_cursor_34 : decode cX12_cursor 34 = .ok (.istore_n 3, 1) := by decide +kernel
theorem dX12_cursor_35 : decode cX12_cursor 35 = .ok (.iload_n 3, 1) := by decide +kernel
theorem dX12_cursor_36 : decode cX12_cursor 36 = .ok (.iconst 4, 1) := by decide +kernel
theorem dX12_cursor_37 : decode cX12_cursor 37 = .ok (.if_icmp .ge 22, 3) := by decide +kernel
theorem dX12_cursor_40 : decode cX12_cursor 40 = .ok (.aload_n 0, 1) := by decide +kernel
theorem dX12_cursor_41 : decode cX12_cursor 41 = .ok (.getfield 7, 3) := by decide +kernel
theorem dX12_cursor_44 : decode cX12_cursor 44 = .ok (.aload_n 0, 1) := by decide +kernel
theorem dX12_cursor_45 : decode cX12_cursor 45 = .ok (.iload_n 1, 1) := by decide +kernel
theorem dX12_cursor_46 : decode cX12_cursor 46 = .ok (.invokevirtual 324, 3) := by decide +kernel
theorem dX12_cursor_49 : decode cX12_cursor 49 = .ok (.iload_n 3, 1) := by decide +kernel
theorem dX12_cursor_50 : decode cX12_cursor 50 = .ok (.iadd, 1) := by decide +kernel
theorem dX12_cursor_51 : decode cX12_cursor 51 = .ok (.iconst 0, 1) := by decide +kernel
theorem dX12_cursor_52 : decode cX12_cursor 52 = .ok (.iastore, 1) := by decide +kernel
theorem dX12_cursor_53 : decode cX12_cursor 53 = .ok (.iinc 3 1, 3) := by decide +kernel
theorem dX12_cursor_56 : decode cX12_cursor 56 = .ok (.goto (-21), 3) := by decide +kernel
theorem dX12_cursor_59 : decode cX12_cursor 59 = .ok (.iconst 0, 1) := by decide +kernel
theorem dX12_cursor_60 : decode cX12_cursor 60 = .ok (.ireturn, 1) := by decide +kernel
set_option maxRecDepth 20000 in
theorem ggX12_findsPage_X12_depthOf : GoodIn wsX12_findsPage wsX12_depthOf := goodIn_r _ [10, 11, 12, 13, 2, 14, 15, 16, 9, 17, 18, 19, 20, 21, 22, 23, 24, 25, 26, 27, 28, 29, 30, 31, 32, 33, 34, 35, 36, 37, 38, 64, 65, 66, 67, 68, 69, 70, 71, 72, 73, 74, 75, 76, 77, 78, 79, 80, 81, 82, 83, 84, 85, 86, 87, 88, 89, 90, 91, 92, 93, 94, 95, 96, 97, 98, 99, 100, 101, 102, 103, 104] (by decide +kernel) (by decide +kernel)
set_option maxRecDepth 20000 in
theorem gX12_findsPage_X12_depthOf : GoodIn wsX12_findsPage (wsV RX12 135 RX12 yX12_depthOf wsX12_depthOf) := goodIn_app (goodIn_of _ (by decide +kernel)) ggX12_findsPage_X12_depthOf
set_option maxRecDepth 20000 in
theorem ggX12_findsPage_X12_findsEntries : GoodIn wsX12_findsPage wsX12_findsEntries := goodIn_r _ [42, 11, 43, 2, 13, 44, 4, 27, 28, 29, 9, 30, 31, 32, 33, 34, 35, 36, 37, 38, 12, 18, 19, 20, 21, 22, 23, 24, 25, 26, 45, 46, 47, 48, 64, 65, 66, 67, 68, 69, 70, 71, 72, 73, 74, 75, 76, 77, 78, 79, 80, 81, 82, 83, 84, 85, 86, 87, 88, 89, 90, 91, 92, 93, 94, 95, 96, 97, 98, 99, 100, 101, 102, 103, 104] (by decide +kernel) (by decide +kernel)
set_option maxRecDepth 20000 in
theorem gX12_findsPage_X12_findsEntries : GoodIn wsX12_findsPage (wsV RX12 119 RX12 yX12_findsEntries wsX12_findsEntries) := goodIn_app (goodIn_of _ (by decide +kernel)) ggX12_findsPage_X12_findsEntries
set_option maxRecDepth 20000 in
theorem ggX12_findsPage_X12_entryOf : GoodIn wsX12_findsPage wsX12_entryOf := goodIn_r _ [52, 4, 64, 65, 66, 67, 68, 69, 70, 71, 72, 73, 74, 75, 76, 77, 78, 79, 80, 81, 82, 83, 84, 85, 86, 87, 88, 89, 90, 91, 92, 93, 94, 95, 96, 97, 98, 99, 100, 101, 102, 103, 104] (by decide +kernel) (by decide +kernel)
set_option maxRecDepth 20000 in
theorem gX12_findsPage_X12_entryOf : GoodIn wsX12_findsPage (wsV RX12 126 RX12 yX12_entryOf wsX12_entryOf) := goodIn_app (goodIn_of _ (by decide +kernel)) ggX12_findsPage_X12_entryOf
set_option maxRecDepth 20000 in
theorem ggX12_findsPage_X12_pageBegin : GoodIn wsX12_findsPage wsX12_pageBegin := goodIn_r _ [56, 4, 57, 58, 59, 9, 60, 19, 20, 21, 22, 11, 61, 62, 63, 64, 65, 66, 67, 68, 69, 70, 71, 72, 73, 74, 75, 76, 77, 78, 79, 80, 81, 82, 83, 84, 85, 86, 87, 88, 89, 90, 91, 92, 93, 94, 95, 96, 97, 98, 99, 100, 101, 102, 103, 104] (by decide +kernel) (by decide +kernel)
set_option maxRecDepth 20000 in
theorem gX12_findsPage_X12_pageBegin : GoodIn wsX12_findsPage (wsV RX12 129 RX12 yX12_pageBegin wsX12_pageBegin) := goodIn_app (goodIn_of _ (by decide +kernel)) ggX12_findsPage_X12_pageBegin
theorem dX12_findsPage_0 : decode cX12_findsPage 0 = .ok (.aload_n 0, 1) := by decide +kernel
theorem dX12_findsPage_1 : decode cX12_findsPage 1 = .ok (.aload_n 0, 1) := by decide +kernel
theorem dX12_findsPage_2 : decode cX12_findsPage 2 = .ok (.iload_n 1, 1) := by decide +kernel
theorem dX12_findsPage_3 : decode cX12_findsPage 3 = .ok (.invokevirtual 135, 3) := by decide +kernel
theorem dX12_findsPage_6 : decode cX12_findsPage 6 = .ok (.putfield 333, 3) := by decide +kernel
theorem dX12_findsPage_9 : decode cX12_findsPage 9 = .ok (.aload_n 0, 1) := by decide +kernel
theorem dX12_findsPage_10 : decode cX12_findsPage 10 = .ok (.aload_n 0, 1) := by decide +kernel
theorem dX12_findsPage_11 : decode cX12_findsPage 11 = .ok (.getfield 333, 3) := by decide +kernel
theorem dX12_findsPage_14 : decode cX12_findsPage 14 = .ok (.invokevirtual 119, 3) := by decide +kernel
theorem dX12_findsPage_17 : decode cX12_findsPage 17 = .ok (.aload_n 0, 1) := by decide +kernel
theorem dX12_findsPage_18 : decode cX12_findsPage 18 = .ok (.aload_n 0, 1) := by decide +kernel
theorem dX12_findsPage_19 : decode cX12_findsPage 19 = .ok (.getfield 84, 3) := by decide +kernel
theorem dX12_findsPage_22 : decode cX12_findsPage 22 = .ok (.putfield 336, 3) := by decide +kernel
theorem dX12_findsPage_25 : decode cX12_findsPage 25 = .ok (.aload_n 0, 1) := by decide +kernel
theorem dX12_findsPage_26 : decode cX12_findsPage 26 = .ok (.aload_n 0, 1) := by decide +kernel
theorem dX12_findsPage_27 : decode cX12_findsPage 27 = .ok (.getfield 16, 3) := by decide +kernel
theorem dX12_findsPage_30 : decode cX12_findsPage 30 = .ok (.aload_n 0, 1) := by decide +kernel
theorem dX12_findsPage_31 : decode cX12_findsPage 31 = .ok (.aload_n 0, 1) := by decide +kernel
theorem dX12_findsPage_32 : decode cX12_findsPage 32 = .ok (.iload_n 1, 1) := by decide +kernel
theorem dX12_findsPage_33 : decode cX12_findsPage 33 = .ok (.invokevirtual 126, 3) := by decide +kernel
theorem dX12_findsPage_36 : decode cX12_findsPage 36 = .ok (.aload_n 0, 1) := by decide +kernel
theorem dX12_findsPage_37 : decode cX12_findsPage 37 = .ok (.getfield 333, 3) := by decide +kernel
theorem dX12_findsPage_40 : decode cX12_findsPage 40 = .ok (.invokevirtual 129, 3) := by decide +kernel
theorem dX12_findsPage_43 : decode cX12_findsPage 43 = .ok (.iaload, 1) := by decide +kernel
theorem dX12_findsPage_44 : decode cX12_findsPage 44 = .ok (.putfield 339, 3) := by decide +kernel
theorem dX12_findsPage_47 : decode cX12_findsPage 47 = .ok (.return_, 1) := by decide +kernel
set_option maxRecDepth 20000 in
theorem ggX12_areInOnePage_X12_findsPage : GoodIn wsX12_areInOnePage wsX12_findsPage := goodIn_r _ [8, 1, 9, 2, 10, 3, 11, 12, 13, 7, 14, 15, 16, 17, 18, 19, 20, 21, 22, 23, 24, 25, 26, 27, 28, 29, 30, 31, 32, 33, 34, 35, 36, 37, 38, 39, 40, 41, 42, 43, 44, 45, 46, 47, 48, 49, 50, 51, 52, 53, 54, 55, 56, 57, 58, 59, 60, 61, 62, 63, 64, 65, 66, 67, 68, 69, 70, 71, 72, 73, 74, 75, 76, 77, 78, 79, 80, 81, 82, 83, 84, 85, 86, 87, 88, 89, 90, 91, 92, 93, 94, 95, 96, 97, 98, 99, 100, 101, 102, 103, 104, 105, 106, 107, 108] (by decide +kernel) (by decide +kernel)
set_option maxRecDepth 20000 in
theorem gX12_areInOnePage_X12_findsPage : GoodIn wsX12_areInOnePage (wsV RX12 342 RX12 yX12_findsPage wsX12_findsPage) := goodIn_app (goodIn_of _ (by decide +kernel)) ggX12_areInOnePage_X12_findsPage
theorem dX12_areInOnePage_0 : decode cX12_areInOnePage 0 = .ok (.aload_n 0, 1) := by decide +kernel
theorem dX12_areInOnePage_1 : decode cX12_areInOnePage 1 = .ok (.iload_n 1, 1) := by decide +kernel
theorem dX12_areInOnePage_2 : decode cX12_areInOnePage 2 = .ok (.invokevirtual 342, 3) := by decide +kernel
theorem dX12_areInOnePage_5 : decode cX12_areInOnePage 5 = .ok (.aload_n 0, 1) := by decide +kernel
theorem dX12_areInOnePage_6 : decode cX12_areInOnePage 6 = .ok (.getfield 333, 3) := by decide +kernel
theorem dX12_areInOnePage_9 : decode cX12_areInOnePage 9 = .ok (.istore_n 3, 1) := by decide +kernel
theorem dX12_areInOnePage_10 : decode cX12_areInOnePage 10 = .ok (.aload_n 0, 1) := by decide +kernel
theorem dX12_areInOnePage_11 : decode cX12_areInOnePage 11 = .ok (.getfield 336, 3) := by decide +kernel
theorem dX12_areInOnePage_14 : decode cX12_areInOnePage 14 = .ok (.istore 4, 2) := by decide +kernel
theorem dX12_areInOnePage_16 : decode cX12_areInOnePage 16 = .ok (.aload_n 0, 1) := by decide +kernel
theorem dX12_areInOnePage_17 : decode cX12_areInOnePage 17 = .ok (.getfield 339, 3) := by decide +kernel
theorem dX12_areInOnePage_20 : decode cX12_areInOnePage 20 = .ok (.istore 5, 2) := by decide +kernel
theorem dX12_areInOnePage_22 : decode cX12_areInOnePage 22 = .ok (.aload_n 0, 1) := by decide +kernel
theorem dX12_areInOnePage_23 : decode cX12_areInOnePage 23 = .ok (.iload_n 2, 1) := by decide +kernel
theorem dX12_areInOnePage_24 : decode cX12_areInOnePage 24 = .ok (.invokevirtual 342, 3) := by decide +kernel
theorem dX12_areInOnePage_27 : decode cX12_areInOnePage 27 = .ok (.iload_n 3, 1) := by decide +kernel
theorem dX12_areInOnePage_28 : decode cX12_areInOnePage 28 = .ok (.aload_n 0, 1) := by decide +kernel
theorem dX12_areInOnePage_29 : decode cX12_areInOnePage 29 = .ok (.getfield 333, 3) := by decide +kernel
theorem dX12_areInOnePage_32 : decode cX12_areInOnePage 32 = .ok (.if_icmp .ne 25, 3) := by decide +kernel
theorem dX12_areInOnePage_35 : decode cX12_areInOnePage 35 = .ok (.iload 4, 2) := by decide +kernel
theorem dX12_areInOnePage_37 : decode cX12_areInOnePage 37 = .ok (.aload_n 0, 1) := by decide +kernel
theorem dX12_areInOnePage_38 : decode cX12_areInOnePage 38 = .ok (.getfield 336, 3) := by decide +kernel
theorem dX12_areInOnePage_41 : decode cX12_areInOnePage 41 = .ok (.if_icmp .ne 16, 3) := by decide +kernel
theorem dX12_areInOnePage_44 : decode cX12_areInOnePage 44 = .ok (.iload 5, 2) := by decide +kernel
theorem dX12_areInOnePage_46 : decode cX12_areInOnePage 46 = .ok (.aload_n 0, 1) := by decide +kernel
theorem dX12_areInOnePage_47 : decode cX12_areInOnePage 47 = .ok (.getfield 339, 3) := by decide +kernel
theorem dX12_areInOnePage_50 : decode cX12_areInOnePage 50 = .ok (.if_icmp .ne 7, 3) := by decide +kernel
theorem dX12_areInOnePage_53 : decode cX12_areInOnePage 53 = .ok (.iconst 1, 1) := by decide +kernel
theorem dX12_areInOnePage_54 : decode cX12_areInOnePage 54 = .ok (.goto 4, 3) := by decide +kernel
theorem dX12_areInOnePage_57 : decode cX12_areInOnePage 57 = .ok (.iconst 0, 1) := by decide +kernel
theorem dX12_areInOnePage_58 : decode cX12_areInOnePage 58 = .ok (.ireturn, 1) := by decide +kernel
set_option maxRecDepth 20000 in
theorem ggX12_step_X12_isCursor : GoodIn wsX12_step wsX12_isCursor := goodIn_r _ [5, 6, 7, 4, 8] (by decide +kernel) (by decide +kernel)
set_option maxRecDepth 20000 in
theorem gX12_step_X12_isCursor : GoodIn wsX12_step (va_wsS RX12 327 yX12_isCursor wsX12_isCursor) := goodIn_app (goodIn_of _ (by decide +kernel)) ggX12_step_X12_isCursor
set_option maxRecDepth 20000 in
theorem ggX12_step_X12_cursorAt : GoodIn wsX12_step wsX12_cursorAt := goodIn_r _ [12] (by decide +kernel) (by decide +kernel)
set_option maxRecDepth 20000 in
theorem gX12_step_X12_cursorAt : GoodIn wsX12_step (wsV RX12 324 RX12 yX12_cursorAt wsX12_cursorAt) := goodIn_app (goodIn_of _ (by decide +kernel)) ggX12_step_X12_cursorAt
set_option maxRecDepth 20000 in
theorem ggX12_step_X12_handsCursor : GoodIn wsX12_step wsX12_handsCursor := goodIn_r _ [16, 1, 17, 18, 9, 10, 11, 4, 12, 106, 107, 108, 109, 110, 111, 112, 113, 114, 115, 116, 117, 118, 119, 120, 121, 122, 123, 124, 125, 126, 127, 128, 129, 130, 131, 132, 133, 134, 135, 136, 137, 138, 139, 140, 141, 142, 143, 144, 145, 146] (by decide +kernel) (by decide +kernel)
set_option maxRecDepth 20000 in
theorem gX12_step_X12_handsCursor : GoodIn wsX12_step (wsV RX12 345 RX12 yX12_handsCursor wsX12_handsCursor) := goodIn_app (goodIn_of _ (by decide +kernel)) ggX12_step_X12_handsCursor
set_option maxRecDepth 20000 in
theorem ggX12_step_X12_rankOfHand : GoodIn wsX12_step wsX12_rankOfHand := goodIn_r _ [22, 23, 24, 25, 4, 26, 1, 27, 28, 29, 30, 17, 18, 31, 32, 33, 34, 35, 36, 37, 38, 106, 107, 108, 109, 110, 111, 112, 113, 114, 115, 116, 117, 118, 119, 120, 121, 122, 123, 124, 125, 126, 127, 128, 129, 130, 131, 132, 133, 134, 135, 136, 137, 138, 139, 140, 141, 142, 143, 144, 145, 146] (by decide +kernel) (by decide +kernel)
set_option maxRecDepth 20000 in
theorem gX12_step_X12_rankOfHand : GoodIn wsX12_step (wsV RX12 81 RX12 yX12_rankOfHand wsX12_rankOfHand) := goodIn_app (goodIn_of _ (by decide +kernel)) ggX12_step_X12_rankOfHand
set_option maxRecDepth 20000 in
theorem ggX12_step_X12_isHandThere : GoodIn wsX12_step wsX12_isHandThere := goodIn_r _ [42, 19, 20, 21, 4, 22, 23, 24, 25, 26, 1, 27, 28, 29, 30, 17, 18, 31, 32, 33, 34, 35, 36, 37, 38, 106, 107, 108, 109, 110, 111, 112, 113, 114, 115, 116, 117, 118, 119, 120, 121, 122, 123, 124, 125, 126, 127, 128, 129, 130, 131, 132, 133, 134, 135, 136, 137, 138, 139, 140, 141, 142, 143, 144, 145, 146] (by decide +kernel) (by decide +kernel)
set_option maxRecDepth 20000 in
theorem gX12_step_X12_isHandThere : GoodIn wsX12_step (wsV RX12 167 RX12 yX12_isHandThere wsX12_isHandThere) := goodIn_app (goodIn_of _ (by decide +kernel)) ggX12_step_X12_isHandThere
set_option maxRecDepth 20000 in
theorem ggX12_step_X12_isThere : GoodIn wsX12_step wsX12_isThere := goodIn_r _ [46, 23, 24, 25, 4, 26, 1, 6, 7, 8, 106, 107, 108, 109, 110, 111, 112, 113, 114, 115, 116, 117, 118, 119, 120, 121, 122, 123, 124, 125, 126, 127, 128, 129, 130, 131, 132, 133, 134, 135, 136, 137, 138, 139, 140, 141, 142, 143, 144, 145, 146] (by decide +kernel) (by decide +kernel)
set_option maxRecDepth 20000 in
theorem gX12_step_X12_isThere : GoodIn wsX12_step (wsV RX12 309 RX12 yX12_isThere wsX12_isThere) := goodIn_app (goodIn_of _ (by decide +kernel)) ggX12_step_X12_isThere
set_option maxRecDepth 20000 in
theorem ggX12_step_X12_areInOnePage : GoodIn wsX12_step wsX12_areInOnePage := goodIn_r _ [50, 51, 52, 53, 54, 55, 56, 4, 57, 58, 59, 60, 61, 62, 63, 1, 17, 64, 65, 66, 67, 68, 18, 31, 32, 33, 34, 35, 36, 37, 38, 69, 70, 71, 72, 23, 24, 25, 26, 73, 74, 75, 76, 77, 78, 79, 80, 81, 82, 83, 84, 85, 86, 87, 88, 89, 90, 91, 92, 93, 94, 95, 96, 97, 98, 99, 100, 101, 106, 107, 108, 109, 110, 111, 112, 113, 114, 115, 116, 117, 118, 119, 120, 121, 122, 123, 124, 125, 126, 127, 128, 129, 130, 131, 132, 133, 134, 135, 136, 137, 138, 139, 140, 141, 142, 143, 144, 145, 146] (by decide +kernel) (by decide +kernel)
set_option maxRecDepth 20000 in
theorem gX12_step_X12_areInOnePage : GoodIn wsX12_step (wsV RX12 348 RX12 yX12_areInOnePage wsX12_areInOnePage) := goodIn_app (goodIn_of _ (by decide +kernel)) ggX12_step_X12_areInOnePage
set_option maxRecDepth 20000 in
theorem ggX12_step_X12_takesHand : GoodIn wsX12_step wsX12_takesHand := goodIn_r _ [68, 17, 18, 31, 32, 33, 4, 34, 1, 35, 36, 37, 38, 106, 107, 108, 109, 110, 111, 112, 113, 114, 115, 116, 117, 118, 119, 120, 121, 122, 123, 124, 125, 126, 127, 128, 129, 130, 131, 132, 133, 134, 135, 136, 137, 138, 139, 140, 141, 142, 143, 144, 145, 146] (by decide +kernel) (by decide +kernel)
set_option maxRecDepth 20000 in
theorem gX12_step_X12_takesHand : GoodIn wsX12_step (wsV RX12 106 RX12 yX12_takesHand wsX12_takesHand) := goodIn_app (goodIn_of _ (by decide +kernel)) ggX12_step_X12_takesHand
set_option maxRecDepth 20000 in
theorem ggX12_step_X12_laysCursor : GoodIn wsX12_step wsX12_laysCursor := goodIn_r _ [105, 1, 17, 18, 9, 10, 11, 4, 12, 106, 107, 108, 109, 110, 111, 112, 113, 114, 115, 116, 117, 118, 119, 120, 121, 122, 123, 124, 125, 126, 127, 128, 129, 130, 131, 132, 133, 134, 135, 136, 137, 138, 139, 140, 141, 142, 143, 144, 145, 146] (by decide +kernel) (by decide +kernel)
set_option maxRecDepth 20000 in
theorem gX12_step_X12_laysCursor : GoodIn wsX12_step (wsV RX12 330 RX12 yX12_laysCursor wsX12_laysCursor) := goodIn_app (goodIn_of _ (by decide +kernel)) ggX12_step_X12_laysCursor
theorem dX12_step_0 : decode cX12_step 0 = .ok (.iload_n 1, 1) := by decide +kernel
theorem dX12_step_1 : decode cX12_step 1 = .ok (.invokestatic 327, 3) := by decide +kernel
theorem dX12_step_4 : decode cX12_step 4 = .ok (.ifCond .ne 5, 3) := by decide +kernel
theorem dX12_step_7 : decode cX12_step 7 = .ok (.iconst (-1), 1) := by decide +kernel
theorem dX12_step_8 : decode cX12_step 8 = .ok (.ireturn, 1) := by decide +kernel
theorem dX12_step_9 : decode cX12_step 9 = .ok (.aload_n 0, 1) := by decide +kernel
theorem dX12_step_10 : decode cX12_step 10 = .ok (.getfield 7, 3) := by decide +kernel
theorem dX12_step_13 : decode cX12_step 13 = .ok (.aload_n 0, 1) := by decide +kernel
theorem dX12_step_14 : decode cX12_step 14 = .ok (.iload_n 1, 1) := by decide +kernel
theorem dX12_step_15 : decode cX12_step 15 = .ok (.invokevirtual 324, 3) := by decide +kernel
theorem dX12_step_18 : decode cX12_step 18 = .ok (.iaload, 1) := by decide +kernel
theorem dX12_step_19 : decode cX12_step 19 = .ok (.ifCond .ne 6, 3) := by decide +kernel
theorem dX12_step_22 : decode cX12_step 22 = .ok (.bipush (-4), 2) := by decide +kernel
theorem dX12_step_24 : decode cX12_step 24 = .ok (.ireturn, 1) := by decide +kernel
theorem dX12_step_25 : decode cX12_step 25 = .ok (.aload_n 0, 1) := by decide +kernel
theorem dX12_step_26 : decode cX12_step 26 = .ok (.iload_n 1, 1) := by decide +kernel
theorem dX12_step_27 : decode cX12_step 27 = .ok (.invokevirtual 345, 3) := by decide +kernel
theorem dX12_step_30 : decode cX12_step 30 = .ok (.aload_n 0, 1) := by decide +kernel
theorem dX12_step_31 : decode cX12_step 31 = .ok (.invokevirtual 81, 3) := by decide +kernel
theorem dX12_step_34 : decode cX12_step 34 = .ok (.istore_n 3, 1) := by decide +kernel
theorem dX12_step_35 : decode cX12_step 35 = .ok (.aload_n 0, 1) := by decide +kernel
theorem dX12_step_36 : decode cX12_step 36 = .ok (.invokevirtual 167, 3) := by decide +kernel
theorem dX12_step_39 : decode cX12_step 39 = .ok (.istore 4, 2) := by decide +kernel
theorem dX12_step_41 : decode cX12_step 41 = .ok (.iload_n 2, 1) := by decide +kernel
theorem dX12_step_42 : decode cX12_step 42 = .ok (.ifCond .ne 9, 3) := by decide +kernel
theorem dX12_step_45 : decode cX12_step 45 = .ok (.iload_n 3, 1) := by decide +kernel
theorem dX12_step_46 : decode cX12_step 46 = .ok (.iconst 1, 1) := by decide +kernel
theorem dX12_step_47 : decode cX12_step 47 = .ok (.isub, 1) := by decide +kernel
theorem dX12_step_48 : decode cX12_step 48 = .ok (.goto 15, 3) := by decide +kernel
theorem dX12_step_51 : decode cX12_step 51 = .ok (.iload 4, 2) := by decide +kernel
theorem dX12_step_53 : decode cX12_step 53 = .ok (.ifCond .eq 9, 3) := by decide +kernel
theorem dX12_step_56 : decode cX12_step 56 = .ok (.iload_n 3, 1) := by decide +kernel
theorem dX12_step_57 : decode cX12_step 57 = .ok (.iconst 1, 1) := by decide +kernel
theorem dX12_step_58 : decode cX12_step 58 = .ok (.iadd, 1) := by decide +kernel
theorem dX12_step_59 : decode cX12_step 59 = .ok (.goto 4, 3) := by decide +kernel
theorem dX12_step_62 : decode cX12_step 62 = .ok (.iload_n 3, 1) := by decide +kernel
theorem dX12_step_63 : decode cX12_step 63 = .ok (.istore 5, 2) := by decide +kernel
theorem dX12_step_65 : decode cX12_step 65 = .ok (.aload_n 0, 1) := by decide +kernel
theorem dX12_step_66 : decode cX12_step 66 = .ok (.iload 5, 2) := by decide +kernel
theorem dX12_step_68 : decode cX12_step 68 = .ok (.invokevirtual 309, 3) := by decide +kernel
theorem dX12_step_71 : decode cX12_step 71 = .ok (.ifCond .ne 6, 3) := by decide +kernel
theorem dX12_step_74 : decode cX12_step 74 = .ok (.bipush (-3), 2) := by decide +kernel
theorem dX12_step_76 : decode cX12_step 76 = .ok (.ireturn, 1) := by decide +kernel
theorem dX12_step_77 : decode cX12_step 77 = .ok (.iload 4, 2) := by decide +kernel
theorem dX12_step_79 : decode cX12_step 79 = .ok (.ifCond .ne 7, 3) := by decide +kernel
theorem dX12_step_82 : decode cX12_step 82 = .ok (.iconst 3, 1) := by decide +kernel
theorem dX12_step_83 : decode cX12_step 83 = .ok (.goto 18, 3) := by decide +kernel
theorem dX12_step_86 : decode cX12_step 86 = .ok (.aload_n 0, 1) := by decide +kernel
theorem dX12_step_87 : decode cX12_step 87 = .ok (.iload_n 3, 1) := by decide +kernel
theorem dX12_step_88 : decode cX12_step 88 = .ok (.iload 5, 2) := by decide +kernel
theorem dX12_step_90 : decode cX12_step 90 = .ok (.invokevirtual 348, 3) := by decide +kernel
theorem dX12_step_93 : decode cX12_step 93 = .ok (.ifCond .eq 7, 3) := by decide +kernel
theorem dX12_step_96 : decode cX12_step 96 = .ok (.iconst 1, 1) := by decide +kernel
theorem dX12_step_97 : decode cX12_step 97 = .ok (.goto 4, 3) := by decide +kernel
theorem dX12_step_100 : decode cX12_step 100 = .ok (.iconst 2, 1) := by decide +kernel
theorem dX12_step_101 : decode cX12_step 101 = .ok (.istore 6, 2) := by decide +kernel
theorem dX12_step_103 : decode cX12_step 103 = .ok (.aload_n 0, 1) := by decide +kernel
theorem dX12_step_104 : decode cX12_step 104 = .ok (.getfield 7, 3) := by decide +kernel
theorem dX12_step_107 : decode cX12_step 107 = .ok (.aload_n 0, 1) := by decide +kernel
theorem dX12_step_108 : decode cX12_step 108 = .ok (.iload_n 1, 1) := by decide +kernel
theorem dX12_step_109 : decode cX12_step 109 = .ok (.invokevirtual 324, 3) := by decide +kernel
theorem dX12_step_112 : decode cX12_step 112 = .ok (.iload 6, 2) := by decide +kernel
theorem dX12_step_114 : decode cX12_step 114 = .ok (.iadd, 1) := by decide +kernel
theorem dX12_step_115 : decode cX12_step 115 = .ok (.aload_n 0, 1) := by decide +kernel
theorem dX12_step_116 : decode cX12_step 116 = .ok (.getfield 7, 3) := by decide +kernel
theorem dX12_step_119 : decode cX12_step 119 = .ok (.aload_n 0, 1) := by decide +kernel
theorem dX12_step_120 : decode cX12_step 120 = .ok (.iload_n 1, 1) := by decide +kernel
theorem dX12_step_121 : decode cX12_step 121 = .ok (.invokevirtual 324, 3) := by decide +kernel
theorem dX12_step_124 : decode cX12_step 124 = .ok (.iload 6, 2) := by decide +kernel
theorem dX12_step_126 : decode cX12_step 126 = .ok (.iadd, 1) := by decide +kernel
theorem dX12_step_127 : decode cX12_step 127 = .ok (.iaload, 1) := by decide +kernel
theorem dX12_step_128 : decode cX12_step 128 = .ok (.iconst 1, 1) := by decide +kernel
theorem dX12_step_129 : decode cX12_step 129 = .ok (.iadd, 1) := by decide +kernel
theorem dX12_step_130 : decode cX12_step 130 = .ok (.iastore, 1) := by decide +kernel
theorem dX12_step_131 : decode cX12_step 131 = .ok (.aload_n 0, 1) := by decide +kernel
theorem dX12_step_132 : decode cX12_step 132 = .ok (.iload 5, 2) := by decide +kernel
theorem dX12_step_134 : decode cX12_step 134 = .ok (.invokevirtual 106, 3) := by decide +kernel
theorem dX12_step_137 : decode cX12_step 137 = .ok (.aload_n 0, 1) := by decide +kernel
theorem dX12_step_138 : decode cX12_step 138 = .ok (.iload_n 1, 1) := by decide +kernel
theorem dX12_step_139 : decode cX12_step 139 = .ok (.invokevirtual 330, 3) := by decide +kernel
theorem dX12_step_142 : decode cX12_step 142 = .ok (.iload 5, 2) := by decide +kernel
theorem dX12_step_144 : decode cX12_step 144 = .ok (.ireturn, 1) := by decide +kernel
set_option maxRecDepth 20000 in
theorem ggX12_cursorIs_X12_isCursor : GoodIn wsX12_cursorIs wsX12_isCursor := goodIn_r _ [5, 6, 7, 4, 8] (by decide +kernel) (by decide +kernel)
set_option maxRecDepth 20000 in
theorem gX12_cursorIs_X12_isCursor : GoodIn wsX12_cursorIs (va_wsS RX12 327 yX12_isCursor wsX12_isCursor) := goodIn_app (goodIn_of _ (by decide +kernel)) ggX12_cursorIs_X12_isCursor
set_option maxRecDepth 20000 in
theorem ggX12_cursorIs_X12_cursorAt : GoodIn wsX12_cursorIs wsX12_cursorAt := goodIn_r _ [12] (by decide +kernel) (by decide +kernel)
set_option maxRecDepth 20000 in
theorem gX12_cursorIs_X12_cursorAt : GoodIn wsX12_cursorIs (wsV RX12 324 RX12 yX12_cursorAt wsX12_cursorAt) := goodIn_app (goodIn_of _ (by decide +kernel)) ggX12_cursorIs_X12_cursorAt
set_option maxRecDepth 20000 in
theorem ggX12_cursorIs_X12_in : GoodIn wsX12_cursorIs wsX12_in := goodIn_r _ [8] (by decide +kernel) (by decide +kernel)
set_option maxRecDepth 20000 in
theorem gX12_cursorIs_X12_in : GoodIn wsX12_cursorIs (va_wsS RX12 66 yX12_in wsX12_in) := goodIn_app (goodIn_of _ (by decide +kernel)) ggX12_cursorIs_X12_in
set_option maxRecDepth 20000 in
theorem ggX12_cursorIs_X12_handsCursor : GoodIn wsX12_cursorIs wsX12_handsCursor := goodIn_r _ [16, 1, 17, 18, 9, 10, 11, 4, 12, 43, 44, 45, 46, 47, 48, 49, 50, 51, 52, 53, 54, 55, 56, 57, 58, 59, 60, 61, 62, 63, 64, 65, 66, 67, 68, 69, 70, 71, 72, 73, 74, 75, 76, 77, 78, 79, 80, 81, 82, 83] (by decide +kernel) (by decide +kernel)
set_option maxRecDepth 20000 in
theorem gX12_cursorIs_X12_handsCursor : GoodIn wsX12_cursorIs (wsV RX12 345 RX12 yX12_handsCursor wsX12_handsCursor) := goodIn_app (goodIn_of _ (by decide +kernel)) ggX12_cursorIs_X12_handsCursor
set_option maxRecDepth 20000 in
theorem ggX12_cursorIs_X12_isHandThere : GoodIn wsX12_cursorIs wsX12_isHandThere := goodIn_r _ [22, 23, 24, 25, 4, 26, 27, 28, 29, 30, 1, 31, 32, 33, 34, 17, 18, 35, 36, 37, 38, 39, 40, 41, 42, 43, 44, 45, 46, 47, 48, 49, 50, 51, 52, 53, 54, 55, 56, 57, 58, 59, 60, 61, 62, 63, 64, 65, 66, 67, 68, 69, 70, 71, 72, 73, 74, 75, 76, 77, 78, 79, 80, 81, 82, 83] (by decide +kernel) (by decide +kernel)
set_option maxRecDepth 20000 in
theorem gX12_cursorIs_X12_isHandThere : GoodIn wsX12_cursorIs (wsV RX12 167 RX12 yX12_isHandThere wsX12_isHandThere) := goodIn_app (goodIn_of _ (by decide +kernel)) ggX12_cursorIs_X12_isHandThere
set_option maxRecDepth 20000 in
theorem ggX12_cursorIs_X12_rankOfHand : GoodIn wsX12_cursorIs wsX12_rankOfHand := goodIn_r _ [26, 27, 28, 29, 4, 30, 1, 31, 32, 33, 34, 17, 18, 35, 36, 37, 38, 39, 40, 41, 42, 43, 44, 45, 46, 47, 48, 49, 50, 51, 52, 53, 54, 55, 56, 57, 58, 59, 60, 61, 62, 63, 64, 65, 66, 67, 68, 69, 70, 71, 72, 73, 74, 75, 76, 77, 78, 79, 80, 81, 82, 83] (by decide +kernel) (by decide +kernel)
set_option maxRecDepth 20000 in
theorem gX12_cursorIs_X12_rankOfHand : GoodIn wsX12_cursorIs (wsV RX12 81 RX12 yX12_rankOfHand wsX12_rankOfHand) := goodIn_app (goodIn_of _ (by decide +kernel)) ggX12_cursorIs_X12_rankOfHand
theorem dX12_cursorIs_0 : decode cX12_cursorIs 0 = .ok (.iload_n 1, 1) := by decide +kernel
theorem dX12_cursorIs_1 : decode cX12_cursorIs 1 = .ok (.invokestatic 327, 3) := by decide +kernel
theorem dX12_cursorIs_4 : decode cX12_cursorIs 4 = .ok (.ifCond .eq 16, 3) := by decide +kernel
theorem dX12_cursorIs_7 : decode cX12_cursorIs 7 = .ok (.aload_n 0, 1) := by decide +kernel
theorem dX12_cursorIs_8 : decode cX12_cursorIs 8 = .ok (.getfield 7, 3) := by decide +kernel
theorem dX12_cursorIs_11 : decode cX12_cursorIs 11 = .ok (.aload_n 0, 1) := by decide +kernel
theorem dX12_cursorIs_12 : decode cX12_cursorIs 12 = .ok (.iload_n 1, 1) := by decide +kernel
theorem dX12_cursorIs_13 : decode cX12_cursorIs 13 = .ok (.invokevirtual 324, 3) := by decide +kernel
theorem dX12_cursorIs_16 : decode cX12_cursorIs 16 = .ok (.iaload, 1) := by decide +kernel
theorem dX12_cursorIs_17 : decode cX12_cursorIs 17 = .ok (.ifCond .ne 5, 3) := by decide +kernel
theorem dX12_cursorIs_20 : decode cX12_cursorIs 20 = .ok (.iconst (-1), 1) := by decide +kernel
theorem dX12_cursorIs_21 : decode cX12_cursorIs 21 = .ok (.ireturn, 1) := by decide +kernel
theorem dX12_cursorIs_22 : decode cX12_cursorIs 22 = .ok (.iload_n 2, 1) := by decide +kernel
theorem dX12_cursorIs_23 : decode cX12_cursorIs 23 = .ok (.bipush 10, 2) := by decide +kernel
theorem dX12_cursorIs_25 : decode cX12_cursorIs 25 = .ok (.bipush 33, 2) := by decide +kernel
theorem dX12_cursorIs_27 : decode cX12_cursorIs 27 = .ok (.invokestatic 66, 3) := by decide +kernel
theorem dX12_cursorIs_30 : decode cX12_cursorIs 30 = .ok (.ifCond .eq 45, 3) := by decide +kernel
theorem dX12_cursorIs_33 : decode cX12_cursorIs 33 = .ok (.iload_n 2, 1) := by decide +kernel
theorem dX12_cursorIs_34 : decode cX12_cursorIs 34 = .ok (.bipush 10, 2) := by decide +kernel
theorem dX12_cursorIs_36 : decode cX12_cursorIs 36 = .ok (.isub, 1) := by decide +kernel
theorem dX12_cursorIs_37 : decode cX12_cursorIs 37 = .ok (.aload_n 0, 1) := by decide +kernel
theorem dX12_cursorIs_38 : decode cX12_cursorIs 38 = .ok (.getfield 7, 3) := by decide +kernel
theorem dX12_cursorIs_41 : decode cX12_cursorIs 41 = .ok (.aload_n 0, 1) := by decide +kernel
theorem dX12_cursorIs_42 : decode cX12_cursorIs 42 = .ok (.iload_n 1, 1) := by decide +kernel
theorem dX12_cursorIs_43 : decode cX12_cursorIs 43 = .ok (.invokevirtual 324, 3) := by decide +kernel
theorem dX12_cursorIs_46 : decode cX12_cursorIs 46 = .ok (.iconst 4, 1) := by decide +kernel
theorem dX12_cursorIs_47 : decode cX12_cursorIs 47 = .ok (.iadd, 1) := by decide +kernel
theorem dX12_cursorIs_48 : decode cX12_cursorIs 48 = .ok (.iaload, 1) := by decide +kernel
theorem dX12_cursorIs_49 : decode cX12_cursorIs 49 = .ok (.if_icmp .ge 23, 3) := by decide +kernel
theorem dX12_cursorIs_52 : decode cX12_cursorIs 52 = .ok (.aload_n 0, 1) := by decide +kernel
theorem dX12_cursorIs_53 : decode cX12_cursorIs 53 = .ok (.getfield 7, 3) := by decide +kernel
theorem dX12_cursorIs_56 : decode cX12_cursorIs 56 = .ok (.aload_n 0, 1) := by decide +kernel
theorem dX12_cursorIs_57 : decode cX12_cursorIs 57 = .ok (.iload_n 1, 1) := by decide +kernel
theorem dX12_cursorIs_58 : decode cX12_cursorIs 58 = .ok (.invokevirtual 324, 3) := by decide +kernel
theorem dX12_cursorIs_61 : decode cX12_cursorIs 61 = .ok (.iconst 5, 1) := by decide +kernel
theorem dX12_cursorIs_62 : decode cX12_cursorIs 62 = .ok (.iadd, 1) := by decide +kernel
theorem dX12_cursorIs_63 : decode cX12_cursorIs 63 = .ok (.iload_n 2, 1) := by decide +kernel
theorem dX12_cursorIs_64 : decode cX12_cursorIs 64 = .ok (.iadd, 1) := by decide +kernel
theorem dX12_cursorIs_65 : decode cX12_cursorIs 65 = .ok (.bipush 10, 2) := by decide +kernel
theorem dX12_cursorIs_67 : decode cX12_cursorIs 67 = .ok (.isub, 1) := by decide +kernel
theorem dX12_cursorIs_68 : decode cX12_cursorIs 68 = .ok (.iaload, 1) := by decide +kernel
theorem dX12_cursorIs_69 : decode cX12_cursorIs 69 = .ok (.goto 5, 3) := by decide +kernel
theorem dX12_cursorIs_72 : decode cX12_cursorIs 72 = .ok (.bipush (-4), 2) := by decide +kernel
theorem dX12_cursorIs_74 : decode cX12_cursorIs 74 = .ok (.ireturn, 1) := by decide +kernel
theorem dX12_cursorIs_75 : decode cX12_cursorIs 75 = .ok (.iload_n 2, 1) := by decide +kernel
theorem dX12_cursorIs_76 : decode cX12_cursorIs 76 = .ok (.iconst 0, 1) := by decide +kernel
theorem dX12_cursorIs_77 : decode cX12_cursorIs 77 = .ok (.iconst 3, 1) := by decide +kernel
theorem dX12_cursorIs_78 : decode cX12_cursorIs 78 = .ok (.invokestatic 66, 3) := by decide +kernel
theorem dX12_cursorIs_81 : decode cX12_cursorIs 81 = .ok (.ifCond .ne 5, 3) := by decide +kernel
theorem dX12_cursorIs_84 : decode cX12_cursorIs 84 = .ok (.iconst (-1), 1) := by decide +kernel
theorem dX12_cursorIs_85 : decode cX12_cursorIs 85 = .ok (.ireturn, 1) := by decide +kernel
theorem dX12_cursorIs_86 : decode cX12_cursorIs 86 = .ok (.aload_n 0, 1) := by decide +kernel
theorem dX12_cursorIs_87 : decode cX12_cursorIs 87 = .ok (.iload_n 1, 1) := by decide +kernel
theorem dX12_cursorIs_88 : decode cX12_cursorIs 88 = .ok (.invokevirtual 345, 3) := by decide +kernel
theorem dX12_cursorIs_91 : decode cX12_cursorIs 91 = .ok (.iload_n 2, 1) := by decide +kernel
theorem dX12_cursorIs_92 : decode cX12_cursorIs 92 = .ok (.ifCond .le 18, 3) := by decide +kernel
theorem dX12_cursorIs_95 : decode cX12_cursorIs 95 = .ok (.aload_n 0, 1) := by decide +kernel
theorem dX12_cursorIs_96 : decode cX12_cursorIs 96 = .ok (.getfield 7, 3) := by decide +kernel
theorem dX12_cursorIs_99 : decode cX12_cursorIs 99 = .ok (.aload_n 0, 1) := by decide +kernel
theorem dX12_cursorIs_100 : decode cX12_cursorIs 100 = .ok (.iload_n 1, 1) := by decide +kernel
theorem dX12_cursorIs_101 : decode cX12_cursorIs 101 = .ok (.invokevirtual 324, 3) := by decide +kernel
theorem dX12_cursorIs_104 : decode cX12_cursorIs 104 = .ok (.iload_n 2, 1) := by decide +kernel
theorem dX12_cursorIs_105 : decode cX12_cursorIs 105 = .ok (.iadd, 1) := by decide +kernel
theorem dX12_cursorIs_106 : decode cX12_cursorIs 106 = .ok (.iaload, 1) := by decide +kernel
theorem dX12_cursorIs_107 : decode cX12_cursorIs 107 = .ok (.goto 19, 3) := by decide +kernel
theorem dX12_cursorIs_110 : decode cX12_cursorIs 110 = .ok (.aload_n 0, 1) := by decide +kernel
theorem dX12_cursorIs_111 : decode cX12_cursorIs 111 = .ok (.invokevirtual 167, 3) := by decide +kernel
theorem dX12_cursorIs_114 : decode cX12_cursorIs 114 = .ok (.ifCond .eq 10, 3) := by decide +kernel
theorem dX12_cursorIs_117 : decode cX12_cursorIs 117 = .ok (.aload_n 0, 1) := by decide +kernel
theorem dX12_cursorIs_118 : decode cX12_cursorIs 118 = .ok (.invokevirtual 81, 3) := by decide +kernel
theorem dX12_cursorIs_121 : decode cX12_cursorIs 121 = .ok (.goto 5, 3) := by decide +kernel
theorem dX12_cursorIs_124 : decode cX12_cursorIs 124 = .ok (.bipush (-3), 2) := by decide +kernel
theorem dX12_cursorIs_126 : decode cX12_cursorIs 126 = .ok (.ireturn, 1) := by decide +kernel
set_option maxRecDepth 20000 in
theorem ggX12_readsStep_X12_wrongAt : GoodIn wsX12_readsStep wsX12_wrongAt := goodIn_r _ [12, 13, 33, 34, 35, 36, 37, 38, 39, 40, 41, 42, 43, 44, 45, 46, 47, 48, 49, 50, 51, 52, 53, 54, 55, 56, 57, 58, 59, 60, 61, 62, 63, 64, 65, 66, 67, 68, 69, 70, 71, 72, 73] (by decide +kernel) (by decide +kernel)
set_option maxRecDepth 20000 in
theorem gX12_readsStep_X12_wrongAt : GoodIn wsX12_readsStep (wsV RX12 192 RX12 yX12_wrongAt wsX12_wrongAt) := goodIn_app (goodIn_of _ (by decide +kernel)) ggX12_readsStep_X12_wrongAt
set_option maxRecDepth 20000 in
theorem ggX12_readsStep_X12_here : GoodIn wsX12_readsStep wsX12_here := goodIn_r _ [17, 2, 18, 6, 33, 34, 35, 36, 37, 38, 39, 40, 41, 42, 43, 44, 45, 46, 47, 48, 49, 50, 51, 52, 53, 54, 55, 56, 57, 58, 59, 60, 61, 62, 63, 64, 65, 66, 67, 68, 69, 70, 71, 72, 73] (by decide +kernel) (by decide +kernel)
set_option maxRecDepth 20000 in
theorem gX12_readsStep_X12_here : GoodIn wsX12_readsStep (wsV RX12 189 RX12 yX12_here wsX12_here) := goodIn_app (goodIn_of _ (by decide +kernel)) ggX12_readsStep_X12_here
set_option maxRecDepth 20000 in
theorem ggX12_readsStep_X12_readsNumber : GoodIn wsX12_readsStep wsX12_readsNumber := goodIn_r _ [22, 2, 4, 14, 15, 16, 11, 17, 18, 6, 23, 24, 25, 8, 9, 10, 12, 13, 33, 34, 35, 36, 37, 38, 39, 40, 41, 42, 43, 44, 45, 46, 47, 48, 49, 50, 51, 52, 53, 54, 55, 56, 57, 58, 59, 60, 61, 62, 63, 64, 65, 66, 67, 68, 69, 70, 71, 72, 73] (by decide +kernel) (by decide +kernel)
set_option maxRecDepth 20000 in
theorem gX12_readsStep_X12_readsNumber : GoodIn wsX12_readsStep (wsV RX12 213 RX12 yX12_readsNumber wsX12_readsNumber) := goodIn_app (goodIn_of _ (by decide +kernel)) ggX12_readsStep_X12_readsNumber
set_option maxRecDepth 20000 in
theorem ggX12_readsStep_X12_readsKey : GoodIn wsX12_readsStep wsX12_readsKey := goodIn_r _ [29, 2, 7, 5, 14, 15, 16, 11, 17, 18, 6, 30, 31, 32, 23, 24, 25, 8, 9, 10, 12, 13, 33, 34, 35, 36, 37, 38, 39, 40, 41, 42, 43, 44, 45, 46, 47, 48, 49, 50, 51, 52, 53, 54, 55, 56, 57, 58, 59, 60, 61, 62, 63, 64, 65, 66, 67, 68, 69, 70, 71, 72, 73] (by decide +kernel) (by decide +kernel)
set_option maxRecDepth 20000 in
theorem gX12_readsStep_X12_readsKey : GoodIn wsX12_readsStep (wsV RX12 207 RX12 yX12_readsKey wsX12_readsKey) := goodIn_app (goodIn_of _ (by decide +kernel)) ggX12_readsStep_X12_readsKey
theorem dX12_readsStep_0 : decode cX12_readsStep 0 = .ok (.aload_n 0, 1) := by decide +kernel
theorem dX12_readsStep_1 : decode cX12_readsStep 1 = .ok (.getfield 351, 3) := by decide +kernel
theorem dX12_readsStep_4 : decode cX12_readsStep 4 = .ok (.bipush 8, 2) := by decide +kernel
theorem dX12_readsStep_6 : decode cX12_readsStep 6 = .ok (.if_icmp .ne 13, 3) := by decide +kernel
theorem dX12_readsStep_9 : decode cX12_readsStep 9 = .ok (.aload_n 0, 1) := by decide +kernel
theorem dX12_readsStep_10 : decode cX12_readsStep 10 = .ok (.iconst 4, 1) := by decide +kernel
theorem dX12_readsStep_11 : decode cX12_readsStep 11 = .ok (.aload_n 0, 1) := by decide +kernel
theorem dX12_readsStep_12 : decode cX12_readsStep 12 = .ok (.getfield 180, 3) := by decide +kernel
theorem dX12_readsStep_15 : decode cX12_readsStep 15 = .ok (.invokevirtual 192, 3) := by decide +kernel
theorem dX12_readsStep_18 : decode cX12_readsStep 18 = .ok (.ireturn, 1) := by decide +kernel
theorem dX12_readsStep_19 : decode cX12_readsStep 19 = .ok (.aload_n 0, 1) := by decide +kernel
theorem dX12_readsStep_20 : decode cX12_readsStep 20 = .ok (.invokevirtual 189, 3) := by decide +kernel
theorem dX12_readsStep_23 : decode cX12_readsStep 23 = .ok (.istore_n 1, 1) := by decide +kernel
theorem dX12_readsStep_24 : decode cX12_readsStep 24 = .ok (.bipush 28, 2) := by decide +kernel
theorem dX12_readsStep_26 : decode cX12_readsStep 26 = .ok (.aload_n 0, 1) := by decide +kernel
theorem dX12_readsStep_27 : decode cX12_readsStep 27 = .ok (.getfield 351, 3) := by decide +kernel
theorem dX12_readsStep_30 : decode cX12_readsStep 30 = .ok (.imul, 1) := by decide +kernel
theorem dX12_readsStep_31 : decode cX12_readsStep 31 = .ok (.istore_n 2, 1) := by decide +kernel
theorem dX12_readsStep_32 : decode cX12_readsStep 32 = .ok (.iload_n 1, 1) := by decide +kernel
theorem dX12_readsStep_33 : decode cX12_readsStep 33 = .ok (.bipush 101, 2) := by decide +kernel
theorem dX12_readsStep_35 : decode cX12_readsStep 35 = .ok (.if_icmp .eq 15, 3) := by decide +kernel
theorem dX12_readsStep_38 : decode cX12_readsStep 38 = .ok (.iload_n 1, 1) := by decide +kernel
theorem dX12_readsStep_39 : decode cX12_readsStep 39 = .ok (.bipush 111, 2) := by decide +kernel
theorem dX12_readsStep_41 : decode cX12_readsStep 41 = .ok (.if_icmp .eq 9, 3) := by decide +kernel
theorem dX12_readsStep_44 : decode cX12_readsStep 44 = .ok (.iload_n 1, 1) := by decide +kernel
theorem dX12_readsStep_45 : decode cX12_readsStep 45 = .ok (.bipush 114, 2) := by decide +kernel
theorem dX12_readsStep_47 : decode cX12_readsStep 47 = .ok (.if_icmp .ne 7, 3) := by decide +kernel
theorem dX12_readsStep_50 : decode cX12_readsStep 50 = .ok (.iconst 1, 1) := by decide +kernel
theorem dX12_readsStep_51 : decode cX12_readsStep 51 = .ok (.goto 4, 3) := by decide +kernel
theorem dX12_readsStep_54 : decode cX12_readsStep 54 = .ok (.iconst 0, 1) := by decide +kernel
theorem dX12_readsStep_55 : decode cX12_readsStep 55 = .ok (.istore_n 3, 1) := by decide +kernel
theorem dX12_readsStep_56 : decode cX12_readsStep 56 = .ok (.iload_n 1, 1) := by decide +kernel
theorem dX12_readsStep_57 : decode cX12_readsStep 57 = .ok (.bipush 62, 2) := by decide +kernel
theorem dX12_readsStep_59 : decode cX12_readsStep 59 = .ok (.if_icmp .eq 33, 3) := by decide +kernel
theorem dX12_readsStep_62 : decode cX12_readsStep 62 = .ok (.iload_n 1, 1) := by decide +kernel
theorem dX12_readsStep_63 : decode cX12_readsStep 63 = .ok (.bipush 60, 2) := by decide +kernel
theorem dX12_readsStep_65 : decode cX12_readsStep 65 = .ok (.if_icmp .eq 27, 3) := by decide +kernel
theorem dX12_readsStep_68 : decode cX12_readsStep 68 = .ok (.iload_n 1, 1) := by decide +kernel
theorem dX12_readsStep_69 : decode cX12_readsStep 69 = .ok (.bipush 108, 2) := by decide +kernel
theorem dX12_readsStep_71 : decode cX12_readsStep 71 = .ok (.if_icmp .eq 21, 3) := by decide +kernel
theorem dX12_readsStep_74 : decode cX12_readsStep 74 = .ok (.iload_n 1, 1) := by decide +kernel
theorem dX12_readsStep_75 : decode cX12_readsStep 75 = .ok (.bipush 107, 2) := by decide +kernel
theorem dX12_readsStep_77 : decode cX12_readsStep 77 = .ok (.if_icmp .eq 15, 3) := by decide +kernel
theorem dX12_readsStep_80 : decode cX12_readsStep 80 = .ok (.iload_n 1, 1) := by decide +kernel
theorem dX12_readsStep_81 : decode cX12_readsStep 81 = .ok (.bipush 100, 2) := by decide +kernel
theorem dX12_readsStep_83 : decode cX12_readsStep 83 = .ok (.if_icmp .eq 9, 3) := by decide +kernel
theorem dX12_readsStep_86 : decode cX12_readsStep 86 = .ok (.iload_n 1, 1) := by decide +kernel
theorem dX12_readsStep_87 : decode cX12_readsStep 87 = .ok (.bipush 116, 2) := by decide +kernel
theorem dX12_readsStep_89 : decode cX12_readsStep 89 = .ok (.if_icmp .ne 7, 3) := by decide +kernel
theorem dX12_readsStep_92 : decode cX12_readsStep 92 = .ok (.iconst 1, 1) := by decide +kernel
theorem dX12_readsStep_93 : decode cX12_readsStep 93 = .ok (.goto 4, 3) := by decide +kernel
theorem dX12_readsStep_96 : decode cX12_readsStep 96 = .ok (.iconst 0, 1) := by decide +kernel
theorem dX12_readsStep_97 : decode cX12_readsStep 97 = .ok (.istore 4, 2) := by decide +kernel
theorem dX12_readsStep_99 : decode cX12_readsStep 99 = .ok (.iload_n 3, 1) := by decide +kernel
theorem dX12_readsStep_100 : decode cX12_readsStep 100 = .ok (.ifCond .ne 24, 3) := by decide +kernel
theorem dX12_readsStep_103 : decode cX12_readsStep 103 = .ok (.iload 4, 2) := by decide +kernel
theorem dX12_readsStep_105 : decode cX12_readsStep 105 = .ok (.ifCond .ne 19, 3) := by decide +kernel
theorem dX12_readsStep_108 : decode cX12_readsStep 108 = .ok (.iload_n 1, 1) := by decide +kernel
theorem dX12_readsStep_109 : decode cX12_readsStep 109 = .ok (.bipush 112, 2) := by decide +kernel
theorem dX12_readsStep_111 : decode cX12_readsStep 111 = .ok (.if_icmp .eq 13, 3) := by decide +kernel
theorem dX12_readsStep_114 : decode cX12_readsStep 114 = .ok (.aload_n 0, 1) := by decide +kernel
theorem dX12_readsStep_115 : decode cX12_readsStep 115 = .ok (.iconst 1, 1) := by decide +kernel
theorem dX12_readsStep_116 : decode cX12_readsStep 116 = .ok (.aload_n 0, 1) := by decide +kernel
theorem dX12_readsStep_117 : decode cX12_readsStep 117 = .ok (.getfield 180, 3) := by decide +kernel
theorem dX12_readsStep_120 : decode cX12_readsStep 120 = .ok (.invokevirtual 192, 3) := by decide +kernel
theorem dX12_readsStep_123 : decode cX12_readsStep 123 = .ok (.ireturn, 1) := by decide +kernel
theorem dX12_readsStep_124 : decode cX12_readsStep 124 = .ok (.aload_n 0, 1) := by decide +kernel
theorem dX12_readsStep_125 : decode cX12_readsStep 125 = .ok (.aload_n 0, 1) := by decide +kernel
theorem dX12_readsStep_126 : decode cX12_readsStep 126 = .ok (.getfield 180, 3) := by decide +kernel
theorem dX12_readsStep_129 : decode cX12_readsStep 129 = .ok (.iconst 1, 1) := by decide +kernel
theorem dX12_readsStep_130 : decode cX12_readsStep 130 = .ok (.iadd, 1) := by decide +kernel
theorem dX12_readsStep_131 : decode cX12_readsStep 131 = .ok (.putfield 180, 3) := by decide +kernel
theorem dX12_readsStep_134 : decode cX12_readsStep 134 = .ok (.aload_n 0, 1) := by decide +kernel
theorem dX12_readsStep_135 : decode cX12_readsStep 135 = .ok (.getfield 44, 3) := by decide +kernel
theorem dX12_readsStep_138 : decode cX12_readsStep 138 = .ok (.iload_n 2, 1) := by decide +kernel
theorem dX12_readsStep_139 : decode cX12_readsStep 139 = .ok (.iload_n 1, 1) := by decide +kernel
theorem dX12_readsStep_140 : decode cX12_readsStep 140 = .ok (.iastore, 1) := by decide +kernel
theorem dX12_readsStep_141 : decode cX12_readsStep 141 = .ok (.aload_n 0, 1) := by decide +kernel
theorem dX12_readsStep_142 : decode cX12_readsStep 142 = .ok (.getfield 44, 3) := by decide +kernel
theorem dX12_readsStep_145 : decode cX12_readsStep 145 = .ok (.iload_n 2, 1) := by decide +kernel
theorem dX12_readsStep_146 : decode cX12_readsStep 146 = .ok (.iconst 1, 1) := by decide +kernel
theorem dX12_readsStep_147 : decode cX12_readsStep 147 = .ok (.iadd, 1) := by decide +kernel
theorem dX12_readsStep_148 : decode cX12_readsStep 148 = .ok (.iconst 0, 1) := by decide +kernel
theorem dX12_readsStep_149 : decode cX12_readsStep 149 = .ok (.iastore, 1) := by decide +kernel
theorem dX12_readsStep_150 : decode cX12_readsStep 150 = .ok (.aload_n 0, 1) := by decide +kernel
theorem dX12_readsStep_151 : decode cX12_readsStep 151 = .ok (.getfield 44, 3) := by decide +kernel
theorem dX12_readsStep_154 : decode cX12_readsStep 154 = .ok (.iload_n 2, 1) := by decide +kernel
theorem dX12_readsStep_155 : decode cX12_readsStep 155 = .ok (.iconst 2, 1) := by decide +kernel
theorem dX12_readsStep_156 : decode cX12_readsStep 156 = .ok (.iadd, 1) := by decide +kernel
theorem dX12_readsStep_157 : decode cX12_readsStep 157 = .ok (.iconst 0, 1) := by decide +kernel
theorem dX12_readsStep_158 : decode cX12_readsStep 158 = .ok (.iastore, 1) := by decide +kernel
theorem dX12_readsStep_159 : decode cX12_readsStep 159 = .ok (.iload 4, 2) := by decide +kernel
theorem dX12_readsStep_161 : decode cX12_readsStep 161 = .ok (.ifCond .eq 51, 3) := by decide +kernel
theorem dX12_readsStep_164 : decode cX12_readsStep 164 = .ok (.aload_n 0, 1) := by decide +kernel
theorem dX12_readsStep_165 : decode cX12_readsStep 165 = .ok (.getfield 180, 3) := by decide +kernel
theorem dX12_readsStep_168 : decode cX12_readsStep 168 = .ok (.istore 5, 2) := by decide +kernel
theorem dX12_readsStep_170 : decode cX12_readsStep 170 = .ok (.aload_n 0, 1) := by decide +kernel
theorem dX12_readsStep_171 : decode cX12_readsStep 171 = .ok (.invokevirtual 213, 3) := by decide +kernel
theorem dX12_readsStep_174 : decode cX12_readsStep 174 = .ok (.ifCond .ne 5, 3) := by decide +kernel
theorem dX12_readsStep_177 : decode cX12_readsStep 177 = .ok (.iconst 0, 1) := by decide +kernel
theorem dX12_readsStep_178 : decode cX12_readsStep 178 = .ok (.ireturn, 1) := by decide +kernel
theorem dX12_readsStep_179 : decode cX12_readsStep 179 = .ok (.iload_n 1, 1) := by decide +kernel
theorem dX12_readsStep_180 : decode cX12_readsStep 180 = .ok (.bipush 107, 2) := by decide +kernel
theorem dX12_readsStep_182 : decode cX12_readsStep 182 = .ok (.if_icmp .ne 18, 3) := by decide +kernel
theorem dX12_readsStep_185 : decode cX12_readsStep 185 = .ok (.aload_n 0, 1) := by decide +kernel
theorem dX12_readsStep_186 : decode cX12_readsStep 186 = .ok (.getfield 195, 3) := by decide +kernel
theorem dX12_readsStep_189 : decode cX12_readsStep 189 = .ok (.ifCond .ne 11, 3) := by decide +kernel
theorem dX12_readsStep_192 : decode cX12_readsStep 192 = .ok (.aload_n 0, 1) := by decide +kernel
theorem dX12_readsStep_193 : decode cX12_readsStep 193 = .ok (.iconst 3, 1) := by decide +kernel
theorem dX12_readsStep_194 : decode cX12_readsStep 194 = .ok (.iload 5, 2) := by decide +kernel
theorem dX12_readsStep_196 : decode cX12_readsStep 196 = .ok (.invokevirtual 192, 3) := by decide +kernel
theorem dX12_readsStep_199 : decode cX12_readsStep 199 = .ok (.ireturn, 1) := by decide +kernel
theorem dX12_readsStep_200 : decode cX12_readsStep 200 = .ok (.aload_n 0, 1) := by decide +kernel
theorem dX12_readsStep_201 : decode cX12_readsStep 201 = .ok (.getfield 44, 3) := by decide +kernel
theorem dX12_readsStep_204 : decode cX12_readsStep 204 = .ok (.iload_n 2, 1) := by decide +kernel
theorem dX12_readsStep_205 : decode cX12_readsStep 205 = .ok (.iconst 1, 1) := by decide +kernel
theorem dX12_readsStep_206 : decode cX12_readsStep 206 = .ok (.iadd, 1) := by decide +kernel
theorem dX12_readsStep_207 : decode cX12_readsStep 207 = .ok (.aload_n 0, 1) := by decide +kernel
theorem dX12_readsStep_208 : decode cX12_readsStep 208 = .ok (.getfield 195, 3) := by decide +kernel
theorem dX12_readsStep_211 : decode cX12_readsStep 211 = .ok (.iastore, 1) := by decide +kernel
theorem dX12_readsStep_212 : decode cX12_readsStep 212 = .ok (.iload_n 1, 1) := by decide +kernel
theorem dX12_readsStep_213 : decode cX12_readsStep 213 = .ok (.bipush 112, 2) := by decide +kernel
theorem dX12_readsStep_215 : decode cX12_readsStep 215 = .ok (.if_icmp .ne 69, 3) := by decide +kernel
theorem dX12_readsStep_218 : decode cX12_readsStep 218 = .ok (.aload_n 0, 1) := by decide +kernel
theorem dX12_readsStep_219 : decode cX12_readsStep 219 = .ok (.invokevirtual 207, 3) := by decide +kernel
theorem dX12_readsStep_222 : decode cX12_readsStep 222 = .ok (.ifCond .ne 5, 3) := by decide +kernel
theorem dX12_readsStep_225 : decode cX12_readsStep 225 = .ok (.iconst 0, 1) := by decide +kernel
theorem dX12_readsStep_226 : decode cX12_readsStep 226 = .ok (.ireturn, 1) := by decide +kernel
theorem dX12_readsStep_227 : decode cX12_readsStep 227 = .ok (.aload_n 0, 1) := by decide +kernel
theorem dX12_readsStep_228 : decode cX12_readsStep 228 = .ok (.getfield 44, 3) := by decide +kernel
theorem dX12_readsStep_231 : decode cX12_readsStep 231 = .ok (.iload_n 2, 1) := by decide +kernel
theorem dX12_readsStep_232 : decode cX12_readsStep 232 = .ok (.iconst 2, 1) := by decide +kernel
theorem dX12_readsStep_233 : decode cX12_readsStep 233 = .ok (.iadd, 1) := by decide +kernel
theorem dX12_readsStep_234 : decode cX12_readsStep 234 = .ok (.aload_n 0, 1) := by decide +kernel
theorem dX12_readsStep_235 : decode cX12_readsStep 235 = .ok (.getfield 201, 3) := by decide +kernel
theorem dX12_readsStep_238 : decode cX12_readsStep 238 = .ok (.iastore, 1) := by decide +kernel
theorem dX12_readsStep_239 : decode cX12_readsStep 239 = .ok (.iconst 0, 1) := by decide +kernel
theorem dX12_readsStep_240 : decode cX12_readsStep 240 = .ok (.istore 5, 2) := by decide +kernel
theorem dX12_readsStep_242 : decode cX12_readsStep 242 = .ok (.iload 5, 2) := by decide +kernel
theorem dX12_readsStep_244 : decode cX12_readsStep 244 = .ok (.aload_n 0, 1) := by decide +kernel
theorem dX12_readsStep_245 : decode cX12_readsStep 245 = .ok (.getfield 201, 3) := by decide +kernel
theorem dX12_readsStep_248 : decode cX12_readsStep 248 = .ok (.if_icmp .ge 36, 3) := by decide +kernel
theorem dX12_readsStep_251 : decode cX12_readsStep 251 = .ok (.aload_n 0, 1) := by decide +kernel
theorem dX12_readsStep_252 : decode cX12_readsStep 252 = .ok (.getfield 44, 3) := by decide +kernel
theorem dX12_readsStep_255 : decode cX12_readsStep 255 = .ok (.iload_n 2, 1) := by decide +kernel
theorem dX12_readsStep_256 : decode cX12_readsStep 256 = .ok (.iconst 3, 1) := by decide +kernel
theorem dX12_readsStep_257 : decode cX12_readsStep 257 = .ok (.iadd, 1) := by decide +kernel
theorem dX12_readsStep_258 : decode cX12_readsStep 258 = .ok (.iload 5, 2) := by decide +kernel
theorem dX12_readsStep_260 : decode cX12_readsStep 260 = .ok (.iadd, 1) := by decide +kernel
theorem dX12_readsStep_261 : decode cX12_readsStep 261 = .ok (.aload_n 0, 1) := by decide +kernel
theorem dX12_readsStep_262 : decode cX12_readsStep 262 = .ok (.getfield 22, 3) := by decide +kernel
theorem dX12_readsStep_265 : decode cX12_readsStep 265 = .ok (.aload_n 0, 1) := by decide +kernel
theorem dX12_readsStep_266 : decode cX12_readsStep 266 = .ok (.getfield 198, 3) := by decide +kernel
theorem dX12_readsStep_269 : decode cX12_readsStep 269 = .ok (.iload 5, 2) := by decide +kernel
theorem dX12_readsStep_271 : decode cX12_readsStep 271 = .ok (.iadd, 1) := by decide +kernel
theorem dX12_readsStep_272 : decode cX12_readsStep 272 = .ok (.baload, 1) := by decide +kernel
theorem dX12_readsStep_273 : decode cX12_readsStep 273 = .ok (.sipush 255, 3) := by decide +kernel
theorem dX12_readsStep_276 : decode cX12_readsStep 276 = .ok (.iand, 1) := by decide +kernel
theorem dX12_readsStep_277 : decode cX12_readsStep 277 = .ok (.iastore, 1) := by decide +kernel
theorem dX12_readsStep_278 : decode cX12_readsStep 278 = .ok (.iinc 5 1, 3) := by decide +kernel
theorem dX12_readsStep_281 : decode cX12_readsStep 281 = .ok (.goto (-39), 3) := by decide +kernel
theorem dX12_readsStep_284 : decode cX12_readsStep 284 = .ok (.aload_n 0, 1) := by decide +kernel
theorem dX12_readsStep_285 : decode cX12_readsStep 285 = .ok (.aload_n 0, 1) := by decide +kernel
theorem dX12_readsStep_286 : decode cX12_readsStep 286 = .ok (.getfield 351, 3) := by decide +kernel
theorem dX12_readsStep_289 : decode cX12_readsStep 289 = .ok (.iconst 1, 1) := by decide +kernel
theorem dX12_readsStep_290 : decode cX12_readsStep 290 = .ok (.iadd, 1) := by decide +kernel
theorem dX12_readsStep_291 : decode cX12_readsStep 291 = .ok (.putfield 351, 3) := by decide +kernel
theorem dX12_readsStep_294 : decode cX12_readsStep 294 = .ok (.iconst 1, 1) := by decide +kernel
theorem dX12_readsStep_295 : decode cX12_readsStep 295 = .ok (.ireturn, 1) := by decide +kernel
set_option maxRecDepth 20000 in
theorem ggX12_query_X12_isText : GoodIn wsX12_query wsX12_isText := goodIn_r _ [13, 3, 14, 15, 12, 16, 83, 84, 85, 86, 87, 88, 89, 90, 91, 92, 93, 94, 95, 96, 97, 98, 99, 100, 101, 102, 103, 104, 105, 106, 107, 108, 109, 110, 111, 112, 113, 114, 115, 116, 117, 118, 119, 120, 121, 122, 123] (by decide +kernel) (by decide +kernel)
set_option maxRecDepth 20000 in
theorem gX12_query_X12_isText : GoodIn wsX12_query (wsV RX12 228 RX12 yX12_isText wsX12_isText) := goodIn_app (goodIn_of _ (by decide +kernel)) ggX12_query_X12_isText
set_option maxRecDepth 20000 in
theorem ggX12_query_X12_readsStep : GoodIn wsX12_query wsX12_readsStep := goodIn_r _ [20, 4, 1, 7, 21, 22, 23, 24, 25, 26, 27, 12, 28, 5, 29, 30, 31, 32, 2, 33, 34, 35, 36, 14, 15, 16, 37, 38, 39, 40, 41, 42, 43, 83, 84, 85, 86, 87, 88, 89, 90, 91, 92, 93, 94, 95, 96, 97, 98, 99, 100, 101, 102, 103, 104, 105, 106, 107, 108, 109, 110, 111, 112, 113, 114, 115, 116, 117, 118, 119, 120, 121, 122, 123] (by decide +kernel) (by decide +kernel)
set_option maxRecDepth 20000 in
theorem gX12_query_X12_readsStep : GoodIn wsX12_query (wsV RX12 354 RX12 yX12_readsStep wsX12_readsStep) := goodIn_app (goodIn_of _ (by decide +kernel)) ggX12_query_X12_readsStep
set_option maxRecDepth 20000 in
theorem ggX12_query_X12_takesSign : GoodIn wsX12_query wsX12_takesSign := goodIn_r _ [47, 1, 29, 30, 31, 12, 32, 2, 23, 25, 26, 27, 28, 5, 83, 84, 85, 86, 87, 88, 89, 90, 91, 92, 93, 94, 95, 96, 97, 98, 99, 100, 101, 102, 103, 104, 105, 106, 107, 108, 109, 110, 111, 112, 113, 114, 115, 116, 117, 118, 119, 120, 121, 122, 123] (by decide +kernel) (by decide +kernel)
set_option maxRecDepth 20000 in
theorem gX12_query_X12_takesSign : GoodIn wsX12_query (wsV RX12 210 RX12 yX12_takesSign wsX12_takesSign) := goodIn_app (goodIn_of _ (by decide +kernel)) ggX12_query_X12_takesSign
set_option maxRecDepth 20000 in
theorem ggX12_query_X12_finds : GoodIn wsX12_query wsX12_finds := goodIn_r _ [51, 8, 52, 6, 53, 54, 55, 12, 56, 57, 58, 59, 60, 61, 62, 63, 64, 65, 66, 67, 68, 69, 70, 71, 72, 73, 74, 75, 76, 77, 78, 79, 80, 81, 82, 83, 84, 85, 86, 87, 88, 89, 90, 91, 92, 93, 94, 95, 96, 97, 98, 99, 100, 101, 102, 103, 104, 105, 106, 107, 108, 109, 110, 111, 112, 113, 114, 115, 116, 117, 118, 119, 120, 121, 122, 123] (by decide +kernel) (by decide +kernel)
set_option maxRecDepth 20000 in
theorem gX12_query_X12_finds : GoodIn wsX12_query (wsV RX12 357 RX12 yX12_finds wsX12_finds) := goodIn_app (goodIn_of _ (by decide +kernel)) ggX12_query_X12_finds
theorem dX12_query_0 : decode cX12_query 0 = .ok (.aload_n 0, 1) := by decide +kernel
theorem dX12_query_1 : decode cX12_query 1 = .ok (.iload_n 1, 1) := by decide +kernel
theorem dX12_query_2 : decode cX12_query 2 = .ok (.iconst 0, 1) := by decide +kernel
theorem dX12_query_3 : decode cX12_query 3 = .ok (.bipush 60, 2) := by decide +kernel
theorem dX12_query_5 : decode cX12_query 5 = .ok (.invokevirtual 228, 3) := by decide +kernel
theorem dX12_query_8 : decode cX12_query 8 = .ok (.ifCond .ne 5, 3) := by decide +kernel
theorem dX12_query_11 : decode cX12_query 11 = .ok (.iconst (-1), 1) := by decide +kernel
theorem dX12_query_12 : decode cX12_query 12 = .ok (.ireturn, 1) := by decide +kernel
theorem dX12_query_13 : decode cX12_query 13 = .ok (.aload_n 0, 1) := by decide +kernel
theorem dX12_query_14 : decode cX12_query 14 = .ok (.iconst 0, 1) := by decide +kernel
theorem dX12_query_15 : decode cX12_query 15 = .ok (.putfield 180, 3) := by decide +kernel
theorem dX12_query_18 : decode cX12_query 18 = .ok (.aload_n 0, 1) := by decide +kernel
theorem dX12_query_19 : decode cX12_query 19 = .ok (.iload_n 1, 1) := by decide +kernel
theorem dX12_query_20 : decode cX12_query 20 = .ok (.putfield 183, 3) := by decide +kernel
theorem dX12_query_23 : decode cX12_query 23 = .ok (.aload_n 0, 1) := by decide +kernel
theorem dX12_query_24 : decode cX12_query 24 = .ok (.iconst 0, 1) := by decide +kernel
theorem dX12_query_25 : decode cX12_query 25 = .ok (.putfield 147, 3) := by decide +kernel
theorem dX12_query_28 : decode cX12_query 28 = .ok (.aload_n 0, 1) := by decide +kernel
theorem dX12_query_29 : decode cX12_query 29 = .ok (.iconst 0, 1) := by decide +kernel
theorem dX12_query_30 : decode cX12_query 30 = .ok (.putfield 351, 3) := by decide +kernel
theorem dX12_query_33 : decode cX12_query 33 = .ok (.iload_n 1, 1) := by decide +kernel
theorem dX12_query_34 : decode cX12_query 34 = .ok (.ifCond .eq 10, 3) := by decide +kernel
theorem dX12_query_37 : decode cX12_query 37 = .ok (.aload_n 0, 1) := by decide +kernel
theorem dX12_query_38 : decode cX12_query 38 = .ok (.invokevirtual 354, 3) := by decide +kernel
theorem dX12_query_41 : decode cX12_query 41 = .ok (.ifCond .eq 7, 3) := by decide +kernel
theorem dX12_query_44 : decode cX12_query 44 = .ok (.iconst 1, 1) := by decide +kernel
theorem dX12_query_45 : decode cX12_query 45 = .ok (.goto 4, 3) := by decide +kernel
theorem dX12_query_48 : decode cX12_query 48 = .ok (.iconst 0, 1) := by decide +kernel
theorem dX12_query_49 : decode cX12_query 49 = .ok (.istore_n 2, 1) := by decide +kernel
theorem dX12_query_50 : decode cX12_query 50 = .ok (.iload_n 2, 1) := by decide +kernel
theorem dX12_query_51 : decode cX12_query 51 = .ok (.ifCond .eq 39, 3) := by decide +kernel
theorem dX12_query_54 : decode cX12_query 54 = .ok (.aload_n 0, 1) := by decide +kernel
theorem dX12_query_55 : decode cX12_query 55 = .ok (.getfield 180, 3) := by decide +kernel
theorem dX12_query_58 : decode cX12_query 58 = .ok (.aload_n 0, 1) := by decide +kernel
