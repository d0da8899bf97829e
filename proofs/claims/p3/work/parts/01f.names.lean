theorem dX12_beginsPage_7 : decode cX12_beginsPage 7 = .ok (.invokestatic 54, 3) := by decide +kernel
theorem dX12_beginsPage_10 : decode cX12_beginsPage 10 = .ok (.ireturn, 1) := by decide +kernel
set_option maxRecDepth 20000 in
theorem ggX12_marks_X12_of : GoodIn wsX12_marks wsX12_of := goodIn_r _ [5, 6, 11, 12, 13, 14, 15, 16, 17, 18, 19, 20, 21, 22, 23, 24, 25, 26, 27, 28, 29, 30, 31, 32, 33, 34, 35, 36, 37, 38, 39, 40, 41, 42, 43, 44, 45, 46, 47, 48, 49, 50, 51] (by decide +kernel) (by decide +kernel)
set_option maxRecDepth 20000 in
theorem gX12_marks_X12_of : GoodIn wsX12_marks (wsV RX12 50 RX12 yX12_of wsX12_of) := goodIn_app (goodIn_of _ (by decide +kernel)) ggX12_marks_X12_of
set_option maxRecDepth 20000 in
theorem ggX12_marks_X12_sets : GoodIn wsX12_marks wsX12_sets := goodIn_r _ [10, 6, 11, 12, 13, 14, 15, 16, 17, 18, 19, 20, 21, 22, 23, 24, 25, 26, 27, 28, 29, 30, 31, 32, 33, 34, 35, 36, 37, 38, 39, 40, 41, 42, 43, 44, 45, 46, 47, 48, 49, 50, 51] (by decide +kernel) (by decide +kernel)
set_option maxRecDepth 20000 in
theorem gX12_marks_X12_sets : GoodIn wsX12_marks (wsV RX12 58 RX12 yX12_sets wsX12_sets) := goodIn_app (goodIn_of _ (by decide +kernel)) ggX12_marks_X12_sets
theorem dX12_marks_0 : decode cX12_marks 0 = .ok (.aload_n 0, 1) := by decide +kernel
theorem dX12_marks_1 : decode cX12_marks 1 = .ok (.iload_n 1, 1) := by decide +kernel
theorem dX12_marks_2 : decode cX12_marks 2 = .ok (.iconst 2, 1) := by decide +kernel
theorem dX12_marks_3 : decode cX12_marks 3 = .ok (.iload_n 3, 1) := by decide +kernel
theorem dX12_marks_4 : decode cX12_marks 4 = .ok (.ifCond .eq 16, 3) := by decide +kernel
theorem dX12_marks_7 : decode cX12_marks 7 = .ok (.aload_n 0, 1) := by decide +kernel
theorem dX12_marks_8 : decode cX12_marks 8 = .ok (.iload_n 1, 1) := by decide +kernel
theorem dX12_marks_9 : decode cX12_marks 9 = .ok (.iconst 2, 1) := by decide +kernel
theorem dX12_marks_10 : decode cX12_marks 10 = .ok (.invokevirtual 50, 3) := by decide +kernel
theorem dX12_marks_13 : decode cX12_marks 13 = .ok (.iconst 1, 1) := by decide +kernel
theorem dX12_marks_14 : decode cX12_marks 14 = .ok (.iload_n 2, 1) := by decide +kernel
theorem dX12_marks_15 : decode cX12_marks 15 = .ok (.ishl, 1) := by decide +kernel
theorem dX12_marks_16 : decode cX12_marks 16 = .ok (.ior, 1) := by decide +kernel
theorem dX12_marks_17 : decode cX12_marks 17 = .ok (.goto 15, 3) := by decide +kernel
theorem dX12_marks_20 : decode cX12_marks 20 = .ok (.aload_n 0, 1) := by decide +kernel
theorem dX12_marks_21 : decode cX12_marks 21 = .ok (.iload_n 1, 1) := by decide +kernel
theorem dX12_marks_22 : decode cX12_marks 22 = .ok (.iconst 2, 1) := by decide +kernel
theorem dX12_marks_23 : decode cX12_marks 23 = .ok (.invokevirtual 50, 3) := by decide +kernel
theorem dX12_marks_26 : decode cX12_marks 26 = .ok (.iconst 1, 1) := by decide +kernel
theorem dX12_marks_27 : decode cX12_marks 27 = .ok (.iload_n 2, 1) := by decide +kernel
theorem dX12_marks_28 : decode cX12_marks 28 = .ok (.ishl, 1) := by decide +kernel
theorem dX12_marks_29 : decode cX12_marks 29 = .ok (.iconst (-1), 1) := by decide +kernel
theorem dX12_marks_30 : decode cX12_marks 30 = .ok (.ixor, 1) := by decide +kernel
theorem dX12_marks_31 : decode cX12_marks 31 = .ok (.iand, 1) := by decide +kernel
theorem dX12_marks_32 : decode cX12_marks 32 = .ok (.invokevirtual 58, 3) := by decide +kernel
theorem dX12_marks_35 : decode cX12_marks 35 = .ok (.return_, 1) := by decide +kernel
set_option maxRecDepth 20000 in
theorem ggX12_isThere_X12_many : GoodIn wsX12_isThere wsX12_many := goodIn_r _ [5, 6, 10, 11, 12, 13, 14, 15, 16, 17, 18, 19, 20, 21, 22, 23, 24, 25, 26, 27, 28, 29, 30, 31, 32, 33, 34, 35, 36, 37, 38, 39, 40, 41, 42, 43, 44, 45, 46, 47, 48, 49, 50] (by decide +kernel) (by decide +kernel)
set_option maxRecDepth 20000 in
theorem gX12_isThere_X12_many : GoodIn wsX12_isThere (wsV RX12 62 RX12 yX12_many wsX12_many) := goodIn_app (goodIn_of _ (by decide +kernel)) ggX12_isThere_X12_many
set_option maxRecDepth 20000 in
theorem ggX12_isThere_X12_in : GoodIn wsX12_isThere wsX12_in := goodIn_r _ [9] (by decide +kernel) (by decide +kernel)
set_option maxRecDepth 20000 in
theorem gX12_isThere_X12_in : GoodIn wsX12_isThere (va_wsS RX12 66 yX12_in wsX12_in) := goodIn_app (goodIn_of _ (by decide +kernel)) ggX12_isThere_X12_in
theorem dX12_isThere_0 : decode cX12_isThere 0 = .ok (.iload_n 1, 1) := by decide +kernel
theorem dX12_isThere_1 : decode cX12_isThere 1 = .ok (.iconst 0, 1) := by decide +kernel
theorem dX12_isThere_2 : decode cX12_isThere 2 = .ok (.aload_n 0, 1) := by decide +kernel
theorem dX12_isThere_3 : decode cX12_isThere 3 = .ok (.invokevirtual 62, 3) := by decide +kernel
theorem dX12_isThere_6 : decode cX12_isThere 6 = .ok (.iconst 1, 1) := by decide +kernel
theorem dX12_isThere_7 : decode cX12_isThere 7 = .ok (.isub, 1) := by decide +kernel
theorem dX12_isThere_8 : decode cX12_isThere 8 = .ok (.invokestatic 66, 3) := by decide +kernel
theorem dX12_isThere_11 : decode cX12_isThere 11 = .ok (.ireturn, 1) := by decide +kernel
set_option maxRecDepth 20000 in
theorem ggX12_against_X12_of : GoodIn wsX12_against wsX12_of := goodIn_r _ [7, 8, 13, 14, 15, 16, 17, 18, 19, 20, 21, 22, 23, 24, 25, 26, 27, 28, 29, 30, 31, 32, 33, 34, 35, 36, 37, 38, 39, 40, 41, 42, 43, 44, 45, 46, 47, 48, 49, 50, 51, 52, 53] (by decide +kernel) (by decide +kernel)
set_option maxRecDepth 20000 in
theorem gX12_against_X12_of : GoodIn wsX12_against (wsV RX12 50 RX12 yX12_of wsX12_of) := goodIn_app (goodIn_of _ (by decide +kernel)) ggX12_against_X12_of
set_option maxRecDepth 20000 in
theorem ggX12_against_X12_byteOf : GoodIn wsX12_against wsX12_byteOf := goodIn_r _ [12, 8, 13, 14, 15, 16, 17, 18, 19, 20, 21, 22, 23, 24, 25, 26, 27, 28, 29, 30, 31, 32, 33, 34, 35, 36, 37, 38, 39, 40, 41, 42, 43, 44, 45, 46, 47, 48, 49, 50, 51, 52, 53] (by decide +kernel) (by decide +kernel)
set_option maxRecDepth 20000 in
theorem gX12_against_X12_byteOf : GoodIn wsX12_against (wsV RX12 74 RX12 yX12_byteOf wsX12_byteOf) := goodIn_app (goodIn_of _ (by decide +kernel)) ggX12_against_X12_byteOf
theorem dX12_against_0 : decode cX12_against 0 = .ok (.iconst 0, 1) := by decide +kernel
theorem dX12_against_1 : decode cX12_against 1 = .ok (.istore_n 2, 1) := by decide +kernel
theorem dX12_against_2 : decode cX12_against 2 = .ok (.iload_n 2, 1) := by decide +kernel
theorem dX12_against_3 : decode cX12_against 3 = .ok (.aload_n 0, 1) := by decide +kernel
theorem dX12_against_4 : decode cX12_against 4 = .ok (.iload_n 1, 1) := by decide +kernel
theorem dX12_against_5 : decode cX12_against 5 = .ok (.iconst 0, 1) := by decide +kernel
theorem dX12_against_6 : decode cX12_against 6 = .ok (.invokevirtual 50, 3) := by decide +kernel
theorem dX12_against_9 : decode cX12_against 9 = .ok (.if_icmp .ge 33, 3) := by decide +kernel
theorem dX12_against_12 : decode cX12_against 12 = .ok (.iload_n 2, 1) := by decide +kernel
theorem dX12_against_13 : decode cX12_against 13 = .ok (.aload_n 0, 1) := by decide +kernel
theorem dX12_against_14 : decode cX12_against 14 = .ok (.getfield 70, 3) := by decide +kernel
theorem dX12_against_17 : decode cX12_against 17 = .ok (.if_icmp .ge 25, 3) := by decide +kernel
theorem dX12_against_20 : decode cX12_against 20 = .ok (.aload_n 0, 1) := by decide +kernel
theorem dX12_against_21 : decode cX12_against 21 = .ok (.iload_n 1, 1) := by decide +kernel
theorem dX12_against_22 : decode cX12_against 22 = .ok (.iload_n 2, 1) := by decide +kernel
theorem dX12_against_23 : decode cX12_against 23 = .ok (.invokevirtual 74, 3) := by decide +kernel
theorem dX12_against_26 : decode cX12_against 26 = .ok (.aload_n 0, 1) := by decide +kernel
theorem dX12_against_27 : decode cX12_against 27 = .ok (.getfield 13, 3) := by decide +kernel
theorem dX12_against_30 : decode cX12_against 30 = .ok (.iload_n 2, 1) := by decide +kernel
theorem dX12_against_31 : decode cX12_against 31 = .ok (.iaload, 1) := by decide +kernel
theorem dX12_against_32 : decode cX12_against 32 = .ok (.if_icmp .ne 10, 3) := by decide +kernel
theorem dX12_against_35 : decode cX12_against 35 = .ok (.iload_n 2, 1) := by decide +kernel
theorem dX12_against_36 : decode cX12_against 36 = .ok (.iconst 1, 1) := by decide +kernel
theorem dX12_against_37 : decode cX12_against 37 = .ok (.iadd, 1) := by decide +kernel
theorem dX12_against_38 : decode cX12_against 38 = .ok (.istore_n 2, 1) := by decide +kernel
theorem dX12_against_39 : decode cX12_against 39 = .ok (.goto (-37), 3) := by decide +kernel
theorem dX12_against_42 : decode cX12_against 42 = .ok (.iload_n 2, 1) := by decide +kernel
theorem dX12_against_43 : decode cX12_against 43 = .ok (.aload_n 0, 1) := by decide +kernel
theorem dX12_against_44 : decode cX12_against 44 = .ok (.iload_n 1, 1) := by decide +kernel
theorem dX12_against_45 : decode cX12_against 45 = .ok (.iconst 0, 1) := by decide +kernel
theorem dX12_against_46 : decode cX12_against 46 = .ok (.invokevirtual 50, 3) := by decide +kernel
theorem dX12_against_49 : decode cX12_against 49 = .ok (.if_icmp .eq 11, 3) := by decide +kernel
theorem dX12_against_52 : decode cX12_against 52 = .ok (.iload_n 2, 1) := by decide +kernel
theorem dX12_against_53 : decode cX12_against 53 = .ok (.aload_n 0, 1) := by decide +kernel
theorem dX12_against_54 : decode cX12_against 54 = .ok (.getfield 70, 3) := by decide +kernel
theorem dX12_against_57 : decode cX12_against 57 = .ok (.if_icmp .ne 15, 3) := by decide +kernel
theorem dX12_against_60 : decode cX12_against 60 = .ok (.aload_n 0, 1) := by decide +kernel
theorem dX12_against_61 : decode cX12_against 61 = .ok (.iload_n 1, 1) := by decide +kernel
theorem dX12_against_62 : decode cX12_against 62 = .ok (.iconst 0, 1) := by decide +kernel
theorem dX12_against_63 : decode cX12_against 63 = .ok (.invokevirtual 50, 3) := by decide +kernel
theorem dX12_against_66 : decode cX12_against 66 = .ok (.aload_n 0, 1) := by decide +kernel
theorem dX12_against_67 : decode cX12_against 67 = .ok (.getfield 70, 3) := by decide +kernel
theorem dX12_against_70 : decode cX12_against 70 = .ok (.isub, 1) := by decide +kernel
theorem dX12_against_71 : decode cX12_against 71 = .ok (.ireturn, 1) := by decide +kernel
theorem dX12_against_72 : decode cX12_against 72 = .ok (.aload_n 0, 1) := by decide +kernel
theorem dX12_against_73 : decode cX12_against 73 = .ok (.iload_n 1, 1) := by decide +kernel
theorem dX12_against_74 : decode cX12_against 74 = .ok (.iload_n 2, 1) := by decide +kernel
theorem dX12_against_75 : decode cX12_against 75 = .ok (.invokevirtual 74, 3) := by decide +kernel
theorem dX12_against_78 : decode cX12_against 78 = .ok (.aload_n 0, 1) := by decide +kernel
theorem dX12_against_79 : decode cX12_against 79 = .ok (.getfield 13, 3) := by decide +kernel
theorem dX12_against_82 : decode cX12_against 82 = .ok (.iload_n 2, 1) := by decide +kernel
theorem dX12_against_83 : decode cX12_against 83 = .ok (.iaload, 1) := by decide +kernel
theorem dX12_against_84 : decode cX12_against 84 = .ok (.isub, 1) := by decide +kernel
theorem dX12_against_85 : decode cX12_against 85 = .ok (.ireturn, 1) := by decide +kernel
set_option maxRecDepth 20000 in
theorem ggX12_rankOfHand_X12_many : GoodIn wsX12_rankOfHand wsX12_many := goodIn_r _ [5, 6, 21, 22, 23, 24, 25, 26, 27, 28, 29, 30, 31, 32, 33, 34, 35, 36, 37, 38, 39, 40, 41, 42, 43, 44, 45, 46, 47, 48, 49, 50, 51, 52, 53, 54, 55, 56, 57, 58, 59, 60, 61] (by decide +kernel) (by decide +kernel)
set_option maxRecDepth 20000 in
theorem gX12_rankOfHand_X12_many : GoodIn wsX12_rankOfHand (wsV RX12 62 RX12 yX12_many wsX12_many) := goodIn_app (goodIn_of _ (by decide +kernel)) ggX12_rankOfHand_X12_many
set_option maxRecDepth 20000 in
theorem ggX12_rankOfHand_X12_against : GoodIn wsX12_rankOfHand wsX12_against := goodIn_r _ [10, 11, 12, 13, 14, 15, 4, 16, 6, 17, 18, 19, 20, 21, 22, 23, 24, 25, 26, 27, 28, 29, 30, 31, 32, 33, 34, 35, 36, 37, 38, 39, 40, 41, 42, 43, 44, 45, 46, 47, 48, 49, 50, 51, 52, 53, 54, 55, 56, 57, 58, 59, 60, 61] (by decide +kernel) (by decide +kernel)
set_option maxRecDepth 20000 in
theorem gX12_rankOfHand_X12_against : GoodIn wsX12_rankOfHand (wsV RX12 77 RX12 yX12_against wsX12_against) := goodIn_app (goodIn_of _ (by decide +kernel)) ggX12_rankOfHand_X12_against
theorem dX12_rankOfHand_0 : decode cX12_rankOfHand 0 = .ok (.iconst 0, 1) := by decide +kernel
theorem dX12_rankOfHand_1 : decode cX12_rankOfHand 1 = .ok (.istore_n 1, 1) := by decide +kernel
theorem dX12_rankOfHand_2 : decode cX12_rankOfHand 2 = .ok (.iload_n 1, 1) := by decide +kernel
theorem dX12_rankOfHand_3 : decode cX12_rankOfHand 3 = .ok (.aload_n 0, 1) := by decide +kernel
theorem dX12_rankOfHand_4 : decode cX12_rankOfHand 4 = .ok (.invokevirtual 62, 3) := by decide +kernel
theorem dX12_rankOfHand_7 : decode cX12_rankOfHand 7 = .ok (.if_icmp .ge 18, 3) := by decide +kernel
theorem dX12_rankOfHand_10 : decode cX12_rankOfHand 10 = .ok (.aload_n 0, 1) := by decide +kernel
theorem dX12_rankOfHand_11 : decode cX12_rankOfHand 11 = .ok (.iload_n 1, 1) := by decide +kernel
theorem dX12_rankOfHand_12 : decode cX12_rankOfHand 12 = .ok (.invokevirtual 77, 3) := by decide +kernel
theorem dX12_rankOfHand_15 : decode cX12_rankOfHand 15 = .ok (.ifCond .ge 10, 3) := by decide +kernel
theorem dX12_rankOfHand_18 : decode cX12_rankOfHand 18 = .ok (.iload_n 1, 1) := by decide +kernel
theorem dX12_rankOfHand_19 : decode cX12_rankOfHand 19 = .ok (.iconst 1, 1) := by decide +kernel
theorem dX12_rankOfHand_20 : decode cX12_rankOfHand 20 = .ok (.iadd, 1) := by decide +kernel
theorem dX12_rankOfHand_21 : decode cX12_rankOfHand 21 = .ok (.istore_n 1, 1) := by decide +kernel
theorem dX12_rankOfHand_22 : decode cX12_rankOfHand 22 = .ok (.goto (-20), 3) := by decide +kernel
theorem dX12_rankOfHand_25 : decode cX12_rankOfHand 25 = .ok (.iload_n 1, 1) := by decide +kernel
theorem dX12_rankOfHand_26 : decode cX12_rankOfHand 26 = .ok (.ireturn, 1) := by decide +kernel
set_option maxRecDepth 20000 in
theorem ggX12_isHandThere_X12_rankOfHand : GoodIn wsX12_isHandThere wsX12_rankOfHand := goodIn_r _ [5, 6, 7, 8, 4, 9, 10, 11, 12, 13, 14, 15, 16, 17, 18, 19, 20, 21, 22, 23, 24, 25, 26, 27, 28, 29, 30, 31, 32, 33, 34, 35, 36, 37, 38, 39, 40, 41, 42, 43, 44, 45, 46, 47, 48, 49, 50, 51, 52, 53, 54, 55, 56, 57, 58, 59, 60, 61, 62, 63, 64, 65] (by decide +kernel) (by decide +kernel)
set_option maxRecDepth 20000 in
theorem gX12_isHandThere_X12_rankOfHand : GoodIn wsX12_isHandThere (wsV RX12 81 RX12 yX12_rankOfHand wsX12_rankOfHand) := goodIn_app (goodIn_of _ (by decide +kernel)) ggX12_isHandThere_X12_rankOfHand
set_option maxRecDepth 20000 in
theorem ggX12_isHandThere_X12_many : GoodIn wsX12_isHandThere wsX12_many := goodIn_r _ [9, 10, 25, 26, 27, 28, 29, 30, 31, 32, 33, 34, 35, 36, 37, 38, 39, 40, 41, 42, 43, 44, 45, 46, 47, 48, 49, 50, 51, 52, 53, 54, 55, 56, 57, 58, 59, 60, 61, 62, 63, 64, 65] (by decide +kernel) (by decide +kernel)
set_option maxRecDepth 20000 in
theorem gX12_isHandThere_X12_many : GoodIn wsX12_isHandThere (wsV RX12 62 RX12 yX12_many wsX12_many) := goodIn_app (goodIn_of _ (by decide +kernel)) ggX12_isHandThere_X12_many
set_option maxRecDepth 20000 in
theorem ggX12_isHandThere_X12_against : GoodIn wsX12_isHandThere wsX12_against := goodIn_r _ [14, 15, 16, 17, 18, 19, 4, 20, 10, 21, 22, 23, 24, 25, 26, 27, 28, 29, 30, 31, 32, 33, 34, 35, 36, 37, 38, 39, 40, 41, 42, 43, 44, 45, 46, 47, 48, 49, 50, 51, 52, 53, 54, 55, 56, 57, 58, 59, 60, 61, 62, 63, 64, 65] (by decide +kernel) (by decide +kernel)
set_option maxRecDepth 20000 in
theorem gX12_isHandThere_X12_against : GoodIn wsX12_isHandThere (wsV RX12 77 RX12 yX12_against wsX12_against) := goodIn_app (goodIn_of _ (by decide +kernel)) ggX12_isHandThere_X12_against
theorem dX12_isHandThere_0 : decode cX12_isHandThere 0 = .ok (.aload_n 0, 1) := by decide +kernel
theorem dX12_isHandThere_1 : decode cX12_isHandThere 1 = .ok (.invokevirtual 81, 3) := by decide +kernel
theorem dX12_isHandThere_4 : decode cX12_isHandThere 4 = .ok (.istore_n 1, 1) := by decide +kernel
theorem dX12_isHandThere_5 : decode cX12_isHandThere 5 = .ok (.iload_n 1, 1) := by decide +kernel
theorem dX12_isHandThere_6 : decode cX12_isHandThere 6 = .ok (.aload_n 0, 1) := by decide +kernel
theorem dX12_isHandThere_7 : decode cX12_isHandThere 7 = .ok (.invokevirtual 62, 3) := by decide +kernel
theorem dX12_isHandThere_10 : decode cX12_isHandThere 10 = .ok (.if_icmp .ge 15, 3) := by decide +kernel
theorem dX12_isHandThere_13 : decode cX12_isHandThere 13 = .ok (.aload_n 0, 1) := by decide +kernel
theorem dX12_isHandThere_14 : decode cX12_isHandThere 14 = .ok (.iload_n 1, 1) := by decide +kernel
theorem dX12_isHandThere_15 : decode cX12_isHandThere 15 = .ok (.invokevirtual 77, 3) := by decide +kernel
theorem dX12_isHandThere_18 : decode cX12_isHandThere 18 = .ok (.ifCond .ne 7, 3) := by decide +kernel
theorem dX12_isHandThere_21 : decode cX12_isHandThere 21 = .ok (.iconst 1, 1) := by decide +kernel
theorem dX12_isHandThere_22 : decode cX12_isHandThere 22 = .ok (.goto 4, 3) := by decide +kernel
theorem dX12_isHandThere_25 : decode cX12_isHandThere 25 = .ok (.iconst 0, 1) := by decide +kernel
theorem dX12_isHandThere_26 : decode cX12_isHandThere 26 = .ok (.ireturn, 1) := by decide +kernel
set_option maxRecDepth 20000 in
theorem ggX12_goesOn_X12_of : GoodIn wsX12_goesOn wsX12_of := goodIn_r _ [7, 8, 13, 14, 15, 16, 17, 18, 19, 20, 21, 22, 23, 24, 25, 26, 27, 28, 29, 30, 31, 32, 33, 34, 35, 36, 37, 38, 39, 40, 41, 42, 43, 44, 45, 46, 47, 48, 49, 50, 51, 52, 53] (by decide +kernel) (by decide +kernel)
set_option maxRecDepth 20000 in
theorem gX12_goesOn_X12_of : GoodIn wsX12_goesOn (wsV RX12 50 RX12 yX12_of wsX12_of) := goodIn_app (goodIn_of _ (by decide +kernel)) ggX12_goesOn_X12_of
set_option maxRecDepth 20000 in
theorem ggX12_goesOn_X12_byteOf : GoodIn wsX12_goesOn wsX12_byteOf := goodIn_r _ [12, 8, 13, 14, 15, 16, 17, 18, 19, 20, 21, 22, 23, 24, 25, 26, 27, 28, 29, 30, 31, 32, 33, 34, 35, 36, 37, 38, 39, 40, 41, 42, 43, 44, 45, 46, 47, 48, 49, 50, 51, 52, 53] (by decide +kernel) (by decide +kernel)
set_option maxRecDepth 20000 in
theorem gX12_goesOn_X12_byteOf : GoodIn wsX12_goesOn (wsV RX12 74 RX12 yX12_byteOf wsX12_byteOf) := goodIn_app (goodIn_of _ (by decide +kernel)) ggX12_goesOn_X12_byteOf
theorem dX12_goesOn_0 : decode cX12_goesOn 0 = .ok (.aload_n 0, 1) := by decide +kernel
theorem dX12_goesOn_1 : decode cX12_goesOn 1 = .ok (.iload_n 1, 1) := by decide +kernel
theorem dX12_goesOn_2 : decode cX12_goesOn 2 = .ok (.iconst 0, 1) := by decide +kernel
theorem dX12_goesOn_3 : decode cX12_goesOn 3 = .ok (.invokevirtual 50, 3) := by decide +kernel
theorem dX12_goesOn_6 : decode cX12_goesOn 6 = .ok (.iload_n 2, 1) := by decide +kernel
theorem dX12_goesOn_7 : decode cX12_goesOn 7 = .ok (.if_icmp .le 11, 3) := by decide +kernel
theorem dX12_goesOn_10 : decode cX12_goesOn 10 = .ok (.aload_n 0, 1) := by decide +kernel
theorem dX12_goesOn_11 : decode cX12_goesOn 11 = .ok (.getfield 70, 3) := by decide +kernel
theorem dX12_goesOn_14 : decode cX12_goesOn 14 = .ok (.iload_n 2, 1) := by decide +kernel
theorem dX12_goesOn_15 : decode cX12_goesOn 15 = .ok (.if_icmp .ge 5, 3) := by decide +kernel
theorem dX12_goesOn_18 : decode cX12_goesOn 18 = .ok (.iconst 0, 1) := by decide +kernel
theorem dX12_goesOn_19 : decode cX12_goesOn 19 = .ok (.ireturn, 1) := by decide +kernel
theorem dX12_goesOn_20 : decode cX12_goesOn 20 = .ok (.iconst 0, 1) := by decide +kernel
theorem dX12_goesOn_21 : decode cX12_goesOn 21 = .ok (.istore_n 3, 1) := by decide +kernel
theorem dX12_goesOn_22 : decode cX12_goesOn 22 = .ok (.iload_n 3, 1) := by decide +kernel
theorem dX12_goesOn_23 : decode cX12_goesOn 23 = .ok (.iload_n 2, 1) := by decide +kernel
theorem dX12_goesOn_24 : decode cX12_goesOn 24 = .ok (.if_icmp .ge 26, 3) := by decide +kernel
theorem dX12_goesOn_27 : decode cX12_goesOn 27 = .ok (.aload_n 0, 1) := by decide +kernel
theorem dX12_goesOn_28 : decode cX12_goesOn 28 = .ok (.iload_n 1, 1) := by decide +kernel
theorem dX12_goesOn_29 : decode cX12_goesOn 29 = .ok (.iload_n 3, 1) := by decide +kernel
theorem dX12_goesOn_30 : decode cX12_goesOn 30 = .ok (.invokevirtual 74, 3) := by decide +kernel
theorem dX12_goesOn_33 : decode cX12_goesOn 33 = .ok (.aload_n 0, 1) := by decide +kernel
theorem dX12_goesOn_34 : decode cX12_goesOn 34 = .ok (.getfield 13, 3) := by decide +kernel
theorem dX12_goesOn_37 : decode cX12_goesOn 37 = .ok (.iload_n 3, 1) := by decide +kernel
theorem dX12_goesOn_38 : decode cX12_goesOn 38 = .ok (.iaload, 1) := by decide +kernel
theorem dX12_goesOn_39 : decode cX12_goesOn 39 = .ok (.if_icmp .eq 5, 3) := by decide +kernel
theorem dX12_goesOn_42 : decode cX12_goesOn 42 = .ok (.iconst 0, 1) := by decide +kernel
theorem dX12_goesOn_43 : decode cX12_goesOn 43 = .ok (.ireturn, 1) := by decide +kernel
theorem dX12_goesOn_44 : decode cX12_goesOn 44 = .ok (.iinc 3 1, 3) := by decide +kernel
theorem dX12_goesOn_47 : decode cX12_goesOn 47 = .ok (.goto (-25), 3) := by decide +kernel
theorem dX12_goesOn_50 : decode cX12_goesOn 50 = .ok (.iconst 1, 1) := by decide +kernel
theorem dX12_goesOn_51 : decode cX12_goesOn 51 = .ok (.ireturn, 1) := by decide +kernel
set_option maxRecDepth 20000 in
theorem ggX12_takesHand_X12_of : GoodIn wsX12_takesHand wsX12_of := goodIn_r _ [7, 8, 13, 14, 15, 16, 17, 18, 19, 20, 21, 22, 23, 24, 25, 26, 27, 28, 29, 30, 31, 32, 33, 34, 35, 36, 37, 38, 39, 40, 41, 42, 43, 44, 45, 46, 47, 48, 49, 50, 51, 52, 53] (by decide +kernel) (by decide +kernel)
set_option maxRecDepth 20000 in
theorem gX12_takesHand_X12_of : GoodIn wsX12_takesHand (wsV RX12 50 RX12 yX12_of wsX12_of) := goodIn_app (goodIn_of _ (by decide +kernel)) ggX12_takesHand_X12_of
set_option maxRecDepth 20000 in
theorem ggX12_takesHand_X12_byteOf : GoodIn wsX12_takesHand wsX12_byteOf := goodIn_r _ [12, 8, 13, 14, 15, 16, 17, 18, 19, 20, 21, 22, 23, 24, 25, 26, 27, 28, 29, 30, 31, 32, 33, 34, 35, 36, 37, 38, 39, 40, 41, 42, 43, 44, 45, 46, 47, 48, 49, 50, 51, 52, 53] (by decide +kernel) (by decide +kernel)
set_option maxRecDepth 20000 in
theorem gX12_takesHand_X12_byteOf : GoodIn wsX12_takesHand (wsV RX12 74 RX12 yX12_byteOf wsX12_byteOf) := goodIn_app (goodIn_of _ (by decide +kernel)) ggX12_takesHand_X12_byteOf
theorem dX12_takesHand_0 : decode cX12_takesHand 0 = .ok (.aload_n 0, 1) := by decide +kernel
theorem dX12_takesHand_1 : decode cX12_takesHand 1 = .ok (.aload_n 0, 1) := by decide +kernel
theorem dX12_takesHand_2 : decode cX12_takesHand 2 = .ok (.iload_n 1, 1) := by decide +kernel
theorem dX12_takesHand_3 : decode cX12_takesHand 3 = .ok (.iconst 0, 1) := by decide +kernel
theorem dX12_takesHand_4 : decode cX12_takesHand 4 = .ok (.invokevirtual 50, 3) := by decide +kernel
theorem dX12_takesHand_7 : decode cX12_takesHand 7 = .ok (.putfield 70, 3) := by decide +kernel
theorem dX12_takesHand_10 : decode cX12_takesHand 10 = .ok (.iconst 0, 1) := by decide +kernel
theorem dX12_takesHand_11 : decode cX12_takesHand 11 = .ok (.istore_n 2, 1) := by decide +kernel
theorem dX12_takesHand_12 : decode cX12_takesHand 12 = .ok (.iload_n 2, 1) := by decide +kernel
theorem dX12_takesHand_13 : decode cX12_takesHand 13 = .ok (.aload_n 0, 1) := by decide +kernel
theorem dX12_takesHand_14 : decode cX12_takesHand 14 = .ok (.getfield 70, 3) := by decide +kernel
theorem dX12_takesHand_17 : decode cX12_takesHand 17 = .ok (.if_icmp .ge 21, 3) := by decide +kernel
theorem dX12_takesHand_20 : decode cX12_takesHand 20 = .ok (.aload_n 0, 1) := by decide +kernel
theorem dX12_takesHand_21 : decode cX12_takesHand 21 = .ok (.getfield 13, 3) := by decide +kernel
theorem dX12_takesHand_24 : decode cX12_takesHand 24 = .ok (.iload_n 2, 1) := by decide +kernel
theorem dX12_takesHand_25 : decode cX12_takesHand 25 = .ok (.aload_n 0, 1) := by decide +kernel
theorem dX12_takesHand_26 : decode cX12_takesHand 26 = .ok (.iload_n 1, 1) := by decide +kernel
theorem dX12_takesHand_27 : decode cX12_takesHand 27 = .ok (.iload_n 2, 1) := by decide +kernel
theorem dX12_takesHand_28 : decode cX12_takesHand 28 = .ok (.invokevirtual 74, 3) := by decide +kernel
theorem dX12_takesHand_31 : decode cX12_takesHand 31 = .ok (.iastore, 1) := by decide +kernel
theorem dX12_takesHand_32 : decode cX12_takesHand 32 = .ok (.iinc 2 1, 3) := by decide +kernel
theorem dX12_takesHand_35 : decode cX12_takesHand 35 = .ok (.goto (-23), 3) := by decide +kernel
theorem dX12_takesHand_38 : decode cX12_takesHand 38 = .ok (.return_, 1) := by decide +kernel
set_option maxRecDepth 20000 in
theorem ggX12_findsRange_X12_many : GoodIn wsX12_findsRange wsX12_many := goodIn_r _ [7, 8, 23, 24, 25, 26, 27, 28, 29, 30, 31, 32, 33, 34, 35, 36, 37, 38, 39, 40, 41, 42, 43, 44, 45, 46, 47, 48, 49, 50, 51, 52, 53, 54, 55, 56, 57, 58, 59, 60, 61, 62, 63] (by decide +kernel) (by decide +kernel)
set_option maxRecDepth 20000 in
theorem gX12_findsRange_X12_many : GoodIn wsX12_findsRange (wsV RX12 62 RX12 yX12_many wsX12_many) := goodIn_app (goodIn_of _ (by decide +kernel)) ggX12_findsRange_X12_many
set_option maxRecDepth 20000 in
theorem ggX12_findsRange_X12_goesOn : GoodIn wsX12_findsRange wsX12_goesOn := goodIn_r _ [12, 13, 14, 15, 16, 17, 6, 18, 8, 19, 20, 21, 22, 23, 24, 25, 26, 27, 28, 29, 30, 31, 32, 33, 34, 35, 36, 37, 38, 39, 40, 41, 42, 43, 44, 45, 46, 47, 48, 49, 50, 51, 52, 53, 54, 55, 56, 57, 58, 59, 60, 61, 62, 63] (by decide +kernel) (by decide +kernel)
set_option maxRecDepth 20000 in
theorem gX12_findsRange_X12_goesOn : GoodIn wsX12_findsRange (wsV RX12 87 RX12 yX12_goesOn wsX12_goesOn) := goodIn_app (goodIn_of _ (by decide +kernel)) ggX12_findsRange_X12_goesOn
theorem dX12_findsRange_0 : decode cX12_findsRange 0 = .ok (.aload_n 0, 1) := by decide +kernel
theorem dX12_findsRange_1 : decode cX12_findsRange 1 = .ok (.iconst 0, 1) := by decide +kernel
theorem dX12_findsRange_2 : decode cX12_findsRange 2 = .ok (.putfield 84, 3) := by decide +kernel
theorem dX12_findsRange_5 : decode cX12_findsRange 5 = .ok (.aload_n 0, 1) := by decide +kernel
theorem dX12_findsRange_6 : decode cX12_findsRange 6 = .ok (.getfield 84, 3) := by decide +kernel
theorem dX12_findsRange_9 : decode cX12_findsRange 9 = .ok (.aload_n 0, 1) := by decide +kernel
theorem dX12_findsRange_10 : decode cX12_findsRange 10 = .ok (.invokevirtual 62, 3) := by decide +kernel
theorem dX12_findsRange_13 : decode cX12_findsRange 13 = .ok (.if_icmp .ge 28, 3) := by decide +kernel
theorem dX12_findsRange_16 : decode cX12_findsRange 16 = .ok (.aload_n 0, 1) := by decide +kernel
theorem dX12_findsRange_17 : decode cX12_findsRange 17 = .ok (.aload_n 0, 1) := by decide +kernel
theorem dX12_findsRange_18 : decode cX12_findsRange 18 = .ok (.getfield 84, 3) := by decide +kernel
theorem dX12_findsRange_21 : decode cX12_findsRange 21 = .ok (.iload_n 1, 1) := by decide +kernel
theorem dX12_findsRange_22 : decode cX12_findsRange 22 = .ok (.invokevirtual 87, 3) := by decide +kernel
theorem dX12_findsRange_25 : decode cX12_findsRange 25 = .ok (.ifCond .ne 16, 3) := by decide +kernel
theorem dX12_findsRange_28 : decode cX12_findsRange 28 = .ok (.aload_n 0, 1) := by decide +kernel
theorem dX12_findsRange_29 : decode cX12_findsRange 29 = .ok (.aload_n 0, 1) := by decide +kernel
theorem dX12_findsRange_30 : decode cX12_findsRange 30 = .ok (.getfield 84, 3) := by decide +kernel
theorem dX12_findsRange_33 : decode cX12_findsRange 33 = .ok (.iconst 1, 1) := by decide +kernel
theorem dX12_findsRange_34 : decode cX12_findsRange 34 = .ok (.iadd, 1) := by decide +kernel
theorem dX12_findsRange_35 : decode cX12_findsRange 35 = .ok (.putfield 84, 3) := by decide +kernel
theorem dX12_findsRange_38 : decode cX12_findsRange 38 = .ok (.goto (-33), 3) := by decide +kernel
theorem dX12_findsRange_41 : decode cX12_findsRange 41 = .ok (.aload_n 0, 1) := by decide +kernel
theorem dX12_findsRange_42 : decode cX12_findsRange 42 = .ok (.aload_n 0, 1) := by decide +kernel
theorem dX12_findsRange_43 : decode cX12_findsRange 43 = .ok (.getfield 84, 3) := by decide +kernel
theorem dX12_findsRange_46 : decode cX12_findsRange 46 = .ok (.putfield 90, 3) := by decide +kernel
theorem dX12_findsRange_49 : decode cX12_findsRange 49 = .ok (.aload_n 0, 1) := by decide +kernel
theorem dX12_findsRange_50 : decode cX12_findsRange 50 = .ok (.getfield 90, 3) := by decide +kernel
theorem dX12_findsRange_53 : decode cX12_findsRange 53 = .ok (.aload_n 0, 1) := by decide +kernel
theorem dX12_findsRange_54 : decode cX12_findsRange 54 = .ok (.invokevirtual 62, 3) := by decide +kernel
theorem dX12_findsRange_57 : decode cX12_findsRange 57 = .ok (.if_icmp .ge 28, 3) := by decide +kernel
theorem dX12_findsRange_60 : decode cX12_findsRange 60 = .ok (.aload_n 0, 1) := by decide +kernel
theorem dX12_findsRange_61 : decode cX12_findsRange 61 = .ok (.aload_n 0, 1) := by decide +kernel
theorem dX12_findsRange_62 : decode cX12_findsRange 62 = .ok (.getfield 90, 3) := by decide +kernel
theorem dX12_findsRange_65 : decode cX12_findsRange 65 = .ok (.iload_n 1, 1) := by decide +kernel
theorem dX12_findsRange_66 : decode cX12_findsRange 66 = .ok (.invokevirtual 87, 3) := by decide +kernel
theorem dX12_findsRange_69 : decode cX12_findsRange 69 = .ok (.ifCond .eq 16, 3) := by decide +kernel
theorem dX12_findsRange_72 : decode cX12_findsRange 72 = .ok (.aload_n 0, 1) := by decide +kernel
theorem dX12_findsRange_73 : decode cX12_findsRange 73 = .ok (.aload_n 0, 1) := by decide +kernel
theorem dX12_findsRange_74 : decode cX12_findsRange 74 = .ok (.getfield 90, 3) := by decide +kernel
theorem dX12_findsRange_77 : decode cX12_findsRange 77 = .ok (.iconst 1, 1) := by decide +kernel
theorem dX12_findsRange_78 : decode cX12_findsRange 78 = .ok (.iadd, 1) := by decide +kernel
theorem dX12_findsRange_79 : decode cX12_findsRange 79 = .ok (.putfield 90, 3) := by decide +kernel
theorem dX12_findsRange_82 : decode cX12_findsRange 82 = .ok (.goto (-33), 3) := by decide +kernel
theorem dX12_findsRange_85 : decode cX12_findsRange 85 = .ok (.return_, 1) := by decide +kernel
set_option maxRecDepth 20000 in
theorem ggX12_areOne_X12_of : GoodIn wsX12_areOne wsX12_of := goodIn_r _ [5, 6, 11, 12, 13, 14, 15, 16, 17, 18, 19, 20, 21, 22, 23, 24, 25, 26, 27, 28, 29, 30, 31, 32, 33, 34, 35, 36, 37, 38, 39, 40, 41, 42, 43, 44, 45, 46, 47, 48, 49, 50, 51] (by decide +kernel) (by decide +kernel)
set_option maxRecDepth 20000 in
theorem gX12_areOne_X12_of : GoodIn wsX12_areOne (wsV RX12 50 RX12 yX12_of wsX12_of) := goodIn_app (goodIn_of _ (by decide +kernel)) ggX12_areOne_X12_of
set_option maxRecDepth 20000 in
theorem ggX12_areOne_X12_byteOf : GoodIn wsX12_areOne wsX12_byteOf := goodIn_r _ [10, 6, 11, 12, 13, 14, 15, 16, 17, 18, 19, 20, 21, 22, 23, 24, 25, 26, 27, 28, 29, 30, 31, 32, 33, 34, 35, 36, 37, 38, 39, 40, 41, 42, 43, 44, 45, 46, 47, 48, 49, 50, 51] (by decide +kernel) (by decide +kernel)
set_option maxRecDepth 20000 in
theorem gX12_areOne_X12_byteOf : GoodIn wsX12_areOne (wsV RX12 74 RX12 yX12_byteOf wsX12_byteOf) := goodIn_app (goodIn_of _ (by decide +kernel)) ggX12_areOne_X12_byteOf
theorem dX12_areOne_0 : decode cX12_areOne 0 = .ok (.aload_n 0, 1) := by decide +kernel
theorem dX12_areOne_1 : decode cX12_areOne 1 = .ok (.iload_n 1, 1) := by decide +kernel
theorem dX12_areOne_2 : decode cX12_areOne 2 = .ok (.iconst 0, 1) := by decide +kernel
theorem dX12_areOne_3 : decode cX12_areOne 3 = .ok (.invokevirtual 50, 3) := by decide +kernel
theorem dX12_areOne_6 : decode cX12_areOne 6 = .ok (.iload_n 3, 1) := by decide +kernel
theorem dX12_areOne_7 : decode cX12_areOne 7 = .ok (.if_icmp .le 13, 3) := by decide +kernel
theorem dX12_areOne_10 : decode cX12_areOne 10 = .ok (.aload_n 0, 1) := by decide +kernel
theorem dX12_areOne_11 : decode cX12_areOne 11 = .ok (.iload_n 2, 1) := by decide +kernel
theorem dX12_areOne_12 : decode cX12_areOne 12 = .ok (.iconst 0, 1) := by decide +kernel
theorem dX12_areOne_13 : decode cX12_areOne 13 = .ok (.invokevirtual 50, 3) := by decide +kernel
theorem dX12_areOne_16 : decode cX12_areOne 16 = .ok (.iload_n 3, 1) := by decide +kernel
theorem dX12_areOne_17 : decode cX12_areOne 17 = .ok (.if_icmp .gt 5, 3) := by decide +kernel
theorem dX12_areOne_20 : decode cX12_areOne 20 = .ok (.iconst 0, 1) := by decide +kernel
theorem dX12_areOne_21 : decode cX12_areOne 21 = .ok (.ireturn, 1) := by decide +kernel
theorem dX12_areOne_22 : decode cX12_areOne 22 = .ok (.iconst 0, 1) := by decide +kernel
theorem dX12_areOne_23 : decode cX12_areOne 23 = .ok (.istore 4, 2) := by decide +kernel
theorem dX12_areOne_25 : decode cX12_areOne 25 = .ok (.iload 4, 2) := by decide +kernel
theorem dX12_areOne_27 : decode cX12_areOne 27 = .ok (.iload_n 3, 1) := by decide +kernel
theorem dX12_areOne_28 : decode cX12_areOne 28 = .ok (.if_icmp .ge 28, 3) := by decide +kernel
theorem dX12_areOne_31 : decode cX12_areOne 31 = .ok (.aload_n 0, 1) := by decide +kernel
theorem dX12_areOne_32 : decode cX12_areOne 32 = .ok (.iload_n 1, 1) := by decide +kernel
theorem dX12_areOne_33 : decode cX12_areOne 33 = .ok (.iload 4, 2) := by decide +kernel
theorem dX12_areOne_35 : decode cX12_areOne 35 = .ok (.invokevirtual 74, 3) := by decide +kernel
theorem dX12_areOne_38 : decode cX12_areOne 38 = .ok (.aload_n 0, 1) := by decide +kernel
theorem dX12_areOne_39 : decode cX12_areOne 39 = .ok (.iload_n 2, 1) := by decide +kernel
theorem dX12_areOne_40 : decode cX12_areOne 40 = .ok (.iload 4, 2) := by decide +kernel
theorem dX12_areOne_42 : decode cX12_areOne 42 = .ok (.invokevirtual 74, 3) := by decide +kernel
theorem dX12_areOne_45 : decode cX12_areOne 45 = .ok (.if_icmp .eq 5, 3) := by decide +kernel
theorem dX12_areOne_48 : decode cX12_areOne 48 = .ok (.iconst 0, 1) := by decide +kernel
theorem dX12_areOne_49 : decode cX12_areOne 49 = .ok (.ireturn, 1) := by decide +kernel
theorem dX12_areOne_50 : decode cX12_areOne 50 = .ok (.iinc 4 1, 3) := by decide +kernel
theorem dX12_areOne_53 : decode cX12_areOne 53 = .ok (.goto (-28), 3) := by decide +kernel
theorem dX12_areOne_56 : decode cX12_areOne 56 = .ok (.iconst 1, 1) := by decide +kernel
theorem dX12_areOne_57 : decode cX12_areOne 57 = .ok (.ireturn, 1) := by decide +kernel
set_option maxRecDepth 20000 in
theorem ggX12_findsEntries_X12_findsRange : GoodIn wsX12_findsEntries wsX12_findsRange := goodIn_r _ [11, 3, 4, 12, 13, 14, 10, 15, 1, 16, 17, 18, 19, 20, 21, 22, 23, 24, 25, 26, 27, 28, 29, 34, 35, 36, 37, 38, 39, 40, 41, 42, 43, 44, 45, 46, 47, 48, 49, 50, 51, 52, 53, 54, 55, 56, 57, 58, 59, 60, 61, 62, 63, 64, 65, 66, 67, 68, 69, 70, 71, 72, 73, 74] (by decide +kernel) (by decide +kernel)
set_option maxRecDepth 20000 in
theorem gX12_findsEntries_X12_findsRange : GoodIn wsX12_findsEntries (wsV RX12 93 RX12 yX12_findsRange wsX12_findsRange) := goodIn_app (goodIn_of _ (by decide +kernel)) ggX12_findsEntries_X12_findsRange
set_option maxRecDepth 20000 in
theorem ggX12_findsEntries_X12_areOne : GoodIn wsX12_findsEntries wsX12_areOne := goodIn_r _ [33, 22, 23, 24, 10, 25, 1, 26, 27, 28, 29, 34, 35, 36, 37, 38, 39, 40, 41, 42, 43, 44, 45, 46, 47, 48, 49, 50, 51, 52, 53, 54, 55, 56, 57, 58, 59, 60, 61, 62, 63, 64, 65, 66, 67, 68, 69, 70, 71, 72, 73, 74] (by decide +kernel) (by decide +kernel)
set_option maxRecDepth 20000 in
theorem gX12_findsEntries_X12_areOne : GoodIn wsX12_findsEntries (wsV RX12 100 RX12 yX12_areOne wsX12_areOne) := goodIn_app (goodIn_of _ (by decide +kernel)) ggX12_findsEntries_X12_areOne
set_option maxRecDepth 20000 in
theorem ggX12_findsEntries_X12_of : GoodIn wsX12_findsEntries wsX12_of := goodIn_r _ [25, 1, 34, 35, 36, 37, 38, 39, 40, 41, 42, 43, 44, 45, 46, 47, 48, 49, 50, 51, 52, 53, 54, 55, 56, 57, 58, 59, 60, 61, 62, 63, 64, 65, 66, 67, 68, 69, 70, 71, 72, 73, 74] (by decide +kernel) (by decide +kernel)
set_option maxRecDepth 20000 in
theorem gX12_findsEntries_X12_of : GoodIn wsX12_findsEntries (wsV RX12 50 RX12 yX12_of wsX12_of) := goodIn_app (goodIn_of _ (by decide +kernel)) ggX12_findsEntries_X12_of
theorem dX12_findsEntries_0 : decode cX12_findsEntries 0 = .ok (.aload_n 0, 1) := by decide +kernel
theorem dX12_findsEntries_1 : decode cX12_findsEntries 1 = .ok (.iload_n 1, 1) := by decide +kernel
theorem dX12_findsEntries_2 : decode cX12_findsEntries 2 = .ok (.aload_n 0, 1) := by decide +kernel
theorem dX12_findsEntries_3 : decode cX12_findsEntries 3 = .ok (.getfield 7, 3) := by decide +kernel
theorem dX12_findsEntries_6 : decode cX12_findsEntries 6 = .ok (.iconst 1, 1) := by decide +kernel
theorem dX12_findsEntries_7 : decode cX12_findsEntries 7 = .ok (.iaload, 1) := by decide +kernel
theorem dX12_findsEntries_8 : decode cX12_findsEntries 8 = .ok (.imul, 1) := by decide +kernel
theorem dX12_findsEntries_9 : decode cX12_findsEntries 9 = .ok (.invokevirtual 93, 3) := by decide +kernel
theorem dX12_findsEntries_12 : decode cX12_findsEntries 12 = .ok (.iload_n 1, 1) := by decide +kernel
theorem dX12_findsEntries_13 : decode cX12_findsEntries 13 = .ok (.iconst 1, 1) := by decide +kernel
theorem dX12_findsEntries_14 : decode cX12_findsEntries 14 = .ok (.iadd, 1) := by decide +kernel
theorem dX12_findsEntries_15 : decode cX12_findsEntries 15 = .ok (.aload_n 0, 1) := by decide +kernel
theorem dX12_findsEntries_16 : decode cX12_findsEntries 16 = .ok (.getfield 7, 3) := by decide +kernel
theorem dX12_findsEntries_19 : decode cX12_findsEntries 19 = .ok (.iconst 1, 1) := by decide +kernel
theorem dX12_findsEntries_20 : decode cX12_findsEntries 20 = .ok (.iaload, 1) := by decide +kernel
theorem dX12_findsEntries_21 : decode cX12_findsEntries 21 = .ok (.imul, 1) := by decide +kernel
theorem dX12_findsEntries_22 : decode cX12_findsEntries 22 = .ok (.istore_n 2, 1) := by decide +kernel
theorem dX12_findsEntries_23 : decode cX12_findsEntries 23 = .ok (.aload_n 0, 1) := by decide +kernel
theorem dX12_findsEntries_24 : decode cX12_findsEntries 24 = .ok (.iconst 0, 1) := by decide +kernel
theorem dX12_findsEntries_25 : decode cX12_findsEntries 25 = .ok (.putfield 97, 3) := by decide +kernel
theorem dX12_findsEntries_28 : decode cX12_findsEntries 28 = .ok (.aload_n 0, 1) := by decide +kernel
theorem dX12_findsEntries_29 : decode cX12_findsEntries 29 = .ok (.getfield 84, 3) := by decide +kernel
theorem dX12_findsEntries_32 : decode cX12_findsEntries 32 = .ok (.istore_n 3, 1) := by decide +kernel
theorem dX12_findsEntries_33 : decode cX12_findsEntries 33 = .ok (.iload_n 3, 1) := by decide +kernel
theorem dX12_findsEntries_34 : decode cX12_findsEntries 34 = .ok (.aload_n 0, 1) := by decide +kernel
theorem dX12_findsEntries_35 : decode cX12_findsEntries 35 = .ok (.getfield 90, 3) := by decide +kernel
theorem dX12_findsEntries_38 : decode cX12_findsEntries 38 = .ok (.if_icmp .ge 88, 3) := by decide +kernel
theorem dX12_findsEntries_41 : decode cX12_findsEntries 41 = .ok (.iload_n 3, 1) := by decide +kernel
theorem dX12_findsEntries_42 : decode cX12_findsEntries 42 = .ok (.aload_n 0, 1) := by decide +kernel
theorem dX12_findsEntries_43 : decode cX12_findsEntries 43 = .ok (.getfield 84, 3) := by decide +kernel
theorem dX12_findsEntries_46 : decode cX12_findsEntries 46 = .ok (.if_icmp .le 30, 3) := by decide +kernel
theorem dX12_findsEntries_49 : decode cX12_findsEntries 49 = .ok (.aload_n 0, 1) := by decide +kernel
theorem dX12_findsEntries_50 : decode cX12_findsEntries 50 = .ok (.iload_n 3, 1) := by decide +kernel
theorem dX12_findsEntries_51 : decode cX12_findsEntries 51 = .ok (.iconst 1, 1) := by decide +kernel
theorem dX12_findsEntries_52 : decode cX12_findsEntries 52 = .ok (.isub, 1) := by decide +kernel
theorem dX12_findsEntries_53 : decode cX12_findsEntries 53 = .ok (.iload_n 3, 1) := by decide +kernel
theorem dX12_findsEntries_54 : decode cX12_findsEntries 54 = .ok (.iload_n 2, 1) := by decide +kernel
theorem dX12_findsEntries_55 : decode cX12_findsEntries 55 = .ok (.invokevirtual 100, 3) := by decide +kernel
theorem dX12_findsEntries_58 : decode cX12_findsEntries 58 = .ok (.ifCond .eq 18, 3) := by decide +kernel
theorem dX12_findsEntries_61 : decode cX12_findsEntries 61 = .ok (.aload_n 0, 1) := by decide +kernel
theorem dX12_findsEntries_62 : decode cX12_findsEntries 62 = .ok (.getfield 19, 3) := by decide +kernel
theorem dX12_findsEntries_65 : decode cX12_findsEntries 65 = .ok (.aload_n 0, 1) := by decide +kernel
theorem dX12_findsEntries_66 : decode cX12_findsEntries 66 = .ok (.getfield 97, 3) := by decide +kernel
theorem dX12_findsEntries_69 : decode cX12_findsEntries 69 = .ok (.iconst 1, 1) := by decide +kernel
theorem dX12_findsEntries_70 : decode cX12_findsEntries 70 = .ok (.isub, 1) := by decide +kernel
theorem dX12_findsEntries_71 : decode cX12_findsEntries 71 = .ok (.iconst 2, 1) := by decide +kernel
theorem dX12_findsEntries_72 : decode cX12_findsEntries 72 = .ok (.iastore, 1) := by decide +kernel
theorem dX12_findsEntries_73 : decode cX12_findsEntries 73 = .ok (.goto 47, 3) := by decide +kernel
theorem dX12_findsEntries_76 : decode cX12_findsEntries 76 = .ok (.aload_n 0, 1) := by decide +kernel
theorem dX12_findsEntries_77 : decode cX12_findsEntries 77 = .ok (.getfield 16, 3) := by decide +kernel
theorem dX12_findsEntries_80 : decode cX12_findsEntries 80 = .ok (.aload_n 0, 1) := by decide +kernel
theorem dX12_findsEntries_81 : decode cX12_findsEntries 81 = .ok (.getfield 97, 3) := by decide +kernel
theorem dX12_findsEntries_84 : decode cX12_findsEntries 84 = .ok (.iload_n 3, 1) := by decide +kernel
theorem dX12_findsEntries_85 : decode cX12_findsEntries 85 = .ok (.iastore, 1) := by decide +kernel
theorem dX12_findsEntries_86 : decode cX12_findsEntries 86 = .ok (.aload_n 0, 1) := by decide +kernel
theorem dX12_findsEntries_87 : decode cX12_findsEntries 87 = .ok (.getfield 19, 3) := by decide +kernel
theorem dX12_findsEntries_90 : decode cX12_findsEntries 90 = .ok (.aload_n 0, 1) := by decide +kernel
theorem dX12_findsEntries_91 : decode cX12_findsEntries 91 = .ok (.getfield 97, 3) := by decide +kernel
theorem dX12_findsEntries_94 : decode cX12_findsEntries 94 = .ok (.aload_n 0, 1) := by decide +kernel
theorem dX12_findsEntries_95 : decode cX12_findsEntries 95 = .ok (.iload_n 3, 1) := by decide +kernel
theorem dX12_findsEntries_96 : decode cX12_findsEntries 96 = .ok (.iconst 0, 1) := by decide +kernel
theorem dX12_findsEntries_97 : decode cX12_findsEntries 97 = .ok (.invokevirtual 50, 3) := by decide +kernel
theorem dX12_findsEntries_100 : decode cX12_findsEntries 100 = .ok (.iload_n 2, 1) := by decide +kernel
theorem dX12_findsEntries_101 : decode cX12_findsEntries 101 = .ok (.if_icmp .le 7, 3) := by decide +kernel
theorem dX12_findsEntries_104 : decode cX12_findsEntries 104 = .ok (.iconst 1, 1) := by decide +kernel
theorem dX12_findsEntries_105 : decode cX12_findsEntries 105 = .ok (.goto 4, 3) := by decide +kernel
theorem dX12_findsEntries_108 : decode cX12_findsEntries 108 = .ok (.iconst 0, 1) := by decide +kernel
theorem dX12_findsEntries_109 : decode cX12_findsEntries 109 = .ok (.iastore, 1) := by decide +kernel
theorem dX12_findsEntries_110 : decode cX12_findsEntries 110 = .ok (.aload_n 0, 1) := by decide +kernel
theorem dX12_findsEntries_111 : decode cX12_findsEntries 111 = .ok (.aload_n 0, 1) := by decide +kernel
theorem dX12_findsEntries_112 : decode cX12_findsEntries 112 = .ok (.getfield 97, 3) := by decide +kernel
theorem dX12_findsEntries_115 : decode cX12_findsEntries 115 = .ok (.iconst 1, 1) := by decide +kernel
theorem dX12_findsEntries_116 : decode cX12_findsEntries 116 = .ok (.iadd, 1) := by decide +kernel
theorem dX12_findsEntries_117 : decode cX12_findsEntries 117 = .ok (.putfield 97, 3) := by decide +kernel
theorem dX12_findsEntries_120 : decode cX12_findsEntries 120 = .ok (.iinc 3 1, 3) := by decide +kernel
theorem dX12_findsEntries_123 : decode cX12_findsEntries 123 = .ok (.goto (-90), 3) := by decide +kernel
theorem dX12_findsEntries_126 : decode cX12_findsEntries 126 = .ok (.aload_n 0, 1) := by decide +kernel
theorem dX12_findsEntries_127 : decode cX12_findsEntries 127 = .ok (.getfield 16, 3) := by decide +kernel
theorem dX12_findsEntries_130 : decode cX12_findsEntries 130 = .ok (.aload_n 0, 1) := by decide +kernel
theorem dX12_findsEntries_131 : decode cX12_findsEntries 131 = .ok (.getfield 97, 3) := by decide +kernel
theorem dX12_findsEntries_134 : decode cX12_findsEntries 134 = .ok (.aload_n 0, 1) := by decide +kernel
theorem dX12_findsEntries_135 : decode cX12_findsEntries 135 = .ok (.getfield 90, 3) := by decide +kernel
theorem dX12_findsEntries_138 : decode cX12_findsEntries 138 = .ok (.iastore, 1) := by decide +kernel
theorem dX12_findsEntries_139 : decode cX12_findsEntries 139 = .ok (.return_, 1) := by decide +kernel
theorem dX12_entryOf_0 : decode cX12_entryOf 0 = .ok (.iconst 0, 1) := by decide +kernel
theorem dX12_entryOf_1 : decode cX12_entryOf 1 = .ok (.istore_n 2, 1) := by decide +kernel
theorem dX12_entryOf_2 : decode cX12_entryOf 2 = .ok (.aload_n 0, 1) := by decide +kernel
theorem dX12_entryOf_3 : decode cX12_entryOf 3 = .ok (.getfield 16, 3) := by decide +kernel
theorem dX12_entryOf_6 : decode cX12_entryOf 6 = .ok (.iload_n 2, 1) := by decide +kernel
theorem dX12_entryOf_7 : decode cX12_entryOf 7 = .ok (.iconst 1, 1) := by decide +kernel
theorem dX12_entryOf_8 : decode cX12_entryOf 8 = .ok (.iadd, 1) := by decide +kernel
theorem dX12_entryOf_9 : decode cX12_entryOf 9 = .ok (.iaload, 1) := by decide +kernel
theorem dX12_entryOf_10 : decode cX12_entryOf 10 = .ok (.iload_n 1, 1) := by decide +kernel
theorem dX12_entryOf_11 : decode cX12_entryOf 11 = .ok (.if_icmp .gt 10, 3) := by decide +kernel
theorem dX12_entryOf_14 : decode cX12_entryOf 14 = .ok (.iload_n 2, 1) := by decide +kernel
theorem dX12_entryOf_15 : decode cX12_entryOf 15 = .ok (.iconst 1, 1) := by decide +kernel
theorem dX12_entryOf_16 : decode cX12_entryOf 16 = .ok (.iadd, 1) := by decide +kernel
theorem dX12_entryOf_17 : decode cX12_entryOf 17 = .ok (.istore_n 2, 1) := by decide +kernel
theorem dX12_entryOf_18 : decode cX12_entryOf 18 = .ok (.goto (-16), 3) := by decide +kernel
theorem dX12_entryOf_21 : decode cX12_entryOf 21 = .ok (.iload_n 2, 1) := by decide +kernel
theorem dX12_entryOf_22 : decode cX12_entryOf 22 = .ok (.ireturn, 1) := by decide +kernel
set_option maxRecDepth 20000 in
theorem ggX12_pageBegin_X12_beginsPage : GoodIn wsX12_pageBegin wsX12_beginsPage := goodIn_r _ [6, 7, 8, 9, 5, 10, 11, 12, 13, 14, 15, 16, 17, 18, 19, 20, 21, 22, 23, 24, 25, 26, 27, 28, 29, 30, 31, 32, 33, 34, 35, 36, 37, 38, 39, 40, 41, 42, 43, 44, 45, 46, 47, 48, 49, 50, 51, 52, 53, 54, 55] (by decide +kernel) (by decide +kernel)
set_option maxRecDepth 20000 in
theorem gX12_pageBegin_X12_beginsPage : GoodIn wsX12_pageBegin (wsV RX12 103 RX12 yX12_beginsPage wsX12_beginsPage) := goodIn_app (goodIn_of _ (by decide +kernel)) ggX12_pageBegin_X12_beginsPage
theorem dX12_pageBegin_0 : decode cX12_pageBegin 0 = .ok (.iload_n 1, 1) := by decide +kernel
theorem dX12_pageBegin_1 : decode cX12_pageBegin 1 = .ok (.istore_n 3, 1) := by decide +kernel
theorem dX12_pageBegin_2 : decode cX12_pageBegin 2 = .ok (.aload_n 0, 1) := by decide +kernel
theorem dX12_pageBegin_3 : decode cX12_pageBegin 3 = .ok (.aload_n 0, 1) := by decide +kernel
theorem dX12_pageBegin_4 : decode cX12_pageBegin 4 = .ok (.getfield 16, 3) := by decide +kernel
theorem dX12_pageBegin_7 : decode cX12_pageBegin 7 = .ok (.iload_n 3, 1) := by decide +kernel
theorem dX12_pageBegin_8 : decode cX12_pageBegin 8 = .ok (.iaload, 1) := by decide +kernel
theorem dX12_pageBegin_9 : decode cX12_pageBegin 9 = .ok (.iload_n 2, 1) := by decide +kernel
theorem dX12_pageBegin_10 : decode cX12_pageBegin 10 = .ok (.invokevirtual 103, 3) := by decide +kernel
theorem dX12_pageBegin_13 : decode cX12_pageBegin 13 = .ok (.ifCond .ne 10, 3) := by decide +kernel
theorem dX12_pageBegin_16 : decode cX12_pageBegin 16 = .ok (.iload_n 3, 1) := by decide +kernel
theorem dX12_pageBegin_17 : decode cX12_pageBegin 17 = .ok (.iconst 1, 1) := by decide +kernel
theorem dX12_pageBegin_18 : decode cX12_pageBegin 18 = .ok (.isub, 1) := by decide +kernel
theorem dX12_pageBegin_19 : decode cX12_pageBegin 19 = .ok (.istore_n 3, 1) := by decide +kernel
theorem dX12_pageBegin_20 : decode cX12_pageBegin 20 = .ok (.goto (-18), 3) := by decide +kernel
theorem dX12_pageBegin_23 : decode cX12_pageBegin 23 = .ok (.iload_n 3, 1) := by decide +kernel
theorem dX12_pageBegin_24 : decode cX12_pageBegin 24 = .ok (.ireturn, 1) := by decide +kernel
set_option maxRecDepth 20000 in
theorem ggX12_pageEnd_X12_beginsPage : GoodIn wsX12_pageEnd wsX12_beginsPage := goodIn_r _ [7, 8, 9, 10, 6, 11, 12, 13, 14, 15, 16, 17, 18, 19, 20, 21, 22, 23, 24, 25, 26, 27, 28, 29, 30, 31, 32, 33, 34, 35, 36, 37, 38, 39, 40, 41, 42, 43, 44, 45, 46, 47, 48, 49, 50, 51, 52, 53, 54, 55, 56] (by decide +kernel) (by decide +kernel)
set_option maxRecDepth 20000 in
theorem gX12_pageEnd_X12_beginsPage : GoodIn wsX12_pageEnd (wsV RX12 103 RX12 yX12_beginsPage wsX12_beginsPage) := goodIn_app (goodIn_of _ (by decide +kernel)) ggX12_pageEnd_X12_beginsPage
theorem dX12_pageEnd_0 : decode cX12_pageEnd 0 = .ok (.iload_n 1, 1) := by decide +kernel
theorem dX12_pageEnd_1 : decode cX12_pageEnd 1 = .ok (.iconst 1, 1) := by decide +kernel
theorem dX12_pageEnd_2 : decode cX12_pageEnd 2 = .ok (.iadd, 1) := by decide +kernel
theorem dX12_pageEnd_3 : decode cX12_pageEnd 3 = .ok (.istore_n 3, 1) := by decide +kernel
theorem dX12_pageEnd_4 : decode cX12_pageEnd 4 = .ok (.iload_n 3, 1) := by decide +kernel
theorem dX12_pageEnd_5 : decode cX12_pageEnd 5 = .ok (.aload_n 0, 1) := by decide +kernel
theorem dX12_pageEnd_6 : decode cX12_pageEnd 6 = .ok (.getfield 97, 3) := by decide +kernel
theorem dX12_pageEnd_9 : decode cX12_pageEnd 9 = .ok (.if_icmp .ge 24, 3) := by decide +kernel
theorem dX12_pageEnd_12 : decode cX12_pageEnd 12 = .ok (.aload_n 0, 1) := by decide +kernel
theorem dX12_pageEnd_13 : decode cX12_pageEnd 13 = .ok (.aload_n 0, 1) := by decide +kernel
theorem dX12_pageEnd_14 : decode cX12_pageEnd 14 = .ok (.getfield 16, 3) := by decide +kernel
theorem dX12_pageEnd_17 : decode cX12_pageEnd 17 = .ok (.iload_n 3, 1) := by decide +kernel
theorem dX12_pageEnd_18 : decode cX12_pageEnd 18 = .ok (.iaload, 1) := by decide +kernel
theorem dX12_pageEnd_19 : decode cX12_pageEnd 19 = .ok (.iload_n 2, 1) := by decide +kernel
theorem dX12_pageEnd_20 : decode cX12_pageEnd 20 = .ok (.invokevirtual 103, 3) := by decide +kernel
theorem dX12_pageEnd_23 : decode cX12_pageEnd 23 = .ok (.ifCond .ne 10, 3) := by decide +kernel
theorem dX12_pageEnd_26 : decode cX12_pageEnd 26 = .ok (.iload_n 3, 1) := by decide +kernel
theorem dX12_pageEnd_27 : decode cX12_pageEnd 27 = .ok (.iconst 1, 1) := by decide +kernel
theorem dX12_pageEnd_28 : decode cX12_pageEnd 28 = .ok (.iadd, 1) := by decide +kernel
theorem dX12_pageEnd_29 : decode cX12_pageEnd 29 = .ok (.istore_n 3, 1) := by decide +kernel
theorem dX12_pageEnd_30 : decode cX12_pageEnd 30 = .ok (.goto (-26), 3) := by decide +kernel
theorem dX12_pageEnd_33 : decode cX12_pageEnd 33 = .ok (.iload_n 3, 1) := by decide +kernel
theorem dX12_pageEnd_34 : decode cX12_pageEnd 34 = .ok (.ireturn, 1) := by decide +kernel
set_option maxRecDepth 20000 in
theorem ggX12_depthOf_X12_takesHand : GoodIn wsX12_depthOf wsX12_takesHand := goodIn_r _ [9, 2, 10, 11, 12, 13, 8, 14, 1, 15, 16, 17, 18, 31, 32, 33, 34, 35, 36, 37, 38, 39, 40, 41, 42, 43, 44, 45, 46, 47, 48, 49, 50, 51, 52, 53, 54, 55, 56, 57, 58, 59, 60, 61, 62, 63, 64, 65, 66, 67, 68, 69, 70, 71] (by decide +kernel) (by decide +kernel)
set_option maxRecDepth 20000 in
theorem gX12_depthOf_X12_takesHand : GoodIn wsX12_depthOf (wsV RX12 106 RX12 yX12_takesHand wsX12_takesHand) := goodIn_app (goodIn_of _ (by decide +kernel)) ggX12_depthOf_X12_takesHand
set_option maxRecDepth 20000 in
theorem ggX12_depthOf_X12_findsRange : GoodIn wsX12_depthOf wsX12_findsRange := goodIn_r _ [22, 4, 3, 23, 24, 25, 8, 26, 1, 27, 28, 29, 30, 2, 10, 11, 12, 13, 14, 15, 16, 17, 18, 31, 32, 33, 34, 35, 36, 37, 38, 39, 40, 41, 42, 43, 44, 45, 46, 47, 48, 49, 50, 51, 52, 53, 54, 55, 56, 57, 58, 59, 60, 61, 62, 63, 64, 65, 66, 67, 68, 69, 70, 71] (by decide +kernel) (by decide +kernel)
set_option maxRecDepth 20000 in
theorem gX12_depthOf_X12_findsRange : GoodIn wsX12_depthOf (wsV RX12 93 RX12 yX12_findsRange wsX12_findsRange) := goodIn_app (goodIn_of _ (by decide +kernel)) ggX12_depthOf_X12_findsRange
theorem dX12_depthOf_0 : decode cX12_depthOf 0 = .ok (.aload_n 0, 1) := by decide +kernel
theorem dX12_depthOf_1 : decode cX12_depthOf 1 = .ok (.iload_n 1, 1) := by decide +kernel
theorem dX12_depthOf_2 : decode cX12_depthOf 2 = .ok (.invokevirtual 106, 3) := by decide +kernel
theorem dX12_depthOf_5 : decode cX12_depthOf 5 = .ok (.iconst 0, 1) := by decide +kernel
theorem dX12_depthOf_6 : decode cX12_depthOf 6 = .ok (.istore_n 2, 1) := by decide +kernel
theorem dX12_depthOf_7 : decode cX12_depthOf 7 = .ok (.iload_n 2, 1) := by decide +kernel
theorem dX12_depthOf_8 : decode cX12_depthOf 8 = .ok (.iconst 1, 1) := by decide +kernel
theorem dX12_depthOf_9 : decode cX12_depthOf 9 = .ok (.iadd, 1) := by decide +kernel
theorem dX12_depthOf_10 : decode cX12_depthOf 10 = .ok (.aload_n 0, 1) := by decide +kernel
theorem dX12_depthOf_11 : decode cX12_depthOf 11 = .ok (.getfield 7, 3) := by decide +kernel
theorem dX12_depthOf_14 : decode cX12_depthOf 14 = .ok (.iconst 1, 1) := by decide +kernel
theorem dX12_depthOf_15 : decode cX12_depthOf 15 = .ok (.iaload, 1) := by decide +kernel
theorem dX12_depthOf_16 : decode cX12_depthOf 16 = .ok (.imul, 1) := by decide +kernel
theorem dX12_depthOf_17 : decode cX12_depthOf 17 = .ok (.istore_n 3, 1) := by decide +kernel
theorem dX12_depthOf_18 : decode cX12_depthOf 18 = .ok (.aload_n 0, 1) := by decide +kernel
theorem dX12_depthOf_19 : decode cX12_depthOf 19 = .ok (.getfield 70, 3) := by decide +kernel
theorem dX12_depthOf_22 : decode cX12_depthOf 22 = .ok (.iload_n 3, 1) := by decide +kernel
theorem dX12_depthOf_23 : decode cX12_depthOf 23 = .ok (.if_icmp .gt 5, 3) := by decide +kernel
theorem dX12_depthOf_26 : decode cX12_depthOf 26 = .ok (.iload_n 2, 1) := by decide +kernel
theorem dX12_depthOf_27 : decode cX12_depthOf 27 = .ok (.ireturn, 1) := by decide +kernel
theorem dX12_depthOf_28 : decode cX12_depthOf 28 = .ok (.aload_n 0, 1) := by decide +kernel
theorem dX12_depthOf_29 : decode cX12_depthOf 29 = .ok (.iload_n 3, 1) := by decide +kernel
theorem dX12_depthOf_30 : decode cX12_depthOf 30 = .ok (.invokevirtual 93, 3) := by decide +kernel
theorem dX12_depthOf_33 : decode cX12_depthOf 33 = .ok (.aload_n 0, 1) := by decide +kernel
theorem dX12_depthOf_34 : decode cX12_depthOf 34 = .ok (.getfield 90, 3) := by decide +kernel
theorem dX12_depthOf_37 : decode cX12_depthOf 37 = .ok (.aload_n 0, 1) := by decide +kernel
theorem dX12_depthOf_38 : decode cX12_depthOf 38 = .ok (.getfield 84, 3) := by decide +kernel
theorem dX12_depthOf_41 : decode cX12_depthOf 41 = .ok (.isub, 1) := by decide +kernel
theorem dX12_depthOf_42 : decode cX12_depthOf 42 = .ok (.iconst 1, 1) := by decide +kernel
theorem dX12_depthOf_43 : decode cX12_depthOf 43 = .ok (.if_icmp .ne 5, 3) := by decide +kernel
theorem dX12_depthOf_46 : decode cX12_depthOf 46 = .ok (.iload_n 2, 1) := by decide +kernel
theorem dX12_depthOf_47 : decode cX12_depthOf 47 = .ok (.ireturn, 1) := by decide +kernel
theorem dX12_depthOf_48 : decode cX12_depthOf 48 = .ok (.iload_n 2, 1) := by decide +kernel
theorem dX12_depthOf_49 : decode cX12_depthOf 49 = .ok (.iconst 1, 1) := by decide +kernel
theorem dX12_depthOf_50 : decode cX12_depthOf 50 = .ok (.iadd, 1) := by decide +kernel
theorem dX12_depthOf_51 : decode cX12_depthOf 51 = .ok (.istore_n 2, 1) := by decide +kernel
theorem dX12_depthOf_52 : decode cX12_depthOf 52 = .ok (.goto (-45), 3) := by decide +kernel
set_option maxRecDepth 20000 in
theorem ggX12_goesDown_X12_findsRange : GoodIn wsX12_goesDown wsX12_findsRange := goodIn_r _ [10, 4, 5, 11, 12, 13, 9, 14, 2, 15, 16, 17, 18, 3, 19, 20, 21, 22, 23, 24, 25, 26, 27, 40, 41, 42, 43, 44, 45, 46, 47, 48, 49, 50, 51, 52, 53, 54, 55, 56, 57, 58, 59, 60, 61, 62, 63, 64, 65, 66, 67, 68, 69, 70, 71, 72, 73, 74, 75, 76, 77, 78, 79, 80] (by decide +kernel) (by decide +kernel)
set_option maxRecDepth 20000 in
theorem gX12_goesDown_X12_findsRange : GoodIn wsX12_goesDown (wsV RX12 93 RX12 yX12_findsRange wsX12_findsRange) := goodIn_app (goodIn_of _ (by decide +kernel)) ggX12_goesDown_X12_findsRange
set_option maxRecDepth 20000 in
theorem ggX12_goesDown_X12_marks : GoodIn wsX12_goesDown wsX12_marks := goodIn_r _ [31, 20, 21, 22, 9, 23, 2, 32, 33, 34, 35, 40, 41, 42, 43, 44, 45, 46, 47, 48, 49, 50, 51, 52, 53, 54, 55, 56, 57, 58, 59, 60, 61, 62, 63, 64, 65, 66, 67, 68, 69, 70, 71, 72, 73, 74, 75, 76, 77, 78, 79, 80] (by decide +kernel) (by decide +kernel)
set_option maxRecDepth 20000 in
theorem gX12_goesDown_X12_marks : GoodIn wsX12_goesDown (wsV RX12 112 RX12 yX12_marks wsX12_marks) := goodIn_app (goodIn_of _ (by decide +kernel)) ggX12_goesDown_X12_marks
set_option maxRecDepth 20000 in
theorem ggX12_goesDown_X12_against : GoodIn wsX12_goesDown wsX12_against := goodIn_r _ [39, 3, 19, 20, 21, 22, 9, 23, 2, 24, 25, 26, 27, 40, 41, 42, 43, 44, 45, 46, 47, 48, 49, 50, 51, 52, 53, 54, 55, 56, 57, 58, 59, 60, 61, 62, 63, 64, 65, 66, 67, 68, 69, 70, 71, 72, 73, 74, 75, 76, 77, 78, 79, 80] (by decide +kernel) (by decide +kernel)
set_option maxRecDepth 20000 in
theorem gX12_goesDown_X12_against : GoodIn wsX12_goesDown (wsV RX12 77 RX12 yX12_against wsX12_against) := goodIn_app (goodIn_of _ (by decide +kernel)) ggX12_goesDown_X12_against
set_option maxRecDepth 20000 in
theorem ggX12_goesDown_X12_of : GoodIn wsX12_goesDown wsX12_of := goodIn_r _ [23, 2, 40, 41, 42, 43, 44, 45, 46, 47, 48, 49, 50, 51, 52, 53, 54, 55, 56, 57, 58, 59, 60, 61, 62, 63, 64, 65, 66, 67, 68, 69, 70, 71, 72, 73, 74, 75, 76, 77, 78, 79, 80] (by decide +kernel) (by decide +kernel)
set_option maxRecDepth 20000 in
theorem gX12_goesDown_X12_of : GoodIn wsX12_goesDown (wsV RX12 50 RX12 yX12_of wsX12_of) := goodIn_app (goodIn_of _ (by decide +kernel)) ggX12_goesDown_X12_of
theorem dX12_goesDown_0 : decode cX12_goesDown 0 = .ok (.iconst 0, 1) := by decide +kernel
theorem dX12_goesDown_1 : decode cX12_goesDown 1 = .ok (.istore_n 1, 1) := by decide +kernel
theorem dX12_goesDown_2 : decode cX12_goesDown 2 = .ok (.aload_n 0, 1) := by decide +kernel
theorem dX12_goesDown_3 : decode cX12_goesDown 3 = .ok (.iconst 0, 1) := by decide +kernel
theorem dX12_goesDown_4 : decode cX12_goesDown 4 = .ok (.putfield 109, 3) := by decide +kernel
theorem dX12_goesDown_7 : decode cX12_goesDown 7 = .ok (.iload_n 1, 1) := by decide +kernel
theorem dX12_goesDown_8 : decode cX12_goesDown 8 = .ok (.iconst 1, 1) := by decide +kernel
theorem dX12_goesDown_9 : decode cX12_goesDown 9 = .ok (.iadd, 1) := by decide +kernel
theorem dX12_goesDown_10 : decode cX12_goesDown 10 = .ok (.aload_n 0, 1) := by decide +kernel
theorem dX12_goesDown_11 : decode cX12_goesDown 11 = .ok (.getfield 7, 3) := by decide +kernel
theorem dX12_goesDown_14 : decode cX12_goesDown 14 = .ok (.iconst 1, 1) := by decide +kernel
theorem dX12_goesDown_15 : decode cX12_goesDown 15 = .ok (.iaload, 1) := by decide +kernel
theorem dX12_goesDown_16 : decode cX12_goesDown 16 = .ok (.imul, 1) := by decide +kernel
theorem dX12_goesDown_17 : decode cX12_goesDown 17 = .ok (.istore_n 2, 1) := by decide +kernel
theorem dX12_goesDown_18 : decode cX12_goesDown 18 = .ok (.aload_n 0, 1) := by decide +kernel
theorem dX12_goesDown_19 : decode cX12_goesDown 19 = .ok (.getfield 70, 3) := by decide +kernel
theorem dX12_goesDown_22 : decode cX12_goesDown 22 = .ok (.iload_n 2, 1) := by decide +kernel
theorem dX12_goesDown_23 : decode cX12_goesDown 23 = .ok (.if_icmp .gt 5, 3) := by decide +kernel
theorem dX12_goesDown_26 : decode cX12_goesDown 26 = .ok (.iload_n 1, 1) := by decide +kernel
theorem dX12_goesDown_27 : decode cX12_goesDown 27 = .ok (.ireturn, 1) := by decide +kernel
theorem dX12_goesDown_28 : decode cX12_goesDown 28 = .ok (.aload_n 0, 1) := by decide +kernel
theorem dX12_goesDown_29 : decode cX12_goesDown 29 = .ok (.iload_n 2, 1) := by decide +kernel
theorem dX12_goesDown_30 : decode cX12_goesDown 30 = .ok (.invokevirtual 93, 3) := by decide +kernel
theorem dX12_goesDown_33 : decode cX12_goesDown 33 = .ok (.aload_n 0, 1) := by decide +kernel
theorem dX12_goesDown_34 : decode cX12_goesDown 34 = .ok (.getfield 84, 3) := by decide +kernel
theorem dX12_goesDown_37 : decode cX12_goesDown 37 = .ok (.aload_n 0, 1) := by decide +kernel
theorem dX12_goesDown_38 : decode cX12_goesDown 38 = .ok (.getfield 90, 3) := by decide +kernel
theorem dX12_goesDown_41 : decode cX12_goesDown 41 = .ok (.if_icmp .ne 5, 3) := by decide +kernel
theorem dX12_goesDown_44 : decode cX12_goesDown 44 = .ok (.iload_n 1, 1) := by decide +kernel
theorem dX12_goesDown_45 : decode cX12_goesDown 45 = .ok (.ireturn, 1) := by decide +kernel
theorem dX12_goesDown_46 : decode cX12_goesDown 46 = .ok (.aload_n 0, 1) := by decide +kernel
theorem dX12_goesDown_47 : decode cX12_goesDown 47 = .ok (.getfield 90, 3) := by decide +kernel
theorem dX12_goesDown_50 : decode cX12_goesDown 50 = .ok (.aload_n 0, 1) := by decide +kernel
theorem dX12_goesDown_51 : decode cX12_goesDown 51 = .ok (.getfield 84, 3) := by decide +kernel
theorem dX12_goesDown_54 : decode cX12_goesDown 54 = .ok (.isub, 1) := by decide +kernel
theorem dX12_goesDown_55 : decode cX12_goesDown 55 = .ok (.iconst 1, 1) := by decide +kernel
theorem dX12_goesDown_56 : decode cX12_goesDown 56 = .ok (.if_icmp .ne 29, 3) := by decide +kernel
theorem dX12_goesDown_59 : decode cX12_goesDown 59 = .ok (.aload_n 0, 1) := by decide +kernel
theorem dX12_goesDown_60 : decode cX12_goesDown 60 = .ok (.getfield 7, 3) := by decide +kernel
theorem dX12_goesDown_63 : decode cX12_goesDown 63 = .ok (.iconst 5, 1) := by decide +kernel
theorem dX12_goesDown_64 : decode cX12_goesDown 64 = .ok (.aload_n 0, 1) := by decide +kernel
theorem dX12_goesDown_65 : decode cX12_goesDown 65 = .ok (.getfield 7, 3) := by decide +kernel
theorem dX12_goesDown_68 : decode cX12_goesDown 68 = .ok (.iconst 5, 1) := by decide +kernel
theorem dX12_goesDown_69 : decode cX12_goesDown 69 = .ok (.iaload, 1) := by decide +kernel
theorem dX12_goesDown_70 : decode cX12_goesDown 70 = .ok (.iconst 1, 1) := by decide +kernel
theorem dX12_goesDown_71 : decode cX12_goesDown 71 = .ok (.iadd, 1) := by decide +kernel
theorem dX12_goesDown_72 : decode cX12_goesDown 72 = .ok (.iastore, 1) := by decide +kernel
theorem dX12_goesDown_73 : decode cX12_goesDown 73 = .ok (.aload_n 0, 1) := by decide +kernel
theorem dX12_goesDown_74 : decode cX12_goesDown 74 = .ok (.aload_n 0, 1) := by decide +kernel
theorem dX12_goesDown_75 : decode cX12_goesDown 75 = .ok (.getfield 84, 3) := by decide +kernel
theorem dX12_goesDown_78 : decode cX12_goesDown 78 = .ok (.iload_n 1, 1) := by decide +kernel
theorem dX12_goesDown_79 : decode cX12_goesDown 79 = .ok (.iconst 1, 1) := by decide +kernel
theorem dX12_goesDown_80 : decode cX12_goesDown 80 = .ok (.iadd, 1) := by decide +kernel
theorem dX12_goesDown_81 : decode cX12_goesDown 81 = .ok (.iconst 1, 1) := by decide +kernel
theorem dX12_goesDown_82 : decode cX12_goesDown 82 = .ok (.invokevirtual 112, 3) := by decide +kernel
theorem dX12_goesDown_85 : decode cX12_goesDown 85 = .ok (.aload_n 0, 1) := by decide +kernel
theorem dX12_goesDown_86 : decode cX12_goesDown 86 = .ok (.aload_n 0, 1) := by decide +kernel
theorem dX12_goesDown_87 : decode cX12_goesDown 87 = .ok (.getfield 84, 3) := by decide +kernel
theorem dX12_goesDown_90 : decode cX12_goesDown 90 = .ok (.invokevirtual 77, 3) := by decide +kernel
theorem dX12_goesDown_93 : decode cX12_goesDown 93 = .ok (.ifCond .le 35, 3) := by decide +kernel
theorem dX12_goesDown_96 : decode cX12_goesDown 96 = .ok (.aload_n 0, 1) := by decide +kernel
theorem dX12_goesDown_97 : decode cX12_goesDown 97 = .ok (.aload_n 0, 1) := by decide +kernel
theorem dX12_goesDown_98 : decode cX12_goesDown 98 = .ok (.getfield 109, 3) := by decide +kernel
theorem dX12_goesDown_101 : decode cX12_goesDown 101 = .ok (.aload_n 0, 1) := by decide +kernel
theorem dX12_goesDown_102 : decode cX12_goesDown 102 = .ok (.aload_n 0, 1) := by decide +kernel
theorem dX12_goesDown_103 : decode cX12_goesDown 103 = .ok (.getfield 84, 3) := by decide +kernel
theorem dX12_goesDown_106 : decode cX12_goesDown 106 = .ok (.iconst 2, 1) := by decide +kernel
theorem dX12_goesDown_107 : decode cX12_goesDown 107 = .ok (.invokevirtual 50, 3) := by decide +kernel
theorem dX12_goesDown_110 : decode cX12_goesDown 110 = .ok (.iconst 1, 1) := by decide +kernel
theorem dX12_goesDown_111 : decode cX12_goesDown 111 = .ok (.iload_n 1, 1) := by decide +kernel
theorem dX12_goesDown_112 : decode cX12_goesDown 112 = .ok (.ishl, 1) := by decide +kernel
theorem dX12_goesDown_113 : decode cX12_goesDown 113 = .ok (.iand, 1) := by decide +kernel
theorem dX12_goesDown_114 : decode cX12_goesDown 114 = .ok (.ior, 1) := by decide +kernel
theorem dX12_goesDown_115 : decode cX12_goesDown 115 = .ok (.putfield 109, 3) := by decide +kernel
theorem dX12_goesDown_118 : decode cX12_goesDown 118 = .ok (.aload_n 0, 1) := by decide +kernel
theorem dX12_goesDown_119 : decode cX12_goesDown 119 = .ok (.aload_n 0, 1) := by decide +kernel
theorem dX12_goesDown_120 : decode cX12_goesDown 120 = .ok (.getfield 84, 3) := by decide +kernel
theorem dX12_goesDown_123 : decode cX12_goesDown 123 = .ok (.iload_n 1, 1) := by decide +kernel
theorem dX12_goesDown_124 : decode cX12_goesDown 124 = .ok (.iconst 0, 1) := by decide +kernel
theorem dX12_goesDown_125 : decode cX12_goesDown 125 = .ok (.invokevirtual 112, 3) := by decide +kernel
theorem dX12_goesDown_128 : decode cX12_goesDown 128 = .ok (.iload_n 1, 1) := by decide +kernel
theorem dX12_goesDown_129 : decode cX12_goesDown 129 = .ok (.iconst 1, 1) := by decide +kernel
theorem dX12_goesDown_130 : decode cX12_goesDown 130 = .ok (.iadd, 1) := by decide +kernel
theorem dX12_goesDown_131 : decode cX12_goesDown 131 = .ok (.istore_n 1, 1) := by decide +kernel
theorem dX12_goesDown_132 : decode cX12_goesDown 132 = .ok (.goto (-125), 3) := by decide +kernel
set_option maxRecDepth 20000 in
theorem ggX12_laysRow_X12_many : GoodIn wsX12_laysRow wsX12_many := goodIn_r _ [9, 1, 18, 19, 20, 21, 22, 23, 24, 25, 26, 27, 28, 29, 30, 31, 32, 33, 34, 35, 36, 37, 38, 39, 40, 41, 42, 43, 44, 45, 46, 47, 48, 49, 50, 51, 52, 53, 54, 55, 56, 57, 58] (by decide +kernel) (by decide +kernel)
set_option maxRecDepth 20000 in
theorem gX12_laysRow_X12_many : GoodIn wsX12_laysRow (wsV RX12 62 RX12 yX12_many wsX12_many) := goodIn_app (goodIn_of _ (by decide +kernel)) ggX12_laysRow_X12_many
set_option maxRecDepth 20000 in
theorem ggX12_laysRow_X12_of : GoodIn wsX12_laysRow wsX12_of := goodIn_r _ [13, 1, 18, 19, 20, 21, 22, 23, 24, 25, 26, 27, 28, 29, 30, 31, 32, 33, 34, 35, 36, 37, 38, 39, 40, 41, 42, 43, 44, 45, 46, 47, 48, 49, 50, 51, 52, 53, 54, 55, 56, 57, 58] (by decide +kernel) (by decide +kernel)
set_option maxRecDepth 20000 in
theorem gX12_laysRow_X12_of : GoodIn wsX12_laysRow (wsV RX12 50 RX12 yX12_of wsX12_of) := goodIn_app (goodIn_of _ (by decide +kernel)) ggX12_laysRow_X12_of
set_option maxRecDepth 20000 in
theorem ggX12_laysRow_X12_sets : GoodIn wsX12_laysRow wsX12_sets := goodIn_r _ [17, 1, 18, 19, 20, 21, 22, 23, 24, 25, 26, 27, 28, 29, 30, 31, 32, 33, 34, 35, 36, 37, 38, 39, 40, 41, 42, 43, 44, 45, 46, 47, 48, 49, 50, 51, 52, 53, 54, 55, 56, 57, 58] (by decide +kernel) (by decide +kernel)
set_option maxRecDepth 20000 in
theorem gX12_laysRow_X12_sets : GoodIn wsX12_laysRow (wsV RX12 58 RX12 yX12_sets wsX12_sets) := goodIn_app (goodIn_of _ (by decide +kernel)) ggX12_laysRow_X12_sets
theorem dX12_laysRow_0 : decode cX12_laysRow 0 = .ok (.aload_n 0, 1) := by decide +kernel
theorem dX12_laysRow_1 : decode cX12_laysRow 1 = .ok (.invokevirtual 62, 3) := by decide +kernel
theorem dX12_laysRow_4 : decode cX12_laysRow 4 = .ok (.istore_n 3, 1) := by decide +kernel
theorem dX12_laysRow_5 : decode cX12_laysRow 5 = .ok (.iload_n 3, 1) := by decide +kernel
theorem dX12_laysRow_6 : decode cX12_laysRow 6 = .ok (.iload_n 1, 1) := by decide +kernel
theorem dX12_laysRow_7 : decode cX12_laysRow 7 = .ok (.if_icmp .le 41, 3) := by decide +kernel
theorem dX12_laysRow_10 : decode cX12_laysRow 10 = .ok (.iconst 0, 1) := by decide +kernel
theorem dX12_laysRow_11 : decode cX12_laysRow 11 = .ok (.istore 4, 2) := by decide +kernel
theorem dX12_laysRow_13 : decode cX12_laysRow 13 = .ok (.iload 4, 2) := by decide +kernel
theorem dX12_laysRow_15 : decode cX12_laysRow 15 = .ok (.bipush 27, 2) := by decide +kernel
theorem dX12_laysRow_17 : decode cX12_laysRow 17 = .ok (.if_icmp .ge 25, 3) := by decide +kernel
theorem dX12_laysRow_20 : decode cX12_laysRow 20 = .ok (.aload_n 0, 1) := by decide +kernel
theorem dX12_laysRow_21 : decode cX12_laysRow 21 = .ok (.iload_n 3, 1) := by decide +kernel
theorem dX12_laysRow_22 : decode cX12_laysRow 22 = .ok (.iload 4, 2) := by decide +kernel
theorem dX12_laysRow_24 : decode cX12_laysRow 24 = .ok (.aload_n 0, 1) := by decide +kernel
theorem dX12_laysRow_25 : decode cX12_laysRow 25 = .ok (.iload_n 3, 1) := by decide +kernel
theorem dX12_laysRow_26 : decode cX12_laysRow 26 = .ok (.iconst 1, 1) := by decide +kernel
theorem dX12_laysRow_27 : decode cX12_laysRow 27 = .ok (.isub, 1) := by decide +kernel
theorem dX12_laysRow_28 : decode cX12_laysRow 28 = .ok (.iload 4, 2) := by decide +kernel
theorem dX12_laysRow_30 : decode cX12_laysRow 30 = .ok (.invokevirtual 50, 3) := by decide +kernel
theorem dX12_laysRow_33 : decode cX12_laysRow 33 = .ok (.invokevirtual 58, 3) := by decide +kernel
theorem dX12_laysRow_36 : decode cX12_laysRow 36 = .ok (.iinc 4 1, 3) := by decide +kernel
theorem dX12_laysRow_39 : decode cX12_laysRow 39 = .ok (.goto (-26), 3) := by decide +kernel
theorem dX12_laysRow_42 : decode cX12_laysRow 42 = .ok (.iinc 3 (-1), 3) := by decide +kernel
theorem dX12_laysRow_45 : decode cX12_laysRow 45 = .ok (.goto (-40), 3) := by decide +kernel
theorem dX12_laysRow_48 : decode cX12_laysRow 48 = .ok (.aload_n 0, 1) := by decide +kernel
theorem dX12_laysRow_49 : decode cX12_laysRow 49 = .ok (.getfield 7, 3) := by decide +kernel
theorem dX12_laysRow_52 : decode cX12_laysRow 52 = .ok (.iconst 0, 1) := by decide +kernel
theorem dX12_laysRow_53 : decode cX12_laysRow 53 = .ok (.aload_n 0, 1) := by decide +kernel
theorem dX12_laysRow_54 : decode cX12_laysRow 54 = .ok (.invokevirtual 62, 3) := by decide +kernel
theorem dX12_laysRow_57 : decode cX12_laysRow 57 = .ok (.iconst 1, 1) := by decide +kernel
theorem dX12_laysRow_58 : decode cX12_laysRow 58 = .ok (.iadd, 1) := by decide +kernel
theorem dX12_laysRow_59 : decode cX12_laysRow 59 = .ok (.iastore, 1) := by decide +kernel
theorem dX12_laysRow_60 : decode cX12_laysRow 60 = .ok (.iconst 0, 1) := by decide +kernel
theorem dX12_laysRow_61 : decode cX12_laysRow 61 = .ok (.istore_n 3, 1) := by decide +kernel
theorem dX12_laysRow_62 : decode cX12_laysRow 62 = .ok (.iload_n 3, 1) := by decide +kernel
theorem dX12_laysRow_63 : decode cX12_laysRow 63 = .ok (.bipush 27, 2) := by decide +kernel
theorem dX12_laysRow_65 : decode cX12_laysRow 65 = .ok (.if_icmp .ge 16, 3) := by decide +kernel
theorem dX12_laysRow_68 : decode cX12_laysRow 68 = .ok (.aload_n 0, 1) := by decide +kernel
theorem dX12_laysRow_69 : decode cX12_laysRow 69 = .ok (.iload_n 1, 1) := by decide +kernel
theorem dX12_laysRow_70 : decode cX12_laysRow 70 = .ok (.iload_n 3, 1) := by decide +kernel
theorem dX12_laysRow_71 : decode cX12_laysRow 71 = .ok (.iconst 0, 1) := by decide +kernel
theorem dX12_laysRow_72 : decode cX12_laysRow 72 = .ok (.invokevirtual 58, 3) := by decide +kernel
theorem dX12_laysRow_75 : decode cX12_laysRow 75 = .ok (.iinc 3 1, 3) := by decide +kernel
theorem dX12_laysRow_78 : decode cX12_laysRow 78 = .ok (.goto (-16), 3) := by decide +kernel
theorem dX12_laysRow_81 : decode cX12_laysRow 81 = .ok (.aload_n 0, 1) := by decide +kernel
theorem dX12_laysRow_82 : decode cX12_laysRow 82 = .ok (.iload_n 1, 1) := by decide +kernel
theorem dX12_laysRow_83 : decode cX12_laysRow 83 = .ok (.iconst 0, 1) := by decide +kernel
theorem dX12_laysRow_84 : decode cX12_laysRow 84 = .ok (.aload_n 0, 1) := by decide +kernel
theorem dX12_laysRow_85 : decode cX12_laysRow 85 = .ok (.getfield 70, 3) := by decide +kernel
theorem dX12_laysRow_88 : decode cX12_laysRow 88 = .ok (.invokevirtual 58, 3) := by decide +kernel
theorem dX12_laysRow_91 : decode cX12_laysRow 91 = .ok (.aload_n 0, 1) := by decide +kernel
theorem dX12_laysRow_92 : decode cX12_laysRow 92 = .ok (.iload_n 1, 1) := by decide +kernel
theorem dX12_laysRow_93 : decode cX12_laysRow 93 = .ok (.iconst 1, 1) := by decide +kernel
theorem dX12_laysRow_94 : decode cX12_laysRow 94 = .ok (.iload_n 2, 1) := by decide +kernel
theorem dX12_laysRow_95 : decode cX12_laysRow 95 = .ok (.invokevirtual 58, 3) := by decide +kernel
theorem dX12_laysRow_98 : decode cX12_laysRow 98 = .ok (.aload_n 0, 1) := by decide +kernel
theorem dX12_laysRow_99 : decode cX12_laysRow 99 = .ok (.iload_n 1, 1) := by decide +kernel
theorem dX12_laysRow_100 : decode cX12_laysRow 100 = .ok (.iconst 2, 1) := by decide +kernel
theorem dX12_laysRow_101 : decode cX12_laysRow 101 = .ok (.aload_n 0, 1) := by decide +kernel
theorem dX12_laysRow_102 : decode cX12_laysRow 102 = .ok (.getfield 109, 3) := by decide +kernel
theorem dX12_laysRow_105 : decode cX12_laysRow 105 = .ok (.invokevirtual 58, 3) := by decide +kernel
theorem dX12_laysRow_108 : decode cX12_laysRow 108 = .ok (.iconst 0, 1) := by decide +kernel
theorem dX12_laysRow_109 : decode cX12_laysRow 109 = .ok (.istore_n 3, 1) := by decide +kernel
theorem dX12_laysRow_110 : decode cX12_laysRow 110 = .ok (.iload_n 3, 1) := by decide +kernel
theorem dX12_laysRow_111 : decode cX12_laysRow 111 = .ok (.aload_n 0, 1) := by decide +kernel
theorem dX12_laysRow_112 : decode cX12_laysRow 112 = .ok (.getfield 70, 3) := by decide +kernel
theorem dX12_laysRow_115 : decode cX12_laysRow 115 = .ok (.if_icmp .ge 23, 3) := by decide +kernel
theorem dX12_laysRow_118 : decode cX12_laysRow 118 = .ok (.aload_n 0, 1) := by decide +kernel
theorem dX12_laysRow_119 : decode cX12_laysRow 119 = .ok (.iload_n 1, 1) := by decide +kernel
theorem dX12_laysRow_120 : decode cX12_laysRow 120 = .ok (.iconst 3, 1) := by decide +kernel
theorem dX12_laysRow_121 : decode cX12_laysRow 121 = .ok (.iload_n 3, 1) := by decide +kernel
theorem dX12_laysRow_122 : decode cX12_laysRow 122 = .ok (.iadd, 1) := by decide +kernel
theorem dX12_laysRow_123 : decode cX12_laysRow 123 = .ok (.aload_n 0, 1) := by decide +kernel
theorem dX12_laysRow_124 : decode cX12_laysRow 124 = .ok (.getfield 13, 3) := by decide +kernel
theorem dX12_laysRow_127 : decode cX12_laysRow 127 = .ok (.iload_n 3, 1) := by decide +kernel
theorem dX12_laysRow_128 : decode cX12_laysRow 128 = .ok (.iaload, 1) := by decide +kernel
theorem dX12_laysRow_129 : decode cX12_laysRow 129 = .ok (.invokevirtual 58, 3) := by decide +kernel
theorem dX12_laysRow_132 : decode cX12_laysRow 132 = .ok (.iinc 3 1, 3) := by decide +kernel
theorem dX12_laysRow_135 : decode cX12_laysRow 135 = .ok (.goto (-25), 3) := by decide +kernel
theorem dX12_laysRow_138 : decode cX12_laysRow 138 = .ok (.return_, 1) := by decide +kernel
set_option maxRecDepth 20000 in
theorem ggX12_comes_X12_goesDown : GoodIn wsX12_comes wsX12_goesDown := goodIn_r _ [9, 2, 4, 10, 11, 12, 13, 14, 15, 8, 16, 17, 18, 19, 20, 21, 22, 23, 24, 25, 26, 27, 28, 29, 30, 31, 32, 33, 34, 35, 36, 37, 38, 39, 40, 41, 42, 43, 44, 45, 82, 83, 84, 85, 86, 87, 88, 89, 90, 91, 92, 93, 94, 95, 96, 97, 98, 99, 100, 101, 102, 103, 104, 105, 106, 107, 108, 109, 110, 111, 112, 113, 114, 115, 116, 117, 118, 119, 120, 121, 122] (by decide +kernel) (by decide +kernel)
set_option maxRecDepth 20000 in
theorem gX12_comes_X12_goesDown : GoodIn wsX12_comes (wsV RX12 116 RX12 yX12_goesDown wsX12_goesDown) := goodIn_app (goodIn_of _ (by decide +kernel)) ggX12_comes_X12_goesDown
set_option maxRecDepth 20000 in
theorem ggX12_comes_X12_rankOfHand : GoodIn wsX12_comes wsX12_rankOfHand := goodIn_r _ [49, 17, 18, 19, 8, 20, 4, 42, 43, 44, 45, 10, 25, 26, 27, 28, 29, 30, 31, 32, 33, 82, 83, 84, 85, 86, 87, 88, 89, 90, 91, 92, 93, 94, 95, 96, 97, 98, 99, 100, 101, 102, 103, 104, 105, 106, 107, 108, 109, 110, 111, 112, 113, 114, 115, 116, 117, 118, 119, 120, 121, 122] (by decide +kernel) (by decide +kernel)
set_option maxRecDepth 20000 in
theorem gX12_comes_X12_rankOfHand : GoodIn wsX12_comes (wsV RX12 81 RX12 yX12_rankOfHand wsX12_rankOfHand) := goodIn_app (goodIn_of _ (by decide +kernel)) ggX12_comes_X12_rankOfHand
set_option maxRecDepth 20000 in
theorem ggX12_comes_X12_findsEntries : GoodIn wsX12_comes wsX12_findsEntries := goodIn_r _ [53, 4, 1, 11, 12, 54, 3, 13, 14, 15, 8, 16, 17, 18, 19, 20, 21, 22, 23, 24, 10, 25, 26, 27, 28, 29, 30, 31, 32, 33, 55, 56, 57, 58, 82, 83, 84, 85, 86, 87, 88, 89, 90, 91, 92, 93, 94, 95, 96, 97, 98, 99, 100, 101, 102, 103, 104, 105, 106, 107, 108, 109, 110, 111, 112, 113, 114, 115, 116, 117, 118, 119, 120, 121, 122] (by decide +kernel) (by decide +kernel)
set_option maxRecDepth 20000 in
theorem gX12_comes_X12_findsEntries : GoodIn wsX12_comes (wsV RX12 119 RX12 yX12_findsEntries wsX12_findsEntries) := goodIn_app (goodIn_of _ (by decide +kernel)) ggX12_comes_X12_findsEntries
set_option maxRecDepth 20000 in
theorem ggX12_comes_X12_against : GoodIn wsX12_comes wsX12_against := goodIn_r _ [45, 10, 25, 26, 27, 28, 8, 29, 4, 30, 31, 32, 33, 82, 83, 84, 85, 86, 87, 88, 89, 90, 91, 92, 93, 94, 95, 96, 97, 98, 99, 100, 101, 102, 103, 104, 105, 106, 107, 108, 109, 110, 111, 112, 113, 114, 115, 116, 117, 118, 119, 120, 121, 122] (by decide +kernel) (by decide +kernel)
set_option maxRecDepth 20000 in
theorem gX12_comes_X12_against : GoodIn wsX12_comes (wsV RX12 77 RX12 yX12_against wsX12_against) := goodIn_app (goodIn_of _ (by decide +kernel)) ggX12_comes_X12_against
set_option maxRecDepth 20000 in
theorem ggX12_comes_X12_marks : GoodIn wsX12_comes wsX12_marks := goodIn_r _ [37, 26, 27, 28, 8, 29, 4, 38, 39, 40, 41, 82, 83, 84, 85, 86, 87, 88, 89, 90, 91, 92, 93, 94, 95, 96, 97, 98, 99, 100, 101, 102, 103, 104, 105, 106, 107, 108, 109, 110, 111, 112, 113, 114, 115, 116, 117, 118, 119, 120, 121, 122] (by decide +kernel) (by decide +kernel)
set_option maxRecDepth 20000 in
theorem gX12_comes_X12_marks : GoodIn wsX12_comes (wsV RX12 112 RX12 yX12_marks wsX12_marks) := goodIn_app (goodIn_of _ (by decide +kernel)) ggX12_comes_X12_marks
set_option maxRecDepth 20000 in
theorem ggX12_comes_X12_laysRow : GoodIn wsX12_comes wsX12_laysRow := goodIn_r _ [62, 4, 10, 2, 25, 17, 18, 19, 8, 20, 26, 27, 28, 29, 38, 39, 40, 41, 82, 83, 84, 85, 86, 87, 88, 89, 90, 91, 92, 93, 94, 95, 96, 97, 98, 99, 100, 101, 102, 103, 104, 105, 106, 107, 108, 109, 110, 111, 112, 113, 114, 115, 116, 117, 118, 119, 120, 121, 122] (by decide +kernel) (by decide +kernel)
set_option maxRecDepth 20000 in
theorem gX12_comes_X12_laysRow : GoodIn wsX12_comes (wsV RX12 122 RX12 yX12_laysRow wsX12_laysRow) := goodIn_app (goodIn_of _ (by decide +kernel)) ggX12_comes_X12_laysRow
set_option maxRecDepth 20000 in
theorem ggX12_comes_X12_entryOf : GoodIn wsX12_comes wsX12_entryOf := goodIn_r _ [66, 3, 82, 83, 84, 85, 86, 87, 88, 89, 90, 91, 92, 93, 94, 95, 96, 97, 98, 99, 100, 101, 102, 103, 104, 105, 106, 107, 108, 109, 110, 111, 112, 113, 114, 115, 116, 117, 118, 119, 120, 121, 122] (by decide +kernel) (by decide +kernel)
set_option maxRecDepth 20000 in
theorem gX12_comes_X12_entryOf : GoodIn wsX12_comes (wsV RX12 126 RX12 yX12_entryOf wsX12_entryOf) := goodIn_app (goodIn_of _ (by decide +kernel)) ggX12_comes_X12_entryOf
set_option maxRecDepth 20000 in
theorem ggX12_comes_X12_pageBegin : GoodIn wsX12_comes wsX12_pageBegin := goodIn_r _ [70, 3, 71, 72, 73, 8, 74, 26, 27, 28, 29, 4, 75, 76, 77, 82, 83, 84, 85, 86, 87, 88, 89, 90, 91, 92, 93, 94, 95, 96, 97, 98, 99, 100, 101, 102, 103, 104, 105, 106, 107, 108, 109, 110, 111, 112, 113, 114, 115, 116, 117, 118, 119, 120, 121, 122] (by decide +kernel) (by decide +kernel)
set_option maxRecDepth 20000 in
theorem gX12_comes_X12_pageBegin : GoodIn wsX12_comes (wsV RX12 129 RX12 yX12_pageBegin wsX12_pageBegin) := goodIn_app (goodIn_of _ (by decide +kernel)) ggX12_comes_X12_pageBegin
set_option maxRecDepth 20000 in
theorem ggX12_comes_X12_pageEnd : GoodIn wsX12_comes wsX12_pageEnd := goodIn_r _ [81, 1, 3, 71, 72, 73, 8, 74, 26, 27, 28, 29, 4, 75, 76, 77, 82, 83, 84, 85, 86, 87, 88, 89, 90, 91, 92, 93, 94, 95, 96, 97, 98, 99, 100, 101, 102, 103, 104, 105, 106, 107, 108, 109, 110, 111, 112, 113, 114, 115, 116, 117, 118, 119, 120, 121, 122] (by decide +kernel) (by decide +kernel)
set_option maxRecDepth 20000 in
theorem gX12_comes_X12_pageEnd : GoodIn wsX12_comes (wsV RX12 132 RX12 yX12_pageEnd wsX12_pageEnd) := goodIn_app (goodIn_of _ (by decide +kernel)) ggX12_comes_X12_pageEnd
theorem dX12_comes_0 : decode cX12_comes 0 = .ok (.aload_n 0, 1) := by decide +kernel
theorem dX12_comes_1 : decode cX12_comes 1 = .ok (.invokevirtual 116, 3) := by decide +kernel
theorem dX12_comes_4 : decode cX12_comes 4 = .ok (.istore_n 2, 1) := by decide +kernel
theorem dX12_comes_5 : decode cX12_comes 5 = .ok (.aload_n 0, 1) := by decide +kernel
theorem dX12_comes_6 : decode cX12_comes 6 = .ok (.invokevirtual 81, 3) := by decide +kernel
theorem dX12_comes_9 : decode cX12_comes 9 = .ok (.istore_n 3, 1) := by decide +kernel
theorem dX12_comes_10 : decode cX12_comes 10 = .ok (.aload_n 0, 1) := by decide +kernel
theorem dX12_comes_11 : decode cX12_comes 11 = .ok (.iload_n 2, 1) := by decide +kernel
theorem dX12_comes_12 : decode cX12_comes 12 = .ok (.invokevirtual 119, 3) := by decide +kernel
theorem dX12_comes_15 : decode cX12_comes 15 = .ok (.aload_n 0, 1) := by decide +kernel
theorem dX12_comes_16 : decode cX12_comes 16 = .ok (.getfield 97, 3) := by decide +kernel
theorem dX12_comes_19 : decode cX12_comes 19 = .ok (.ifCond .ne 18, 3) := by decide +kernel
theorem dX12_comes_22 : decode cX12_comes 22 = .ok (.aload_n 0, 1) := by decide +kernel
theorem dX12_comes_23 : decode cX12_comes 23 = .ok (.aload_n 0, 1) := by decide +kernel
theorem dX12_comes_24 : decode cX12_comes 24 = .ok (.getfield 109, 3) := by decide +kernel
theorem dX12_comes_27 : decode cX12_comes 27 = .ok (.iconst 1, 1) := by decide +kernel
theorem dX12_comes_28 : decode cX12_comes 28 = .ok (.iload_n 2, 1) := by decide +kernel
theorem dX12_comes_29 : decode cX12_comes 29 = .ok (.ishl, 1) := by decide +kernel
theorem dX12_comes_30 : decode cX12_comes 30 = .ok (.ior, 1) := by decide +kernel
theorem dX12_comes_31 : decode cX12_comes 31 = .ok (.putfield 109, 3) := by decide +kernel
theorem dX12_comes_34 : decode cX12_comes 34 = .ok (.goto 40, 3) := by decide +kernel
theorem dX12_comes_37 : decode cX12_comes 37 = .ok (.aload_n 0, 1) := by decide +kernel
theorem dX12_comes_38 : decode cX12_comes 38 = .ok (.aload_n 0, 1) := by decide +kernel
theorem dX12_comes_39 : decode cX12_comes 39 = .ok (.getfield 16, 3) := by decide +kernel
theorem dX12_comes_42 : decode cX12_comes 42 = .ok (.iconst 0, 1) := by decide +kernel
theorem dX12_comes_43 : decode cX12_comes 43 = .ok (.iaload, 1) := by decide +kernel
theorem dX12_comes_44 : decode cX12_comes 44 = .ok (.invokevirtual 77, 3) := by decide +kernel
theorem dX12_comes_47 : decode cX12_comes 47 = .ok (.ifCond .le 27, 3) := by decide +kernel
theorem dX12_comes_50 : decode cX12_comes 50 = .ok (.aload_n 0, 1) := by decide +kernel
theorem dX12_comes_51 : decode cX12_comes 51 = .ok (.aload_n 0, 1) := by decide +kernel
theorem dX12_comes_52 : decode cX12_comes 52 = .ok (.getfield 109, 3) := by decide +kernel
theorem dX12_comes_55 : decode cX12_comes 55 = .ok (.iconst 1, 1) := by decide +kernel
theorem dX12_comes_56 : decode cX12_comes 56 = .ok (.iload_n 2, 1) := by decide +kernel
theorem dX12_comes_57 : decode cX12_comes 57 = .ok (.ishl, 1) := by decide +kernel
theorem dX12_comes_58 : decode cX12_comes 58 = .ok (.ior, 1) := by decide +kernel
theorem dX12_comes_59 : decode cX12_comes 59 = .ok (.putfield 109, 3) := by decide +kernel
theorem dX12_comes_62 : decode cX12_comes 62 = .ok (.aload_n 0, 1) := by decide +kernel
theorem dX12_comes_63 : decode cX12_comes 63 = .ok (.aload_n 0, 1) := by decide +kernel
theorem dX12_comes_64 : decode cX12_comes 64 = .ok (.getfield 16, 3) := by decide +kernel
theorem dX12_comes_67 : decode cX12_comes 67 = .ok (.iconst 0, 1) := by decide +kernel
theorem dX12_comes_68 : decode cX12_comes 68 = .ok (.iaload, 1) := by decide +kernel
theorem dX12_comes_69 : decode cX12_comes 69 = .ok (.iload_n 2, 1) := by decide +kernel
theorem dX12_comes_70 : decode cX12_comes 70 = .ok (.iconst 0, 1) := by decide +kernel
theorem dX12_comes_71 : decode cX12_comes 71 = .ok (.invokevirtual 112, 3) := by decide +kernel
theorem dX12_comes_74 : decode cX12_comes 74 = .ok (.aload_n 0, 1) := by decide +kernel
theorem dX12_comes_75 : decode cX12_comes 75 = .ok (.iload_n 3, 1) := by decide +kernel
theorem dX12_comes_76 : decode cX12_comes 76 = .ok (.iload_n 1, 1) := by decide +kernel
theorem dX12_comes_77 : decode cX12_comes 77 = .ok (.invokevirtual 122, 3) := by decide +kernel
theorem dX12_comes_80 : decode cX12_comes 80 = .ok (.aload_n 0, 1) := by decide +kernel
theorem dX12_comes_81 : decode cX12_comes 81 = .ok (.iload_n 2, 1) := by decide +kernel
theorem dX12_comes_82 : decode cX12_comes 82 = .ok (.invokevirtual 119, 3) := by decide +kernel
theorem dX12_comes_85 : decode cX12_comes 85 = .ok (.aload_n 0, 1) := by decide +kernel
theorem dX12_comes_86 : decode cX12_comes 86 = .ok (.iload_n 3, 1) := by decide +kernel
theorem dX12_comes_87 : decode cX12_comes 87 = .ok (.invokevirtual 126, 3) := by decide +kernel
theorem dX12_comes_90 : decode cX12_comes 90 = .ok (.istore 4, 2) := by decide +kernel
theorem dX12_comes_92 : decode cX12_comes 92 = .ok (.aload_n 0, 1) := by decide +kernel
theorem dX12_comes_93 : decode cX12_comes 93 = .ok (.iload 4, 2) := by decide +kernel
theorem dX12_comes_95 : decode cX12_comes 95 = .ok (.iload_n 2, 1) := by decide +kernel
theorem dX12_comes_96 : decode cX12_comes 96 = .ok (.invokevirtual 129, 3) := by decide +kernel
theorem dX12_comes_99 : decode cX12_comes 99 = .ok (.istore 5, 2) := by decide +kernel
theorem dX12_comes_101 : decode cX12_comes 101 = .ok (.aload_n 0, 1) := by decide +kernel
theorem dX12_comes_102 : decode cX12_comes 102 = .ok (.iload 4, 2) := by decide +kernel
theorem dX12_comes_104 : decode cX12_comes 104 = .ok (.iload_n 2, 1) := by decide +kernel
theorem dX12_comes_105 : decode cX12_comes 105 = .ok (.invokevirtual 132, 3) := by decide +kernel
theorem dX12_comes_108 : decode cX12_comes 108 = .ok (.iload 5, 2) := by decide +kernel
theorem dX12_comes_110 : decode cX12_comes 110 = .ok (.isub, 1) := by decide +kernel
theorem dX12_comes_111 : decode cX12_comes 111 = .ok (.istore 6, 2) := by decide +kernel
theorem dX12_comes_113 : decode cX12_comes 113 = .ok (.iload 6, 2) := by decide +kernel
theorem dX12_comes_115 : decode cX12_comes 115 = .ok (.aload_n 0, 1) := by decide +kernel
theorem dX12_comes_116 : decode cX12_comes 116 = .ok (.getfield 7, 3) := by decide +kernel
theorem dX12_comes_119 : decode cX12_comes 119 = .ok (.iconst 2, 1) := by decide +kernel
theorem dX12_comes_120 : decode cX12_comes 120 = .ok (.iaload, 1) := by decide +kernel
theorem dX12_comes_121 : decode cX12_comes 121 = .ok (.if_icmp .gt 4, 3) := by decide +kernel
theorem dX12_comes_124 : decode cX12_comes 124 = .ok (.return_, 1) := by decide +kernel
theorem dX12_comes_125 : decode cX12_comes 125 = .ok (.aload_n 0, 1) := by decide +kernel
theorem dX12_comes_126 : decode cX12_comes 126 = .ok (.aload_n 0, 1) := by decide +kernel
theorem dX12_comes_127 : decode cX12_comes 127 = .ok (.getfield 16, 3) := by decide +kernel
theorem dX12_comes_130 : decode cX12_comes 130 = .ok (.iload 5, 2) := by decide +kernel
theorem dX12_comes_132 : decode cX12_comes 132 = .ok (.iload 6, 2) := by decide +kernel
theorem dX12_comes_134 : decode cX12_comes 134 = .ok (.iconst 2, 1) := by decide +kernel
theorem dX12_comes_135 : decode cX12_comes 135 = .ok (.idiv, 1) := by decide +kernel
theorem dX12_comes_136 : decode cX12_comes 136 = .ok (.iadd, 1) := by decide +kernel
theorem dX12_comes_137 : decode cX12_comes 137 = .ok (.iaload, 1) := by decide +kernel
theorem dX12_comes_138 : decode cX12_comes 138 = .ok (.iload_n 2, 1) := by decide +kernel
theorem dX12_comes_139 : decode cX12_comes 139 = .ok (.iconst 1, 1) := by decide +kernel
theorem dX12_comes_140 : decode cX12_comes 140 = .ok (.invokevirtual 112, 3) := by decide +kernel
theorem dX12_comes_143 : decode cX12_comes 143 = .ok (.aload_n 0, 1) := by decide +kernel
theorem dX12_comes_144 : decode cX12_comes 144 = .ok (.getfield 7, 3) := by decide +kernel
theorem dX12_comes_147 : decode cX12_comes 147 = .ok (.iconst 3, 1) := by decide +kernel
theorem dX12_comes_148 : decode cX12_comes 148 = .ok (.aload_n 0, 1) := by decide +kernel
theorem dX12_comes_149 : decode cX12_comes 149 = .ok (.getfield 7, 3) := by decide +kernel
theorem dX12_comes_152 : decode cX12_comes 152 = .ok (.iconst 3, 1) := by decide +kernel
theorem dX12_comes_153 : decode cX12_comes 153 = .ok (.iaload, 1) := by decide +kernel
theorem dX12_comes_154 : decode cX12_comes 154 = .ok (.iconst 1, 1) := by decide +kernel
theorem dX12_comes_155 : decode cX12_comes 155 = .ok (.iadd, 1) := by decide +kernel
theorem dX12_comes_156 : decode cX12_comes 156 = .ok (.iastore, 1) := by decide +kernel
theorem dX12_comes_157 : decode cX12_comes 157 = .ok (.return_, 1) := by decide +kernel
set_option maxRecDepth 20000 in
theorem ggX12_dropsRow_X12_many : GoodIn wsX12_dropsRow wsX12_many := goodIn_r _ [6, 1, 15, 16, 17, 18, 19, 20, 21, 22, 23, 24, 25, 26, 27, 28, 29, 30, 31, 32, 33, 34, 35, 36, 37, 38, 39, 40, 41, 42, 43, 44, 45, 46, 47, 48, 49, 50, 51, 52, 53, 54, 55] (by decide +kernel) (by decide +kernel)
set_option maxRecDepth 20000 in
theorem gX12_dropsRow_X12_many : GoodIn wsX12_dropsRow (wsV RX12 62 RX12 yX12_many wsX12_many) := goodIn_app (goodIn_of _ (by decide +kernel)) ggX12_dropsRow_X12_many
set_option maxRecDepth 20000 in
theorem ggX12_dropsRow_X12_of : GoodIn wsX12_dropsRow wsX12_of := goodIn_r _ [10, 1, 15, 16, 17, 18, 19, 20, 21, 22, 23, 24, 25, 26, 27, 28, 29, 30, 31, 32, 33, 34, 35, 36, 37, 38, 39, 40, 41, 42, 43, 44, 45, 46, 47, 48, 49, 50, 51, 52, 53, 54, 55] (by decide +kernel) (by decide +kernel)
set_option maxRecDepth 20000 in
theorem gX12_dropsRow_X12_of : GoodIn wsX12_dropsRow (wsV RX12 50 RX12 yX12_of wsX12_of) := goodIn_app (goodIn_of _ (by decide +kernel)) ggX12_dropsRow_X12_of
set_option maxRecDepth 20000 in
theorem ggX12_dropsRow_X12_sets : GoodIn wsX12_dropsRow wsX12_sets := goodIn_r _ [14, 1, 15, 16, 17, 18, 19, 20, 21, 22, 23, 24, 25, 26, 27, 28, 29, 30, 31, 32, 33, 34, 35, 36, 37, 38, 39, 40, 41, 42, 43, 44, 45, 46, 47, 48, 49, 50, 51, 52, 53, 54, 55] (by decide +kernel) (by decide +kernel)
set_option maxRecDepth 20000 in
theorem gX12_dropsRow_X12_sets : GoodIn wsX12_dropsRow (wsV RX12 58 RX12 yX12_sets wsX12_sets) := goodIn_app (goodIn_of _ (by decide +kernel)) ggX12_dropsRow_X12_sets
theorem dX12_dropsRow_0 : decode cX12_dropsRow 0 = .ok (.aload_n 0, 1) := by decide +kernel
theorem dX12_dropsRow_1 : decode cX12_dropsRow 1 = .ok (.getfield 7, 3) := by decide +kernel
theorem dX12_dropsRow_4 : decode cX12_dropsRow 4 = .ok (.iconst 0, 1) := by decide +kernel
theorem dX12_dropsRow_5 : decode cX12_dropsRow 5 = .ok (.aload_n 0, 1) := by decide +kernel
theorem dX12_dropsRow_6 : decode cX12_dropsRow 6 = .ok (.invokevirtual 62, 3) := by decide +kernel
theorem dX12_dropsRow_9 : decode cX12_dropsRow 9 = .ok (.iconst 1, 1) := by decide +kernel
theorem dX12_dropsRow_10 : decode cX12_dropsRow 10 = .ok (.isub, 1) := by decide +kernel
theorem dX12_dropsRow_11 : decode cX12_dropsRow 11 = .ok (.iastore, 1) := by decide +kernel
theorem dX12_dropsRow_12 : decode cX12_dropsRow 12 = .ok (.iload_n 1, 1) := by decide +kernel
theorem dX12_dropsRow_13 : decode cX12_dropsRow 13 = .ok (.istore_n 2, 1) := by decide +kernel
theorem dX12_dropsRow_14 : decode cX12_dropsRow 14 = .ok (.iload_n 2, 1) := by decide +kernel
theorem dX12_dropsRow_15 : decode cX12_dropsRow 15 = .ok (.aload_n 0, 1) := by decide +kernel
theorem dX12_dropsRow_16 : decode cX12_dropsRow 16 = .ok (.invokevirtual 62, 3) := by decide +kernel
theorem dX12_dropsRow_19 : decode cX12_dropsRow 19 = .ok (.if_icmp .ge 37, 3) := by decide +kernel
theorem dX12_dropsRow_22 : decode cX12_dropsRow 22 = .ok (.iconst 0, 1) := by decide +kernel
theorem dX12_dropsRow_23 : decode cX12_dropsRow 23 = .ok (.istore_n 3, 1) := by decide +kernel
theorem dX12_dropsRow_24 : decode cX12_dropsRow 24 = .ok (.iload_n 3, 1) := by decide +kernel
theorem dX12_dropsRow_25 : decode cX12_dropsRow 25 = .ok (.bipush 27, 2) := by decide +kernel
theorem dX12_dropsRow_27 : decode cX12_dropsRow 27 = .ok (.if_icmp .ge 23, 3) := by decide +kernel
theorem dX12_dropsRow_30 : decode cX12_dropsRow 30 = .ok (.aload_n 0, 1) := by decide +kernel
theorem dX12_dropsRow_31 : decode cX12_dropsRow 31 = .ok (.iload_n 2, 1) := by decide +kernel
theorem dX12_dropsRow_32 : decode cX12_dropsRow 32 = .ok (.iload_n 3, 1) := by decide +kernel
theorem dX12_dropsRow_33 : decode cX12_dropsRow 33 = .ok (.aload_n 0, 1) := by decide +kernel
theorem dX12_dropsRow_34 : decode cX12_dropsRow 34 = .ok (.iload_n 2, 1) := by decide +kernel
theorem dX12_dropsRow_35 : decode cX12_dropsRow 35 = .ok (.iconst 1, 1) := by decide +kernel
theorem dX12_dropsRow_36 : decode cX12_dropsRow 36 = .ok (.iadd, 1) := by decide +kernel
theorem dX12_dropsRow_37 : decode cX12_dropsRow 37 = .ok (.iload_n 3, 1) := by decide +kernel
theorem dX12_dropsRow_38 : decode cX12_dropsRow 38 = .ok (.invokevirtual 50, 3) := by decide +kernel
theorem dX12_dropsRow_41 : decode cX12_dropsRow 41 = .ok (.invokevirtual 58, 3) := by decide +kernel
theorem dX12_dropsRow_44 : decode cX12_dropsRow 44 = .ok (.iinc 3 1, 3) := by decide +kernel
theorem dX12_dropsRow_47 : decode cX12_dropsRow 47 = .ok (.goto (-23), 3) := by decide +kernel
theorem dX12_dropsRow_50 : decode cX12_dropsRow 50 = .ok (.iinc 2 1, 3) := by decide +kernel
theorem dX12_dropsRow_53 : decode cX12_dropsRow 53 = .ok (.goto (-39), 3) := by decide +kernel
theorem dX12_dropsRow_56 : decode cX12_dropsRow 56 = .ok (.return_, 1) := by decide +kernel
set_option maxRecDepth 20000 in
theorem ggX12_leavesPage_X12_findsEntries : GoodIn wsX12_leavesPage wsX12_findsEntries := goodIn_r _ [8, 2, 3, 9, 10, 11, 1, 12, 13, 14, 7, 15, 16, 17, 18, 19, 20, 21, 22, 23, 24, 25, 26, 27, 28, 29, 30, 31, 32, 33, 34, 35, 36, 37, 65, 66, 67, 68, 69, 70, 71, 72, 73, 74, 75, 76, 77, 78, 79, 80, 81, 82, 83, 84, 85, 86, 87, 88, 89, 90, 91, 92, 93, 94, 95, 96, 97, 98, 99, 100, 101, 102, 103, 104, 105] (by decide +kernel) (by decide +kernel)
set_option maxRecDepth 20000 in
theorem gX12_leavesPage_X12_findsEntries : GoodIn wsX12_leavesPage (wsV RX12 119 RX12 yX12_findsEntries wsX12_findsEntries) := goodIn_app (goodIn_of _ (by decide +kernel)) ggX12_leavesPage_X12_findsEntries
set_option maxRecDepth 20000 in
theorem ggX12_leavesPage_X12_entryOf : GoodIn wsX12_leavesPage wsX12_entryOf := goodIn_r _ [41, 1, 65, 66, 67, 68, 69, 70, 71, 72, 73, 74, 75, 76, 77, 78, 79, 80, 81, 82, 83, 84, 85, 86, 87, 88, 89, 90, 91, 92, 93, 94, 95, 96, 97, 98, 99, 100, 101, 102, 103, 104, 105] (by decide +kernel) (by decide +kernel)
set_option maxRecDepth 20000 in
theorem gX12_leavesPage_X12_entryOf : GoodIn wsX12_leavesPage (wsV RX12 126 RX12 yX12_entryOf wsX12_entryOf) := goodIn_app (goodIn_of _ (by decide +kernel)) ggX12_leavesPage_X12_entryOf
set_option maxRecDepth 20000 in
theorem ggX12_leavesPage_X12_pageBegin : GoodIn wsX12_leavesPage wsX12_pageBegin := goodIn_r _ [45, 1, 46, 47, 48, 7, 49, 26, 27, 28, 29, 2, 50, 51, 52, 65, 66, 67, 68, 69, 70, 71, 72, 73, 74, 75, 76, 77, 78, 79, 80, 81, 82, 83, 84, 85, 86, 87, 88, 89, 90, 91, 92, 93, 94, 95, 96, 97, 98, 99, 100, 101, 102, 103, 104, 105] (by decide +kernel) (by decide +kernel)
set_option maxRecDepth 20000 in
theorem gX12_leavesPage_X12_pageBegin : GoodIn wsX12_leavesPage (wsV RX12 129 RX12 yX12_pageBegin wsX12_pageBegin) := goodIn_app (goodIn_of _ (by decide +kernel)) ggX12_leavesPage_X12_pageBegin
set_option maxRecDepth 20000 in
theorem ggX12_leavesPage_X12_pageEnd : GoodIn wsX12_leavesPage wsX12_pageEnd := goodIn_r _ [56, 3, 1, 46, 47, 48, 7, 49, 26, 27, 28, 29, 2, 50, 51, 52, 65, 66, 67, 68, 69, 70, 71, 72, 73, 74, 75, 76, 77, 78, 79, 80, 81, 82, 83, 84, 85, 86, 87, 88, 89, 90, 91, 92, 93, 94, 95, 96, 97, 98, 99, 100, 101, 102, 103, 104, 105] (by decide +kernel) (by decide +kernel)
set_option maxRecDepth 20000 in
theorem gX12_leavesPage_X12_pageEnd : GoodIn wsX12_leavesPage (wsV RX12 132 RX12 yX12_pageEnd wsX12_pageEnd) := goodIn_app (goodIn_of _ (by decide +kernel)) ggX12_leavesPage_X12_pageEnd
set_option maxRecDepth 20000 in
theorem ggX12_leavesPage_X12_marks : GoodIn wsX12_leavesPage wsX12_marks := goodIn_r _ [60, 26, 27, 28, 7, 29, 2, 61, 62, 63, 64, 65, 66, 67, 68, 69, 70, 71, 72, 73, 74, 75, 76, 77, 78, 79, 80, 81, 82, 83, 84, 85, 86, 87, 88, 89, 90, 91, 92, 93, 94, 95, 96, 97, 98, 99, 100, 101, 102, 103, 104, 105] (by decide +kernel) (by decide +kernel)
set_option maxRecDepth 20000 in
theorem gX12_leavesPage_X12_marks : GoodIn wsX12_leavesPage (wsV RX12 112 RX12 yX12_marks wsX12_marks) := goodIn_app (goodIn_of _ (by decide +kernel)) ggX12_leavesPage_X12_marks
theorem dX12_leavesPage_0 : decode cX12_leavesPage 0 = .ok (.aload_n 0, 1) := by decide +kernel
theorem dX12_leavesPage_1 : decode cX12_leavesPage 1 = .ok (.iload_n 2, 1) := by decide +kernel
theorem dX12_leavesPage_2 : decode cX12_leavesPage 2 = .ok (.invokevirtual 119, 3) := by decide +kernel
theorem dX12_leavesPage_5 : decode cX12_leavesPage 5 = .ok (.aload_n 0, 1) := by decide +kernel
theorem dX12_leavesPage_6 : decode cX12_leavesPage 6 = .ok (.iload_n 1, 1) := by decide +kernel
theorem dX12_leavesPage_7 : decode cX12_leavesPage 7 = .ok (.invokevirtual 126, 3) := by decide +kernel
theorem dX12_leavesPage_10 : decode cX12_leavesPage 10 = .ok (.istore_n 3, 1) := by decide +kernel
theorem dX12_leavesPage_11 : decode cX12_leavesPage 11 = .ok (.aload_n 0, 1) := by decide +kernel
theorem dX12_leavesPage_12 : decode cX12_leavesPage 12 = .ok (.iload_n 3, 1) := by decide +kernel
theorem dX12_leavesPage_13 : decode cX12_leavesPage 13 = .ok (.iload_n 2, 1) := by decide +kernel
theorem dX12_leavesPage_14 : decode cX12_leavesPage 14 = .ok (.invokevirtual 129, 3) := by decide +kernel
theorem dX12_leavesPage_17 : decode cX12_leavesPage 17 = .ok (.istore 4, 2) := by decide +kernel
theorem dX12_leavesPage_19 : decode cX12_leavesPage 19 = .ok (.aload_n 0, 1) := by decide +kernel
theorem dX12_leavesPage_20 : decode cX12_leavesPage 20 = .ok (.iload_n 3, 1) := by decide +kernel
theorem dX12_leavesPage_21 : decode cX12_leavesPage 21 = .ok (.iload_n 2, 1) := by decide +kernel
theorem dX12_leavesPage_22 : decode cX12_leavesPage 22 = .ok (.invokevirtual 132, 3) := by decide +kernel
theorem dX12_leavesPage_25 : decode cX12_leavesPage 25 = .ok (.istore 5, 2) := by decide +kernel
theorem dX12_leavesPage_27 : decode cX12_leavesPage 27 = .ok (.iload 5, 2) := by decide +kernel
theorem dX12_leavesPage_29 : decode cX12_leavesPage 29 = .ok (.iload 4, 2) := by decide +kernel
theorem dX12_leavesPage_31 : decode cX12_leavesPage 31 = .ok (.isub, 1) := by decide +kernel
theorem dX12_leavesPage_32 : decode cX12_leavesPage 32 = .ok (.iconst 1, 1) := by decide +kernel
theorem dX12_leavesPage_33 : decode cX12_leavesPage 33 = .ok (.isub, 1) := by decide +kernel
theorem dX12_leavesPage_34 : decode cX12_leavesPage 34 = .ok (.istore 6, 2) := by decide +kernel
theorem dX12_leavesPage_36 : decode cX12_leavesPage 36 = .ok (.iload 6, 2) := by decide +kernel
theorem dX12_leavesPage_38 : decode cX12_leavesPage 38 = .ok (.ifCond .ne 4, 3) := by decide +kernel
theorem dX12_leavesPage_41 : decode cX12_leavesPage 41 = .ok (.return_, 1) := by decide +kernel
theorem dX12_leavesPage_42 : decode cX12_leavesPage 42 = .ok (.iload_n 3, 1) := by decide +kernel
theorem dX12_leavesPage_43 : decode cX12_leavesPage 43 = .ok (.iload 4, 2) := by decide +kernel
theorem dX12_leavesPage_45 : decode cX12_leavesPage 45 = .ok (.if_icmp .ne 17, 3) := by decide +kernel
theorem dX12_leavesPage_48 : decode cX12_leavesPage 48 = .ok (.aload_n 0, 1) := by decide +kernel
theorem dX12_leavesPage_49 : decode cX12_leavesPage 49 = .ok (.aload_n 0, 1) := by decide +kernel
theorem dX12_leavesPage_50 : decode cX12_leavesPage 50 = .ok (.getfield 16, 3) := by decide +kernel
theorem dX12_leavesPage_53 : decode cX12_leavesPage 53 = .ok (.iload_n 3, 1) := by decide +kernel
theorem dX12_leavesPage_54 : decode cX12_leavesPage 54 = .ok (.iconst 1, 1) := by decide +kernel
theorem dX12_leavesPage_55 : decode cX12_leavesPage 55 = .ok (.iadd, 1) := by decide +kernel
theorem dX12_leavesPage_56 : decode cX12_leavesPage 56 = .ok (.iaload, 1) := by decide +kernel
theorem dX12_leavesPage_57 : decode cX12_leavesPage 57 = .ok (.iload_n 2, 1) := by decide +kernel
theorem dX12_leavesPage_58 : decode cX12_leavesPage 58 = .ok (.iconst 1, 1) := by decide +kernel
theorem dX12_leavesPage_59 : decode cX12_leavesPage 59 = .ok (.invokevirtual 112, 3) := by decide +kernel
theorem dX12_leavesPage_62 : decode cX12_leavesPage 62 = .ok (.aload_n 0, 1) := by decide +kernel
theorem dX12_leavesPage_63 : decode cX12_leavesPage 63 = .ok (.getfield 7, 3) := by decide +kernel
theorem dX12_leavesPage_66 : decode cX12_leavesPage 66 = .ok (.iconst 2, 1) := by decide +kernel
theorem dX12_leavesPage_67 : decode cX12_leavesPage 67 = .ok (.iaload, 1) := by decide +kernel
theorem dX12_leavesPage_68 : decode cX12_leavesPage 68 = .ok (.iconst 2, 1) := by decide +kernel
theorem dX12_leavesPage_69 : decode cX12_leavesPage 69 = .ok (.idiv, 1) := by decide +kernel
theorem dX12_leavesPage_70 : decode cX12_leavesPage 70 = .ok (.istore 7, 2) := by decide +kernel
theorem dX12_leavesPage_72 : decode cX12_leavesPage 72 = .ok (.iload 5, 2) := by decide +kernel
theorem dX12_leavesPage_74 : decode cX12_leavesPage 74 = .ok (.aload_n 0, 1) := by decide +kernel
theorem dX12_leavesPage_75 : decode cX12_leavesPage 75 = .ok (.getfield 97, 3) := by decide +kernel
theorem dX12_leavesPage_78 : decode cX12_leavesPage 78 = .ok (.if_icmp .ge 51, 3) := by decide +kernel
theorem dX12_leavesPage_81 : decode cX12_leavesPage 81 = .ok (.iload 6, 2) := by decide +kernel
theorem dX12_leavesPage_83 : decode cX12_leavesPage 83 = .ok (.aload_n 0, 1) := by decide +kernel
theorem dX12_leavesPage_84 : decode cX12_leavesPage 84 = .ok (.iload 5, 2) := by decide +kernel
theorem dX12_leavesPage_86 : decode cX12_leavesPage 86 = .ok (.iload_n 2, 1) := by decide +kernel
theorem dX12_leavesPage_87 : decode cX12_leavesPage 87 = .ok (.invokevirtual 132, 3) := by decide +kernel
theorem dX12_leavesPage_90 : decode cX12_leavesPage 90 = .ok (.iadd, 1) := by decide +kernel
theorem dX12_leavesPage_91 : decode cX12_leavesPage 91 = .ok (.iload 5, 2) := by decide +kernel
theorem dX12_leavesPage_93 : decode cX12_leavesPage 93 = .ok (.isub, 1) := by decide +kernel
theorem dX12_leavesPage_94 : decode cX12_leavesPage 94 = .ok (.iload 7, 2) := by decide +kernel
theorem dX12_leavesPage_96 : decode cX12_leavesPage 96 = .ok (.if_icmp .gt 33, 3) := by decide +kernel
theorem dX12_leavesPage_99 : decode cX12_leavesPage 99 = .ok (.aload_n 0, 1) := by decide +kernel
theorem dX12_leavesPage_100 : decode cX12_leavesPage 100 = .ok (.aload_n 0, 1) := by decide +kernel
theorem dX12_leavesPage_101 : decode cX12_leavesPage 101 = .ok (.getfield 16, 3) := by decide +kernel
theorem dX12_leavesPage_104 : decode cX12_leavesPage 104 = .ok (.iload 5, 2) := by decide +kernel
theorem dX12_leavesPage_106 : decode cX12_leavesPage 106 = .ok (.iaload, 1) := by decide +kernel
theorem dX12_leavesPage_107 : decode cX12_leavesPage 107 = .ok (.iload_n 2, 1) := by decide +kernel
theorem dX12_leavesPage_108 : decode cX12_leavesPage 108 = .ok (.iconst 0, 1) := by decide +kernel
theorem dX12_leavesPage_109 : decode cX12_leavesPage 109 = .ok (.invokevirtual 112, 3) := by decide +kernel
theorem dX12_leavesPage_112 : decode cX12_leavesPage 112 = .ok (.aload_n 0, 1) := by decide +kernel
theorem dX12_leavesPage_113 : decode cX12_leavesPage 113 = .ok (.getfield 7, 3) := by decide +kernel
theorem dX12_leavesPage_116 : decode cX12_leavesPage 116 = .ok (.iconst 4, 1) := by decide +kernel
theorem dX12_leavesPage_117 : decode cX12_leavesPage 117 = .ok (.aload_n 0, 1) := by decide +kernel
theorem dX12_leavesPage_118 : decode cX12_leavesPage 118 = .ok (.getfield 7, 3) := by decide +kernel
theorem dX12_leavesPage_121 : decode cX12_leavesPage 121 = .ok (.iconst 4, 1) := by decide +kernel
theorem dX12_leavesPage_122 : decode cX12_leavesPage 122 = .ok (.iaload, 1) := by decide +kernel
theorem dX12_leavesPage_123 : decode cX12_leavesPage 123 = .ok (.iconst 1, 1) := by decide +kernel
theorem dX12_leavesPage_124 : decode cX12_leavesPage 124 = .ok (.iadd, 1) := by decide +kernel
theorem dX12_leavesPage_125 : decode cX12_leavesPage 125 = .ok (.iastore, 1) := by decide +kernel
theorem dX12_leavesPage_126 : decode cX12_leavesPage 126 = .ok (.goto 67, 3) := by decide +kernel
theorem dX12_leavesPage_129 : decode cX12_leavesPage 129 = .ok (.iload 4, 2) := by decide +kernel
theorem dX12_leavesPage_131 : decode cX12_leavesPage 131 = .ok (.ifCond .le 62, 3) := by decide +kernel
theorem dX12_leavesPage_134 : decode cX12_leavesPage 134 = .ok (.iload 6, 2) := by decide +kernel
theorem dX12_leavesPage_136 : decode cX12_leavesPage 136 = .ok (.iload 4, 2) := by decide +kernel
theorem dX12_leavesPage_138 : decode cX12_leavesPage 138 = .ok (.iadd, 1) := by decide +kernel
theorem dX12_leavesPage_139 : decode cX12_leavesPage 139 = .ok (.aload_n 0, 1) := by decide +kernel
theorem dX12_leavesPage_140 : decode cX12_leavesPage 140 = .ok (.iload 4, 2) := by decide +kernel
theorem dX12_leavesPage_142 : decode cX12_leavesPage 142 = .ok (.iconst 1, 1) := by decide +kernel
theorem dX12_leavesPage_143 : decode cX12_leavesPage 143 = .ok (.isub, 1) := by decide +kernel
theorem dX12_leavesPage_144 : decode cX12_leavesPage 144 = .ok (.iload_n 2, 1) := by decide +kernel
theorem dX12_leavesPage_145 : decode cX12_leavesPage 145 = .ok (.invokevirtual 129, 3) := by decide +kernel
theorem dX12_leavesPage_148 : decode cX12_leavesPage 148 = .ok (.isub, 1) := by decide +kernel
theorem dX12_leavesPage_149 : decode cX12_leavesPage 149 = .ok (.iload 7, 2) := by decide +kernel
theorem dX12_leavesPage_151 : decode cX12_leavesPage 151 = .ok (.if_icmp .gt 42, 3) := by decide +kernel
theorem dX12_leavesPage_154 : decode cX12_leavesPage 154 = .ok (.aload_n 0, 1) := by decide +kernel
theorem dX12_leavesPage_155 : decode cX12_leavesPage 155 = .ok (.aload_n 0, 1) := by decide +kernel
theorem dX12_leavesPage_156 : decode cX12_leavesPage 156 = .ok (.getfield 16, 3) := by decide +kernel
theorem dX12_leavesPage_159 : decode cX12_leavesPage 159 = .ok (.iload_n 3, 1) := by decide +kernel
theorem dX12_leavesPage_160 : decode cX12_leavesPage 160 = .ok (.iload 4, 2) := by decide +kernel
theorem dX12_leavesPage_162 : decode cX12_leavesPage 162 = .ok (.if_icmp .ne 9, 3) := by decide +kernel
theorem dX12_leavesPage_165 : decode cX12_leavesPage 165 = .ok (.iload_n 3, 1) := by decide +kernel
theorem dX12_leavesPage_166 : decode cX12_leavesPage 166 = .ok (.iconst 1, 1) := by decide +kernel
theorem dX12_leavesPage_167 : decode cX12_leavesPage 167 = .ok (.iadd, 1) := by decide +kernel
theorem dX12_leavesPage_168 : decode cX12_leavesPage 168 = .ok (.goto 5, 3) := by decide +kernel
theorem dX12_leavesPage_171 : decode cX12_leavesPage 171 = .ok (.iload 4, 2) := by decide +kernel
theorem dX12_leavesPage_173 : decode cX12_leavesPage 173 = .ok (.iaload, 1) := by decide +kernel
theorem dX12_leavesPage_174 : decode cX12_leavesPage 174 = .ok (.iload_n 2, 1) := by decide +kernel
theorem dX12_leavesPage_175 : decode cX12_leavesPage 175 = .ok (.iconst 0, 1) := by decide +kernel
theorem dX12_leavesPage_176 : decode cX12_leavesPage 176 = .ok (.invokevirtual 112, 3) := by decide +kernel
theorem dX12_leavesPage_179 : decode cX12_leavesPage 179 = .ok (.aload_n 0, 1) := by decide +kernel
theorem dX12_leavesPage_180 : decode cX12_leavesPage 180 = .ok (.getfield 7, 3) := by decide +kernel
theorem dX12_leavesPage_183 : decode cX12_leavesPage 183 = .ok (.iconst 4, 1) := by decide +kernel
theorem dX12_leavesPage_184 : decode cX12_leavesPage 184 = .ok (.aload_n 0, 1) := by decide +kernel
theorem dX12_leavesPage_185 : decode cX12_leavesPage 185 = .ok (.getfield 7, 3) := by decide +kernel
theorem dX12_leavesPage_188 : decode cX12_leavesPage 188 = .ok (.iconst 4, 1) := by decide +kernel
theorem dX12_leavesPage_189 : decode cX12_leavesPage 189 = .ok (.iaload, 1) := by decide +kernel
theorem dX12_leavesPage_190 : decode cX12_leavesPage 190 = .ok (.iconst 1, 1) := by decide +kernel
theorem dX12_leavesPage_191 : decode cX12_leavesPage 191 = .ok (.iadd, 1) := by decide +kernel
theorem dX12_leavesPage_192 : decode cX12_leavesPage 192 = .ok (.iastore, 1) := by decide +kernel
theorem dX12_leavesPage_193 : decode cX12_leavesPage 193 = .ok (.return_, 1) := by decide +kernel
set_option maxRecDepth 20000 in
theorem ggX12_goes_X12_depthOf : GoodIn wsX12_goes wsX12_depthOf := goodIn_r _ [8, 1, 9, 3, 2, 10, 11, 12, 7, 13, 14, 15, 16, 17, 18, 19, 20, 21, 22, 23, 24, 25, 26, 27, 28, 29, 30, 31, 32, 33, 34, 81, 82, 83, 84, 85, 86, 87, 88, 89, 90, 91, 92, 93, 94, 95, 96, 97, 98, 99, 100, 101, 102, 103, 104, 105, 106, 107, 108, 109, 110, 111, 112, 113, 114, 115, 116, 117, 118, 119, 120, 121] (by decide +kernel) (by decide +kernel)
set_option maxRecDepth 20000 in
theorem gX12_goes_X12_depthOf : GoodIn wsX12_goes (wsV RX12 135 RX12 yX12_depthOf wsX12_depthOf) := goodIn_app (goodIn_of _ (by decide +kernel)) ggX12_goes_X12_depthOf
set_option maxRecDepth 20000 in
theorem ggX12_goes_X12_findsRange : GoodIn wsX12_goes wsX12_findsRange := goodIn_r _ [26, 2, 3, 27, 28, 29, 7, 30, 1, 31, 32, 33, 34, 9, 14, 15, 16, 17, 18, 19, 20, 21, 22, 81, 82, 83, 84, 85, 86, 87, 88, 89, 90, 91, 92, 93, 94, 95, 96, 97, 98, 99, 100, 101, 102, 103, 104, 105, 106, 107, 108, 109, 110, 111, 112, 113, 114, 115, 116, 117, 118, 119, 120, 121] (by decide +kernel) (by decide +kernel)
set_option maxRecDepth 20000 in
theorem gX12_goes_X12_findsRange : GoodIn wsX12_goes (wsV RX12 93 RX12 yX12_findsRange wsX12_findsRange) := goodIn_app (goodIn_of _ (by decide +kernel)) ggX12_goes_X12_findsRange
set_option maxRecDepth 20000 in
theorem ggX12_goes_X12_beginsPage : GoodIn wsX12_goes wsX12_beginsPage := goodIn_r _ [38, 15, 16, 17, 7, 18, 1, 39, 40, 41, 81, 82, 83, 84, 85, 86, 87, 88, 89, 90, 91, 92, 93, 94, 95, 96, 97, 98, 99, 100, 101, 102, 103, 104, 105, 106, 107, 108, 109, 110, 111, 112, 113, 114, 115, 116, 117, 118, 119, 120, 121] (by decide +kernel) (by decide +kernel)
set_option maxRecDepth 20000 in
theorem gX12_goes_X12_beginsPage : GoodIn wsX12_goes (wsV RX12 103 RX12 yX12_beginsPage wsX12_beginsPage) := goodIn_app (goodIn_of _ (by decide +kernel)) ggX12_goes_X12_beginsPage
set_option maxRecDepth 20000 in
theorem ggX12_goes_X12_marks : GoodIn wsX12_goes wsX12_marks := goodIn_r _ [45, 15, 16, 17, 7, 18, 1, 46, 47, 48, 49, 81, 82, 83, 84, 85, 86, 87, 88, 89, 90, 91, 92, 93, 94, 95, 96, 97, 98, 99, 100, 101, 102, 103, 104, 105, 106, 107, 108, 109, 110, 111, 112, 113, 114, 115, 116, 117, 118, 119, 120, 121] (by decide +kernel) (by decide +kernel)
set_option maxRecDepth 20000 in
theorem gX12_goes_X12_marks : GoodIn wsX12_goes (wsV RX12 112 RX12 yX12_marks wsX12_marks) := goodIn_app (goodIn_of _ (by decide +kernel)) ggX12_goes_X12_marks
set_option maxRecDepth 20000 in
theorem ggX12_goes_X12_leavesPage : GoodIn wsX12_goes wsX12_leavesPage := goodIn_r _ [53, 54, 1, 55, 56, 57, 58, 7, 59, 2, 3, 60, 23, 24, 25, 26, 27, 28, 29, 30, 31, 32, 33, 34, 9, 14, 15, 16, 17, 18, 19, 20, 21, 22, 61, 62, 63, 64, 65, 66, 67, 68, 69, 70, 71, 72, 35, 36, 37, 38, 39, 40, 41, 73, 74, 75, 76, 42, 43, 44, 45, 46, 47, 48, 49, 81, 82, 83, 84, 85, 86, 87, 88, 89, 90, 91, 92, 93, 94, 95, 96, 97, 98, 99, 100, 101, 102, 103, 104, 105, 106, 107, 108, 109, 110, 111, 112, 113, 114, 115, 116, 117, 118, 119, 120, 121] (by decide +kernel) (by decide +kernel)
set_option maxRecDepth 20000 in
theorem gX12_goes_X12_leavesPage : GoodIn wsX12_goes (wsV RX12 138 RX12 yX12_leavesPage wsX12_leavesPage) := goodIn_app (goodIn_of _ (by decide +kernel)) ggX12_goes_X12_leavesPage
set_option maxRecDepth 20000 in
theorem ggX12_goes_X12_dropsRow : GoodIn wsX12_goes wsX12_dropsRow := goodIn_r _ [80, 1, 27, 28, 29, 7, 30, 15, 16, 17, 18, 46, 47, 48, 49, 81, 82, 83, 84, 85, 86, 87, 88, 89, 90, 91, 92, 93, 94, 95, 96, 97, 98, 99, 100, 101, 102, 103, 104, 105, 106, 107, 108, 109, 110, 111, 112, 113, 114, 115, 116, 117, 118, 119, 120, 121] (by decide +kernel) (by decide +kernel)
set_option maxRecDepth 20000 in
theorem gX12_goes_X12_dropsRow : GoodIn wsX12_goes (wsV RX12 141 RX12 yX12_dropsRow wsX12_dropsRow) := goodIn_app (goodIn_of _ (by decide +kernel)) ggX12_goes_X12_dropsRow
theorem dX12_goes_0 : decode cX12_goes 0 = .ok (.aload_n 0, 1) := by decide +kernel
theorem dX12_goes_1 : decode cX12_goes 1 = .ok (.iload_n 1, 1) := by decide +kernel
theorem dX12_goes_2 : decode cX12_goes 2 = .ok (.invokevirtual 135, 3) := by decide +kernel
theorem dX12_goes_5 : decode cX12_goes 5 = .ok (.istore_n 2, 1) := by decide +kernel
theorem dX12_goes_6 : decode cX12_goes 6 = .ok (.iconst 0, 1) := by decide +kernel
theorem dX12_goes_7 : decode cX12_goes 7 = .ok (.istore_n 3, 1) := by decide +kernel
theorem dX12_goes_8 : decode cX12_goes 8 = .ok (.iload_n 3, 1) := by decide +kernel
theorem dX12_goes_9 : decode cX12_goes 9 = .ok (.iload_n 2, 1) := by decide +kernel
theorem dX12_goes_10 : decode cX12_goes 10 = .ok (.if_icmp .ge 52, 3) := by decide +kernel
theorem dX12_goes_13 : decode cX12_goes 13 = .ok (.aload_n 0, 1) := by decide +kernel
theorem dX12_goes_14 : decode cX12_goes 14 = .ok (.iload_n 3, 1) := by decide +kernel
theorem dX12_goes_15 : decode cX12_goes 15 = .ok (.iconst 1, 1) := by decide +kernel
theorem dX12_goes_16 : decode cX12_goes 16 = .ok (.iadd, 1) := by decide +kernel
theorem dX12_goes_17 : decode cX12_goes 17 = .ok (.aload_n 0, 1) := by decide +kernel
theorem dX12_goes_18 : decode cX12_goes 18 = .ok (.getfield 7, 3) := by decide +kernel
theorem dX12_goes_21 : decode cX12_goes 21 = .ok (.iconst 1, 1) := by decide +kernel
theorem dX12_goes_22 : decode cX12_goes 22 = .ok (.iaload, 1) := by decide +kernel
theorem dX12_goes_23 : decode cX12_goes 23 = .ok (.imul, 1) := by decide +kernel
theorem dX12_goes_24 : decode cX12_goes 24 = .ok (.invokevirtual 93, 3) := by decide +kernel
theorem dX12_goes_27 : decode cX12_goes 27 = .ok (.aload_n 0, 1) := by decide +kernel
theorem dX12_goes_28 : decode cX12_goes 28 = .ok (.getfield 84, 3) := by decide +kernel
theorem dX12_goes_31 : decode cX12_goes 31 = .ok (.iload_n 1, 1) := by decide +kernel
theorem dX12_goes_32 : decode cX12_goes 32 = .ok (.if_icmp .eq 6, 3) := by decide +kernel
theorem dX12_goes_35 : decode cX12_goes 35 = .ok (.goto 21, 3) := by decide +kernel
theorem dX12_goes_38 : decode cX12_goes 38 = .ok (.aload_n 0, 1) := by decide +kernel
theorem dX12_goes_39 : decode cX12_goes 39 = .ok (.iload_n 1, 1) := by decide +kernel
theorem dX12_goes_40 : decode cX12_goes 40 = .ok (.iload_n 3, 1) := by decide +kernel
theorem dX12_goes_41 : decode cX12_goes 41 = .ok (.invokevirtual 103, 3) := by decide +kernel
theorem dX12_goes_44 : decode cX12_goes 44 = .ok (.ifCond .eq 12, 3) := by decide +kernel
theorem dX12_goes_47 : decode cX12_goes 47 = .ok (.aload_n 0, 1) := by decide +kernel
theorem dX12_goes_48 : decode cX12_goes 48 = .ok (.iload_n 1, 1) := by decide +kernel
theorem dX12_goes_49 : decode cX12_goes 49 = .ok (.iconst 1, 1) := by decide +kernel
theorem dX12_goes_50 : decode cX12_goes 50 = .ok (.iadd, 1) := by decide +kernel
theorem dX12_goes_51 : decode cX12_goes 51 = .ok (.iload_n 3, 1) := by decide +kernel
theorem dX12_goes_52 : decode cX12_goes 52 = .ok (.iconst 1, 1) := by decide +kernel
theorem dX12_goes_53 : decode cX12_goes 53 = .ok (.invokevirtual 112, 3) := by decide +kernel
theorem dX12_goes_56 : decode cX12_goes 56 = .ok (.iinc 3 1, 3) := by decide +kernel
theorem dX12_goes_59 : decode cX12_goes 59 = .ok (.goto (-51), 3) := by decide +kernel
theorem dX12_goes_62 : decode cX12_goes 62 = .ok (.aload_n 0, 1) := by decide +kernel
theorem dX12_goes_63 : decode cX12_goes 63 = .ok (.iload_n 1, 1) := by decide +kernel
theorem dX12_goes_64 : decode cX12_goes 64 = .ok (.iload_n 2, 1) := by decide +kernel
theorem dX12_goes_65 : decode cX12_goes 65 = .ok (.invokevirtual 138, 3) := by decide +kernel
theorem dX12_goes_68 : decode cX12_goes 68 = .ok (.aload_n 0, 1) := by decide +kernel
theorem dX12_goes_69 : decode cX12_goes 69 = .ok (.iload_n 1, 1) := by decide +kernel
theorem dX12_goes_70 : decode cX12_goes 70 = .ok (.invokevirtual 141, 3) := by decide +kernel
theorem dX12_goes_73 : decode cX12_goes 73 = .ok (.iload_n 2, 1) := by decide +kernel
theorem dX12_goes_74 : decode cX12_goes 74 = .ok (.istore_n 3, 1) := by decide +kernel
theorem dX12_goes_75 : decode cX12_goes 75 = .ok (.iload_n 3, 1) := by decide +kernel
theorem dX12_goes_76 : decode cX12_goes 76 = .ok (.ifCond .le 63, 3) := by decide +kernel
theorem dX12_goes_79 : decode cX12_goes 79 = .ok (.aload_n 0, 1) := by decide +kernel
theorem dX12_goes_80 : decode cX12_goes 80 = .ok (.iload_n 3, 1) := by decide +kernel
theorem dX12_goes_81 : decode cX12_goes 81 = .ok (.aload_n 0, 1) := by decide +kernel
theorem dX12_goes_82 : decode cX12_goes 82 = .ok (.getfield 7, 3) := by decide +kernel
theorem dX12_goes_85 : decode cX12_goes 85 = .ok (.iconst 1, 1) := by decide +kernel
theorem dX12_goes_86 : decode cX12_goes 86 = .ok (.iaload, 1) := by decide +kernel
theorem dX12_goes_87 : decode cX12_goes 87 = .ok (.imul, 1) := by decide +kernel
theorem dX12_goes_88 : decode cX12_goes 88 = .ok (.invokevirtual 93, 3) := by decide +kernel
theorem dX12_goes_91 : decode cX12_goes 91 = .ok (.aload_n 0, 1) := by decide +kernel
theorem dX12_goes_92 : decode cX12_goes 92 = .ok (.getfield 90, 3) := by decide +kernel
theorem dX12_goes_95 : decode cX12_goes 95 = .ok (.aload_n 0, 1) := by decide +kernel
theorem dX12_goes_96 : decode cX12_goes 96 = .ok (.getfield 84, 3) := by decide +kernel
theorem dX12_goes_99 : decode cX12_goes 99 = .ok (.isub, 1) := by decide +kernel
theorem dX12_goes_100 : decode cX12_goes 100 = .ok (.iconst 1, 1) := by decide +kernel
theorem dX12_goes_101 : decode cX12_goes 101 = .ok (.if_icmp .eq 6, 3) := by decide +kernel
theorem dX12_goes_104 : decode cX12_goes 104 = .ok (.goto 29, 3) := by decide +kernel
theorem dX12_goes_107 : decode cX12_goes 107 = .ok (.aload_n 0, 1) := by decide +kernel
theorem dX12_goes_108 : decode cX12_goes 108 = .ok (.aload_n 0, 1) := by decide +kernel
theorem dX12_goes_109 : decode cX12_goes 109 = .ok (.getfield 84, 3) := by decide +kernel
theorem dX12_goes_112 : decode cX12_goes 112 = .ok (.iload_n 3, 1) := by decide +kernel
theorem dX12_goes_113 : decode cX12_goes 113 = .ok (.iconst 0, 1) := by decide +kernel
theorem dX12_goes_114 : decode cX12_goes 114 = .ok (.invokevirtual 112, 3) := by decide +kernel
theorem dX12_goes_117 : decode cX12_goes 117 = .ok (.aload_n 0, 1) := by decide +kernel
theorem dX12_goes_118 : decode cX12_goes 118 = .ok (.getfield 7, 3) := by decide +kernel
theorem dX12_goes_121 : decode cX12_goes 121 = .ok (.bipush 6, 2) := by decide +kernel
theorem dX12_goes_123 : decode cX12_goes 123 = .ok (.aload_n 0, 1) := by decide +kernel
theorem dX12_goes_124 : decode cX12_goes 124 = .ok (.getfield 7, 3) := by decide +kernel
theorem dX12_goes_127 : decode cX12_goes 127 = .ok (.bipush 6, 2) := by decide +kernel
theorem dX12_goes_129 : decode cX12_goes 129 = .ok (.iaload, 1) := by decide +kernel
theorem dX12_goes_130 : decode cX12_goes 130 = .ok (.iconst 1, 1) := by decide +kernel
theorem dX12_goes_131 : decode cX12_goes 131 = .ok (.iadd, 1) := by decide +kernel
theorem dX12_goes_132 : decode cX12_goes 132 = .ok (.iastore, 1) := by decide +kernel
theorem dX12_goes_133 : decode cX12_goes 133 = .ok (.iinc 3 (-1), 3) := by decide +kernel
theorem dX12_goes_136 : decode cX12_goes 136 = .ok (.goto (-61), 3) := by decide +kernel
theorem dX12_goes_139 : decode cX12_goes 139 = .ok (.return_, 1) := by decide +kernel
set_option maxRecDepth 20000 in
theorem ggX12_begin_X12_in : GoodIn wsX12_begin wsX12_in := goodIn_r _ [5] (by decide +kernel) (by decide +kernel)
set_option maxRecDepth 20000 in
theorem gX12_begin_X12_in : GoodIn wsX12_begin (va_wsS RX12 66 yX12_in wsX12_in) := goodIn_app (goodIn_of _ (by decide +kernel)) ggX12_begin_X12_in
set_option maxRecDepth 20000 in
theorem ggX12_begin_X12_empties : GoodIn wsX12_begin wsX12_empties := goodIn_r _ [9, 1, 10, 11, 12, 13, 14, 15, 16, 17, 18, 19, 20, 21, 22, 23, 24, 25, 26, 27, 28, 29, 30, 31, 32, 33, 34, 35, 36, 37, 38, 39, 40, 41, 42, 43, 44, 45, 46, 47, 48, 49, 50] (by decide +kernel) (by decide +kernel)
set_option maxRecDepth 20000 in
theorem gX12_begin_X12_empties : GoodIn wsX12_begin (wsV RX12 144 RX12 yX12_empties wsX12_empties) := goodIn_app (goodIn_of _ (by decide +kernel)) ggX12_begin_X12_empties
theorem dX12_begin_0 : decode cX12_begin 0 = .ok (.iload_n 1, 1) := by decide +kernel
theorem dX12_begin_1 : decode cX12_begin 1 = .ok (.iconst 1, 1) := by decide +kernel
theorem dX12_begin_2 : decode cX12_begin 2 = .ok (.bipush 8, 2) := by decide +kernel
theorem dX12_begin_4 : decode cX12_begin 4 = .ok (.invokestatic 66, 3) := by decide +kernel
theorem dX12_begin_7 : decode cX12_begin 7 = .ok (.ifCond .eq 13, 3) := by decide +kernel
theorem dX12_begin_10 : decode cX12_begin 10 = .ok (.iload_n 2, 1) := by decide +kernel
theorem dX12_begin_11 : decode cX12_begin 11 = .ok (.iconst 2, 1) := by decide +kernel
theorem dX12_begin_12 : decode cX12_begin 12 = .ok (.bipush 8, 2) := by decide +kernel
theorem dX12_begin_14 : decode cX12_begin 14 = .ok (.invokestatic 66, 3) := by decide +kernel
theorem dX12_begin_17 : decode cX12_begin 17 = .ok (.ifCond .ne 5, 3) := by decide +kernel
theorem dX12_begin_20 : decode cX12_begin 20 = .ok (.iconst (-1), 1) := by decide +kernel
theorem dX12_begin_21 : decode cX12_begin 21 = .ok (.ireturn, 1) := by decide +kernel
theorem dX12_begin_22 : decode cX12_begin 22 = .ok (.aload_n 0, 1) := by decide +kernel
theorem dX12_begin_23 : decode cX12_begin 23 = .ok (.iload_n 1, 1) := by decide +kernel
theorem dX12_begin_24 : decode cX12_begin 24 = .ok (.iload_n 2, 1) := by decide +kernel
theorem dX12_begin_25 : decode cX12_begin 25 = .ok (.invokevirtual 144, 3) := by decide +kernel
theorem dX12_begin_28 : decode cX12_begin 28 = .ok (.sipush 4290, 3) := by decide +kernel
theorem dX12_begin_31 : decode cX12_begin 31 = .ok (.istore_n 3, 1) := by decide +kernel
theorem dX12_begin_32 : decode cX12_begin 32 = .ok (.iload_n 3, 1) := by decide +kernel
theorem dX12_begin_33 : decode cX12_begin 33 = .ok (.sipush 4406, 3) := by decide +kernel
theorem dX12_begin_36 : decode cX12_begin 36 = .ok (.if_icmp .ge 16, 3) := by decide +kernel
theorem dX12_begin_39 : decode cX12_begin 39 = .ok (.aload_n 0, 1) := by decide +kernel
theorem dX12_begin_40 : decode cX12_begin 40 = .ok (.getfield 7, 3) := by decide +kernel
theorem dX12_begin_43 : decode cX12_begin 43 = .ok (.iload_n 3, 1) := by decide +kernel
theorem dX12_begin_44 : decode cX12_begin 44 = .ok (.iconst 0, 1) := by decide +kernel
theorem dX12_begin_45 : decode cX12_begin 45 = .ok (.iastore, 1) := by decide +kernel
theorem dX12_begin_46 : decode cX12_begin 46 = .ok (.iinc 3 1, 3) := by decide +kernel
theorem dX12_begin_49 : decode cX12_begin 49 = .ok (.goto (-17), 3) := by decide +kernel
theorem dX12_begin_52 : decode cX12_begin 52 = .ok (.iconst 0, 1) := by decide +kernel
theorem dX12_begin_53 : decode cX12_begin 53 = .ok (.ireturn, 1) := by decide +kernel
theorem dX12_empties_0 : decode cX12_empties 0 = .ok (.aload_n 0, 1) := by decide +kernel
theorem dX12_empties_1 : decode cX12_empties 1 = .ok (.getfield 7, 3) := by decide +kernel
theorem dX12_empties_4 : decode cX12_empties 4 = .ok (.iconst 0, 1) := by decide +kernel
theorem dX12_empties_5 : decode cX12_empties 5 = .ok (.iconst 0, 1) := by decide +kernel
theorem dX12_empties_6 : decode cX12_empties 6 = .ok (.iastore, 1) := by decide +kernel
theorem dX12_empties_7 : decode cX12_empties 7 = .ok (.aload_n 0, 1) := by decide +kernel
theorem dX12_empties_8 : decode cX12_empties 8 = .ok (.getfield 7, 3) := by decide +kernel
theorem dX12_empties_11 : decode cX12_empties 11 = .ok (.iconst 1, 1) := by decide +kernel
theorem dX12_empties_12 : decode cX12_empties 12 = .ok (.iload_n 1, 1) := by decide +kernel
theorem dX12_empties_13 : decode cX12_empties 13 = .ok (.iastore, 1) := by decide +kernel
theorem dX12_empties_14 : decode cX12_empties 14 = .ok (.aload_n 0, 1) := by decide +kernel
theorem dX12_empties_15 : decode cX12_empties 15 = .ok (.getfield 7, 3) := by decide +kernel
theorem dX12_empties_18 : decode cX12_empties 18 = .ok (.iconst 2, 1) := by decide +kernel
theorem dX12_empties_19 : decode cX12_empties 19 = .ok (.iload_n 2, 1) := by decide +kernel
theorem dX12_empties_20 : decode cX12_empties 20 = .ok (.iastore, 1) := by decide +kernel
theorem dX12_empties_21 : decode cX12_empties 21 = .ok (.iconst 3, 1) := by decide +kernel
theorem dX12_empties_22 : decode cX12_empties 22 = .ok (.istore_n 3, 1) := by decide +kernel
theorem dX12_empties_23 : decode cX12_empties 23 = .ok (.iload_n 3, 1) := by decide +kernel
theorem dX12_empties_24 : decode cX12_empties 24 = .ok (.bipush 6, 2) := by decide +kernel
theorem dX12_empties_26 : decode cX12_empties 26 = .ok (.if_icmp .gt 16, 3) := by decide +kernel
theorem dX12_empties_29 : decode cX12_empties 29 = .ok (.aload_n 0, 1) := by decide +kernel
theorem dX12_empties_30 : decode cX12_empties 30 = .ok (.getfield 7, 3) := by decide +kernel
theorem dX12_empties_33 : decode cX12_empties 33 = .ok (.iload_n 3, 1) := by decide +kernel
theorem dX12_empties_34 : decode cX12_empties 34 = .ok (.iconst 0, 1) := by decide +kernel
theorem dX12_empties_35 : decode cX12_empties 35 = .ok (.iastore, 1) := by decide +kernel
theorem dX12_empties_36 : decode cX12_empties 36 = .ok (.iinc 3 1, 3) := by decide +kernel
theorem dX12_empties_39 : decode cX12_empties 39 = .ok (.goto (-16), 3) := by decide +kernel
theorem dX12_empties_42 : decode cX12_empties 42 = .ok (.return_, 1) := by decide +kernel
theorem dX12_types_0 : decode cX12_types 0 = .ok (.iconst 3, 1) := by decide +kernel
theorem dX12_types_1 : decode cX12_types 1 = .ok (.istore_n 2, 1) := by decide +kernel
theorem dX12_types_2 : decode cX12_types 2 = .ok (.iload_n 2, 1) := by decide +kernel
theorem dX12_types_3 : decode cX12_types 3 = .ok (.ifCond .lt 35, 3) := by decide +kernel
theorem dX12_types_6 : decode cX12_types 6 = .ok (.aload_n 0, 1) := by decide +kernel
theorem dX12_types_7 : decode cX12_types 7 = .ok (.getfield 22, 3) := by decide +kernel
theorem dX12_types_10 : decode cX12_types 10 = .ok (.aload_n 0, 1) := by decide +kernel
theorem dX12_types_11 : decode cX12_types 11 = .ok (.getfield 147, 3) := by decide +kernel
theorem dX12_types_14 : decode cX12_types 14 = .ok (.iload_n 1, 1) := by decide +kernel
theorem dX12_types_15 : decode cX12_types 15 = .ok (.bipush 8, 2) := by decide +kernel
theorem dX12_types_17 : decode cX12_types 17 = .ok (.iload_n 2, 1) := by decide +kernel
theorem dX12_types_18 : decode cX12_types 18 = .ok (.imul, 1) := by decide +kernel
theorem dX12_types_19 : decode cX12_types 19 = .ok (.ishr, 1) := by decide +kernel
theorem dX12_types_20 : decode cX12_types 20 = .ok (.i2b, 1) := by decide +kernel
theorem dX12_types_21 : decode cX12_types 21 = .ok (.bastore, 1) := by decide +kernel
theorem dX12_types_22 : decode cX12_types 22 = .ok (.aload_n 0, 1) := by decide +kernel
theorem dX12_types_23 : decode cX12_types 23 = .ok (.aload_n 0, 1) := by decide +kernel
theorem dX12_types_24 : decode cX12_types 24 = .ok (.getfield 147, 3) := by decide +kernel
theorem dX12_types_27 : decode cX12_types 27 = .ok (.iconst 1, 1) := by decide +kernel
theorem dX12_types_28 : decode cX12_types 28 = .ok (.iadd, 1) := by decide +kernel
theorem dX12_types_29 : decode cX12_types 29 = .ok (.putfield 147, 3) := by decide +kernel
theorem dX12_types_32 : decode cX12_types 32 = .ok (.iinc 2 (-1), 3) := by decide +kernel
theorem dX12_types_35 : decode cX12_types 35 = .ok (.goto (-33), 3) := by decide +kernel
theorem dX12_types_38 : decode cX12_types 38 = .ok (.return_, 1) := by decide +kernel
set_option maxRecDepth 20000 in
theorem ggX12_feed_X12_types : GoodIn wsX12_feed wsX12_types := goodIn_r _ [6, 7, 1, 8, 9, 10, 11, 12, 13, 14, 15, 16, 17, 18, 19, 20, 21, 22, 23, 24, 25, 26, 27, 28, 29, 30, 31, 32, 33, 34, 35, 36, 37, 38, 39, 40, 41, 42, 43, 44, 45, 46, 47, 48] (by decide +kernel) (by decide +kernel)
set_option maxRecDepth 20000 in
theorem gX12_feed_X12_types : GoodIn wsX12_feed (wsV RX12 150 RX12 yX12_types wsX12_types) := goodIn_app (goodIn_of _ (by decide +kernel)) ggX12_feed_X12_types
theorem dX12_feed_0 : decode cX12_feed 0 = .ok (.aload_n 0, 1) := by decide +kernel
theorem dX12_feed_1 : decode cX12_feed 1 = .ok (.getfield 147, 3) := by decide +kernel
theorem dX12_feed_4 : decode cX12_feed 4 = .ok (.bipush 20, 2) := by decide +kernel
theorem dX12_feed_6 : decode cX12_feed 6 = .ok (.iadd, 1) := by decide +kernel
theorem dX12_feed_7 : decode cX12_feed 7 = .ok (.sipush 240, 3) := by decide +kernel
theorem dX12_feed_10 : decode cX12_feed 10 = .ok (.if_icmp .le 5, 3) := by decide +kernel
theorem dX12_feed_13 : decode cX12_feed 13 = .ok (.iconst (-1), 1) := by decide +kernel
theorem dX12_feed_14 : decode cX12_feed 14 = .ok (.ireturn, 1) := by decide +kernel
theorem dX12_feed_15 : decode cX12_feed 15 = .ok (.aload_n 0, 1) := by decide +kernel
theorem dX12_feed_16 : decode cX12_feed 16 = .ok (.iload_n 1, 1) := by decide +kernel
theorem dX12_feed_17 : decode cX12_feed 17 = .ok (.invokevirtual 150, 3) := by decide +kernel
theorem dX12_feed_20 : decode cX12_feed 20 = .ok (.aload_n 0, 1) := by decide +kernel
theorem dX12_feed_21 : decode cX12_feed 21 = .ok (.iload_n 2, 1) := by decide +kernel
theorem dX12_feed_22 : decode cX12_feed 22 = .ok (.invokevirtual 150, 3) := by decide +kernel
theorem dX12_feed_25 : decode cX12_feed 25 = .ok (.aload_n 0, 1) := by decide +kernel
theorem dX12_feed_26 : decode cX12_feed 26 = .ok (.iload_n 3, 1) := by decide +kernel
theorem dX12_feed_27 : decode cX12_feed 27 = .ok (.invokevirtual 150, 3) := by decide +kernel
theorem dX12_feed_30 : decode cX12_feed 30 = .ok (.aload_n 0, 1) := by decide +kernel
theorem dX12_feed_31 : decode cX12_feed 31 = .ok (.iload 4, 2) := by decide +kernel
theorem dX12_feed_33 : decode cX12_feed 33 = .ok (.invokevirtual 150, 3) := by decide +kernel
theorem dX12_feed_36 : decode cX12_feed 36 = .ok (.aload_n 0, 1) := by decide +kernel
theorem dX12_feed_37 : decode cX12_feed 37 = .ok (.iload 5, 2) := by decide +kernel
theorem dX12_feed_39 : decode cX12_feed 39 = .ok (.invokevirtual 150, 3) := by decide +kernel
theorem dX12_feed_42 : decode cX12_feed 42 = .ok (.aload_n 0, 1) := by decide +kernel
theorem dX12_feed_43 : decode cX12_feed 43 = .ok (.getfield 147, 3) := by decide +kernel
theorem dX12_feed_46 : decode cX12_feed 46 = .ok (.ireturn, 1) := by decide +kernel
set_option maxRecDepth 20000 in
theorem ggX12_isByte_X12_in : GoodIn wsX12_isByte wsX12_in := goodIn_r _ [4] (by decide +kernel) (by decide +kernel)
set_option maxRecDepth 20000 in
theorem gX12_isByte_X12_in : GoodIn wsX12_isByte (va_wsS RX12 66 yX12_in wsX12_in) := goodIn_app (goodIn_of _ (by decide +kernel)) ggX12_isByte_X12_in
theorem dX12_isByte_0 : decode cX12_isByte 0 = .ok (.iload_n 0, 1) := by decide +kernel
theorem dX12_isByte_1 : decode cX12_isByte 1 = .ok (.bipush 33, 2) := by decide +kernel
theorem dX12_isByte_3 : decode cX12_isByte 3 = .ok (.bipush 126, 2) := by decide +kernel
theorem dX12_isByte_5 : decode cX12_isByte 5 = .ok (.invokestatic 66, 3) := by decide +kernel
theorem dX12_isByte_8 : decode cX12_isByte 8 = .ok (.ifCond .eq 31, 3) := by decide +kernel
theorem dX12_isByte_11 : decode cX12_isByte 11 = .ok (.iload_n 0, 1) := by decide +kernel
theorem dX12_isByte_12 : decode cX12_isByte 12 = .ok (.bipush 59, 2) := by decide +kernel
theorem dX12_isByte_14 : decode cX12_isByte 14 = .ok (.if_icmp .eq 25, 3) := by decide +kernel
theorem dX12_isByte_17 : decode cX12_isByte 17 = .ok (.iload_n 0, 1) := by decide +kernel
theorem dX12_isByte_18 : decode cX12_isByte 18 = .ok (.bipush 61, 2) := by decide +kernel
theorem dX12_isByte_20 : decode cX12_isByte 20 = .ok (.if_icmp .eq 19, 3) := by decide +kernel
theorem dX12_isByte_23 : decode cX12_isByte 23 = .ok (.iload_n 0, 1) := by decide +kernel
theorem dX12_isByte_24 : decode cX12_isByte 24 = .ok (.bipush 44, 2) := by decide +kernel
theorem dX12_isByte_26 : decode cX12_isByte 26 = .ok (.if_icmp .eq 13, 3) := by decide +kernel
theorem dX12_isByte_29 : decode cX12_isByte 29 = .ok (.iload_n 0, 1) := by decide +kernel
theorem dX12_isByte_30 : decode cX12_isByte 30 = .ok (.bipush 126, 2) := by decide +kernel
theorem dX12_isByte_32 : decode cX12_isByte 32 = .ok (.if_icmp .eq 7, 3) := by decide +kernel
theorem dX12_isByte_35 : decode cX12_isByte 35 = .ok (.iconst 1, 1) := by decide +kernel
theorem dX12_isByte_36 : decode cX12_isByte 36 = .ok (.goto 4, 3) := by decide +kernel
theorem dX12_isByte_39 : decode cX12_isByte 39 = .ok (.iconst 0, 1) := by decide +kernel
theorem dX12_isByte_40 : decode cX12_isByte 40 = .ok (.ireturn, 1) := by decide +kernel
set_option maxRecDepth 20000 in
theorem ggX12_isLong_X12_in : GoodIn wsX12_isLong wsX12_in := goodIn_r _ [5] (by decide +kernel) (by decide +kernel)
set_option maxRecDepth 20000 in
theorem gX12_isLong_X12_in : GoodIn wsX12_isLong (va_wsS RX12 66 yX12_in wsX12_in) := goodIn_app (goodIn_of _ (by decide +kernel)) ggX12_isLong_X12_in
theorem dX12_isLong_0 : decode cX12_isLong 0 = .ok (.iload_n 1, 1) := by decide +kernel
theorem dX12_isLong_1 : decode cX12_isLong 1 = .ok (.iconst 1, 1) := by decide +kernel
theorem dX12_isLong_2 : decode cX12_isLong 2 = .ok (.bipush 24, 2) := by decide +kernel
theorem dX12_isLong_4 : decode cX12_isLong 4 = .ok (.invokestatic 66, 3) := by decide +kernel
theorem dX12_isLong_7 : decode cX12_isLong 7 = .ok (.ifCond .eq 15, 3) := by decide +kernel
theorem dX12_isLong_10 : decode cX12_isLong 10 = .ok (.iload_n 1, 1) := by decide +kernel
theorem dX12_isLong_11 : decode cX12_isLong 11 = .ok (.aload_n 0, 1) := by decide +kernel
theorem dX12_isLong_12 : decode cX12_isLong 12 = .ok (.getfield 147, 3) := by decide +kernel
theorem dX12_isLong_15 : decode cX12_isLong 15 = .ok (.if_icmp .gt 7, 3) := by decide +kernel
theorem dX12_isLong_18 : decode cX12_isLong 18 = .ok (.iconst 1, 1) := by decide +kernel
theorem dX12_isLong_19 : decode cX12_isLong 19 = .ok (.goto 4, 3) := by decide +kernel
theorem dX12_isLong_22 : decode cX12_isLong 22 = .ok (.iconst 0, 1) := by decide +kernel
theorem dX12_isLong_23 : decode cX12_isLong 23 = .ok (.ireturn, 1) := by decide +kernel
set_option maxRecDepth 20000 in
theorem ggX12_takesKey_X12_isByte : GoodIn wsX12_takesKey wsX12_isByte := goodIn_r _ [8, 9, 10, 7, 11] (by decide +kernel) (by decide +kernel)
set_option maxRecDepth 20000 in
theorem gX12_takesKey_X12_isByte : GoodIn wsX12_takesKey (va_wsS RX12 153 yX12_isByte wsX12_isByte) := goodIn_app (goodIn_of _ (by decide +kernel)) ggX12_takesKey_X12_isByte
theorem dX12_takesKey_0 : decode cX12_takesKey 0 = .ok (.aload_n 0, 1) := by decide +kernel
theorem dX12_takesKey_1 : decode cX12_takesKey 1 = .ok (.iconst 0, 1) := by decide +kernel
theorem dX12_takesKey_2 : decode cX12_takesKey 2 = .ok (.putfield 147, 3) := by decide +kernel
theorem dX12_takesKey_5 : decode cX12_takesKey 5 = .ok (.aload_n 0, 1) := by decide +kernel
theorem dX12_takesKey_6 : decode cX12_takesKey 6 = .ok (.iload_n 1, 1) := by decide +kernel
theorem dX12_takesKey_7 : decode cX12_takesKey 7 = .ok (.putfield 70, 3) := by decide +kernel
theorem dX12_takesKey_10 : decode cX12_takesKey 10 = .ok (.iconst 1, 1) := by decide +kernel
theorem dX12_takesKey_11 : decode cX12_takesKey 11 = .ok (.istore_n 2, 1) := by decide +kernel
theorem dX12_takesKey_12 : decode cX12_takesKey 12 = .ok (.iconst 0, 1) := by decide +kernel
theorem dX12_takesKey_13 : decode cX12_takesKey 13 = .ok (.istore_n 3, 1) := by decide +kernel
theorem dX12_takesKey_14 : decode cX12_takesKey 14 = .ok (.iload_n 3, 1) := by decide +kernel
theorem dX12_takesKey_15 : decode cX12_takesKey 15 = .ok (.iload_n 1, 1) := by decide +kernel
theorem dX12_takesKey_16 : decode cX12_takesKey 16 = .ok (.if_icmp .ge 47, 3) := by decide +kernel
theorem dX12_takesKey_19 : decode cX12_takesKey 19 = .ok (.aload_n 0, 1) := by decide +kernel
theorem dX12_takesKey_20 : decode cX12_takesKey 20 = .ok (.getfield 13, 3) := by decide +kernel
theorem dX12_takesKey_23 : decode cX12_takesKey 23 = .ok (.iload_n 3, 1) := by decide +kernel
theorem dX12_takesKey_24 : decode cX12_takesKey 24 = .ok (.aload_n 0, 1) := by decide +kernel
theorem dX12_takesKey_25 : decode cX12_takesKey 25 = .ok (.getfield 22, 3) := by decide +kernel
theorem dX12_takesKey_28 : decode cX12_takesKey 28 = .ok (.iload_n 3, 1) := by decide +kernel
theorem dX12_takesKey_29 : decode cX12_takesKey 29 = .ok (.baload, 1) := by decide +kernel
theorem dX12_takesKey_30 : decode cX12_takesKey 30 = .ok (.sipush 255, 3) := by decide +kernel
theorem dX12_takesKey_33 : decode cX12_takesKey 33 = .ok (.iand, 1) := by decide +kernel
theorem dX12_takesKey_34 : decode cX12_takesKey 34 = .ok (.iastore, 1) := by decide +kernel
theorem dX12_takesKey_35 : decode cX12_takesKey 35 = .ok (.iload_n 2, 1) := by decide +kernel
theorem dX12_takesKey_36 : decode cX12_takesKey 36 = .ok (.ifCond .eq 19, 3) := by decide +kernel
theorem dX12_takesKey_39 : decode cX12_takesKey 39 = .ok (.aload_n 0, 1) := by decide +kernel
theorem dX12_takesKey_40 : decode cX12_takesKey 40 = .ok (.getfield 13, 3) := by decide +kernel
theorem dX12_takesKey_43 : decode cX12_takesKey 43 = .ok (.iload_n 3, 1) := by decide +kernel
theorem dX12_takesKey_44 : decode cX12_takesKey 44 = .ok (.iaload, 1) := by decide +kernel
theorem dX12_takesKey_45 : decode cX12_takesKey 45 = .ok (.invokestatic 153, 3) := by decide +kernel
theorem dX12_takesKey_48 : decode cX12_takesKey 48 = .ok (.ifCond .eq 7, 3) := by decide +kernel
theorem dX12_takesKey_51 : decode cX12_takesKey 51 = .ok (.iconst 1, 1) := by decide +kernel
theorem dX12_takesKey_52 : decode cX12_takesKey 52 = .ok (.goto 4, 3) := by decide +kernel
theorem dX12_takesKey_55 : decode cX12_takesKey 55 = .ok (.iconst 0, 1) := by decide +kernel
theorem dX12_takesKey_56 : decode cX12_takesKey 56 = .ok (.istore_n 2, 1) := by decide +kernel
theorem dX12_takesKey_57 : decode cX12_takesKey 57 = .ok (.iinc 3 1, 3) := by decide +kernel
theorem dX12_takesKey_60 : decode cX12_takesKey 60 = .ok (.goto (-46), 3) := by decide +kernel
theorem dX12_takesKey_63 : decode cX12_takesKey 63 = .ok (.iload_n 2, 1) := by decide +kernel
theorem dX12_takesKey_64 : decode cX12_takesKey 64 = .ok (.ireturn, 1) := by decide +kernel
set_option maxRecDepth 20000 in
theorem ggX12_put_X12_isLong : GoodIn wsX12_put wsX12_isLong := goodIn_r _ [6, 7, 8, 9, 5, 10, 111, 112, 113, 114, 115, 116, 117, 118, 119, 120, 121, 122, 123, 124, 125, 126, 127, 128, 129, 130, 131, 132, 133, 134, 135, 136, 137, 138, 139, 140, 141, 142, 143, 144, 145, 146, 147, 148, 149, 150, 151] (by decide +kernel) (by decide +kernel)
set_option maxRecDepth 20000 in
theorem gX12_put_X12_isLong : GoodIn wsX12_put (wsV RX12 157 RX12 yX12_isLong wsX12_isLong) := goodIn_app (goodIn_of _ (by decide +kernel)) ggX12_put_X12_isLong
set_option maxRecDepth 20000 in
theorem ggX12_put_X12_in : GoodIn wsX12_put wsX12_in := goodIn_r _ [10] (by decide +kernel) (by decide +kernel)
set_option maxRecDepth 20000 in
theorem gX12_put_X12_in : GoodIn wsX12_put (va_wsS RX12 66 yX12_in wsX12_in) := goodIn_app (goodIn_of _ (by decide +kernel)) ggX12_put_X12_in
set_option maxRecDepth 20000 in
theorem ggX12_put_X12_takesKey : GoodIn wsX12_put wsX12_takesKey := goodIn_r _ [14, 7, 15, 16, 17, 18, 19, 5, 20, 8, 9, 10, 111, 112, 113, 114, 115, 116, 117, 118, 119, 120, 121, 122, 123, 124, 125, 126, 127, 128, 129, 130, 131, 132, 133, 134, 135, 136, 137, 138, 139, 140, 141, 142, 143, 144, 145, 146, 147, 148, 149, 150, 151] (by decide +kernel) (by decide +kernel)
set_option maxRecDepth 20000 in
theorem gX12_put_X12_takesKey : GoodIn wsX12_put (wsV RX12 161 RX12 yX12_takesKey wsX12_takesKey) := goodIn_app (goodIn_of _ (by decide +kernel)) ggX12_put_X12_takesKey
set_option maxRecDepth 20000 in
theorem ggX12_put_X12_putsHand : GoodIn wsX12_put wsX12_putsHand := goodIn_r _ [24, 25, 26, 27, 5, 28, 29, 30, 31, 32, 33, 34, 35, 36, 37, 38, 39, 40, 41, 15, 16, 42, 43, 44, 45, 46, 47, 48, 49, 50, 51, 52, 53, 54, 55, 56, 57, 58, 59, 60, 61, 62, 63, 64, 65, 66, 67, 68, 69, 70, 71, 72, 73, 74, 75, 76, 77, 78, 79, 80, 81, 82, 83, 84, 85, 86, 87, 88, 89, 90, 91, 92, 93, 94, 95, 96, 97, 98, 99, 100, 101, 102, 103, 104, 105, 106, 107, 108, 109, 110, 111, 112, 113, 114, 115, 116, 117, 118, 119, 120, 121, 122, 123, 124, 125, 126, 127, 128, 129, 130, 131, 132, 133, 134, 135, 136, 137, 138, 139, 140, 141, 142, 143, 144, 145, 146, 147, 148, 149, 150, 151] (by decide +kernel) (by decide +kernel)
set_option maxRecDepth 20000 in
theorem gX12_put_X12_putsHand : GoodIn wsX12_put (wsV RX12 164 RX12 yX12_putsHand wsX12_putsHand) := goodIn_app (goodIn_of _ (by decide +kernel)) ggX12_put_X12_putsHand
theorem dX12_put_0 : decode cX12_put 0 = .ok (.aload_n 0, 1) := by decide +kernel
theorem dX12_put_1 : decode cX12_put 1 = .ok (.iload_n 1, 1) := by decide +kernel
theorem dX12_put_2 : decode cX12_put 2 = .ok (.invokevirtual 157, 3) := by decide +kernel
theorem dX12_put_5 : decode cX12_put 5 = .ok (.ifCond .eq 13, 3) := by decide +kernel
theorem dX12_put_8 : decode cX12_put 8 = .ok (.iload_n 2, 1) := by decide +kernel
theorem dX12_put_9 : decode cX12_put 9 = .ok (.iconst 0, 1) := by decide +kernel
theorem dX12_put_10 : decode cX12_put 10 = .ok (.ldc 160, 2) := by decide +kernel
theorem dX12_put_12 : decode cX12_put 12 = .ok (.invokestatic 66, 3) := by decide +kernel
theorem dX12_put_15 : decode cX12_put 15 = .ok (.ifCond .ne 5, 3) := by decide +kernel
theorem dX12_put_18 : decode cX12_put 18 = .ok (.iconst (-1), 1) := by decide +kernel
theorem dX12_put_19 : decode cX12_put 19 = .ok (.ireturn, 1) := by decide +kernel
theorem dX12_put_20 : decode cX12_put 20 = .ok (.aload_n 0, 1) := by decide +kernel
theorem dX12_put_21 : decode cX12_put 21 = .ok (.iload_n 1, 1) := by decide +kernel
theorem dX12_put_22 : decode cX12_put 22 = .ok (.invokevirtual 161, 3) := by decide +kernel
theorem dX12_put_25 : decode cX12_put 25 = .ok (.ifCond .ne 6, 3) := by decide +kernel
theorem dX12_put_28 : decode cX12_put 28 = .ok (.bipush (-2), 2) := by decide +kernel
theorem dX12_put_30 : decode cX12_put 30 = .ok (.ireturn, 1) := by decide +kernel
theorem dX12_put_31 : decode cX12_put 31 = .ok (.aload_n 0, 1) := by decide +kernel
theorem dX12_put_32 : decode cX12_put 32 = .ok (.iload_n 2, 1) := by decide +kernel
theorem dX12_put_33 : decode cX12_put 33 = .ok (.invokevirtual 164, 3) := by decide +kernel
theorem dX12_put_36 : decode cX12_put 36 = .ok (.ireturn, 1) := by decide +kernel
set_option maxRecDepth 20000 in
theorem ggX12_putsHand_X12_isHandThere : GoodIn wsX12_putsHand wsX12_isHandThere := goodIn_r _ [5, 6, 7, 8, 4, 9, 10, 11, 12, 13, 14, 15, 16, 17, 18, 19, 20, 21, 22, 23, 24, 25, 26, 27, 28, 90, 91, 92, 93, 94, 95, 96, 97, 98, 99, 100, 101, 102, 103, 104, 105, 106, 107, 108, 109, 110, 111, 112, 113, 114, 115, 116, 117, 118, 119, 120, 121, 122, 123, 124, 125, 126, 127, 128, 129, 130] (by decide +kernel) (by decide +kernel)
set_option maxRecDepth 20000 in
theorem gX12_putsHand_X12_isHandThere : GoodIn wsX12_putsHand (wsV RX12 167 RX12 yX12_isHandThere wsX12_isHandThere) := goodIn_app (goodIn_of _ (by decide +kernel)) ggX12_putsHand_X12_isHandThere
set_option maxRecDepth 20000 in
theorem ggX12_putsHand_X12_rankOfHand : GoodIn wsX12_putsHand wsX12_rankOfHand := goodIn_r _ [9, 10, 11, 12, 4, 13, 14, 15, 16, 17, 18, 19, 20, 21, 22, 23, 24, 25, 26, 27, 28, 90, 91, 92, 93, 94, 95, 96, 97, 98, 99, 100, 101, 102, 103, 104, 105, 106, 107, 108, 109, 110, 111, 112, 113, 114, 115, 116, 117, 118, 119, 120, 121, 122, 123, 124, 125, 126, 127, 128, 129, 130] (by decide +kernel) (by decide +kernel)
set_option maxRecDepth 20000 in
theorem gX12_putsHand_X12_rankOfHand : GoodIn wsX12_putsHand (wsV RX12 81 RX12 yX12_rankOfHand wsX12_rankOfHand) := goodIn_app (goodIn_of _ (by decide +kernel)) ggX12_putsHand_X12_rankOfHand
set_option maxRecDepth 20000 in
theorem ggX12_putsHand_X12_of : GoodIn wsX12_putsHand wsX12_of := goodIn_r _ [24, 14, 90, 91, 92, 93, 94, 95, 96, 97, 98, 99, 100, 101, 102, 103, 104, 105, 106, 107, 108, 109, 110, 111, 112, 113, 114, 115, 116, 117, 118, 119, 120, 121, 122, 123, 124, 125, 126, 127, 128, 129, 130] (by decide +kernel) (by decide +kernel)
set_option maxRecDepth 20000 in
theorem gX12_putsHand_X12_of : GoodIn wsX12_putsHand (wsV RX12 50 RX12 yX12_of wsX12_of) := goodIn_app (goodIn_of _ (by decide +kernel)) ggX12_putsHand_X12_of
set_option maxRecDepth 20000 in
theorem ggX12_putsHand_X12_sets : GoodIn wsX12_putsHand wsX12_sets := goodIn_r _ [32, 14, 90, 91, 92, 93, 94, 95, 96, 97, 98, 99, 100, 101, 102, 103, 104, 105, 106, 107, 108, 109, 110, 111, 112, 113, 114, 115, 116, 117, 118, 119, 120, 121, 122, 123, 124, 125, 126, 127, 128, 129, 130] (by decide +kernel) (by decide +kernel)
set_option maxRecDepth 20000 in
theorem gX12_putsHand_X12_sets : GoodIn wsX12_putsHand (wsV RX12 58 RX12 yX12_sets wsX12_sets) := goodIn_app (goodIn_of _ (by decide +kernel)) ggX12_putsHand_X12_sets
set_option maxRecDepth 20000 in
theorem ggX12_putsHand_X12_many : GoodIn wsX12_putsHand wsX12_many := goodIn_r _ [13, 14, 90, 91, 92, 93, 94, 95, 96, 97, 98, 99, 100, 101, 102, 103, 104, 105, 106, 107, 108, 109, 110, 111, 112, 113, 114, 115, 116, 117, 118, 119, 120, 121, 122, 123, 124, 125, 126, 127, 128, 129, 130] (by decide +kernel) (by decide +kernel)
set_option maxRecDepth 20000 in
theorem gX12_putsHand_X12_many : GoodIn wsX12_putsHand (wsV RX12 62 RX12 yX12_many wsX12_many) := goodIn_app (goodIn_of _ (by decide +kernel)) ggX12_putsHand_X12_many
set_option maxRecDepth 20000 in
theorem ggX12_putsHand_X12_comes : GoodIn wsX12_putsHand wsX12_comes := goodIn_r _ [36, 37, 38, 39, 14, 40, 41, 42, 4, 43, 19, 44, 45, 46, 47, 48, 49, 10, 11, 12, 13, 50, 51, 52, 53, 20, 21, 22, 23, 24, 25, 26, 27, 28, 54, 55, 56, 57, 29, 30, 31, 32, 15, 16, 17, 18, 6, 7, 8, 9, 58, 59, 60, 61, 62, 63, 64, 65, 66, 67, 68, 69, 70, 71, 72, 73, 74, 75, 76, 77, 78, 79, 80, 81, 82, 83, 84, 85, 86, 87, 88, 89, 90, 91, 92, 93, 94, 95, 96, 97, 98, 99, 100, 101, 102, 103, 104, 105, 106, 107, 108, 109, 110, 111, 112, 113, 114, 115, 116, 117, 118, 119, 120, 121, 122, 123, 124, 125, 126, 127, 128, 129, 130] (by decide +kernel) (by decide +kernel)
set_option maxRecDepth 20000 in
theorem gX12_putsHand_X12_comes : GoodIn wsX12_putsHand (wsV RX12 171 RX12 yX12_comes wsX12_comes) := goodIn_app (goodIn_of _ (by decide +kernel)) ggX12_putsHand_X12_comes
theorem dX12_putsHand_0 : decode cX12_putsHand 0 = .ok (.aload_n 0, 1) := by decide +kernel
theorem dX12_putsHand_1 : decode cX12_putsHand 1 = .ok (.invokevirtual 167, 3) := by decide +kernel
theorem dX12_putsHand_4 : decode cX12_putsHand 4 = .ok (.ifCond .eq 24, 3) := by decide +kernel
theorem dX12_putsHand_7 : decode cX12_putsHand 7 = .ok (.aload_n 0, 1) := by decide +kernel
theorem dX12_putsHand_8 : decode cX12_putsHand 8 = .ok (.invokevirtual 81, 3) := by decide +kernel
theorem dX12_putsHand_11 : decode cX12_putsHand 11 = .ok (.istore_n 2, 1) := by decide +kernel
theorem dX12_putsHand_12 : decode cX12_putsHand 12 = .ok (.aload_n 0, 1) := by decide +kernel
theorem dX12_putsHand_13 : decode cX12_putsHand 13 = .ok (.iload_n 2, 1) := by decide +kernel
theorem dX12_putsHand_14 : decode cX12_putsHand 14 = .ok (.iconst 1, 1) := by decide +kernel
theorem dX12_putsHand_15 : decode cX12_putsHand 15 = .ok (.invokevirtual 50, 3) := by decide +kernel
theorem dX12_putsHand_18 : decode cX12_putsHand 18 = .ok (.istore_n 3, 1) := by decide +kernel
theorem dX12_putsHand_19 : decode cX12_putsHand 19 = .ok (.aload_n 0, 1) := by decide +kernel
theorem dX12_putsHand_20 : decode cX12_putsHand 20 = .ok (.iload_n 2, 1) := by decide +kernel
theorem dX12_putsHand_21 : decode cX12_putsHand 21 = .ok (.iconst 1, 1) := by decide +kernel
theorem dX12_putsHand_22 : decode cX12_putsHand 22 = .ok (.iload_n 1, 1) := by decide +kernel
theorem dX12_putsHand_23 : decode cX12_putsHand 23 = .ok (.invokevirtual 58, 3) := by decide +kernel
theorem dX12_putsHand_26 : decode cX12_putsHand 26 = .ok (.iload_n 3, 1) := by decide +kernel
theorem dX12_putsHand_27 : decode cX12_putsHand 27 = .ok (.ireturn, 1) := by decide +kernel
theorem dX12_putsHand_28 : decode cX12_putsHand 28 = .ok (.aload_n 0, 1) := by decide +kernel
theorem dX12_putsHand_29 : decode cX12_putsHand 29 = .ok (.invokevirtual 62, 3) := by decide +kernel
theorem dX12_putsHand_32 : decode cX12_putsHand 32 = .ok (.sipush 150, 3) := by decide +kernel
theorem dX12_putsHand_35 : decode cX12_putsHand 35 = .ok (.if_icmp .ne 6, 3) := by decide +kernel
theorem dX12_putsHand_38 : decode cX12_putsHand 38 = .ok (.bipush (-4), 2) := by decide +kernel
theorem dX12_putsHand_40 : decode cX12_putsHand 40 = .ok (.ireturn, 1) := by decide +kernel
theorem dX12_putsHand_41 : decode cX12_putsHand 41 = .ok (.aload_n 0, 1) := by decide +kernel
theorem dX12_putsHand_42 : decode cX12_putsHand 42 = .ok (.iload_n 1, 1) := by decide +kernel
theorem dX12_putsHand_43 : decode cX12_putsHand 43 = .ok (.invokevirtual 171, 3) := by decide +kernel
theorem dX12_putsHand_46 : decode cX12_putsHand 46 = .ok (.bipush (-3), 2) := by decide +kernel
theorem dX12_putsHand_48 : decode cX12_putsHand 48 = .ok (.ireturn, 1) := by decide +kernel
set_option maxRecDepth 20000 in
theorem ggX12_takesOut_X12_isHandThere : GoodIn wsX12_takesOut wsX12_isHandThere := goodIn_r _ [5, 6, 7, 8, 4, 9, 10, 11, 12, 13, 14, 15, 16, 17, 18, 19, 20, 21, 22, 23, 24, 25, 26, 27, 28, 97, 98, 99, 100, 101, 102, 103, 104, 105, 106, 107, 108, 109, 110, 111, 112, 113, 114, 115, 116, 117, 118, 119, 120, 121, 122, 123, 124, 125, 126, 127, 128, 129, 130, 131, 132, 133, 134, 135, 136, 137] (by decide +kernel) (by decide +kernel)
set_option maxRecDepth 20000 in
theorem gX12_takesOut_X12_isHandThere : GoodIn wsX12_takesOut (wsV RX12 167 RX12 yX12_isHandThere wsX12_isHandThere) := goodIn_app (goodIn_of _ (by decide +kernel)) ggX12_takesOut_X12_isHandThere
set_option maxRecDepth 20000 in
theorem ggX12_takesOut_X12_rankOfHand : GoodIn wsX12_takesOut wsX12_rankOfHand := goodIn_r _ [9, 10, 11, 12, 4, 13, 14, 15, 16, 17, 18, 19, 20, 21, 22, 23, 24, 25, 26, 27, 28, 97, 98, 99, 100, 101, 102, 103, 104, 105, 106, 107, 108, 109, 110, 111, 112, 113, 114, 115, 116, 117, 118, 119, 120, 121, 122, 123, 124, 125, 126, 127, 128, 129, 130, 131, 132, 133, 134, 135, 136, 137] (by decide +kernel) (by decide +kernel)
set_option maxRecDepth 20000 in
theorem gX12_takesOut_X12_rankOfHand : GoodIn wsX12_takesOut (wsV RX12 81 RX12 yX12_rankOfHand wsX12_rankOfHand) := goodIn_app (goodIn_of _ (by decide +kernel)) ggX12_takesOut_X12_rankOfHand
set_option maxRecDepth 20000 in
theorem ggX12_takesOut_X12_of : GoodIn wsX12_takesOut wsX12_of := goodIn_r _ [24, 14, 97, 98, 99, 100, 101, 102, 103, 104, 105, 106, 107, 108, 109, 110, 111, 112, 113, 114, 115, 116, 117, 118, 119, 120, 121, 122, 123, 124, 125, 126, 127, 128, 129, 130, 131, 132, 133, 134, 135, 136, 137] (by decide +kernel) (by decide +kernel)
set_option maxRecDepth 20000 in
theorem gX12_takesOut_X12_of : GoodIn wsX12_takesOut (wsV RX12 50 RX12 yX12_of wsX12_of) := goodIn_app (goodIn_of _ (by decide +kernel)) ggX12_takesOut_X12_of
set_option maxRecDepth 20000 in
theorem ggX12_takesOut_X12_goes : GoodIn wsX12_takesOut wsX12_goes := goodIn_r _ [32, 14, 33, 34, 35, 36, 37, 4, 38, 19, 39, 40, 41, 42, 20, 21, 22, 23, 24, 25, 26, 27, 28, 43, 44, 45, 46, 10, 11, 12, 13, 47, 48, 49, 50, 51, 52, 53, 54, 55, 56, 57, 58, 59, 60, 61, 62, 63, 64, 65, 66, 67, 68, 69, 70, 71, 72, 73, 74, 75, 76, 77, 78, 79, 80, 81, 82, 83, 84, 85, 86, 87, 88, 89, 90, 91, 92, 93, 94, 95, 96, 97, 98, 99, 100, 101, 102, 103, 104, 105, 106, 107, 108, 109, 110, 111, 112, 113, 114, 115, 116, 117, 118, 119, 120, 121, 122, 123, 124, 125, 126, 127, 128, 129, 130, 131, 132, 133, 134, 135, 136, 137] (by decide +kernel) (by decide +kernel)
set_option maxRecDepth 20000 in
theorem gX12_takesOut_X12_goes : GoodIn wsX12_takesOut (wsV RX12 174 RX12 yX12_goes wsX12_goes) := goodIn_app (goodIn_of _ (by decide +kernel)) ggX12_takesOut_X12_goes
theorem dX12_takesOut_0 : decode cX12_takesOut 0 = .ok (.aload_n 0, 1) := by decide +kernel
theorem dX12_takesOut_1 : decode cX12_takesOut 1 = .ok (.invokevirtual 167, 3) := by decide +kernel
theorem dX12_takesOut_4 : decode cX12_takesOut 4 = .ok (.ifCond .ne 6, 3) := by decide +kernel
theorem dX12_takesOut_7 : decode cX12_takesOut 7 = .ok (.bipush (-3), 2) := by decide +kernel
theorem dX12_takesOut_9 : decode cX12_takesOut 9 = .ok (.ireturn, 1) := by decide +kernel
theorem dX12_takesOut_10 : decode cX12_takesOut 10 = .ok (.aload_n 0, 1) := by decide +kernel
theorem dX12_takesOut_11 : decode cX12_takesOut 11 = .ok (.invokevirtual 81, 3) := by decide +kernel
theorem dX12_takesOut_14 : decode cX12_takesOut 14 = .ok (.istore_n 1, 1) := by decide +kernel
theorem dX12_takesOut_15 : decode cX12_takesOut 15 = .ok (.aload_n 0, 1) := by decide +kernel
theorem dX12_takesOut_16 : decode cX12_takesOut 16 = .ok (.iload_n 1, 1) := by decide +kernel
theorem dX12_takesOut_17 : decode cX12_takesOut 17 = .ok (.iconst 1, 1) := by decide +kernel
theorem dX12_takesOut_18 : decode cX12_takesOut 18 = .ok (.invokevirtual 50, 3) := by decide +kernel
theorem dX12_takesOut_21 : decode cX12_takesOut 21 = .ok (.istore_n 2, 1) := by decide +kernel
theorem dX12_takesOut_22 : decode cX12_takesOut 22 = .ok (.aload_n 0, 1) := by decide +kernel
theorem dX12_takesOut_23 : decode cX12_takesOut 23 = .ok (.iload_n 1, 1) := by decide +kernel
theorem dX12_takesOut_24 : decode cX12_takesOut 24 = .ok (.invokevirtual 174, 3) := by decide +kernel
theorem dX12_takesOut_27 : decode cX12_takesOut 27 = .ok (.iload_n 2, 1) := by decide +kernel
theorem dX12_takesOut_28 : decode cX12_takesOut 28 = .ok (.ireturn, 1) := by decide +kernel
set_option maxRecDepth 20000 in
theorem ggX12_take_X12_isLong : GoodIn wsX12_take wsX12_isLong := goodIn_r _ [5, 6, 7, 8, 4, 9, 117, 118, 119, 120, 121, 122, 123, 124, 125, 126, 127, 128, 129, 130, 131, 132, 133, 134, 135, 136, 137, 138, 139, 140, 141, 142, 143, 144, 145, 146, 147, 148, 149, 150, 151, 152, 153, 154, 155, 156, 157] (by decide +kernel) (by decide +kernel)
set_option maxRecDepth 20000 in
theorem gX12_take_X12_isLong : GoodIn wsX12_take (wsV RX12 157 RX12 yX12_isLong wsX12_isLong) := goodIn_app (goodIn_of _ (by decide +kernel)) ggX12_take_X12_isLong
set_option maxRecDepth 20000 in
theorem ggX12_take_X12_takesKey : GoodIn wsX12_take wsX12_takesKey := goodIn_r _ [13, 6, 14, 15, 16, 17, 18, 4, 19, 7, 8, 9, 117, 118, 119, 120, 121, 122, 123, 124, 125, 126, 127, 128, 129, 130, 131, 132, 133, 134, 135, 136, 137, 138, 139, 140, 141, 142, 143, 144, 145, 146, 147, 148, 149, 150, 151, 152, 153, 154, 155, 156, 157] (by decide +kernel) (by decide +kernel)
set_option maxRecDepth 20000 in
theorem gX12_take_X12_takesKey : GoodIn wsX12_take (wsV RX12 161 RX12 yX12_takesKey wsX12_takesKey) := goodIn_app (goodIn_of _ (by decide +kernel)) ggX12_take_X12_takesKey
set_option maxRecDepth 20000 in
theorem ggX12_take_X12_takesOut : GoodIn wsX12_take wsX12_takesOut := goodIn_r _ [23, 24, 25, 26, 4, 27, 28, 29, 30, 31, 32, 33, 34, 35, 36, 37, 38, 39, 40, 14, 15, 41, 42, 43, 44, 45, 46, 47, 48, 49, 50, 51, 52, 53, 54, 55, 56, 57, 58, 59, 60, 61, 62, 63, 64, 65, 66, 67, 68, 69, 70, 71, 72, 73, 74, 75, 76, 77, 78, 79, 80, 81, 82, 83, 84, 85, 86, 87, 88, 89, 90, 91, 92, 93, 94, 95, 96, 97, 98, 99, 100, 101, 102, 103, 104, 105, 106, 107, 108, 109, 110, 111, 112, 113, 114, 115, 116, 117, 118, 119, 120, 121, 122, 123, 124, 125, 126, 127, 128, 129, 130, 131, 132, 133, 134, 135, 136, 137, 138, 139, 140, 141, 142, 143, 144, 145, 146, 147, 148, 149, 150, 151, 152, 153, 154, 155, 156, 157] (by decide +kernel) (by decide +kernel)
set_option maxRecDepth 20000 in
theorem gX12_take_X12_takesOut : GoodIn wsX12_take (wsV RX12 177 RX12 yX12_takesOut wsX12_takesOut) := goodIn_app (goodIn_of _ (by decide +kernel)) ggX12_take_X12_takesOut
theorem dX12_take_0 : decode cX12_take 0 = .ok (.aload_n 0, 1) := by decide +kernel
theorem dX12_take_1 : decode cX12_take 1 = .ok (.iload_n 1, 1) := by decide +kernel
theorem dX12_take_2 : decode cX12_take 2 = .ok (.invokevirtual 157, 3) := by decide +kernel
theorem dX12_take_5 : decode cX12_take 5 = .ok (.ifCond .ne 5, 3) := by decide +kernel
theorem dX12_take_8 : decode cX12_take 8 = .ok (.iconst (-1), 1) := by decide +kernel
theorem dX12_take_9 : decode cX12_take 9 = .ok (.ireturn, 1) := by decide +kernel
theorem dX12_take_10 : decode cX12_take 10 = .ok (.aload_n 0, 1) := by decide +kernel
theorem dX12_take_11 : decode cX12_take 11 = .ok (.iload_n 1, 1) := by decide +kernel
theorem dX12_take_12 : decode cX12_take 12 = .ok (.invokevirtual 161, 3) := by decide +kernel
theorem dX12_take_15 : decode cX12_take 15 = .ok (.ifCond .eq 10, 3) := by decide +kernel
theorem dX12_take_18 : decode cX12_take 18 = .ok (.aload_n 0, 1) := by decide +kernel
theorem dX12_take_19 : decode cX12_take 19 = .ok (.invokevirtual 177, 3) := by decide +kernel
theorem dX12_take_22 : decode cX12_take 22 = .ok (.goto 5, 3) := by decide +kernel
theorem dX12_take_25 : decode cX12_take 25 = .ok (.bipush (-2), 2) := by decide +kernel
theorem dX12_take_27 : decode cX12_take 27 = .ok (.ireturn, 1) := by decide +kernel
theorem dX12_here_0 : decode cX12_here 0 = .ok (.aload_n 0, 1) := by decide +kernel
theorem dX12_here_1 : decode cX12_here 1 = .ok (.getfield 180, 3) := by decide +kernel
theorem dX12_here_4 : decode cX12_here 4 = .ok (.aload_n 0, 1) := by decide +kernel
theorem dX12_here_5 : decode cX12_here 5 = .ok (.getfield 183, 3) := by decide +kernel
theorem dX12_here_8 : decode cX12_here 8 = .ok (.if_icmp .ge 19, 3) := by decide +kernel
theorem dX12_here_11 : decode cX12_here 11 = .ok (.aload_n 0, 1) := by decide +kernel
theorem dX12_here_12 : decode cX12_here 12 = .ok (.getfield 22, 3) := by decide +kernel
theorem dX12_here_15 : decode cX12_here 15 = .ok (.aload_n 0, 1) := by decide +kernel
theorem dX12_here_16 : decode cX12_here 16 = .ok (.getfield 180, 3) := by decide +kernel
theorem dX12_here_19 : decode cX12_here 19 = .ok (.baload, 1) := by decide +kernel
theorem dX12_here_20 : decode cX12_here 20 = .ok (.sipush 255, 3) := by decide +kernel
theorem dX12_here_23 : decode cX12_here 23 = .ok (.iand, 1) := by decide +kernel
theorem dX12_here_24 : decode cX12_here 24 = .ok (.goto 4, 3) := by decide +kernel
theorem dX12_here_27 : decode cX12_here 27 = .ok (.iconst (-1), 1) := by decide +kernel
theorem dX12_here_28 : decode cX12_here 28 = .ok (.ireturn, 1) := by decide +kernel
theorem dX12_wrongAt_0 : decode cX12_wrongAt 0 = .ok (.aload_n 0, 1) := by decide +kernel
theorem dX12_wrongAt_1 : decode cX12_wrongAt 1 = .ok (.sipush (-1000), 3) := by decide +kernel
theorem dX12_wrongAt_4 : decode cX12_wrongAt 4 = .ok (.iload_n 1, 1) := by decide +kernel
theorem dX12_wrongAt_5 : decode cX12_wrongAt 5 = .ok (.imul, 1) := by decide +kernel
theorem dX12_wrongAt_6 : decode cX12_wrongAt 6 = .ok (.iload_n 2, 1) := by decide +kernel
theorem dX12_wrongAt_7 : decode cX12_wrongAt 7 = .ok (.isub, 1) := by decide +kernel
theorem dX12_wrongAt_8 : decode cX12_wrongAt 8 = .ok (.putfield 186, 3) := by decide +kernel
theorem dX12_wrongAt_11 : decode cX12_wrongAt 11 = .ok (.iconst 0, 1) := by decide +kernel
theorem dX12_wrongAt_12 : decode cX12_wrongAt 12 = .ok (.ireturn, 1) := by decide +kernel
set_option maxRecDepth 20000 in
theorem ggX12_takesSign_X12_here : GoodIn wsX12_takesSign wsX12_here := goodIn_r _ [6, 1, 7, 8, 14, 15, 16, 17, 18, 19, 20, 21, 22, 23, 24, 25, 26, 27, 28, 29, 30, 31, 32, 33, 34, 35, 36, 37, 38, 39, 40, 41, 42, 43, 44, 45, 46, 47, 48, 49, 50, 51, 52, 53, 54] (by decide +kernel) (by decide +kernel)
set_option maxRecDepth 20000 in
theorem gX12_takesSign_X12_here : GoodIn wsX12_takesSign (wsV RX12 189 RX12 yX12_here wsX12_here) := goodIn_app (goodIn_of _ (by decide +kernel)) ggX12_takesSign_X12_here
set_option maxRecDepth 20000 in
theorem ggX12_takesSign_X12_wrongAt : GoodIn wsX12_takesSign wsX12_wrongAt := goodIn_r _ [12, 13, 14, 15, 16, 17, 18, 19, 20, 21, 22, 23, 24, 25, 26, 27, 28, 29, 30, 31, 32, 33, 34, 35, 36, 37, 38, 39, 40, 41, 42, 43, 44, 45, 46, 47, 48, 49, 50, 51, 52, 53, 54] (by decide +kernel) (by decide +kernel)
set_option maxRecDepth 20000 in
theorem gX12_takesSign_X12_wrongAt : GoodIn wsX12_takesSign (wsV RX12 192 RX12 yX12_wrongAt wsX12_wrongAt) := goodIn_app (goodIn_of _ (by decide +kernel)) ggX12_takesSign_X12_wrongAt
theorem dX12_takesSign_0 : decode cX12_takesSign 0 = .ok (.aload_n 0, 1) := by decide +kernel
theorem dX12_takesSign_1 : decode cX12_takesSign 1 = .ok (.invokevirtual 189, 3) := by decide +kernel
theorem dX12_takesSign_4 : decode cX12_takesSign 4 = .ok (.iload_n 1, 1) := by decide +kernel
theorem dX12_takesSign_5 : decode cX12_takesSign 5 = .ok (.if_icmp .eq 13, 3) := by decide +kernel
theorem dX12_takesSign_8 : decode cX12_takesSign 8 = .ok (.aload_n 0, 1) := by decide +kernel
theorem dX12_takesSign_9 : decode cX12_takesSign 9 = .ok (.iconst 1, 1) := by decide +kernel
theorem dX12_takesSign_10 : decode cX12_takesSign 10 = .ok (.aload_n 0, 1) := by decide +kernel
theorem dX12_takesSign_11 : decode cX12_takesSign 11 = .ok (.getfield 180, 3) := by decide +kernel
theorem dX12_takesSign_14 : decode cX12_takesSign 14 = .ok (.invokevirtual 192, 3) := by decide +kernel
theorem dX12_takesSign_17 : decode cX12_takesSign 17 = .ok (.ireturn, 1) := by decide +kernel
theorem dX12_takesSign_18 : decode cX12_takesSign 18 = .ok (.aload_n 0, 1) := by decide +kernel
theorem dX12_takesSign_19 : decode cX12_takesSign 19 = .ok (.aload_n 0, 1) := by decide +kernel
theorem dX12_takesSign_20 : decode cX12_takesSign 20 = .ok (.getfield 180, 3) := by decide +kernel
theorem dX12_takesSign_23 : decode cX12_takesSign 23 = .ok (.iconst 1, 1) := by decide +kernel
theorem dX12_takesSign_24 : decode cX12_takesSign 24 = .ok (.iadd, 1) := by decide +kernel
theorem dX12_takesSign_25 : decode cX12_takesSign 25 = .ok (.putfield 180, 3) := by decide +kernel
theorem dX12_takesSign_28 : decode cX12_takesSign 28 = .ok (.iconst 1, 1) := by decide +kernel
theorem dX12_takesSign_29 : decode cX12_takesSign 29 = .ok (.ireturn, 1) := by decide +kernel
set_option maxRecDepth 20000 in
theorem ggX12_readsNumber_X12_here : GoodIn wsX12_readsNumber wsX12_here := goodIn_r _ [7, 1, 8, 9, 18, 19, 20, 21, 22, 23, 24, 25, 26, 27, 28, 29, 30, 31, 32, 33, 34, 35, 36, 37, 38, 39, 40, 41, 42, 43, 44, 45, 46, 47, 48, 49, 50, 51, 52, 53, 54, 55, 56, 57, 58] (by decide +kernel) (by decide +kernel)
set_option maxRecDepth 20000 in
theorem gX12_readsNumber_X12_here : GoodIn wsX12_readsNumber (wsV RX12 189 RX12 yX12_here wsX12_here) := goodIn_app (goodIn_of _ (by decide +kernel)) ggX12_readsNumber_X12_here
set_option maxRecDepth 20000 in
theorem ggX12_readsNumber_X12_in : GoodIn wsX12_readsNumber wsX12_in := goodIn_r _ [12] (by decide +kernel) (by decide +kernel)
set_option maxRecDepth 20000 in
theorem gX12_readsNumber_X12_in : GoodIn wsX12_readsNumber (va_wsS RX12 66 yX12_in wsX12_in) := goodIn_app (goodIn_of _ (by decide +kernel)) ggX12_readsNumber_X12_in
set_option maxRecDepth 20000 in
theorem ggX12_readsNumber_X12_wrongAt : GoodIn wsX12_readsNumber wsX12_wrongAt := goodIn_r _ [16, 17, 18, 19, 20, 21, 22, 23, 24, 25, 26, 27, 28, 29, 30, 31, 32, 33, 34, 35, 36, 37, 38, 39, 40, 41, 42, 43, 44, 45, 46, 47, 48, 49, 50, 51, 52, 53, 54, 55, 56, 57, 58] (by decide +kernel) (by decide +kernel)
set_option maxRecDepth 20000 in
theorem gX12_readsNumber_X12_wrongAt : GoodIn wsX12_readsNumber (wsV RX12 192 RX12 yX12_wrongAt wsX12_wrongAt) := goodIn_app (goodIn_of _ (by decide +kernel)) ggX12_readsNumber_X12_wrongAt
theorem dX12_readsNumber_0 : decode cX12_readsNumber 0 = .ok (.aload_n 0, 1) := by decide +kernel
theorem dX12_readsNumber_1 : decode cX12_readsNumber 1 = .ok (.getfield 180, 3) := by decide +kernel
theorem dX12_readsNumber_4 : decode cX12_readsNumber 4 = .ok (.istore_n 1, 1) := by decide +kernel
theorem dX12_readsNumber_5 : decode cX12_readsNumber 5 = .ok (.aload_n 0, 1) := by decide +kernel
theorem dX12_readsNumber_6 : decode cX12_readsNumber 6 = .ok (.invokevirtual 189, 3) := by decide +kernel
theorem dX12_readsNumber_9 : decode cX12_readsNumber 9 = .ok (.bipush 48, 2) := by decide +kernel
theorem dX12_readsNumber_11 : decode cX12_readsNumber 11 = .ok (.bipush 57, 2) := by decide +kernel
theorem dX12_readsNumber_13 : decode cX12_readsNumber 13 = .ok (.invokestatic 66, 3) := by decide +kernel
theorem dX12_readsNumber_16 : decode cX12_readsNumber 16 = .ok (.ifCond .ne 13, 3) := by decide +kernel
theorem dX12_readsNumber_19 : decode cX12_readsNumber 19 = .ok (.aload_n 0, 1) := by decide +kernel
theorem dX12_readsNumber_20 : decode cX12_readsNumber 20 = .ok (.iconst 1, 1) := by decide +kernel
theorem dX12_readsNumber_21 : decode cX12_readsNumber 21 = .ok (.aload_n 0, 1) := by decide +kernel
theorem dX12_readsNumber_22 : decode cX12_readsNumber 22 = .ok (.getfield 180, 3) := by decide +kernel
theorem dX12_readsNumber_25 : decode cX12_readsNumber 25 = .ok (.invokevirtual 192, 3) := by decide +kernel
theorem dX12_readsNumber_28 : decode cX12_readsNumber 28 = .ok (.ireturn, 1) := by decide +kernel
theorem dX12_readsNumber_29 : decode cX12_readsNumber 29 = .ok (.aload_n 0, 1) := by decide +kernel
theorem dX12_readsNumber_30 : decode cX12_readsNumber 30 = .ok (.iconst 0, 1) := by decide +kernel
theorem dX12_readsNumber_31 : decode cX12_readsNumber 31 = .ok (.putfield 195, 3) := by decide +kernel
theorem dX12_readsNumber_34 : decode cX12_readsNumber 34 = .ok (.aload_n 0, 1) := by decide +kernel
theorem dX12_readsNumber_35 : decode cX12_readsNumber 35 = .ok (.invokevirtual 189, 3) := by decide +kernel
theorem dX12_readsNumber_38 : decode cX12_readsNumber 38 = .ok (.bipush 48, 2) := by decide +kernel
theorem dX12_readsNumber_40 : decode cX12_readsNumber 40 = .ok (.bipush 57, 2) := by decide +kernel
theorem dX12_readsNumber_42 : decode cX12_readsNumber 42 = .ok (.invokestatic 66, 3) := by decide +kernel
theorem dX12_readsNumber_45 : decode cX12_readsNumber 45 = .ok (.ifCond .eq 55, 3) := by decide +kernel
theorem dX12_readsNumber_48 : decode cX12_readsNumber 48 = .ok (.aload_n 0, 1) := by decide +kernel
theorem dX12_readsNumber_49 : decode cX12_readsNumber 49 = .ok (.getfield 180, 3) := by decide +kernel
theorem dX12_readsNumber_52 : decode cX12_readsNumber 52 = .ok (.iload_n 1, 1) := by decide +kernel
theorem dX12_readsNumber_53 : decode cX12_readsNumber 53 = .ok (.iconst 5, 1) := by decide +kernel
theorem dX12_readsNumber_54 : decode cX12_readsNumber 54 = .ok (.iadd, 1) := by decide +kernel
theorem dX12_readsNumber_55 : decode cX12_readsNumber 55 = .ok (.if_icmp .ne 13, 3) := by decide +kernel
theorem dX12_readsNumber_58 : decode cX12_readsNumber 58 = .ok (.aload_n 0, 1) := by decide +kernel
theorem dX12_readsNumber_59 : decode cX12_readsNumber 59 = .ok (.iconst 2, 1) := by decide +kernel
theorem dX12_readsNumber_60 : decode cX12_readsNumber 60 = .ok (.aload_n 0, 1) := by decide +kernel
theorem dX12_readsNumber_61 : decode cX12_readsNumber 61 = .ok (.getfield 180, 3) := by decide +kernel
theorem dX12_readsNumber_64 : decode cX12_readsNumber 64 = .ok (.invokevirtual 192, 3) := by decide +kernel
theorem dX12_readsNumber_67 : decode cX12_readsNumber 67 = .ok (.ireturn, 1) := by decide +kernel
theorem dX12_readsNumber_68 : decode cX12_readsNumber 68 = .ok (.aload_n 0, 1) := by decide +kernel
theorem dX12_readsNumber_69 : decode cX12_readsNumber 69 = .ok (.bipush 10, 2) := by decide +kernel
theorem dX12_readsNumber_71 : decode cX12_readsNumber 71 = .ok (.aload_n 0, 1) := by decide +kernel
theorem dX12_readsNumber_72 : decode cX12_readsNumber 72 = .ok (.getfield 195, 3) := by decide +kernel
theorem dX12_readsNumber_75 : decode cX12_readsNumber 75 = .ok (.imul, 1) := by decide +kernel
theorem dX12_readsNumber_76 : decode cX12_readsNumber 76 = .ok (.aload_n 0, 1) := by decide +kernel
theorem dX12_readsNumber_77 : decode cX12_readsNumber 77 = .ok (.invokevirtual 189, 3) := by decide +kernel
theorem dX12_readsNumber_80 : decode cX12_readsNumber 80 = .ok (.iadd, 1) := by decide +kernel
theorem dX12_readsNumber_81 : decode cX12_readsNumber 81 = .ok (.bipush 48, 2) := by decide +kernel
theorem dX12_readsNumber_83 : decode cX12_readsNumber 83 = .ok (.isub, 1) := by decide +kernel
theorem dX12_readsNumber_84 : decode cX12_readsNumber 84 = .ok (.putfield 195, 3) := by decide +kernel
theorem dX12_readsNumber_87 : decode cX12_readsNumber 87 = .ok (.aload_n 0, 1) := by decide +kernel
theorem dX12_readsNumber_88 : decode cX12_readsNumber 88 = .ok (.aload_n 0, 1) := by decide +kernel
theorem dX12_readsNumber_89 : decode cX12_readsNumber 89 = .ok (.getfield 180, 3) := by decide +kernel
theorem dX12_readsNumber_92 : decode cX12_readsNumber 92 = .ok (.iconst 1, 1) := by decide +kernel
theorem dX12_readsNumber_93 : decode cX12_readsNumber 93 = .ok (.iadd, 1) := by decide +kernel
theorem dX12_readsNumber_94 : decode cX12_readsNumber 94 = .ok (.putfield 180, 3) := by decide +kernel
theorem dX12_readsNumber_97 : decode cX12_readsNumber 97 = .ok (.goto (-63), 3) := by decide +kernel
theorem dX12_readsNumber_100 : decode cX12_readsNumber 100 = .ok (.iconst 1, 1) := by decide +kernel
theorem dX12_readsNumber_101 : decode cX12_readsNumber 101 = .ok (.ireturn, 1) := by decide +kernel
set_option maxRecDepth 20000 in
theorem ggX12_readsKey_X12_here : GoodIn wsX12_readsKey wsX12_here := goodIn_r _ [8, 1, 9, 10, 22, 23, 24, 25, 26, 27, 28, 29, 30, 31, 32, 33, 34, 35, 36, 37, 38, 39, 40, 41, 42, 43, 44, 45, 46, 47, 48, 49, 50, 51, 52, 53, 54, 55, 56, 57, 58, 59, 60, 61, 62] (by decide +kernel) (by decide +kernel)
set_option maxRecDepth 20000 in
theorem gX12_readsKey_X12_here : GoodIn wsX12_readsKey (wsV RX12 189 RX12 yX12_here wsX12_here) := goodIn_app (goodIn_of _ (by decide +kernel)) ggX12_readsKey_X12_here
set_option maxRecDepth 20000 in
theorem ggX12_readsKey_X12_isByte : GoodIn wsX12_readsKey wsX12_isByte := goodIn_r _ [13, 14, 15, 7, 16] (by decide +kernel) (by decide +kernel)
set_option maxRecDepth 20000 in
theorem gX12_readsKey_X12_isByte : GoodIn wsX12_readsKey (va_wsS RX12 153 yX12_isByte wsX12_isByte) := goodIn_app (goodIn_of _ (by decide +kernel)) ggX12_readsKey_X12_isByte
set_option maxRecDepth 20000 in
theorem ggX12_readsKey_X12_wrongAt : GoodIn wsX12_readsKey wsX12_wrongAt := goodIn_r _ [20, 21, 22, 23, 24, 25, 26, 27, 28, 29, 30, 31, 32, 33, 34, 35, 36, 37, 38, 39, 40, 41, 42, 43, 44, 45, 46, 47, 48, 49, 50, 51, 52, 53, 54, 55, 56, 57, 58, 59, 60, 61, 62] (by decide +kernel) (by decide +kernel)
set_option maxRecDepth 20000 in
theorem gX12_readsKey_X12_wrongAt : GoodIn wsX12_readsKey (wsV RX12 192 RX12 yX12_wrongAt wsX12_wrongAt) := goodIn_app (goodIn_of _ (by decide +kernel)) ggX12_readsKey_X12_wrongAt
theorem dX12_readsKey_0 : decode cX12_readsKey 0 = .ok (.aload_n 0, 1) := by decide +kernel
theorem dX12_readsKey_1 : decode cX12_readsKey 1 = .ok (.aload_n 0, 1) := by decide +kernel
theorem dX12_readsKey_2 : decode cX12_readsKey 2 = .ok (.getfield 180, 3) := by decide +kernel
theorem dX12_readsKey_5 : decode cX12_readsKey 5 = .ok (.putfield 198, 3) := by decide +kernel
theorem dX12_readsKey_8 : decode cX12_readsKey 8 = .ok (.aload_n 0, 1) := by decide +kernel
theorem dX12_readsKey_9 : decode cX12_readsKey 9 = .ok (.invokevirtual 189, 3) := by decide +kernel
theorem dX12_readsKey_12 : decode cX12_readsKey 12 = .ok (.invokestatic 153, 3) := by decide +kernel
theorem dX12_readsKey_15 : decode cX12_readsKey 15 = .ok (.ifCond .ne 13, 3) := by decide +kernel
theorem dX12_readsKey_18 : decode cX12_readsKey 18 = .ok (.aload_n 0, 1) := by decide +kernel
theorem dX12_readsKey_19 : decode cX12_readsKey 19 = .ok (.iconst 1, 1) := by decide +kernel
theorem dX12_readsKey_20 : decode cX12_readsKey 20 = .ok (.aload_n 0, 1) := by decide +kernel
theorem dX12_readsKey_21 : decode cX12_readsKey 21 = .ok (.getfield 180, 3) := by decide +kernel
theorem dX12_readsKey_24 : decode cX12_readsKey 24 = .ok (.invokevirtual 192, 3) := by decide +kernel
theorem dX12_readsKey_27 : decode cX12_readsKey 27 = .ok (.ireturn, 1) := by decide +kernel
theorem dX12_readsKey_28 : decode cX12_readsKey 28 = .ok (.aload_n 0, 1) := by decide +kernel
theorem dX12_readsKey_29 : decode cX12_readsKey 29 = .ok (.invokevirtual 189, 3) := by decide +kernel
theorem dX12_readsKey_32 : decode cX12_readsKey 32 = .ok (.invokestatic 153, 3) := by decide +kernel
theorem dX12_readsKey_35 : decode cX12_readsKey 35 = .ok (.ifCond .eq 40, 3) := by decide +kernel
theorem dX12_readsKey_38 : decode cX12_readsKey 38 = .ok (.aload_n 0, 1) := by decide +kernel
theorem dX12_readsKey_39 : decode cX12_readsKey 39 = .ok (.getfield 180, 3) := by decide +kernel
theorem dX12_readsKey_42 : decode cX12_readsKey 42 = .ok (.aload_n 0, 1) := by decide +kernel
theorem dX12_readsKey_43 : decode cX12_readsKey 43 = .ok (.getfield 198, 3) := by decide +kernel
theorem dX12_readsKey_46 : decode cX12_readsKey 46 = .ok (.bipush 24, 2) := by decide +kernel
theorem dX12_readsKey_48 : decode cX12_readsKey 48 = .ok (.iadd, 1) := by decide +kernel
theorem dX12_readsKey_49 : decode cX12_readsKey 49 = .ok (.if_icmp .ne 13, 3) := by decide +kernel
theorem dX12_readsKey_52 : decode cX12_readsKey 52 = .ok (.aload_n 0, 1) := by decide +kernel
theorem dX12_readsKey_53 : decode cX12_readsKey 53 = .ok (.iconst 5, 1) := by decide +kernel
theorem dX12_readsKey_54 : decode cX12_readsKey 54 = .ok (.aload_n 0, 1) := by decide +kernel
theorem dX12_readsKey_55 : decode cX12_readsKey 55 = .ok (.getfield 180, 3) := by decide +kernel
theorem dX12_readsKey_58 : decode cX12_readsKey 58 = .ok (.invokevirtual 192, 3) := by decide +kernel
theorem dX12_readsKey_61 : decode cX12_readsKey 61 = .ok (.ireturn, 1) := by decide +kernel
theorem dX12_readsKey_62 : decode cX12_readsKey 62 = .ok (.aload_n 0, 1) := by decide +kernel
theorem dX12_readsKey_63 : decode cX12_readsKey 63 = .ok (.aload_n 0, 1) := by decide +kernel
theorem dX12_readsKey_64 : decode cX12_readsKey 64 = .ok (.getfield 180, 3) := by decide +kernel
theorem dX12_readsKey_67 : decode cX12_readsKey 67 = .ok (.iconst 1, 1) := by decide +kernel
theorem dX12_readsKey_68 : decode cX12_readsKey 68 = .ok (.iadd, 1) := by decide +kernel
theorem dX12_readsKey_69 : decode cX12_readsKey 69 = .ok (.putfield 180, 3) := by decide +kernel
theorem dX12_readsKey_72 : decode cX12_readsKey 72 = .ok (.goto (-44), 3) := by decide +kernel
theorem dX12_readsKey_75 : decode cX12_readsKey 75 = .ok (.aload_n 0, 1) := by decide +kernel
theorem dX12_readsKey_76 : decode cX12_readsKey 76 = .ok (.aload_n 0, 1) := by decide +kernel
theorem dX12_readsKey_77 : decode cX12_readsKey 77 = .ok (.getfield 180, 3) := by decide +kernel
theorem dX12_readsKey_80 : decode cX12_readsKey 80 = .ok (.aload_n 0, 1) := by decide +kernel
theorem dX12_readsKey_81 : decode cX12_readsKey 81 = .ok (.getfield 198, 3) := by decide +kernel
theorem dX12_readsKey_84 : decode cX12_readsKey 84 = .ok (.isub, 1) := by decide +kernel
theorem dX12_readsKey_85 : decode cX12_readsKey 85 = .ok (.putfield 201, 3) := by decide +kernel
theorem dX12_readsKey_88 : decode cX12_readsKey 88 = .ok (.iconst 1, 1) := by decide +kernel
theorem dX12_readsKey_89 : decode cX12_readsKey 89 = .ok (.ireturn, 1) := by decide +kernel
set_option maxRecDepth 20000 in
theorem ggX12_readsItem_X12_wrongAt : GoodIn wsX12_readsItem wsX12_wrongAt := goodIn_r _ [16, 17, 42, 43, 44, 45, 46, 47, 48, 49, 50, 51, 52, 53, 54, 55, 56, 57, 58, 59, 60, 61, 62, 63, 64, 65, 66, 67, 68, 69, 70, 71, 72, 73, 74, 75, 76, 77, 78, 79, 80, 81, 82] (by decide +kernel) (by decide +kernel)
set_option maxRecDepth 20000 in
theorem gX12_readsItem_X12_wrongAt : GoodIn wsX12_readsItem (wsV RX12 192 RX12 yX12_wrongAt wsX12_wrongAt) := goodIn_app (goodIn_of _ (by decide +kernel)) ggX12_readsItem_X12_wrongAt
set_option maxRecDepth 20000 in
theorem ggX12_readsItem_X12_here : GoodIn wsX12_readsItem wsX12_here := goodIn_r _ [21, 2, 22, 23, 42, 43, 44, 45, 46, 47, 48, 49, 50, 51, 52, 53, 54, 55, 56, 57, 58, 59, 60, 61, 62, 63, 64, 65, 66, 67, 68, 69, 70, 71, 72, 73, 74, 75, 76, 77, 78, 79, 80, 81, 82] (by decide +kernel) (by decide +kernel)
set_option maxRecDepth 20000 in
theorem gX12_readsItem_X12_here : GoodIn wsX12_readsItem (wsV RX12 189 RX12 yX12_here wsX12_here) := goodIn_app (goodIn_of _ (by decide +kernel)) ggX12_readsItem_X12_here
set_option maxRecDepth 20000 in
theorem ggX12_readsItem_X12_readsKey : GoodIn wsX12_readsItem wsX12_readsKey := goodIn_r _ [27, 2, 5, 7, 18, 19, 20, 15, 21, 22, 23, 28, 29, 30, 31, 32, 33, 12, 13, 14, 16, 17, 42, 43, 44, 45, 46, 47, 48, 49, 50, 51, 52, 53, 54, 55, 56, 57, 58, 59, 60, 61, 62, 63, 64, 65, 66, 67, 68, 69, 70, 71, 72, 73, 74, 75, 76, 77, 78, 79, 80, 81, 82] (by decide +kernel) (by decide +kernel)
set_option maxRecDepth 20000 in
theorem gX12_readsItem_X12_readsKey : GoodIn wsX12_readsItem (wsV RX12 207 RX12 yX12_readsKey wsX12_readsKey) := goodIn_app (goodIn_of _ (by decide +kernel)) ggX12_readsItem_X12_readsKey
set_option maxRecDepth 20000 in
theorem ggX12_readsItem_X12_takesSign : GoodIn wsX12_readsItem wsX12_takesSign := goodIn_r _ [37, 2, 18, 19, 20, 15, 21, 22, 23, 12, 13, 14, 16, 17, 42, 43, 44, 45, 46, 47, 48, 49, 50, 51, 52, 53, 54, 55, 56, 57, 58, 59, 60, 61, 62, 63, 64, 65, 66, 67, 68, 69, 70, 71, 72, 73, 74, 75, 76, 77, 78, 79, 80, 81, 82] (by decide +kernel) (by decide +kernel)
set_option maxRecDepth 20000 in
theorem gX12_readsItem_X12_takesSign : GoodIn wsX12_readsItem (wsV RX12 210 RX12 yX12_takesSign wsX12_takesSign) := goodIn_app (goodIn_of _ (by decide +kernel)) ggX12_readsItem_X12_takesSign
set_option maxRecDepth 20000 in
theorem ggX12_readsItem_X12_readsNumber : GoodIn wsX12_readsItem wsX12_readsNumber := goodIn_r _ [41, 2, 9, 18, 19, 20, 15, 21, 22, 23, 31, 32, 33, 12, 13, 14, 16, 17, 42, 43, 44, 45, 46, 47, 48, 49, 50, 51, 52, 53, 54, 55, 56, 57, 58, 59, 60, 61, 62, 63, 64, 65, 66, 67, 68, 69, 70, 71, 72, 73, 74, 75, 76, 77, 78, 79, 80, 81, 82] (by decide +kernel) (by decide +kernel)
set_option maxRecDepth 20000 in
theorem gX12_readsItem_X12_readsNumber : GoodIn wsX12_readsItem (wsV RX12 213 RX12 yX12_readsNumber wsX12_readsNumber) := goodIn_app (goodIn_of _ (by decide +kernel)) ggX12_readsItem_X12_readsNumber
theorem dX12_readsItem_0 : decode cX12_readsItem 0 = .ok (.aload_n 0, 1) := by decide +kernel
theorem dX12_readsItem_1 : decode cX12_readsItem 1 = .ok (.getfield 204, 3) := by decide +kernel
theorem dX12_readsItem_4 : decode cX12_readsItem 4 = .ok (.bipush 20, 2) := by decide +kernel
theorem dX12_readsItem_6 : decode cX12_readsItem 6 = .ok (.if_icmp .ne 13, 3) := by decide +kernel
theorem dX12_readsItem_9 : decode cX12_readsItem 9 = .ok (.aload_n 0, 1) := by decide +kernel
theorem dX12_readsItem_10 : decode cX12_readsItem 10 = .ok (.iconst 4, 1) := by decide +kernel
theorem dX12_readsItem_11 : decode cX12_readsItem 11 = .ok (.aload_n 0, 1) := by decide +kernel
theorem dX12_readsItem_12 : decode cX12_readsItem 12 = .ok (.getfield 180, 3) := by decide +kernel
theorem dX12_readsItem_15 : decode cX12_readsItem 15 = .ok (.invokevirtual 192, 3) := by decide +kernel
theorem dX12_readsItem_18 : decode cX12_readsItem 18 = .ok (.ireturn, 1) := by decide +kernel
theorem dX12_readsItem_19 : decode cX12_readsItem 19 = .ok (.aload_n 0, 1) := by decide +kernel
theorem dX12_readsItem_20 : decode cX12_readsItem 20 = .ok (.invokevirtual 189, 3) := by decide +kernel
theorem dX12_readsItem_23 : decode cX12_readsItem 23 = .ok (.istore_n 1, 1) := by decide +kernel
theorem dX12_readsItem_24 : decode cX12_readsItem 24 = .ok (.iload_n 1, 1) := by decide +kernel
theorem dX12_readsItem_25 : decode cX12_readsItem 25 = .ok (.bipush 43, 2) := by decide +kernel
theorem dX12_readsItem_27 : decode cX12_readsItem 27 = .ok (.if_icmp .eq 25, 3) := by decide +kernel
theorem dX12_readsItem_30 : decode cX12_readsItem 30 = .ok (.iload_n 1, 1) := by decide +kernel
theorem dX12_readsItem_31 : decode cX12_readsItem 31 = .ok (.bipush 45, 2) := by decide +kernel
theorem dX12_readsItem_33 : decode cX12_readsItem 33 = .ok (.if_icmp .eq 19, 3) := by decide +kernel
theorem dX12_readsItem_36 : decode cX12_readsItem 36 = .ok (.iload_n 1, 1) := by decide +kernel
theorem dX12_readsItem_37 : decode cX12_readsItem 37 = .ok (.bipush 126, 2) := by decide +kernel
theorem dX12_readsItem_39 : decode cX12_readsItem 39 = .ok (.if_icmp .eq 13, 3) := by decide +kernel
theorem dX12_readsItem_42 : decode cX12_readsItem 42 = .ok (.aload_n 0, 1) := by decide +kernel
theorem dX12_readsItem_43 : decode cX12_readsItem 43 = .ok (.iconst 1, 1) := by decide +kernel
theorem dX12_readsItem_44 : decode cX12_readsItem 44 = .ok (.aload_n 0, 1) := by decide +kernel
theorem dX12_readsItem_45 : decode cX12_readsItem 45 = .ok (.getfield 180, 3) := by decide +kernel
theorem dX12_readsItem_48 : decode cX12_readsItem 48 = .ok (.invokevirtual 192, 3) := by decide +kernel
theorem dX12_readsItem_51 : decode cX12_readsItem 51 = .ok (.ireturn, 1) := by decide +kernel
theorem dX12_readsItem_52 : decode cX12_readsItem 52 = .ok (.aload_n 0, 1) := by decide +kernel
theorem dX12_readsItem_53 : decode cX12_readsItem 53 = .ok (.getfield 26, 3) := by decide +kernel
theorem dX12_readsItem_56 : decode cX12_readsItem 56 = .ok (.aload_n 0, 1) := by decide +kernel
theorem dX12_readsItem_57 : decode cX12_readsItem 57 = .ok (.getfield 204, 3) := by decide +kernel
theorem dX12_readsItem_60 : decode cX12_readsItem 60 = .ok (.iload_n 1, 1) := by decide +kernel
theorem dX12_readsItem_61 : decode cX12_readsItem 61 = .ok (.iastore, 1) := by decide +kernel
theorem dX12_readsItem_62 : decode cX12_readsItem 62 = .ok (.aload_n 0, 1) := by decide +kernel
theorem dX12_readsItem_63 : decode cX12_readsItem 63 = .ok (.aload_n 0, 1) := by decide +kernel
theorem dX12_readsItem_64 : decode cX12_readsItem 64 = .ok (.getfield 180, 3) := by decide +kernel
theorem dX12_readsItem_67 : decode cX12_readsItem 67 = .ok (.iconst 1, 1) := by decide +kernel
theorem dX12_readsItem_68 : decode cX12_readsItem 68 = .ok (.iadd, 1) := by decide +kernel
theorem dX12_readsItem_69 : decode cX12_readsItem 69 = .ok (.putfield 180, 3) := by decide +kernel
theorem dX12_readsItem_72 : decode cX12_readsItem 72 = .ok (.aload_n 0, 1) := by decide +kernel
theorem dX12_readsItem_73 : decode cX12_readsItem 73 = .ok (.invokevirtual 207, 3) := by decide +kernel
theorem dX12_readsItem_76 : decode cX12_readsItem 76 = .ok (.ifCond .ne 5, 3) := by decide +kernel
theorem dX12_readsItem_79 : decode cX12_readsItem 79 = .ok (.iconst 0, 1) := by decide +kernel
theorem dX12_readsItem_80 : decode cX12_readsItem 80 = .ok (.ireturn, 1) := by decide +kernel
theorem dX12_readsItem_81 : decode cX12_readsItem 81 = .ok (.aload_n 0, 1) := by decide +kernel
theorem dX12_readsItem_82 : decode cX12_readsItem 82 = .ok (.getfield 32, 3) := by decide +kernel
theorem dX12_readsItem_85 : decode cX12_readsItem 85 = .ok (.aload_n 0, 1) := by decide +kernel
theorem dX12_readsItem_86 : decode cX12_readsItem 86 = .ok (.getfield 204, 3) := by decide +kernel
theorem dX12_readsItem_89 : decode cX12_readsItem 89 = .ok (.aload_n 0, 1) := by decide +kernel
theorem dX12_readsItem_90 : decode cX12_readsItem 90 = .ok (.getfield 198, 3) := by decide +kernel
theorem dX12_readsItem_93 : decode cX12_readsItem 93 = .ok (.iastore, 1) := by decide +kernel
theorem dX12_readsItem_94 : decode cX12_readsItem 94 = .ok (.aload_n 0, 1) := by decide +kernel
theorem dX12_readsItem_95 : decode cX12_readsItem 95 = .ok (.getfield 35, 3) := by decide +kernel
theorem dX12_readsItem_98 : decode cX12_readsItem 98 = .ok (.aload_n 0, 1) := by decide +kernel
theorem dX12_readsItem_99 : decode cX12_readsItem 99 = .ok (.getfield 204, 3) := by decide +kernel
theorem dX12_readsItem_102 : decode cX12_readsItem 102 = .ok (.aload_n 0, 1) := by decide +kernel
theorem dX12_readsItem_103 : decode cX12_readsItem 103 = .ok (.getfield 201, 3) := by decide +kernel
theorem dX12_readsItem_106 : decode cX12_readsItem 106 = .ok (.iastore, 1) := by decide +kernel
theorem dX12_readsItem_107 : decode cX12_readsItem 107 = .ok (.iload_n 1, 1) := by decide +kernel
theorem dX12_readsItem_108 : decode cX12_readsItem 108 = .ok (.bipush 43, 2) := by decide +kernel
theorem dX12_readsItem_110 : decode cX12_readsItem 110 = .ok (.if_icmp .ne 34, 3) := by decide +kernel
theorem dX12_readsItem_113 : decode cX12_readsItem 113 = .ok (.aload_n 0, 1) := by decide +kernel
theorem dX12_readsItem_114 : decode cX12_readsItem 114 = .ok (.bipush 61, 2) := by decide +kernel
theorem dX12_readsItem_116 : decode cX12_readsItem 116 = .ok (.invokevirtual 210, 3) := by decide +kernel
theorem dX12_readsItem_119 : decode cX12_readsItem 119 = .ok (.ifCond .eq 10, 3) := by decide +kernel
theorem dX12_readsItem_122 : decode cX12_readsItem 122 = .ok (.aload_n 0, 1) := by decide +kernel
theorem dX12_readsItem_123 : decode cX12_readsItem 123 = .ok (.invokevirtual 213, 3) := by decide +kernel
theorem dX12_readsItem_126 : decode cX12_readsItem 126 = .ok (.ifCond .ne 5, 3) := by decide +kernel
theorem dX12_readsItem_129 : decode cX12_readsItem 129 = .ok (.iconst 0, 1) := by decide +kernel
theorem dX12_readsItem_130 : decode cX12_readsItem 130 = .ok (.ireturn, 1) := by decide +kernel
theorem dX12_readsItem_131 : decode cX12_readsItem 131 = .ok (.aload_n 0, 1) := by decide +kernel
theorem dX12_readsItem_132 : decode cX12_readsItem 132 = .ok (.getfield 29, 3) := by decide +kernel
theorem dX12_readsItem_135 : decode cX12_readsItem 135 = .ok (.aload_n 0, 1) := by decide +kernel
theorem dX12_readsItem_136 : decode cX12_readsItem 136 = .ok (.getfield 204, 3) := by decide +kernel
theorem dX12_readsItem_139 : decode cX12_readsItem 139 = .ok (.aload_n 0, 1) := by decide +kernel
theorem dX12_readsItem_140 : decode cX12_readsItem 140 = .ok (.getfield 195, 3) := by decide +kernel
theorem dX12_readsItem_143 : decode cX12_readsItem 143 = .ok (.iastore, 1) := by decide +kernel
theorem dX12_readsItem_144 : decode cX12_readsItem 144 = .ok (.iload_n 1, 1) := by decide +kernel
theorem dX12_readsItem_145 : decode cX12_readsItem 145 = .ok (.bipush 126, 2) := by decide +kernel
theorem dX12_readsItem_147 : decode cX12_readsItem 147 = .ok (.if_icmp .ne 47, 3) := by decide +kernel
theorem dX12_readsItem_150 : decode cX12_readsItem 150 = .ok (.aload_n 0, 1) := by decide +kernel
theorem dX12_readsItem_151 : decode cX12_readsItem 151 = .ok (.bipush 44, 2) := by decide +kernel
theorem dX12_readsItem_153 : decode cX12_readsItem 153 = .ok (.invokevirtual 210, 3) := by decide +kernel
theorem dX12_readsItem_156 : decode cX12_readsItem 156 = .ok (.ifCond .eq 10, 3) := by decide +kernel
theorem dX12_readsItem_159 : decode cX12_readsItem 159 = .ok (.aload_n 0, 1) := by decide +kernel
theorem dX12_readsItem_160 : decode cX12_readsItem 160 = .ok (.invokevirtual 207, 3) := by decide +kernel
theorem dX12_readsItem_163 : decode cX12_readsItem 163 = .ok (.ifCond .ne 5, 3) := by decide +kernel
theorem dX12_readsItem_166 : decode cX12_readsItem 166 = .ok (.iconst 0, 1) := by decide +kernel
theorem dX12_readsItem_167 : decode cX12_readsItem 167 = .ok (.ireturn, 1) := by decide +kernel
theorem dX12_readsItem_168 : decode cX12_readsItem 168 = .ok (.aload_n 0, 1) := by decide +kernel
theorem dX12_readsItem_169 : decode cX12_readsItem 169 = .ok (.getfield 38, 3) := by decide +kernel
theorem dX12_readsItem_172 : decode cX12_readsItem 172 = .ok (.aload_n 0, 1) := by decide +kernel
theorem dX12_readsItem_173 : decode cX12_readsItem 173 = .ok (.getfield 204, 3) := by decide +kernel
theorem dX12_readsItem_176 : decode cX12_readsItem 176 = .ok (.aload_n 0, 1) := by decide +kernel
theorem dX12_readsItem_177 : decode cX12_readsItem 177 = .ok (.getfield 198, 3) := by decide +kernel
theorem dX12_readsItem_180 : decode cX12_readsItem 180 = .ok (.iastore, 1) := by decide +kernel
theorem dX12_readsItem_181 : decode cX12_readsItem 181 = .ok (.aload_n 0, 1) := by decide +kernel
theorem dX12_readsItem_182 : decode cX12_readsItem 182 = .ok (.getfield 41, 3) := by decide +kernel
theorem dX12_readsItem_185 : decode cX12_readsItem 185 = .ok (.aload_n 0, 1) := by decide +kernel
theorem dX12_readsItem_186 : decode cX12_readsItem 186 = .ok (.getfield 204, 3) := by decide +kernel
theorem dX12_readsItem_189 : decode cX12_readsItem 189 = .ok (.aload_n 0, 1) := by decide +kernel
theorem dX12_readsItem_190 : decode cX12_readsItem 190 = .ok (.getfield 201, 3) := by decide +kernel
theorem dX12_readsItem_193 : decode cX12_readsItem 193 = .ok (.iastore, 1) := by decide +kernel
theorem dX12_readsItem_194 : decode cX12_readsItem 194 = .ok (.aload_n 0, 1) := by decide +kernel
theorem dX12_readsItem_195 : decode cX12_readsItem 195 = .ok (.aload_n 0, 1) := by decide +kernel
theorem dX12_readsItem_196 : decode cX12_readsItem 196 = .ok (.getfield 204, 3) := by decide +kernel
theorem dX12_readsItem_199 : decode cX12_readsItem 199 = .ok (.iconst 1, 1) := by decide +kernel
theorem dX12_readsItem_200 : decode cX12_readsItem 200 = .ok (.iadd, 1) := by decide +kernel
theorem dX12_readsItem_201 : decode cX12_readsItem 201 = .ok (.putfield 204, 3) := by decide +kernel
theorem dX12_readsItem_204 : decode cX12_readsItem 204 = .ok (.iconst 1, 1) := by decide +kernel
theorem dX12_readsItem_205 : decode cX12_readsItem 205 = .ok (.ireturn, 1) := by decide +kernel
set_option maxRecDepth 20000 in
theorem ggX12_readsOrders_X12_readsItem : GoodIn wsX12_readsOrders wsX12_readsItem := goodIn_r _ [9, 4, 1, 10, 11, 12, 13, 14, 15, 16, 17, 18, 19, 20, 21, 8, 22, 23, 24, 25, 26, 27, 2, 28, 29, 30, 31, 32, 33, 34, 35, 36, 37, 38, 39, 40, 41, 42, 43, 44, 45, 46, 47, 48, 49, 50, 51, 52, 53, 54, 55, 56, 57, 58, 59, 60, 61, 62, 63, 64, 65, 66, 67, 68, 69, 70, 71, 72, 73, 74, 75, 76, 77, 78, 79, 80, 81, 82, 83, 84, 85, 86, 87] (by decide +kernel) (by decide +kernel)
set_option maxRecDepth 20000 in
theorem gX12_readsOrders_X12_readsItem : GoodIn wsX12_readsOrders (wsV RX12 216 RX12 yX12_readsItem wsX12_readsItem) := goodIn_app (goodIn_of _ (by decide +kernel)) ggX12_readsOrders_X12_readsItem
set_option maxRecDepth 20000 in
theorem ggX12_readsOrders_X12_takesSign : GoodIn wsX12_readsOrders wsX12_takesSign := goodIn_r _ [42, 1, 24, 25, 26, 8, 27, 2, 28, 19, 20, 21, 22, 23, 47, 48, 49, 50, 51, 52, 53, 54, 55, 56, 57, 58, 59, 60, 61, 62, 63, 64, 65, 66, 67, 68, 69, 70, 71, 72, 73, 74, 75, 76, 77, 78, 79, 80, 81, 82, 83, 84, 85, 86, 87] (by decide +kernel) (by decide +kernel)
set_option maxRecDepth 20000 in
theorem gX12_readsOrders_X12_takesSign : GoodIn wsX12_readsOrders (wsV RX12 210 RX12 yX12_takesSign wsX12_takesSign) := goodIn_app (goodIn_of _ (by decide +kernel)) ggX12_readsOrders_X12_takesSign
theorem dX12_readsOrders_0 : decode cX12_readsOrders 0 = .ok (.aload_n 0, 1) := by decide +kernel
theorem dX12_readsOrders_1 : decode cX12_readsOrders 1 = .ok (.iconst 0, 1) := by decide +kernel
theorem dX12_readsOrders_2 : decode cX12_readsOrders 2 = .ok (.putfield 180, 3) := by decide +kernel
theorem dX12_readsOrders_5 : decode cX12_readsOrders 5 = .ok (.aload_n 0, 1) := by decide +kernel
theorem dX12_readsOrders_6 : decode cX12_readsOrders 6 = .ok (.iload_n 1, 1) := by decide +kernel
theorem dX12_readsOrders_7 : decode cX12_readsOrders 7 = .ok (.putfield 183, 3) := by decide +kernel
theorem dX12_readsOrders_10 : decode cX12_readsOrders 10 = .ok (.aload_n 0, 1) := by decide +kernel
theorem dX12_readsOrders_11 : decode cX12_readsOrders 11 = .ok (.iconst 0, 1) := by decide +kernel
theorem dX12_readsOrders_12 : decode cX12_readsOrders 12 = .ok (.putfield 147, 3) := by decide +kernel
theorem dX12_readsOrders_15 : decode cX12_readsOrders 15 = .ok (.aload_n 0, 1) := by decide +kernel
theorem dX12_readsOrders_16 : decode cX12_readsOrders 16 = .ok (.iconst 0, 1) := by decide +kernel
theorem dX12_readsOrders_17 : decode cX12_readsOrders 17 = .ok (.putfield 204, 3) := by decide +kernel
theorem dX12_readsOrders_20 : decode cX12_readsOrders 20 = .ok (.aload_n 0, 1) := by decide +kernel
theorem dX12_readsOrders_21 : decode cX12_readsOrders 21 = .ok (.invokevirtual 216, 3) := by decide +kernel
theorem dX12_readsOrders_24 : decode cX12_readsOrders 24 = .ok (.istore_n 2, 1) := by decide +kernel
theorem dX12_readsOrders_25 : decode cX12_readsOrders 25 = .ok (.iload_n 2, 1) := by decide +kernel
theorem dX12_readsOrders_26 : decode cX12_readsOrders 26 = .ok (.ifCond .eq 39, 3) := by decide +kernel
theorem dX12_readsOrders_29 : decode cX12_readsOrders 29 = .ok (.aload_n 0, 1) := by decide +kernel
theorem dX12_readsOrders_30 : decode cX12_readsOrders 30 = .ok (.getfield 180, 3) := by decide +kernel
theorem dX12_readsOrders_33 : decode cX12_readsOrders 33 = .ok (.aload_n 0, 1) := by decide +kernel
theorem dX12_readsOrders_34 : decode cX12_readsOrders 34 = .ok (.getfield 183, 3) := by decide +kernel
theorem dX12_readsOrders_37 : decode cX12_readsOrders 37 = .ok (.if_icmp .ge 28, 3) := by decide +kernel
theorem dX12_readsOrders_40 : decode cX12_readsOrders 40 = .ok (.aload_n 0, 1) := by decide +kernel
theorem dX12_readsOrders_41 : decode cX12_readsOrders 41 = .ok (.bipush 59, 2) := by decide +kernel
theorem dX12_readsOrders_43 : decode cX12_readsOrders 43 = .ok (.invokevirtual 210, 3) := by decide +kernel
theorem dX12_readsOrders_46 : decode cX12_readsOrders 46 = .ok (.ifCond .eq 14, 3) := by decide +kernel
theorem dX12_readsOrders_49 : decode cX12_readsOrders 49 = .ok (.aload_n 0, 1) := by decide +kernel
theorem dX12_readsOrders_50 : decode cX12_readsOrders 50 = .ok (.invokevirtual 216, 3) := by decide +kernel
theorem dX12_readsOrders_53 : decode cX12_readsOrders 53 = .ok (.ifCond .eq 7, 3) := by decide +kernel
theorem dX12_readsOrders_56 : decode cX12_readsOrders 56 = .ok (.iconst 1, 1) := by decide +kernel
theorem dX12_readsOrders_57 : decode cX12_readsOrders 57 = .ok (.goto 4, 3) := by decide +kernel
theorem dX12_readsOrders_60 : decode cX12_readsOrders 60 = .ok (.iconst 0, 1) := by decide +kernel
theorem dX12_readsOrders_61 : decode cX12_readsOrders 61 = .ok (.istore_n 2, 1) := by decide +kernel
theorem dX12_readsOrders_62 : decode cX12_readsOrders 62 = .ok (.goto (-37), 3) := by decide +kernel
theorem dX12_readsOrders_65 : decode cX12_readsOrders 65 = .ok (.iload_n 2, 1) := by decide +kernel
theorem dX12_readsOrders_66 : decode cX12_readsOrders 66 = .ok (.ireturn, 1) := by decide +kernel
theorem dX12_handsKey_0 : decode cX12_handsKey 0 = .ok (.aload_n 0, 1) := by decide +kernel
theorem dX12_handsKey_1 : decode cX12_handsKey 1 = .ok (.iload_n 2, 1) := by decide +kernel
theorem dX12_handsKey_2 : decode cX12_handsKey 2 = .ok (.putfield 70, 3) := by decide +kernel
theorem dX12_handsKey_5 : decode cX12_handsKey 5 = .ok (.iconst 0, 1) := by decide +kernel
theorem dX12_handsKey_6 : decode cX12_handsKey 6 = .ok (.istore_n 3, 1) := by decide +kernel
theorem dX12_handsKey_7 : decode cX12_handsKey 7 = .ok (.iload_n 3, 1) := by decide +kernel
theorem dX12_handsKey_8 : decode cX12_handsKey 8 = .ok (.iload_n 2, 1) := by decide +kernel
theorem dX12_handsKey_9 : decode cX12_handsKey 9 = .ok (.if_icmp .ge 27, 3) := by decide +kernel
theorem dX12_handsKey_12 : decode cX12_handsKey 12 = .ok (.aload_n 0, 1) := by decide +kernel
theorem dX12_handsKey_13 : decode cX12_handsKey 13 = .ok (.getfield 13, 3) := by decide +kernel
theorem dX12_handsKey_16 : decode cX12_handsKey 16 = .ok (.iload_n 3, 1) := by decide +kernel
theorem dX12_handsKey_17 : decode cX12_handsKey 17 = .ok (.aload_n 0, 1) := by decide +kernel
theorem dX12_handsKey_18 : decode cX12_handsKey 18 = .ok (.getfield 22, 3) := by decide +kernel
theorem dX12_handsKey_21 : decode cX12_handsKey 21 = .ok (.iload_n 1, 1) := by decide +kernel
theorem dX12_handsKey_22 : decode cX12_handsKey 22 = .ok (.iload_n 3, 1) := by decide +kernel
theorem dX12_handsKey_23 : decode cX12_handsKey 23 = .ok (.iadd, 1) := by decide +kernel
theorem dX12_handsKey_24 : decode cX12_handsKey 24 = .ok (.baload, 1) := by decide +kernel
theorem dX12_handsKey_25 : decode cX12_handsKey 25 = .ok (.sipush 255, 3) := by decide +kernel
theorem dX12_handsKey_28 : decode cX12_handsKey 28 = .ok (.iand, 1) := by decide +kernel
theorem dX12_handsKey_29 : decode cX12_handsKey 29 = .ok (.iastore, 1) := by decide +kernel
theorem dX12_handsKey_30 : decode cX12_handsKey 30 = .ok (.iinc 3 1, 3) := by decide +kernel
theorem dX12_handsKey_33 : decode cX12_handsKey 33 = .ok (.goto (-26), 3) := by decide +kernel
theorem dX12_handsKey_36 : decode cX12_handsKey 36 = .ok (.return_, 1) := by decide +kernel
set_option maxRecDepth 20000 in
theorem ggX12_takesRange_X12_handsKey : GoodIn wsX12_takesRange wsX12_handsKey := goodIn_r _ [9, 10, 11, 12, 106, 107, 108, 109, 110, 111, 112, 113, 114, 115, 116, 117, 118, 119, 120, 121, 122, 123, 124, 125, 126, 127, 128, 129, 130, 131, 132, 133, 134, 135, 136, 137, 138, 139, 140, 141, 142, 143, 144, 145, 146] (by decide +kernel) (by decide +kernel)
set_option maxRecDepth 20000 in
theorem gX12_takesRange_X12_handsKey : GoodIn wsX12_takesRange (wsV RX12 219 RX12 yX12_handsKey wsX12_handsKey) := goodIn_app (goodIn_of _ (by decide +kernel)) ggX12_takesRange_X12_handsKey
set_option maxRecDepth 20000 in
theorem ggX12_takesRange_X12_rankOfHand : GoodIn wsX12_takesRange wsX12_rankOfHand := goodIn_r _ [16, 17, 18, 19, 8, 20, 21, 22, 23, 24, 25, 10, 11, 26, 27, 28, 29, 30, 31, 32, 33, 106, 107, 108, 109, 110, 111, 112, 113, 114, 115, 116, 117, 118, 119, 120, 121, 122, 123, 124, 125, 126, 127, 128, 129, 130, 131, 132, 133, 134, 135, 136, 137, 138, 139, 140, 141, 142, 143, 144, 145, 146] (by decide +kernel) (by decide +kernel)
set_option maxRecDepth 20000 in
theorem gX12_takesRange_X12_rankOfHand : GoodIn wsX12_takesRange (wsV RX12 81 RX12 yX12_rankOfHand wsX12_rankOfHand) := goodIn_app (goodIn_of _ (by decide +kernel)) ggX12_takesRange_X12_rankOfHand
set_option maxRecDepth 20000 in
theorem ggX12_takesRange_X12_isHandThere : GoodIn wsX12_takesRange wsX12_isHandThere := goodIn_r _ [37, 13, 14, 15, 8, 16, 17, 18, 19, 20, 21, 22, 23, 24, 25, 10, 11, 26, 27, 28, 29, 30, 31, 32, 33, 106, 107, 108, 109, 110, 111, 112, 113, 114, 115, 116, 117, 118, 119, 120, 121, 122, 123, 124, 125, 126, 127, 128, 129, 130, 131, 132, 133, 134, 135, 136, 137, 138, 139, 140, 141, 142, 143, 144, 145, 146] (by decide +kernel) (by decide +kernel)
set_option maxRecDepth 20000 in
theorem gX12_takesRange_X12_isHandThere : GoodIn wsX12_takesRange (wsV RX12 167 RX12 yX12_isHandThere wsX12_isHandThere) := goodIn_app (goodIn_of _ (by decide +kernel)) ggX12_takesRange_X12_isHandThere
set_option maxRecDepth 20000 in
theorem ggX12_takesRange_X12_goes : GoodIn wsX12_takesRange wsX12_goes := goodIn_r _ [41, 21, 42, 43, 44, 45, 46, 8, 47, 10, 48, 49, 50, 51, 11, 26, 27, 28, 29, 30, 31, 32, 33, 52, 53, 54, 55, 17, 18, 19, 20, 56, 57, 58, 59, 60, 61, 62, 63, 64, 65, 66, 67, 68, 69, 70, 71, 72, 73, 74, 75, 76, 77, 78, 79, 80, 81, 82, 83, 84, 85, 86, 87, 88, 89, 90, 91, 92, 93, 94, 95, 96, 97, 98, 99, 100, 101, 102, 103, 104, 105, 106, 107, 108, 109, 110, 111, 112, 113, 114, 115, 116, 117, 118, 119, 120, 121, 122, 123, 124, 125, 126, 127, 128, 129, 130, 131, 132, 133, 134, 135, 136, 137, 138, 139, 140, 141, 142, 143, 144, 145, 146] (by decide +kernel) (by decide +kernel)
set_option maxRecDepth 20000 in
theorem gX12_takesRange_X12_goes : GoodIn wsX12_takesRange (wsV RX12 174 RX12 yX12_goes wsX12_goes) := goodIn_app (goodIn_of _ (by decide +kernel)) ggX12_takesRange_X12_goes
theorem dX12_takesRange_0 : decode cX12_takesRange 0 = .ok (.aload_n 0, 1) := by decide +kernel
theorem dX12_takesRange_1 : decode cX12_takesRange 1 = .ok (.aload_n 0, 1) := by decide +kernel
theorem dX12_takesRange_2 : decode cX12_takesRange 2 = .ok (.getfield 32, 3) := by decide +kernel
theorem dX12_takesRange_5 : decode cX12_takesRange 5 = .ok (.iload_n 1, 1) := by decide +kernel
theorem dX12_takesRange_6 : decode cX12_takesRange 6 = .ok (.iaload, 1) := by decide +kernel
theorem dX12_takesRange_7 : decode cX12_takesRange 7 = .ok (.aload_n 0, 1) := by decide +kernel
theorem dX12_takesRange_8 : decode cX12_takesRange 8 = .ok (.getfield 35, 3) := by decide +kernel
theorem dX12_takesRange_11 : decode cX12_takesRange 11 = .ok (.iload_n 1, 1) := by decide +kernel
theorem dX12_takesRange_12 : decode cX12_takesRange 12 = .ok (.iaload, 1) := by decide +kernel
theorem dX12_takesRange_13 : decode cX12_takesRange 13 = .ok (.invokevirtual 219, 3) := by decide +kernel
theorem dX12_takesRange_16 : decode cX12_takesRange 16 = .ok (.aload_n 0, 1) := by decide +kernel
theorem dX12_takesRange_17 : decode cX12_takesRange 17 = .ok (.invokevirtual 81, 3) := by decide +kernel
theorem dX12_takesRange_20 : decode cX12_takesRange 20 = .ok (.istore_n 2, 1) := by decide +kernel
theorem dX12_takesRange_21 : decode cX12_takesRange 21 = .ok (.aload_n 0, 1) := by decide +kernel
theorem dX12_takesRange_22 : decode cX12_takesRange 22 = .ok (.aload_n 0, 1) := by decide +kernel
theorem dX12_takesRange_23 : decode cX12_takesRange 23 = .ok (.getfield 38, 3) := by decide +kernel
theorem dX12_takesRange_26 : decode cX12_takesRange 26 = .ok (.iload_n 1, 1) := by decide +kernel
theorem dX12_takesRange_27 : decode cX12_takesRange 27 = .ok (.iaload, 1) := by decide +kernel
theorem dX12_takesRange_28 : decode cX12_takesRange 28 = .ok (.aload_n 0, 1) := by decide +kernel
theorem dX12_takesRange_29 : decode cX12_takesRange 29 = .ok (.getfield 41, 3) := by decide +kernel
theorem dX12_takesRange_32 : decode cX12_takesRange 32 = .ok (.iload_n 1, 1) := by decide +kernel
theorem dX12_takesRange_33 : decode cX12_takesRange 33 = .ok (.iaload, 1) := by decide +kernel
theorem dX12_takesRange_34 : decode cX12_takesRange 34 = .ok (.invokevirtual 219, 3) := by decide +kernel
theorem dX12_takesRange_37 : decode cX12_takesRange 37 = .ok (.aload_n 0, 1) := by decide +kernel
theorem dX12_takesRange_38 : decode cX12_takesRange 38 = .ok (.invokevirtual 81, 3) := by decide +kernel
theorem dX12_takesRange_41 : decode cX12_takesRange 41 = .ok (.iload_n 2, 1) := by decide +kernel
theorem dX12_takesRange_42 : decode cX12_takesRange 42 = .ok (.isub, 1) := by decide +kernel
theorem dX12_takesRange_43 : decode cX12_takesRange 43 = .ok (.aload_n 0, 1) := by decide +kernel
theorem dX12_takesRange_44 : decode cX12_takesRange 44 = .ok (.invokevirtual 167, 3) := by decide +kernel
theorem dX12_takesRange_47 : decode cX12_takesRange 47 = .ok (.ifCond .eq 7, 3) := by decide +kernel
theorem dX12_takesRange_50 : decode cX12_takesRange 50 = .ok (.iconst 1, 1) := by decide +kernel
theorem dX12_takesRange_51 : decode cX12_takesRange 51 = .ok (.goto 4, 3) := by decide +kernel
theorem dX12_takesRange_54 : decode cX12_takesRange 54 = .ok (.iconst 0, 1) := by decide +kernel
theorem dX12_takesRange_55 : decode cX12_takesRange 55 = .ok (.iadd, 1) := by decide +kernel
theorem dX12_takesRange_56 : decode cX12_takesRange 56 = .ok (.istore_n 3, 1) := by decide +kernel
theorem dX12_takesRange_57 : decode cX12_takesRange 57 = .ok (.iconst 0, 1) := by decide +kernel
theorem dX12_takesRange_58 : decode cX12_takesRange 58 = .ok (.istore 4, 2) := by decide +kernel
theorem dX12_takesRange_60 : decode cX12_takesRange 60 = .ok (.iload 4, 2) := by decide +kernel
theorem dX12_takesRange_62 : decode cX12_takesRange 62 = .ok (.iload_n 3, 1) := by decide +kernel
theorem dX12_takesRange_63 : decode cX12_takesRange 63 = .ok (.if_icmp .ge 14, 3) := by decide +kernel
theorem dX12_takesRange_66 : decode cX12_takesRange 66 = .ok (.aload_n 0, 1) := by decide +kernel
theorem dX12_takesRange_67 : decode cX12_takesRange 67 = .ok (.iload_n 2, 1) := by decide +kernel
theorem dX12_takesRange_68 : decode cX12_takesRange 68 = .ok (.invokevirtual 174, 3) := by decide +kernel
theorem dX12_takesRange_71 : decode cX12_takesRange 71 = .ok (.iinc 4 1, 3) := by decide +kernel
theorem dX12_takesRange_74 : decode cX12_takesRange 74 = .ok (.goto (-14), 3) := by decide +kernel
theorem dX12_takesRange_77 : decode cX12_takesRange 77 = .ok (.iload_n 3, 1) := by decide +kernel
theorem dX12_takesRange_78 : decode cX12_takesRange 78 = .ok (.ifCond .le 7, 3) := by decide +kernel
theorem dX12_takesRange_81 : decode cX12_takesRange 81 = .ok (.iconst 1, 1) := by decide +kernel
theorem dX12_takesRange_82 : decode cX12_takesRange 82 = .ok (.goto 4, 3) := by decide +kernel
theorem dX12_takesRange_85 : decode cX12_takesRange 85 = .ok (.iconst 0, 1) := by decide +kernel
theorem dX12_takesRange_86 : decode cX12_takesRange 86 = .ok (.ireturn, 1) := by decide +kernel
set_option maxRecDepth 20000 in
theorem ggX12_does_X12_takesRange : GoodIn wsX12_does wsX12_takesRange := goodIn_r _ [9, 2, 3, 10, 11, 12, 13, 14, 8, 15, 16, 17, 18, 19, 20, 21, 22, 23, 24, 25, 26, 27, 28, 29, 30, 31, 32, 33, 34, 35, 36, 37, 38, 39, 40, 41, 42, 43, 44, 45, 46, 47, 48, 49, 50, 51, 52, 53, 54, 55, 56, 57, 58, 59, 60, 61, 62, 63, 64, 65, 66, 67, 68, 69, 70, 71, 72, 73, 74, 75, 76, 77, 78, 79, 80, 81, 82, 83, 84, 85, 86, 87, 88, 89, 90, 91, 92, 93, 94, 95, 96, 97, 98, 99, 100, 101, 102, 103, 104, 105, 106, 107, 108, 109, 110, 111, 133, 134, 135, 136, 137, 138, 139, 140, 141, 142, 143, 144, 145, 146, 147, 148, 149, 150, 151, 152, 153, 154, 155, 156, 157, 158, 159, 160, 161, 162, 163, 164, 165, 166, 167, 168, 169, 170, 171, 172, 173] (by decide +kernel) (by decide +kernel)
set_option maxRecDepth 20000 in
theorem gX12_does_X12_takesRange : GoodIn wsX12_does (wsV RX12 222 RX12 yX12_takesRange wsX12_takesRange) := goodIn_app (goodIn_of _ (by decide +kernel)) ggX12_does_X12_takesRange
set_option maxRecDepth 20000 in
theorem ggX12_does_X12_handsKey : GoodIn wsX12_does wsX12_handsKey := goodIn_r _ [15, 16, 17, 18, 133, 134, 135, 136, 137, 138, 139, 140, 141, 142, 143, 144, 145, 146, 147, 148, 149, 150, 151, 152, 153, 154, 155, 156, 157, 158, 159, 160, 161, 162, 163, 164, 165, 166, 167, 168, 169, 170, 171, 172, 173] (by decide +kernel) (by decide +kernel)
set_option maxRecDepth 20000 in
theorem gX12_does_X12_handsKey : GoodIn wsX12_does (wsV RX12 219 RX12 yX12_handsKey wsX12_handsKey) := goodIn_app (goodIn_of _ (by decide +kernel)) ggX12_does_X12_handsKey
set_option maxRecDepth 20000 in
theorem ggX12_does_X12_putsHand : GoodIn wsX12_does wsX12_putsHand := goodIn_r _ [115, 40, 41, 42, 8, 43, 19, 20, 21, 22, 23, 24, 25, 26, 27, 28, 29, 30, 31, 16, 17, 32, 33, 34, 35, 36, 37, 38, 39, 77, 78, 79, 80, 116, 117, 118, 119, 86, 120, 85, 121, 122, 123, 124, 48, 49, 58, 59, 60, 61, 62, 63, 64, 65, 73, 74, 75, 76, 87, 88, 89, 90, 91, 92, 93, 94, 95, 125, 126, 127, 128, 96, 97, 98, 99, 100, 101, 102, 103, 66, 67, 68, 69, 70, 71, 72, 104, 105, 106, 107, 133, 134, 135, 136, 137, 138, 139, 140, 141, 142, 143, 144, 145, 146, 147, 148, 149, 150, 151, 152, 153, 154, 155, 156, 157, 158, 159, 160, 161, 162, 163, 164, 165, 166, 167, 168, 169, 170, 171, 172, 173] (by decide +kernel) (by decide +kernel)
set_option maxRecDepth 20000 in
theorem gX12_does_X12_putsHand : GoodIn wsX12_does (wsV RX12 164 RX12 yX12_putsHand wsX12_putsHand) := goodIn_app (goodIn_of _ (by decide +kernel)) ggX12_does_X12_putsHand
set_option maxRecDepth 20000 in
theorem ggX12_does_X12_takesOut : GoodIn wsX12_does wsX12_takesOut := goodIn_r _ [132, 40, 41, 42, 8, 43, 19, 20, 21, 22, 23, 24, 25, 26, 27, 28, 29, 30, 31, 16, 17, 32, 33, 34, 35, 36, 37, 38, 39, 44, 45, 46, 47, 48, 49, 50, 51, 52, 53, 54, 55, 56, 57, 58, 59, 60, 61, 62, 63, 64, 65, 66, 67, 68, 69, 70, 71, 72, 73, 74, 75, 76, 77, 78, 79, 80, 81, 82, 83, 84, 85, 86, 87, 88, 89, 90, 91, 92, 93, 94, 95, 96, 97, 98, 99, 100, 101, 102, 103, 104, 105, 106, 107, 108, 109, 110, 111, 133, 134, 135, 136, 137, 138, 139, 140, 141, 142, 143, 144, 145, 146, 147, 148, 149, 150, 151, 152, 153, 154, 155, 156, 157, 158, 159, 160, 161, 162, 163, 164, 165, 166, 167, 168, 169, 170, 171, 172, 173] (by decide +kernel) (by decide +kernel)
set_option maxRecDepth 20000 in
theorem gX12_does_X12_takesOut : GoodIn wsX12_does (wsV RX12 177 RX12 yX12_takesOut wsX12_takesOut) := goodIn_app (goodIn_of _ (by decide +kernel)) ggX12_does_X12_takesOut
theorem dX12_does_0 : decode cX12_does 0 = .ok (.aload_n 0, 1) := by decide +kernel
theorem dX12_does_1 : decode cX12_does 1 = .ok (.getfield 26, 3) := by decide +kernel
theorem dX12_does_4 : decode cX12_does 4 = .ok (.iload_n 1, 1) := by decide +kernel
theorem dX12_does_5 : decode cX12_does 5 = .ok (.iaload, 1) := by decide +kernel
theorem dX12_does_6 : decode cX12_does 6 = .ok (.bipush 126, 2) := by decide +kernel
theorem dX12_does_8 : decode cX12_does 8 = .ok (.if_icmp .ne 9, 3) := by decide +kernel
theorem dX12_does_11 : decode cX12_does 11 = .ok (.aload_n 0, 1) := by decide +kernel
theorem dX12_does_12 : decode cX12_does 12 = .ok (.iload_n 1, 1) := by decide +kernel
theorem dX12_does_13 : decode cX12_does 13 = .ok (.invokevirtual 222, 3) := by decide +kernel
theorem dX12_does_16 : decode cX12_does 16 = .ok (.ireturn, 1) := by decide +kernel
theorem dX12_does_17 : decode cX12_does 17 = .ok (.aload_n 0, 1) := by decide +kernel
theorem dX12_does_18 : decode cX12_does 18 = .ok (.aload_n 0, 1) := by decide +kernel
theorem dX12_does_19 : decode cX12_does 19 = .ok (.getfield 32, 3) := by decide +kernel
theorem dX12_does_22 : decode cX12_does 22 = .ok (.iload_n 1, 1) := by decide +kernel
theorem dX12_does_23 : decode cX12_does 23 = .ok (.iaload, 1) := by decide +kernel
theorem dX12_does_24 : decode cX12_does 24 = .ok (.aload_n 0, 1) := by decide +kernel
theorem dX12_does_25 : decode cX12_does 25 = .ok (.getfield 35, 3) := by decide +kernel
theorem dX12_does_28 : decode cX12_does 28 = .ok (.iload_n 1, 1) := by decide +kernel
theorem dX12_does_29 : decode cX12_does 29 = .ok (.iaload, 1) := by decide +kernel
theorem dX12_does_30 : decode cX12_does 30 = .ok (.invokevirtual 219, 3) := by decide +kernel
theorem dX12_does_33 : decode cX12_does 33 = .ok (.aload_n 0, 1) := by decide +kernel
theorem dX12_does_34 : decode cX12_does 34 = .ok (.getfield 26, 3) := by decide +kernel
theorem dX12_does_37 : decode cX12_does 37 = .ok (.iload_n 1, 1) := by decide +kernel
theorem dX12_does_38 : decode cX12_does 38 = .ok (.iaload, 1) := by decide +kernel
theorem dX12_does_39 : decode cX12_does 39 = .ok (.bipush 43, 2) := by decide +kernel
theorem dX12_does_41 : decode cX12_does 41 = .ok (.if_icmp .ne 26, 3) := by decide +kernel
theorem dX12_does_44 : decode cX12_does 44 = .ok (.aload_n 0, 1) := by decide +kernel
theorem dX12_does_45 : decode cX12_does 45 = .ok (.aload_n 0, 1) := by decide +kernel
theorem dX12_does_46 : decode cX12_does 46 = .ok (.getfield 29, 3) := by decide +kernel
theorem dX12_does_49 : decode cX12_does 49 = .ok (.iload_n 1, 1) := by decide +kernel
theorem dX12_does_50 : decode cX12_does 50 = .ok (.iaload, 1) := by decide +kernel
theorem dX12_does_51 : decode cX12_does 51 = .ok (.invokevirtual 164, 3) := by decide +kernel
theorem dX12_does_54 : decode cX12_does 54 = .ok (.bipush (-4), 2) := by decide +kernel
theorem dX12_does_56 : decode cX12_does 56 = .ok (.if_icmp .eq 7, 3) := by decide +kernel
theorem dX12_does_59 : decode cX12_does 59 = .ok (.iconst 1, 1) := by decide +kernel
theorem dX12_does_60 : decode cX12_does 60 = .ok (.goto 21, 3) := by decide +kernel
theorem dX12_does_63 : decode cX12_does 63 = .ok (.iconst 0, 1) := by decide +kernel
theorem dX12_does_64 : decode cX12_does 64 = .ok (.goto 17, 3) := by decide +kernel
theorem dX12_does_67 : decode cX12_does 67 = .ok (.aload_n 0, 1) := by decide +kernel
theorem dX12_does_68 : decode cX12_does 68 = .ok (.invokevirtual 177, 3) := by decide +kernel
theorem dX12_does_71 : decode cX12_does 71 = .ok (.bipush (-3), 2) := by decide +kernel
theorem dX12_does_73 : decode cX12_does 73 = .ok (.if_icmp .eq 7, 3) := by decide +kernel
theorem dX12_does_76 : decode cX12_does 76 = .ok (.iconst 1, 1) := by decide +kernel
theorem dX12_does_77 : decode cX12_does 77 = .ok (.goto 4, 3) := by decide +kernel
theorem dX12_does_80 : decode cX12_does 80 = .ok (.iconst 0, 1) := by decide +kernel
theorem dX12_does_81 : decode cX12_does 81 = .ok (.ireturn, 1) := by decide +kernel
set_option maxRecDepth 20000 in
theorem ggX12_doesAll_X12_does : GoodIn wsX12_doesAll wsX12_does := goodIn_r _ [6, 7, 8, 9, 10, 11, 12, 13, 5, 14, 15, 16, 17, 18, 19, 20, 21, 22, 23, 24, 25, 26, 27, 28, 29, 30, 31, 32, 33, 34, 35, 36, 37, 38, 39, 40, 41, 42, 43, 44, 45, 46, 47, 48, 49, 50, 51, 52, 53, 54, 55, 56, 57, 58, 59, 60, 61, 62, 63, 64, 65, 66, 67, 68, 69, 70, 71, 72, 73, 74, 75, 76, 77, 78, 79, 80, 81, 82, 83, 84, 85, 86, 87, 88, 89, 90, 91, 92, 93, 94, 95, 96, 97, 98, 99, 100, 101, 102, 103, 104, 105, 106, 107, 108, 109, 110, 111, 112, 113, 114, 115, 116, 117, 118, 119, 120, 121, 122, 123, 124, 125, 126, 127, 128, 129, 130, 131, 132, 133, 134, 135, 136, 137, 138, 139, 140, 141, 142, 143, 144, 145, 146, 147, 148, 149, 150, 151, 152, 153, 154, 155, 156, 157, 158, 159, 160, 161, 162, 163, 164, 165, 166, 167, 168, 169, 170, 171, 172, 173, 174, 175, 176, 177, 178] (by decide +kernel) (by decide +kernel)
set_option maxRecDepth 20000 in
theorem gX12_doesAll_X12_does : GoodIn wsX12_doesAll (wsV RX12 225 RX12 yX12_does wsX12_does) := goodIn_app (goodIn_of _ (by decide +kernel)) ggX12_doesAll_X12_does
theorem dX12_doesAll_0 : decode cX12_doesAll 0 = .ok (.iconst 0, 1) := by decide +kernel
theorem dX12_doesAll_1 : decode cX12_doesAll 1 = .ok (.istore_n 1, 1) := by decide +kernel
theorem dX12_doesAll_2 : decode cX12_doesAll 2 = .ok (.iload_n 1, 1) := by decide +kernel
theorem dX12_doesAll_3 : decode cX12_doesAll 3 = .ok (.aload_n 0, 1) := by decide +kernel
theorem dX12_doesAll_4 : decode cX12_doesAll 4 = .ok (.getfield 204, 3) := by decide +kernel
theorem dX12_doesAll_7 : decode cX12_doesAll 7 = .ok (.if_icmp .ge 18, 3) := by decide +kernel
theorem dX12_doesAll_10 : decode cX12_doesAll 10 = .ok (.aload_n 0, 1) := by decide +kernel
theorem dX12_doesAll_11 : decode cX12_doesAll 11 = .ok (.iload_n 1, 1) := by decide +kernel
theorem dX12_doesAll_12 : decode cX12_doesAll 12 = .ok (.invokevirtual 225, 3) := by decide +kernel
theorem dX12_doesAll_15 : decode cX12_doesAll 15 = .ok (.ifCond .eq 10, 3) := by decide +kernel
theorem dX12_doesAll_18 : decode cX12_doesAll 18 = .ok (.iload_n 1, 1) := by decide +kernel
theorem dX12_doesAll_19 : decode cX12_doesAll 19 = .ok (.iconst 1, 1) := by decide +kernel
theorem dX12_doesAll_20 : decode cX12_doesAll 20 = .ok (.iadd, 1) := by decide +kernel
theorem dX12_doesAll_21 : decode cX12_doesAll 21 = .ok (.istore_n 1, 1) := by decide +kernel
theorem dX12_doesAll_22 : decode cX12_doesAll 22 = .ok (.goto (-20), 3) := by decide +kernel
theorem dX12_doesAll_25 : decode cX12_doesAll 25 = .ok (.iload_n 1, 1) := by decide +kernel
theorem dX12_doesAll_26 : decode cX12_doesAll 26 = .ok (.ireturn, 1) := by decide +kernel
set_option maxRecDepth 20000 in
theorem ggX12_isText_X12_in : GoodIn wsX12_isText wsX12_in := goodIn_r _ [5] (by decide +kernel) (by decide +kernel)
set_option maxRecDepth 20000 in
theorem gX12_isText_X12_in : GoodIn wsX12_isText (va_wsS RX12 66 yX12_in wsX12_in) := goodIn_app (goodIn_of _ (by decide +kernel)) ggX12_isText_X12_in
theorem dX12_isText_0 : decode cX12_isText 0 = .ok (.iload_n 1, 1) := by decide +kernel
theorem dX12_isText_1 : decode cX12_isText 1 = .ok (.iload_n 2, 1) := by decide +kernel
theorem dX12_isText_2 : decode cX12_isText 2 = .ok (.iload_n 3, 1) := by decide +kernel
theorem dX12_isText_3 : decode cX12_isText 3 = .ok (.invokestatic 66, 3) := by decide +kernel
theorem dX12_isText_6 : decode cX12_isText 6 = .ok (.ifCond .eq 15, 3) := by decide +kernel
theorem dX12_isText_9 : decode cX12_isText 9 = .ok (.iload_n 1, 1) := by decide +kernel
theorem dX12_isText_10 : decode cX12_isText 10 = .ok (.aload_n 0, 1) := by decide +kernel
theorem dX12_isText_11 : decode cX12_isText 11 = .ok (.getfield 147, 3) := by decide +kernel
theorem dX12_isText_14 : decode cX12_isText 14 = .ok (.if_icmp .gt 7, 3) := by decide +kernel
theorem dX12_isText_17 : decode cX12_isText 17 = .ok (.iconst 1, 1) := by decide +kernel
theorem dX12_isText_18 : decode cX12_isText 18 = .ok (.goto 4, 3) := by decide +kernel
theorem dX12_isText_21 : decode cX12_isText 21 = .ok (.iconst 0, 1) := by decide +kernel
theorem dX12_isText_22 : decode cX12_isText 22 = .ok (.ireturn, 1) := by decide +kernel
set_option maxRecDepth 20000 in
theorem ggX12_orders_X12_isText : GoodIn wsX12_orders wsX12_isText := goodIn_r _ [6, 7, 8, 9, 5, 10, 187, 188, 189, 190, 191, 192, 193, 194, 195, 196, 197, 198, 199, 200, 201, 202, 203, 204, 205, 206, 207, 208, 209, 210, 211, 212, 213, 214, 215, 216, 217, 218, 219, 220, 221, 222, 223, 224, 225, 226, 227] (by decide +kernel) (by decide +kernel)
set_option maxRecDepth 20000 in
theorem gX12_orders_X12_isText : GoodIn wsX12_orders (wsV RX12 228 RX12 yX12_isText wsX12_isText) := goodIn_app (goodIn_of _ (by decide +kernel)) ggX12_orders_X12_isText
set_option maxRecDepth 20000 in
theorem ggX12_orders_X12_readsOrders : GoodIn wsX12_orders wsX12_readsOrders := goodIn_r _ [14, 15, 16, 7, 17, 18, 19, 20, 5, 21, 22, 23, 24, 25, 26, 27, 28, 29, 30, 31, 32, 33, 34, 1, 35, 36, 37, 38, 39, 40, 41, 42, 43, 44, 45, 46, 8, 9, 10, 47, 48, 49, 50, 51, 52, 53, 54, 187, 188, 189, 190, 191, 192, 193, 194, 195, 196, 197, 198, 199, 200, 201, 202, 203, 204, 205, 206, 207, 208, 209, 210, 211, 212, 213, 214, 215, 216, 217, 218, 219, 220, 221, 222, 223, 224, 225, 226, 227] (by decide +kernel) (by decide +kernel)
set_option maxRecDepth 20000 in
theorem gX12_orders_X12_readsOrders : GoodIn wsX12_orders (wsV RX12 231 RX12 yX12_readsOrders wsX12_readsOrders) := goodIn_app (goodIn_of _ (by decide +kernel)) ggX12_orders_X12_readsOrders
set_option maxRecDepth 20000 in
theorem ggX12_orders_X12_doesAll : GoodIn wsX12_orders wsX12_doesAll := goodIn_r _ [58, 17, 59, 60, 61, 5, 62, 22, 23, 25, 27, 63, 64, 65, 66, 29, 30, 67, 68, 69, 70, 71, 72, 39, 73, 74, 75, 76, 77, 78, 79, 80, 81, 82, 83, 84, 85, 86, 87, 88, 89, 90, 91, 92, 93, 94, 95, 96, 97, 98, 99, 100, 101, 102, 103, 104, 105, 106, 107, 108, 109, 110, 111, 112, 113, 114, 115, 116, 117, 118, 119, 120, 121, 122, 123, 124, 125, 126, 127, 128, 129, 130, 131, 132, 133, 134, 135, 136, 137, 138, 139, 140, 141, 142, 143, 144, 145, 146, 147, 148, 149, 150, 151, 152, 153, 154, 155, 156, 157, 158, 159, 160, 161, 162, 163, 164, 165, 166, 167, 168, 169, 170, 171, 172, 173, 174, 175, 176, 177, 178, 179, 180, 181, 182, 183, 184, 185, 186, 187, 188, 189, 190, 191, 192, 193, 194, 195, 196, 197, 198, 199, 200, 201, 202, 203, 204, 205, 206, 207, 208, 209, 210, 211, 212, 213, 214, 215, 216, 217, 218, 219, 220, 221, 222, 223, 224, 225, 226, 227] (by decide +kernel) (by decide +kernel)
set_option maxRecDepth 20000 in
theorem gX12_orders_X12_doesAll : GoodIn wsX12_orders (wsV RX12 234 RX12 yX12_doesAll wsX12_doesAll) := goodIn_app (goodIn_of _ (by decide +kernel)) ggX12_orders_X12_doesAll
theorem dX12_orders_0 : decode cX12_orders 0 = .ok (.aload_n 0, 1) := by decide +kernel
theorem dX12_orders_1 : decode cX12_orders 1 = .ok (.iload_n 1, 1) := by decide +kernel
theorem dX12_orders_2 : decode cX12_orders 2 = .ok (.iconst 1, 1) := by decide +kernel
theorem dX12_orders_3 : decode cX12_orders 3 = .ok (.sipush 200, 3) := by decide +kernel
theorem dX12_orders_6 : decode cX12_orders 6 = .ok (.invokevirtual 228, 3) := by decide +kernel
theorem dX12_orders_9 : decode cX12_orders 9 = .ok (.ifCond .ne 5, 3) := by decide +kernel
theorem dX12_orders_12 : decode cX12_orders 12 = .ok (.iconst (-1), 1) := by decide +kernel
theorem dX12_orders_13 : decode cX12_orders 13 = .ok (.ireturn, 1) := by decide +kernel
theorem dX12_orders_14 : decode cX12_orders 14 = .ok (.aload_n 0, 1) := by decide +kernel
theorem dX12_orders_15 : decode cX12_orders 15 = .ok (.iload_n 1, 1) := by decide +kernel
theorem dX12_orders_16 : decode cX12_orders 16 = .ok (.invokevirtual 231, 3) := by decide +kernel
theorem dX12_orders_19 : decode cX12_orders 19 = .ok (.ifCond .eq 10, 3) := by decide +kernel
theorem dX12_orders_22 : decode cX12_orders 22 = .ok (.aload_n 0, 1) := by decide +kernel
theorem dX12_orders_23 : decode cX12_orders 23 = .ok (.invokevirtual 234, 3) := by decide +kernel
theorem dX12_orders_26 : decode cX12_orders 26 = .ok (.goto 7, 3) := by decide +kernel
theorem dX12_orders_29 : decode cX12_orders 29 = .ok (.aload_n 0, 1) := by decide +kernel
theorem dX12_orders_30 : decode cX12_orders 30 = .ok (.getfield 186, 3) := by decide +kernel
theorem dX12_orders_33 : decode cX12_orders 33 = .ok (.ireturn, 1) := by decide +kernel
set_option maxRecDepth 20000 in
theorem ggX12_batch_X12_isText : GoodIn wsX12_batch wsX12_isText := goodIn_r _ [7, 8, 9, 10, 6, 11, 191, 192, 193, 194, 195, 196, 197, 198, 199, 200, 201, 202, 203, 204, 205, 206, 207, 208, 209, 210, 211, 212, 213, 214, 215, 216, 217, 218, 219, 220, 221, 222, 223, 224, 225, 226, 227, 228, 229, 230, 231] (by decide +kernel) (by decide +kernel)
set_option maxRecDepth 20000 in
theorem gX12_batch_X12_isText : GoodIn wsX12_batch (wsV RX12 228 RX12 yX12_isText wsX12_isText) := goodIn_app (goodIn_of _ (by decide +kernel)) ggX12_batch_X12_isText
set_option maxRecDepth 20000 in
theorem ggX12_batch_X12_readsOrders : GoodIn wsX12_batch wsX12_readsOrders := goodIn_r _ [15, 16, 17, 8, 2, 18, 19, 20, 6, 21, 22, 23, 24, 25, 26, 27, 28, 29, 30, 31, 32, 33, 34, 1, 35, 36, 37, 38, 39, 40, 41, 42, 43, 44, 45, 46, 9, 10, 11, 47, 48, 49, 50, 51, 52, 53, 54, 191, 192, 193, 194, 195, 196, 197, 198, 199, 200, 201, 202, 203, 204, 205, 206, 207, 208, 209, 210, 211, 212, 213, 214, 215, 216, 217, 218, 219, 220, 221, 222, 223, 224, 225, 226, 227, 228, 229, 230, 231] (by decide +kernel) (by decide +kernel)
set_option maxRecDepth 20000 in
theorem gX12_batch_X12_readsOrders : GoodIn wsX12_batch (wsV RX12 231 RX12 yX12_readsOrders wsX12_readsOrders) := goodIn_app (goodIn_of _ (by decide +kernel)) ggX12_batch_X12_readsOrders
set_option maxRecDepth 20000 in
theorem ggX12_batch_X12_copies : GoodIn wsX12_batch wsX12_copies := goodIn_r _ [58, 59, 191, 192, 193, 194, 195, 196, 197, 198, 199, 200, 201, 202, 203, 204, 205, 206, 207, 208, 209, 210, 211, 212, 213, 214, 215, 216, 217, 218, 219, 220, 221, 222, 223, 224, 225, 226, 227, 228, 229, 230, 231] (by decide +kernel) (by decide +kernel)
set_option maxRecDepth 20000 in
theorem gX12_batch_X12_copies : GoodIn wsX12_batch (wsV RX12 237 RX12 yX12_copies wsX12_copies) := goodIn_app (goodIn_of _ (by decide +kernel)) ggX12_batch_X12_copies
set_option maxRecDepth 20000 in
theorem ggX12_batch_X12_doesAll : GoodIn wsX12_batch wsX12_doesAll := goodIn_r _ [63, 2, 64, 65, 66, 6, 67, 22, 23, 25, 27, 68, 69, 70, 71, 29, 30, 72, 73, 74, 75, 76, 77, 39, 78, 79, 80, 81, 82, 83, 84, 85, 59, 86, 87, 88, 89, 90, 91, 92, 93, 94, 95, 96, 97, 98, 99, 100, 101, 102, 103, 104, 105, 106, 107, 108, 109, 110, 111, 112, 113, 114, 115, 116, 117, 118, 119, 120, 121, 122, 123, 124, 125, 126, 127, 128, 129, 130, 131, 132, 133, 134, 135, 136, 137, 138, 139, 140, 141, 142, 143, 144, 145, 146, 147, 148, 149, 150, 151, 152, 153, 154, 155, 156, 157, 158, 159, 160, 161, 162, 163, 164, 165, 166, 167, 168, 169, 170, 171, 172, 173, 174, 175, 176, 177, 178, 179, 180, 181, 182, 183, 184, 185, 186, 187, 188, 189, 190, 191, 192, 193, 194, 195, 196, 197, 198, 199, 200, 201, 202, 203, 204, 205, 206, 207, 208, 209, 210, 211, 212, 213, 214, 215, 216, 217, 218, 219, 220, 221, 222, 223, 224, 225, 226, 227, 228, 229, 230, 231] (by decide +kernel) (by decide +kernel)
set_option maxRecDepth 20000 in
theorem gX12_batch_X12_doesAll : GoodIn wsX12_batch (wsV RX12 234 RX12 yX12_doesAll wsX12_doesAll) := goodIn_app (goodIn_of _ (by decide +kernel)) ggX12_batch_X12_doesAll
theorem dX12_batch_0 : decode cX12_batch 0 = .ok (.aload_n 0, 1) := by decide +kernel
theorem dX12_batch_1 : decode cX12_batch 1 = .ok (.iload_n 1, 1) := by decide +kernel
theorem dX12_batch_2 : decode cX12_batch 2 = .ok (.iconst 1, 1) := by decide +kernel
theorem dX12_batch_3 : decode cX12_batch 3 = .ok (.sipush 200, 3) := by decide +kernel
theorem dX12_batch_6 : decode cX12_batch 6 = .ok (.invokevirtual 228, 3) := by decide +kernel
theorem dX12_batch_9 : decode cX12_batch 9 = .ok (.ifCond .ne 5, 3) := by decide +kernel
theorem dX12_batch_12 : decode cX12_batch 12 = .ok (.iconst (-1), 1) := by decide +kernel
theorem dX12_batch_13 : decode cX12_batch 13 = .ok (.ireturn, 1) := by decide +kernel
theorem dX12_batch_14 : decode cX12_batch 14 = .ok (.aload_n 0, 1) := by decide +kernel
theorem dX12_batch_15 : decode cX12_batch 15 = .ok (.iload_n 1, 1) := by decide +kernel
theorem dX12_batch_16 : decode cX12_batch 16 = .ok (.invokevirtual 231, 3) := by decide +kernel
theorem dX12_batch_19 : decode cX12_batch 19 = .ok (.ifCond .ne 8, 3) := by decide +kernel
theorem dX12_batch_22 : decode cX12_batch 22 = .ok (.aload_n 0, 1) := by decide +kernel
theorem dX12_batch_23 : decode cX12_batch 23 = .ok (.getfield 186, 3) := by decide +kernel
theorem dX12_batch_26 : decode cX12_batch 26 = .ok (.ireturn, 1) := by decide +kernel
theorem dX12_batch_27 : decode cX12_batch 27 = .ok (.aload_n 0, 1) := by decide +kernel
theorem dX12_batch_28 : decode cX12_batch 28 = .ok (.iconst 0, 1) := by decide +kernel
theorem dX12_batch_29 : decode cX12_batch 29 = .ok (.iconst 3, 1) := by decide +kernel
theorem dX12_batch_30 : decode cX12_batch 30 = .ok (.invokevirtual 237, 3) := by decide +kernel
theorem dX12_batch_33 : decode cX12_batch 33 = .ok (.aload_n 0, 1) := by decide +kernel
theorem dX12_batch_34 : decode cX12_batch 34 = .ok (.invokevirtual 234, 3) := by decide +kernel
theorem dX12_batch_37 : decode cX12_batch 37 = .ok (.istore_n 2, 1) := by decide +kernel
theorem dX12_batch_38 : decode cX12_batch 38 = .ok (.iload_n 2, 1) := by decide +kernel
theorem dX12_batch_39 : decode cX12_batch 39 = .ok (.aload_n 0, 1) := by decide +kernel
theorem dX12_batch_40 : decode cX12_batch 40 = .ok (.getfield 204, 3) := by decide +kernel
theorem dX12_batch_43 : decode cX12_batch 43 = .ok (.if_icmp .ne 8, 3) := by decide +kernel
theorem dX12_batch_46 : decode cX12_batch 46 = .ok (.aload_n 0, 1) := by decide +kernel
theorem dX12_batch_47 : decode cX12_batch 47 = .ok (.getfield 204, 3) := by decide +kernel
theorem dX12_batch_50 : decode cX12_batch 50 = .ok (.ireturn, 1) := by decide +kernel
theorem dX12_batch_51 : decode cX12_batch 51 = .ok (.aload_n 0, 1) := by decide +kernel
theorem dX12_batch_52 : decode cX12_batch 52 = .ok (.iconst 3, 1) := by decide +kernel
theorem dX12_batch_53 : decode cX12_batch 53 = .ok (.iconst 0, 1) := by decide +kernel
theorem dX12_batch_54 : decode cX12_batch 54 = .ok (.invokevirtual 237, 3) := by decide +kernel
theorem dX12_batch_57 : decode cX12_batch 57 = .ok (.bipush (-3), 2) := by decide +kernel
theorem dX12_batch_59 : decode cX12_batch 59 = .ok (.iload_n 2, 1) := by decide +kernel
theorem dX12_batch_60 : decode cX12_batch 60 = .ok (.isub, 1) := by decide +kernel
theorem dX12_batch_61 : decode cX12_batch 61 = .ok (.ireturn, 1) := by decide +kernel
set_option maxRecDepth 20000 in
theorem ggX12_beginsLayer_X12_takesHand : GoodIn wsX12_beginsLayer wsX12_takesHand := goodIn_r _ [8, 9, 10, 11, 12, 13, 7, 14, 1, 15, 16, 17, 18, 31, 32, 33, 34, 35, 36, 37, 38, 39, 40, 41, 42, 43, 44, 45, 46, 47, 48, 49, 50, 51, 52, 53, 54, 55, 56, 57, 58, 59, 60, 61, 62, 63, 64, 65, 66, 67, 68, 69, 70, 71] (by decide +kernel) (by decide +kernel)
set_option maxRecDepth 20000 in
theorem gX12_beginsLayer_X12_takesHand : GoodIn wsX12_beginsLayer (wsV RX12 106 RX12 yX12_takesHand wsX12_takesHand) := goodIn_app (goodIn_of _ (by decide +kernel)) ggX12_beginsLayer_X12_takesHand
set_option maxRecDepth 20000 in
theorem ggX12_beginsLayer_X12_findsRange : GoodIn wsX12_beginsLayer wsX12_findsRange := goodIn_r _ [22, 2, 3, 23, 24, 25, 7, 26, 1, 27, 28, 29, 30, 9, 10, 11, 12, 13, 14, 15, 16, 17, 18, 31, 32, 33, 34, 35, 36, 37, 38, 39, 40, 41, 42, 43, 44, 45, 46, 47, 48, 49, 50, 51, 52, 53, 54, 55, 56, 57, 58, 59, 60, 61, 62, 63, 64, 65, 66, 67, 68, 69, 70, 71] (by decide +kernel) (by decide +kernel)
set_option maxRecDepth 20000 in
theorem gX12_beginsLayer_X12_findsRange : GoodIn wsX12_beginsLayer (wsV RX12 93 RX12 yX12_findsRange wsX12_findsRange) := goodIn_app (goodIn_of _ (by decide +kernel)) ggX12_beginsLayer_X12_findsRange
theorem dX12_beginsLayer_0 : decode cX12_beginsLayer 0 = .ok (.aload_n 0, 1) := by decide +kernel
theorem dX12_beginsLayer_1 : decode cX12_beginsLayer 1 = .ok (.iload_n 1, 1) := by decide +kernel
theorem dX12_beginsLayer_2 : decode cX12_beginsLayer 2 = .ok (.invokevirtual 106, 3) := by decide +kernel
