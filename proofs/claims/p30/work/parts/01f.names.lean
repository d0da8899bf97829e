theorem dX12_comes_85 : decode cX12_comes 85 = .ok (.aload_n 0, 1) := by decide +kernel
theorem dX12_comes_86 : decode cX12_comes 86 = .ok (.iload_n 3, 1) := by decide +kernel
theorem dX12_comes_87 : decode cX12_comes 87 = .ok (.invokevirtual 126, 3) := by decide +kernel
theorem dX12_comes_90 : decode cX12_comes 90 = .ok (.istore 4, 2) := by decide +kernel
theorem dX12_comes_92 : decode cX12_comes 92 = .ok (.aload_n 0, 1) := by decide +kernel
theorem dX12_comes_93 : decode cX12_comes 93 = .ok (.iload 4, 2) := by decide +kernel
theorem dX12_comes_95 : decode cX12_comes 95 = .ok (.iload_n 2, 1) := by decide +kernel
theorem dX12_comes_96 : decode cX12_comes 96 = .ok (.invokevirtual 129, 3) := by decide +kernel
theorem dX12_comes_99 : decode cX12_comes 99 = .ok (.istore 5, 2) := by decide +kernel
theorem dX12_comes_101 : decode cX12_comes 101 = .ok (.aload_n 0, 1) := by decide +kernel
theorem dX12_comes_102 : decode cX12_comes 102 = .ok (.iload 4, 2) := by decide +kernel
theorem dX12_comes_104 : decode cX12_comes 104 = .ok (.iload_n 2, 1) := by decide +kernel
theorem dX12_comes_105 : decode cX12_comes 105 = .ok (.invokevirtual 132, 3) := by decide +kernel
theorem dX12_comes_108 : decode cX12_comes 108 = .ok (.iload 5, 2) := by decide +kernel
theorem dX12_comes_110 : decode cX12_comes 110 = .ok (.isub, 1) := by decide +kernel
theorem dX12_comes_111 : decode cX12_comes 111 = .ok (.istore 6, 2) := by decide +kernel
theorem dX12_comes_113 : decode cX12_comes 113 = .ok (.iload 6, 2) := by decide +kernel
theorem dX12_comes_115 : decode cX12_comes 115 = .ok (.aload_n 0, 1) := by decide +kernel
theorem dX12_comes_116 : decode cX12_comes 116 = .ok (.getfield 7, 3) := by decide +kernel
theorem dX12_comes_119 : decode cX12_comes 119 = .ok (.iconst 2, 1) := by decide +kernel
theorem dX12_comes_120 : decode cX12_comes 120 = .ok (.iaload, 1) := by decide +kernel
theorem dX12_comes_121 : decode cX12_comes 121 = .ok (.if_icmp .gt 4, 3) := by decide +kernel
theorem dX12_comes_124 : decode cX12_comes 124 = .ok (.return_, 1) := by decide +kernel
theorem dX12_comes_125 : decode cX12_comes 125 = .ok (.aload_n 0, 1) := by decide +kernel
theorem dX12_comes_126 : decode cX12_comes 126 = .ok (.aload_n 0, 1) := by decide +kernel
theorem dX12_comes_127 : decode cX12_comes 127 = .ok (.getfield 16, 3) := by decide +kernel
theorem dX12_comes_130 : decode cX12_comes 130 = .ok (.iload 5, 2) := by decide +kernel
theorem dX12_comes_132 : decode cX12_comes 132 = .ok (.iload 6, 2) := by decide +kernel
theorem dX12_comes_134 : decode cX12_comes 134 = .ok (.iconst 2, 1) := by decide +kernel
theorem dX12_comes_135 : decode cX12_comes 135 = .ok (.idiv, 1) := by decide +kernel
theorem dX12_comes_136 : decode cX12_comes 136 = .ok (.iadd, 1) := by decide +kernel
theorem dX12_comes_137 : decode cX12_comes 137 = .ok (.iaload, 1) := by decide +kernel
theorem dX12_comes_138 : decode cX12_comes 138 = .ok (.iload_n 2, 1) := by decide +kernel
theorem dX12_comes_139 : decode cX12_comes 139 = .ok (.iconst 1, 1) := by decide +kernel
theorem dX12_comes_140 : decode cX12_comes 140 = .ok (.invokevirtual 112, 3) := by decide +kernel
theorem dX12_comes_143 : decode cX12_comes 143 = .ok (.aload_n 0, 1) := by decide +kernel
theorem dX12_comes_144 : decode cX12_comes 144 = .ok (.getfield 7, 3) := by decide +kernel
theorem dX12_comes_147 : decode cX12_comes 147 = .ok (.iconst 3, 1) := by decide +kernel
theorem dX12_comes_148 : decode cX12_comes 148 = .ok (.aload_n 0, 1) := by decide +kernel
theorem dX12_comes_149 : decode cX12_comes 149 = .ok (.getfield 7, 3) := by decide +kernel
theorem dX12_comes_152 : decode cX12_comes 152 = .ok (.iconst 3, 1) := by decide +kernel
theorem dX12_comes_153 : decode cX12_comes 153 = .ok (.iaload, 1) := by decide +kernel
theorem dX12_comes_154 : decode cX12_comes 154 = .ok (.iconst 1, 1) := by decide +kernel
theorem dX12_comes_155 : decode cX12_comes 155 = .ok (.iadd, 1) := by decide +kernel
theorem dX12_comes_156 : decode cX12_comes 156 = .ok (.iastore, 1) := by decide +kernel
theorem dX12_comes_157 : decode cX12_comes 157 = .ok (.return_, 1) := by decide +kernel
set_option maxRecDepth 20000 in
theorem ggX12_dropsRow_X12_many : GoodIn wsX12_dropsRow wsX12_many := goodIn_r _ [6, 1, 15, 16, 17, 18, 19, 20, 21, 22, 23, 24, 25, 26, 27, 28, 29, 30, 31, 32, 33, 34, 35, 36, 37, 38, 39, 40, 41, 42, 43, 44, 45, 46, 47, 48, 49, 50, 51, 52, 53, 54, 55] rfl (by decide +kernel)
set_option maxRecDepth 20000 in
theorem gX12_dropsRow_X12_many : GoodIn wsX12_dropsRow (wsV RX12 62 RX12 yX12_many wsX12_many) := goodIn_app (goodIn_r _ [2, 3, 4, 5] rfl (by decide +kernel)) ggX12_dropsRow_X12_many
set_option maxRecDepth 20000 in
theorem ggX12_dropsRow_X12_of : GoodIn wsX12_dropsRow wsX12_of := goodIn_r _ [10, 1, 15, 16, 17, 18, 19, 20, 21, 22, 23, 24, 25, 26, 27, 28, 29, 30, 31, 32, 33, 34, 35, 36, 37, 38, 39, 40, 41, 42, 43, 44, 45, 46, 47, 48, 49, 50, 51, 52, 53, 54, 55] rfl (by decide +kernel)
set_option maxRecDepth 20000 in
theorem gX12_dropsRow_X12_of : GoodIn wsX12_dropsRow (wsV RX12 50 RX12 yX12_of wsX12_of) := goodIn_app (goodIn_r _ [7, 8, 9, 5] rfl (by decide +kernel)) ggX12_dropsRow_X12_of
set_option maxRecDepth 20000 in
theorem ggX12_dropsRow_X12_sets : GoodIn wsX12_dropsRow wsX12_sets := goodIn_r _ [14, 1, 15, 16, 17, 18, 19, 20, 21, 22, 23, 24, 25, 26, 27, 28, 29, 30, 31, 32, 33, 34, 35, 36, 37, 38, 39, 40, 41, 42, 43, 44, 45, 46, 47, 48, 49, 50, 51, 52, 53, 54, 55] rfl (by decide +kernel)
set_option maxRecDepth 20000 in
theorem gX12_dropsRow_X12_sets : GoodIn wsX12_dropsRow (wsV RX12 58 RX12 yX12_sets wsX12_sets) := goodIn_app (goodIn_r _ [11, 12, 13, 5] rfl (by decide +kernel)) ggX12_dropsRow_X12_sets
theorem dX12_dropsRow_0 : decode cX12_dropsRow 0 = .ok (.aload_n 0, 1) := by decide +kernel
theorem dX12_dropsRow_1 : decode cX12_dropsRow 1 = .ok (.getfield 7, 3) := by decide +kernel
theorem dX12_dropsRow_4 : decode cX12_dropsRow 4 = .ok (.iconst 0, 1) := by decide +kernel
theorem dX12_dropsRow_5 : decode cX12_dropsRow 5 = .ok (.aload_n 0, 1) := by decide +kernel
theorem dX12_dropsRow_6 : decode cX12_dropsRow 6 = .ok (.invokevirtual 62, 3) := by decide +kernel
theorem dX12_dropsRow_9 : decode cX12_dropsRow 9 = .ok (.iconst 1, 1) := by decide +kernel
theorem dX12_dropsRow_10 : decode cX12_dropsRow 10 = .ok (.isub, 1) := by decide +kernel
theorem dX12_dropsRow_11 : decode cX12_dropsRow 11 = .ok (.iastore, 1) := by decide +kernel
theorem dX12_dropsRow_12 : decode cX12_dropsRow 12 = .ok (.iload_n 1, 1) := by decide +kernel
theorem dX12_dropsRow_13 : decode cX12_dropsRow 13 = .ok (.istore_n 2, 1) := by decide +kernel
theorem dX12_dropsRow_14 : decode cX12_dropsRow 14 = .ok (.iload_n 2, 1) := by decide +kernel
theorem dX12_dropsRow_15 : decode cX12_dropsRow 15 = .ok (.aload_n 0, 1) := by decide +kernel
theorem dX12_dropsRow_16 : decode cX12_dropsRow 16 = .ok (.invokevirtual 62, 3) := by decide +kernel
theorem dX12_dropsRow_19 : decode cX12_dropsRow 19 = .ok (.if_icmp .ge 37, 3) := by decide +kernel
theorem dX12_dropsRow_22 : decode cX12_dropsRow 22 = .ok (.iconst 0, 1) := by decide +kernel
theorem dX12_dropsRow_23 : decode cX12_dropsRow 23 = .ok (.istore_n 3, 1) := by decide +kernel
theorem dX12_dropsRow_24 : decode cX12_dropsRow 24 = .ok (.iload_n 3, 1) := by decide +kernel
theorem dX12_dropsRow_25 : decode cX12_dropsRow 25 = .ok (.bipush 27, 2) := by decide +kernel
theorem dX12_dropsRow_27 : decode cX12_dropsRow 27 = .ok (.if_icmp .ge 23, 3) := by decide +kernel
theorem dX12_dropsRow_30 : decode cX12_dropsRow 30 = .ok (.aload_n 0, 1) := by decide +kernel
theorem dX12_dropsRow_31 : decode cX12_dropsRow 31 = .ok (.iload_n 2, 1) := by decide +kernel
theorem dX12_dropsRow_32 : decode cX12_dropsRow 32 = .ok (.iload_n 3, 1) := by decide +kernel
theorem dX12_dropsRow_33 : decode cX12_dropsRow 33 = .ok (.aload_n 0, 1) := by decide +kernel
theorem dX12_dropsRow_34 : decode cX12_dropsRow 34 = .ok (.iload_n 2, 1) := by decide +kernel
theorem dX12_dropsRow_35 : decode cX12_dropsRow 35 = .ok (.iconst 1, 1) := by decide +kernel
theorem dX12_dropsRow_36 : decode cX12_dropsRow 36 = .ok (.iadd, 1) := by decide +kernel
theorem dX12_dropsRow_37 : decode cX12_dropsRow 37 = .ok (.iload_n 3, 1) := by decide +kernel
theorem dX12_dropsRow_38 : decode cX12_dropsRow 38 = .ok (.invokevirtual 50, 3) := by decide +kernel
theorem dX12_dropsRow_41 : decode cX12_dropsRow 41 = .ok (.invokevirtual 58, 3) := by decide +kernel
theorem dX12_dropsRow_44 : decode cX12_dropsRow 44 = .ok (.iinc 3 1, 3) := by decide +kernel
theorem dX12_dropsRow_47 : decode cX12_dropsRow 47 = .ok (.goto (-23), 3) := by decide +kernel
theorem dX12_dropsRow_50 : decode cX12_dropsRow 50 = .ok (.iinc 2 1, 3) := by decide +kernel
theorem dX12_dropsRow_53 : decode cX12_dropsRow 53 = .ok (.goto (-39), 3) := by decide +kernel
theorem dX12_dropsRow_56 : decode cX12_dropsRow 56 = .ok (.return_, 1) := by decide +kernel
set_option maxRecDepth 20000 in
theorem ggX12_leavesPage_X12_findsEntries : GoodIn wsX12_leavesPage wsX12_findsEntries := goodIn_r _ [8, 2, 3, 9, 10, 11, 1, 12, 13, 14, 7, 15, 16, 17, 18, 19, 20, 21, 22, 23, 24, 25, 26, 27, 28, 29, 30, 31, 32, 33, 34, 35, 36, 37, 65, 66, 67, 68, 69, 70, 71, 72, 73, 74, 75, 76, 77, 78, 79, 80, 81, 82, 83, 84, 85, 86, 87, 88, 89, 90, 91, 92, 93, 94, 95, 96, 97, 98, 99, 100, 101, 102, 103, 104, 105] rfl (by decide +kernel)
set_option maxRecDepth 20000 in
theorem gX12_leavesPage_X12_findsEntries : GoodIn wsX12_leavesPage (wsV RX12 119 RX12 yX12_findsEntries wsX12_findsEntries) := goodIn_app (goodIn_r _ [4, 5, 6, 7] rfl (by decide +kernel)) ggX12_leavesPage_X12_findsEntries
set_option maxRecDepth 20000 in
theorem ggX12_leavesPage_X12_entryOf : GoodIn wsX12_leavesPage wsX12_entryOf := goodIn_r _ [41, 1, 65, 66, 67, 68, 69, 70, 71, 72, 73, 74, 75, 76, 77, 78, 79, 80, 81, 82, 83, 84, 85, 86, 87, 88, 89, 90, 91, 92, 93, 94, 95, 96, 97, 98, 99, 100, 101, 102, 103, 104, 105] rfl (by decide +kernel)
set_option maxRecDepth 20000 in
theorem gX12_leavesPage_X12_entryOf : GoodIn wsX12_leavesPage (wsV RX12 126 RX12 yX12_entryOf wsX12_entryOf) := goodIn_app (goodIn_r _ [38, 39, 40, 7] rfl (by decide +kernel)) ggX12_leavesPage_X12_entryOf
set_option maxRecDepth 20000 in
theorem ggX12_leavesPage_X12_pageBegin : GoodIn wsX12_leavesPage wsX12_pageBegin := goodIn_r _ [45, 1, 46, 47, 48, 7, 49, 26, 27, 28, 29, 2, 50, 51, 52, 65, 66, 67, 68, 69, 70, 71, 72, 73, 74, 75, 76, 77, 78, 79, 80, 81, 82, 83, 84, 85, 86, 87, 88, 89, 90, 91, 92, 93, 94, 95, 96, 97, 98, 99, 100, 101, 102, 103, 104, 105] rfl (by decide +kernel)
set_option maxRecDepth 20000 in
theorem gX12_leavesPage_X12_pageBegin : GoodIn wsX12_leavesPage (wsV RX12 129 RX12 yX12_pageBegin wsX12_pageBegin) := goodIn_app (goodIn_r _ [42, 43, 44, 7] rfl (by decide +kernel)) ggX12_leavesPage_X12_pageBegin
set_option maxRecDepth 20000 in
theorem ggX12_leavesPage_X12_pageEnd : GoodIn wsX12_leavesPage wsX12_pageEnd := goodIn_r _ [56, 3, 1, 46, 47, 48, 7, 49, 26, 27, 28, 29, 2, 50, 51, 52, 65, 66, 67, 68, 69, 70, 71, 72, 73, 74, 75, 76, 77, 78, 79, 80, 81, 82, 83, 84, 85, 86, 87, 88, 89, 90, 91, 92, 93, 94, 95, 96, 97, 98, 99, 100, 101, 102, 103, 104, 105] rfl (by decide +kernel)
set_option maxRecDepth 20000 in
theorem gX12_leavesPage_X12_pageEnd : GoodIn wsX12_leavesPage (wsV RX12 132 RX12 yX12_pageEnd wsX12_pageEnd) := goodIn_app (goodIn_r _ [53, 54, 55, 7] rfl (by decide +kernel)) ggX12_leavesPage_X12_pageEnd
set_option maxRecDepth 20000 in
theorem ggX12_leavesPage_X12_marks : GoodIn wsX12_leavesPage wsX12_marks := goodIn_r _ [60, 26, 27, 28, 7, 29, 2, 61, 62, 63, 64, 65, 66, 67, 68, 69, 70, 71, 72, 73, 74, 75, 76, 77, 78, 79, 80, 81, 82, 83, 84, 85, 86, 87, 88, 89, 90, 91, 92, 93, 94, 95, 96, 97, 98, 99, 100, 101, 102, 103, 104, 105] rfl (by decide +kernel)
set_option maxRecDepth 20000 in
theorem gX12_leavesPage_X12_marks : GoodIn wsX12_leavesPage (wsV RX12 112 RX12 yX12_marks wsX12_marks) := goodIn_app (goodIn_r _ [57, 58, 59, 7] rfl (by decide +kernel)) ggX12_leavesPage_X12_marks
theorem dX12_leavesPage_0 : decode cX12_leavesPage 0 = .ok (.aload_n 0, 1) := by decide +kernel
theorem dX12_leavesPage_1 : decode cX12_leavesPage 1 = .ok (.iload_n 2, 1) := by decide +kernel
theorem dX12_leavesPage_2 : decode cX12_leavesPage 2 = .ok (.invokevirtual 119, 3) := by decide +kernel
theorem dX12_leavesPage_5 : decode cX12_leavesPage 5 = .ok (.aload_n 0, 1) := by decide +kernel
theorem dX12_leavesPage_6 : decode cX12_leavesPage 6 = .ok (.iload_n 1, 1) := by decide +kernel
theorem dX12_leavesPage_7 : decode cX12_leavesPage 7 = .ok (.invokevirtual 126, 3) := by decide +kernel
theorem dX12_leavesPage_10 : decode cX12_leavesPage 10 = .ok (.istore_n 3, 1) := by decide +kernel
theorem dX12_leavesPage_11 : decode cX12_leavesPage 11 = .ok (.aload_n 0, 1) := by decide +kernel
theorem dX12_leavesPage_12 : decode cX12_leavesPage 12 = .ok (.iload_n 3, 1) := by decide +kernel
theorem dX12_leavesPage_13 : decode cX12_leavesPage 13 = .ok (.iload_n 2, 1) := by decide +kernel
theorem dX12_leavesPage_14 : decode cX12_leavesPage 14 = .ok (.invokevirtual 129, 3) := by decide +kernel
theorem dX12_leavesPage_17 : decode cX12_leavesPage 17 = .ok (.istore 4, 2) := by decide +kernel
theorem dX12_leavesPage_19 : decode cX12_leavesPage 19 = .ok (.aload_n 0, 1) := by decide +kernel
theorem dX12_leavesPage_20 : decode cX12_leavesPage 20 = .ok (.iload_n 3, 1) := by decide +kernel
theorem dX12_leavesPage_21 : decode cX12_leavesPage 21 = .ok (.iload_n 2, 1) := by decide +kernel
theorem dX12_leavesPage_22 : decode cX12_leavesPage 22 = .ok (.invokevirtual 132, 3) := by decide +kernel
theorem dX12_leavesPage_25 : decode cX12_leavesPage 25 = .ok (.istore 5, 2) := by decide +kernel
theorem dX12_leavesPage_27 : decode cX12_leavesPage 27 = .ok (.iload 5, 2) := by decide +kernel
theorem dX12_leavesPage_29 : decode cX12_leavesPage 29 = .ok (.iload 4, 2) := by decide +kernel
theorem dX12_leavesPage_31 : decode cX12_leavesPage 31 = .ok (.isub, 1) := by decide +kernel
theorem dX12_leavesPage_32 : decode cX12_leavesPage 32 = .ok (.iconst 1, 1) := by decide +kernel
theorem dX12_leavesPage_33 : decode cX12_leavesPage 33 = .ok (.isub, 1) := by decide +kernel
theorem dX12_leavesPage_34 : decode cX12_leavesPage 34 = .ok (.istore 6, 2) := by decide +kernel
theorem dX12_leavesPage_36 : decode cX12_leavesPage 36 = .ok (.iload 6, 2) := by decide +kernel
theorem dX12_leavesPage_38 : decode cX12_leavesPage 38 = .ok (.ifCond .ne 4, 3) := by decide +kernel
theorem dX12_leavesPage_41 : decode cX12_leavesPage 41 = .ok (.return_, 1) := by decide +kernel
theorem dX12_leavesPage_42 : decode cX12_leavesPage 42 = .ok (.iload_n 3, 1) := by decide +kernel
theorem dX12_leavesPage_43 : decode cX12_leavesPage 43 = .ok (.iload 4, 2) := by decide +kernel
theorem dX12_leavesPage_45 : decode cX12_leavesPage 45 = .ok (.if_icmp .ne 17, 3) := by decide +kernel
theorem dX12_leavesPage_48 : decode cX12_leavesPage 48 = .ok (.aload_n 0, 1) := by decide +kernel
theorem dX12_leavesPage_49 : decode cX12_leavesPage 49 = .ok (.aload_n 0, 1) := by decide +kernel
theorem dX12_leavesPage_50 : decode cX12_leavesPage 50 = .ok (.getfield 16, 3) := by decide +kernel
theorem dX12_leavesPage_53 : decode cX12_leavesPage 53 = .ok (.iload_n 3, 1) := by decide +kernel
theorem dX12_leavesPage_54 : decode cX12_leavesPage 54 = .ok (.iconst 1, 1) := by decide +kernel
theorem dX12_leavesPage_55 : decode cX12_leavesPage 55 = .ok (.iadd, 1) := by decide +kernel
theorem dX12_leavesPage_56 : decode cX12_leavesPage 56 = .ok (.iaload, 1) := by decide +kernel
theorem dX12_leavesPage_57 : decode cX12_leavesPage 57 = .ok (.iload_n 2, 1) := by decide +kernel
theorem dX12_leavesPage_58 : decode cX12_leavesPage 58 = .ok (.iconst 1, 1) := by decide +kernel
theorem dX12_leavesPage_59 : decode cX12_leavesPage 59 = .ok (.invokevirtual 112, 3) := by decide +kernel
theorem dX12_leavesPage_62 : decode cX12_leavesPage 62 = .ok (.aload_n 0, 1) := by decide +kernel
theorem dX12_leavesPage_63 : decode cX12_leavesPage 63 = .ok (.getfield 7, 3) := by decide +kernel
theorem dX12_leavesPage_66 : decode cX12_leavesPage 66 = .ok (.iconst 2, 1) := by decide +kernel
theorem dX12_leavesPage_67 : decode cX12_leavesPage 67 = .ok (.iaload, 1) := by decide +kernel
theorem dX12_leavesPage_68 : decode cX12_leavesPage 68 = .ok (.iconst 2, 1) := by decide +kernel
theorem dX12_leavesPage_69 : decode cX12_leavesPage 69 = .ok (.idiv, 1) := by decide +kernel
theorem dX12_leavesPage_70 : decode cX12_leavesPage 70 = .ok (.istore 7, 2) := by decide +kernel
theorem dX12_leavesPage_72 : decode cX12_leavesPage 72 = .ok (.iload 5, 2) := by decide +kernel
theorem dX12_leavesPage_74 : decode cX12_leavesPage 74 = .ok (.aload_n 0, 1) := by decide +kernel
theorem dX12_leavesPage_75 : decode cX12_leavesPage 75 = .ok (.getfield 97, 3) := by decide +kernel
theorem dX12_leavesPage_78 : decode cX12_leavesPage 78 = .ok (.if_icmp .ge 51, 3) := by decide +kernel
theorem dX12_leavesPage_81 : decode cX12_leavesPage 81 = .ok (.iload 6, 2) := by decide +kernel
theorem dX12_leavesPage_83 : decode cX12_leavesPage 83 = .ok (.aload_n 0, 1) := by decide +kernel
theorem dX12_leavesPage_84 : decode cX12_leavesPage 84 = .ok (.iload 5, 2) := by decide +kernel
theorem dX12_leavesPage_86 : decode cX12_leavesPage 86 = .ok (.iload_n 2, 1) := by decide +kernel
theorem dX12_leavesPage_87 : decode cX12_leavesPage 87 = .ok (.invokevirtual 132, 3) := by decide +kernel
theorem dX12_leavesPage_90 : decode cX12_leavesPage 90 = .ok (.iadd, 1) := by decide +kernel
theorem dX12_leavesPage_91 : decode cX12_leavesPage 91 = .ok (.iload 5, 2) := by decide +kernel
theorem dX12_leavesPage_93 : decode cX12_leavesPage 93 = .ok (.isub, 1) := by decide +kernel
theorem dX12_leavesPage_94 : decode cX12_leavesPage 94 = .ok (.iload 7, 2) := by decide +kernel
theorem dX12_leavesPage_96 : decode cX12_leavesPage 96 = .ok (.if_icmp .gt 33, 3) := by decide +kernel
theorem dX12_leavesPage_99 : decode cX12_leavesPage 99 = .ok (.aload_n 0, 1) := by decide +kernel
theorem dX12_leavesPage_100 : decode cX12_leavesPage 100 = .ok (.aload_n 0, 1) := by decide +kernel
theorem dX12_leavesPage_101 : decode cX12_leavesPage 101 = .ok (.getfield 16, 3) := by decide +kernel
theorem dX12_leavesPage_104 : decode cX12_leavesPage 104 = .ok (.iload 5, 2) := by decide +kernel
theorem dX12_leavesPage_106 : decode cX12_leavesPage 106 = .ok (.iaload, 1) := by decide +kernel
theorem dX12_leavesPage_107 : decode cX12_leavesPage 107 = .ok (.iload_n 2, 1) := by decide +kernel
theorem dX12_leavesPage_108 : decode cX12_leavesPage 108 = .ok (.iconst 0, 1) := by decide +kernel
theorem dX12_leavesPage_109 : decode cX12_leavesPage 109 = .ok (.invokevirtual 112, 3) := by decide +kernel
theorem dX12_leavesPage_112 : decode cX12_leavesPage 112 = .ok (.aload_n 0, 1) := by decide +kernel
theorem dX12_leavesPage_113 : decode cX12_leavesPage 113 = .ok (.getfield 7, 3) := by decide +kernel
theorem dX12_leavesPage_116 : decode cX12_leavesPage 116 = .ok (.iconst 4, 1) := by decide +kernel
theorem dX12_leavesPage_117 : decode cX12_leavesPage 117 = .ok (.aload_n 0, 1) := by decide +kernel
theorem dX12_leavesPage_118 : decode cX12_leavesPage 118 = .ok (.getfield 7, 3) := by decide +kernel
theorem dX12_leavesPage_121 : decode cX12_leavesPage 121 = .ok (.iconst 4, 1) := by decide +kernel
theorem dX12_leavesPage_122 : decode cX12_leavesPage 122 = .ok (.iaload, 1) := by decide +kernel
theorem dX12_leavesPage_123 : decode cX12_leavesPage 123 = .ok (.iconst 1, 1) := by decide +kernel
theorem dX12_leavesPage_124 : decode cX12_leavesPage 124 = .ok (.iadd, 1) := by decide +kernel
theorem dX12_leavesPage_125 : decode cX12_leavesPage 125 = .ok (.iastore, 1) := by decide +kernel
theorem dX12_leavesPage_126 : decode cX12_leavesPage 126 = .ok (.goto 67, 3) := by decide +kernel
theorem dX12_leavesPage_129 : decode cX12_leavesPage 129 = .ok (.iload 4, 2) := by decide +kernel
theorem dX12_leavesPage_131 : decode cX12_leavesPage 131 = .ok (.ifCond .le 62, 3) := by decide +kernel
theorem dX12_leavesPage_134 : decode cX12_leavesPage 134 = .ok (.iload 6, 2) := by decide +kernel
theorem dX12_leavesPage_136 : decode cX12_leavesPage 136 = .ok (.iload 4, 2) := by decide +kernel
theorem dX12_leavesPage_138 : decode cX12_leavesPage 138 = .ok (.iadd, 1) := by decide +kernel
theorem dX12_leavesPage_139 : decode cX12_leavesPage 139 = .ok (.aload_n 0, 1) := by decide +kernel
theorem dX12_leavesPage_140 : decode cX12_leavesPage 140 = .ok (.iload 4, 2) := by decide +kernel
theorem dX12_leavesPage_142 : decode cX12_leavesPage 142 = .ok (.iconst 1, 1) := by decide +kernel
theorem dX12_leavesPage_143 : decode cX12_leavesPage 143 = .ok (.isub, 1) := by decide +kernel
theorem dX12_leavesPage_144 : decode cX12_leavesPage 144 = .ok (.iload_n 2, 1) := by decide +kernel
theorem dX12_leavesPage_145 : decode cX12_leavesPage 145 = .ok (.invokevirtual 129, 3) := by decide +kernel
theorem dX12_leavesPage_148 : decode cX12_leavesPage 148 = .ok (.isub, 1) := by decide +kernel
theorem dX12_leavesPage_149 : decode cX12_leavesPage 149 = .ok (.iload 7, 2) := by decide +kernel
theorem dX12_leavesPage_151 : decode cX12_leavesPage 151 = .ok (.if_icmp .gt 42, 3) := by decide +kernel
theorem dX12_leavesPage_154 : decode cX12_leavesPage 154 = .ok (.aload_n 0, 1) := by decide +kernel
theorem dX12_leavesPage_155 : decode cX12_leavesPage 155 = .ok (.aload_n 0, 1) := by decide +kernel
theorem dX12_leavesPage_156 : decode cX12_leavesPage 156 = .ok (.getfield 16, 3) := by decide +kernel
theorem dX12_leavesPage_159 : decode cX12_leavesPage 159 = .ok (.iload_n 3, 1) := by decide +kernel
theorem dX12_leavesPage_160 : decode cX12_leavesPage 160 = .ok (.iload 4, 2) := by decide +kernel
theorem dX12_leavesPage_162 : decode cX12_leavesPage 162 = .ok (.if_icmp .ne 9, 3) := by decide +kernel
theorem dX12_leavesPage_165 : decode cX12_leavesPage 165 = .ok (.iload_n 3, 1) := by decide +kernel
theorem dX12_leavesPage_166 : decode cX12_leavesPage 166 = .ok (.iconst 1, 1) := by decide +kernel
theorem dX12_leavesPage_167 : decode cX12_leavesPage 167 = .ok (.iadd, 1) := by decide +kernel
theorem dX12_leavesPage_168 : decode cX12_leavesPage 168 = .ok (.goto 5, 3) := by decide +kernel
theorem dX12_leavesPage_171 : decode cX12_leavesPage 171 = .ok (.iload 4, 2) := by decide +kernel
theorem dX12_leavesPage_173 : decode cX12_leavesPage 173 = .ok (.iaload, 1) := by decide +kernel
theorem dX12_leavesPage_174 : decode cX12_leavesPage 174 = .ok (.iload_n 2, 1) := by decide +kernel
theorem dX12_leavesPage_175 : decode cX12_leavesPage 175 = .ok (.iconst 0, 1) := by decide +kernel
theorem dX12_leavesPage_176 : decode cX12_leavesPage 176 = .ok (.invokevirtual 112, 3) := by decide +kernel
theorem dX12_leavesPage_179 : decode cX12_leavesPage 179 = .ok (.aload_n 0, 1) := by decide +kernel
theorem dX12_leavesPage_180 : decode cX12_leavesPage 180 = .ok (.getfield 7, 3) := by decide +kernel
theorem dX12_leavesPage_183 : decode cX12_leavesPage 183 = .ok (.iconst 4, 1) := by decide +kernel
theorem dX12_leavesPage_184 : decode cX12_leavesPage 184 = .ok (.aload_n 0, 1) := by decide +kernel
theorem dX12_leavesPage_185 : decode cX12_leavesPage 185 = .ok (.getfield 7, 3) := by decide +kernel
theorem dX12_leavesPage_188 : decode cX12_leavesPage 188 = .ok (.iconst 4, 1) := by decide +kernel
theorem dX12_leavesPage_189 : decode cX12_leavesPage 189 = .ok (.iaload, 1) := by decide +kernel
theorem dX12_leavesPage_190 : decode cX12_leavesPage 190 = .ok (.iconst 1, 1) := by decide +kernel
theorem dX12_leavesPage_191 : decode cX12_leavesPage 191 = .ok (.iadd, 1) := by decide +kernel
theorem dX12_leavesPage_192 : decode cX12_leavesPage 192 = .ok (.iastore, 1) := by decide +kernel
theorem dX12_leavesPage_193 : decode cX12_leavesPage 193 = .ok (.return_, 1) := by decide +kernel
set_option maxRecDepth 20000 in
theorem ggX12_goes_X12_depthOf : GoodIn wsX12_goes wsX12_depthOf := goodIn_r _ [8, 1, 9, 3, 2, 10, 11, 12, 7, 13, 14, 15, 16, 17, 18, 19, 20, 21, 22, 23, 24, 25, 26, 27, 28, 29, 30, 31, 32, 33, 34, 81, 82, 83, 84, 85, 86, 87, 88, 89, 90, 91, 92, 93, 94, 95, 96, 97, 98, 99, 100, 101, 102, 103, 104, 105, 106, 107, 108, 109, 110, 111, 112, 113, 114, 115, 116, 117, 118, 119, 120, 121] rfl (by decide +kernel)
set_option maxRecDepth 20000 in
theorem gX12_goes_X12_depthOf : GoodIn wsX12_goes (wsV RX12 135 RX12 yX12_depthOf wsX12_depthOf) := goodIn_app (goodIn_r _ [4, 5, 6, 7] rfl (by decide +kernel)) ggX12_goes_X12_depthOf
set_option maxRecDepth 20000 in
theorem ggX12_goes_X12_findsRange : GoodIn wsX12_goes wsX12_findsRange := goodIn_r _ [26, 2, 3, 27, 28, 29, 7, 30, 1, 31, 32, 33, 34, 9, 14, 15, 16, 17, 18, 19, 20, 21, 22, 81, 82, 83, 84, 85, 86, 87, 88, 89, 90, 91, 92, 93, 94, 95, 96, 97, 98, 99, 100, 101, 102, 103, 104, 105, 106, 107, 108, 109, 110, 111, 112, 113, 114, 115, 116, 117, 118, 119, 120, 121] rfl (by decide +kernel)
set_option maxRecDepth 20000 in
theorem gX12_goes_X12_findsRange : GoodIn wsX12_goes (wsV RX12 93 RX12 yX12_findsRange wsX12_findsRange) := goodIn_app (goodIn_r _ [23, 24, 25, 7] rfl (by decide +kernel)) ggX12_goes_X12_findsRange
set_option maxRecDepth 20000 in
theorem ggX12_goes_X12_beginsPage : GoodIn wsX12_goes wsX12_beginsPage := goodIn_r _ [38, 15, 16, 17, 7, 18, 1, 39, 40, 41, 81, 82, 83, 84, 85, 86, 87, 88, 89, 90, 91, 92, 93, 94, 95, 96, 97, 98, 99, 100, 101, 102, 103, 104, 105, 106, 107, 108, 109, 110, 111, 112, 113, 114, 115, 116, 117, 118, 119, 120, 121] rfl (by decide +kernel)
set_option maxRecDepth 20000 in
theorem gX12_goes_X12_beginsPage : GoodIn wsX12_goes (wsV RX12 103 RX12 yX12_beginsPage wsX12_beginsPage) := goodIn_app (goodIn_r _ [35, 36, 37, 7] rfl (by decide +kernel)) ggX12_goes_X12_beginsPage
set_option maxRecDepth 20000 in
theorem ggX12_goes_X12_marks : GoodIn wsX12_goes wsX12_marks := goodIn_r _ [45, 15, 16, 17, 7, 18, 1, 46, 47, 48, 49, 81, 82, 83, 84, 85, 86, 87, 88, 89, 90, 91, 92, 93, 94, 95, 96, 97, 98, 99, 100, 101, 102, 103, 104, 105, 106, 107, 108, 109, 110, 111, 112, 113, 114, 115, 116, 117, 118, 119, 120, 121] rfl (by decide +kernel)
set_option maxRecDepth 20000 in
theorem gX12_goes_X12_marks : GoodIn wsX12_goes (wsV RX12 112 RX12 yX12_marks wsX12_marks) := goodIn_app (goodIn_r _ [42, 43, 44, 7] rfl (by decide +kernel)) ggX12_goes_X12_marks
set_option maxRecDepth 20000 in
theorem ggX12_goes_X12_leavesPage : GoodIn wsX12_goes wsX12_leavesPage := goodIn_r _ [53, 54, 1, 55, 56, 57, 58, 7, 59, 2, 3, 60, 23, 24, 25, 26, 27, 28, 29, 30, 31, 32, 33, 34, 9, 14, 15, 16, 17, 18, 19, 20, 21, 22, 61, 62, 63, 64, 65, 66, 67, 68, 69, 70, 71, 72, 35, 36, 37, 38, 39, 40, 41, 73, 74, 75, 76, 42, 43, 44, 45, 46, 47, 48, 49, 81, 82, 83, 84, 85, 86, 87, 88, 89, 90, 91, 92, 93, 94, 95, 96, 97, 98, 99, 100, 101, 102, 103, 104, 105, 106, 107, 108, 109, 110, 111, 112, 113, 114, 115, 116, 117, 118, 119, 120, 121] rfl (by decide +kernel)
set_option maxRecDepth 20000 in
theorem gX12_goes_X12_leavesPage : GoodIn wsX12_goes (wsV RX12 138 RX12 yX12_leavesPage wsX12_leavesPage) := goodIn_app (goodIn_r _ [50, 51, 52, 7] rfl (by decide +kernel)) ggX12_goes_X12_leavesPage
set_option maxRecDepth 20000 in
theorem ggX12_goes_X12_dropsRow : GoodIn wsX12_goes wsX12_dropsRow := goodIn_r _ [80, 1, 27, 28, 29, 7, 30, 15, 16, 17, 18, 46, 47, 48, 49, 81, 82, 83, 84, 85, 86, 87, 88, 89, 90, 91, 92, 93, 94, 95, 96, 97, 98, 99, 100, 101, 102, 103, 104, 105, 106, 107, 108, 109, 110, 111, 112, 113, 114, 115, 116, 117, 118, 119, 120, 121] rfl (by decide +kernel)
set_option maxRecDepth 20000 in
theorem gX12_goes_X12_dropsRow : GoodIn wsX12_goes (wsV RX12 141 RX12 yX12_dropsRow wsX12_dropsRow) := goodIn_app (goodIn_r _ [77, 78, 79, 7] rfl (by decide +kernel)) ggX12_goes_X12_dropsRow
theorem dX12_goes_0 : decode cX12_goes 0 = .ok (.aload_n 0, 1) := by decide +kernel
theorem dX12_goes_1 : decode cX12_goes 1 = .ok (.iload_n 1, 1) := by decide +kernel
theorem dX12_goes_2 : decode cX12_goes 2 = .ok (.invokevirtual 135, 3) := by decide +kernel
theorem dX12_goes_5 : decode cX12_goes 5 = .ok (.istore_n 2, 1) := by decide +kernel
theorem dX12_goes_6 : decode cX12_goes 6 = .ok (.iconst 0, 1) := by decide +kernel
theorem dX12_goes_7 : decode cX12_goes 7 = .ok (.istore_n 3, 1) := by decide +kernel
theorem dX12_goes_8 : decode cX12_goes 8 = .ok (.iload_n 3, 1) := by decide +kernel
theorem dX12_goes_9 : decode cX12_goes 9 = .ok (.iload_n 2, 1) := by decide +kernel
theorem dX12_goes_10 : decode cX12_goes 10 = .ok (.if_icmp .ge 52, 3) := by decide +kernel
theorem dX12_goes_13 : decode cX12_goes 13 = .ok (.aload_n 0, 1) := by decide +kernel
theorem dX12_goes_14 : decode cX12_goes 14 = .ok (.iload_n 3, 1) := by decide +kernel
theorem dX12_goes_15 : decode cX12_goes 15 = .ok (.iconst 1, 1) := by decide +kernel
theorem dX12_goes_16 : decode cX12_goes 16 = .ok (.iadd, 1) := by decide +kernel
theorem dX12_goes_17 : decode cX12_goes 17 = .ok (.aload_n 0, 1) := by decide +kernel
theorem dX12_goes_18 : decode cX12_goes 18 = .ok (.getfield 7, 3) := by decide +kernel
theorem dX12_goes_21 : decode cX12_goes 21 = .ok (.iconst 1, 1) := by decide +kernel
theorem dX12_goes_22 : decode cX12_goes 22 = .ok (.iaload, 1) := by decide +kernel
theorem dX12_goes_23 : decode cX12_goes 23 = .ok (.imul, 1) := by decide +kernel
theorem dX12_goes_24 : decode cX12_goes 24 = .ok (.invokevirtual 93, 3) := by decide +kernel
theorem dX12_goes_27 : decode cX12_goes 27 = .ok (.aload_n 0, 1) := by decide +kernel
theorem dX12_goes_28 : decode cX12_goes 28 = .ok (.getfield 84, 3) := by decide +kernel
theorem dX12_goes_31 : decode cX12_goes 31 = .ok (.iload_n 1, 1) := by decide +kernel
theorem dX12_goes_32 : decode cX12_goes 32 = .ok (.if_icmp .eq 6, 3) := by decide +kernel
theorem dX12_goes_35 : decode cX12_goes 35 = .ok (.goto 21, 3) := by decide +kernel
theorem dX12_goes_38 : decode cX12_goes 38 = .ok (.aload_n 0, 1) := by decide +kernel
theorem dX12_goes_39 : decode cX12_goes 39 = .ok (.iload_n 1, 1) := by decide +kernel
theorem dX12_goes_40 : decode cX12_goes 40 = .ok (.iload_n 3, 1) := by decide +kernel
theorem dX12_goes_41 : decode cX12_goes 41 = .ok (.invokevirtual 103, 3) := by decide +kernel
theorem dX12_goes_44 : decode cX12_goes 44 = .ok (.ifCond .eq 12, 3) := by decide +kernel
theorem dX12_goes_47 : decode cX12_goes 47 = .ok (.aload_n 0, 1) := by decide +kernel
theorem dX12_goes_48 : decode cX12_goes 48 = .ok (.iload_n 1, 1) := by decide +kernel
theorem dX12_goes_49 : decode cX12_goes 49 = .ok (.iconst 1, 1) := by decide +kernel
theorem dX12_goes_50 : decode cX12_goes 50 = .ok (.iadd, 1) := by decide +kernel
theorem dX12_goes_51 : decode cX12_goes 51 = .ok (.iload_n 3, 1) := by decide +kernel
theorem dX12_goes_52 : decode cX12_goes 52 = .ok (.iconst 1, 1) := by decide +kernel
theorem dX12_goes_53 : decode cX12_goes 53 = .ok (.invokevirtual 112, 3) := by decide +kernel
theorem dX12_goes_56 : decode cX12_goes 56 = .ok (.iinc 3 1, 3) := by decide +kernel
theorem dX12_goes_59 : decode cX12_goes 59 = .ok (.goto (-51), 3) := by decide +kernel
theorem dX12_goes_62 : decode cX12_goes 62 = .ok (.aload_n 0, 1) := by decide +kernel
theorem dX12_goes_63 : decode cX12_goes 63 = .ok (.iload_n 1, 1) := by decide +kernel
theorem dX12_goes_64 : decode cX12_goes 64 = .ok (.iload_n 2, 1) := by decide +kernel
theorem dX12_goes_65 : decode cX12_goes 65 = .ok (.invokevirtual 138, 3) := by decide +kernel
theorem dX12_goes_68 : decode cX12_goes 68 = .ok (.aload_n 0, 1) := by decide +kernel
theorem dX12_goes_69 : decode cX12_goes 69 = .ok (.iload_n 1, 1) := by decide +kernel
theorem dX12_goes_70 : decode cX12_goes 70 = .ok (.invokevirtual 141, 3) := by decide +kernel
theorem dX12_goes_73 : decode cX12_goes 73 = .ok (.iload_n 2, 1) := by decide +kernel
theorem dX12_goes_74 : decode cX12_goes 74 = .ok (.istore_n 3, 1) := by decide +kernel
theorem dX12_goes_75 : decode cX12_goes 75 = .ok (.iload_n 3, 1) := by decide +kernel
theorem dX12_goes_76 : decode cX12_goes 76 = .ok (.ifCond .le 63, 3) := by decide +kernel
theorem dX12_goes_79 : decode cX12_goes 79 = .ok (.aload_n 0, 1) := by decide +kernel
theorem dX12_goes_80 : decode cX12_goes 80 = .ok (.iload_n 3, 1) := by decide +kernel
theorem dX12_goes_81 : decode cX12_goes 81 = .ok (.aload_n 0, 1) := by decide +kernel
theorem dX12_goes_82 : decode cX12_goes 82 = .ok (.getfield 7, 3) := by decide +kernel
theorem dX12_goes_85 : decode cX12_goes 85 = .ok (.iconst 1, 1) := by decide +kernel
theorem dX12_goes_86 : decode cX12_goes 86 = .ok (.iaload, 1) := by decide +kernel
theorem dX12_goes_87 : decode cX12_goes 87 = .ok (.imul, 1) := by decide +kernel
theorem dX12_goes_88 : decode cX12_goes 88 = .ok (.invokevirtual 93, 3) := by decide +kernel
theorem dX12_goes_91 : decode cX12_goes 91 = .ok (.aload_n 0, 1) := by decide +kernel
theorem dX12_goes_92 : decode cX12_goes 92 = .ok (.getfield 90, 3) := by decide +kernel
theorem dX12_goes_95 : decode cX12_goes 95 = .ok (.aload_n 0, 1) := by decide +kernel
theorem dX12_goes_96 : decode cX12_goes 96 = .ok (.getfield 84, 3) := by decide +kernel
theorem dX12_goes_99 : decode cX12_goes 99 = .ok (.isub, 1) := by decide +kernel
theorem dX12_goes_100 : decode cX12_goes 100 = .ok (.iconst 1, 1) := by decide +kernel
theorem dX12_goes_101 : decode cX12_goes 101 = .ok (.if_icmp .eq 6, 3) := by decide +kernel
theorem dX12_goes_104 : decode cX12_goes 104 = .ok (.goto 29, 3) := by decide +kernel
theorem dX12_goes_107 : decode cX12_goes 107 = .ok (.aload_n 0, 1) := by decide +kernel
theorem dX12_goes_108 : decode cX12_goes 108 = .ok (.aload_n 0, 1) := by decide +kernel
theorem dX12_goes_109 : decode cX12_goes 109 = .ok (.getfield 84, 3) := by decide +kernel
theorem dX12_goes_112 : decode cX12_goes 112 = .ok (.iload_n 3, 1) := by decide +kernel
theorem dX12_goes_113 : decode cX12_goes 113 = .ok (.iconst 0, 1) := by decide +kernel
theorem dX12_goes_114 : decode cX12_goes 114 = .ok (.invokevirtual 112, 3) := by decide +kernel
theorem dX12_goes_117 : decode cX12_goes 117 = .ok (.aload_n 0, 1) := by decide +kernel
theorem dX12_goes_118 : decode cX12_goes 118 = .ok (.getfield 7, 3) := by decide +kernel
theorem dX12_goes_121 : decode cX12_goes 121 = .ok (.bipush 6, 2) := by decide +kernel
theorem dX12_goes_123 : decode cX12_goes 123 = .ok (.aload_n 0, 1) := by decide +kernel
theorem dX12_goes_124 : decode cX12_goes 124 = .ok (.getfield 7, 3) := by decide +kernel
theorem dX12_goes_127 : decode cX12_goes 127 = .ok (.bipush 6, 2) := by decide +kernel
theorem dX12_goes_129 : decode cX12_goes 129 = .ok (.iaload, 1) := by decide +kernel
theorem dX12_goes_130 : decode cX12_goes 130 = .ok (.iconst 1, 1) := by decide +kernel
theorem dX12_goes_131 : decode cX12_goes 131 = .ok (.iadd, 1) := by decide +kernel
theorem dX12_goes_132 : decode cX12_goes 132 = .ok (.iastore, 1) := by decide +kernel
theorem dX12_goes_133 : decode cX12_goes 133 = .ok (.iinc 3 (-1), 3) := by decide +kernel
theorem dX12_goes_136 : decode cX12_goes 136 = .ok (.goto (-61), 3) := by decide +kernel
theorem dX12_goes_139 : decode cX12_goes 139 = .ok (.return_, 1) := by decide +kernel
set_option maxRecDepth 20000 in
theorem ggX12_begin_X12_in : GoodIn wsX12_begin wsX12_in := goodIn_r _ [5] rfl (by decide +kernel)
set_option maxRecDepth 20000 in
theorem gX12_begin_X12_in : GoodIn wsX12_begin (va_wsS RX12 66 yX12_in wsX12_in) := goodIn_app (goodIn_r _ [2, 3, 4] rfl (by decide +kernel)) ggX12_begin_X12_in
set_option maxRecDepth 20000 in
theorem ggX12_begin_X12_empties : GoodIn wsX12_begin wsX12_empties := goodIn_r _ [9, 1, 10, 11, 12, 13, 14, 15, 16, 17, 18, 19, 20, 21, 22, 23, 24, 25, 26, 27, 28, 29, 30, 31, 32, 33, 34, 35, 36, 37, 38, 39, 40, 41, 42, 43, 44, 45, 46, 47, 48, 49, 50] rfl (by decide +kernel)
set_option maxRecDepth 20000 in
theorem gX12_begin_X12_empties : GoodIn wsX12_begin (wsV RX12 144 RX12 yX12_empties wsX12_empties) := goodIn_app (goodIn_r _ [6, 7, 8, 4] rfl (by decide +kernel)) ggX12_begin_X12_empties
theorem dX12_begin_0 : decode cX12_begin 0 = .ok (.iload_n 1, 1) := by decide +kernel
theorem dX12_begin_1 : decode cX12_begin 1 = .ok (.iconst 1, 1) := by decide +kernel
theorem dX12_begin_2 : decode cX12_begin 2 = .ok (.bipush 8, 2) := by decide +kernel
theorem dX12_begin_4 : decode cX12_begin 4 = .ok (.invokestatic 66, 3) := by decide +kernel
theorem dX12_begin_7 : decode cX12_begin 7 = .ok (.ifCond .eq 13, 3) := by decide +kernel
theorem dX12_begin_10 : decode cX12_begin 10 = .ok (.iload_n 2, 1) := by decide +kernel
theorem dX12_begin_11 : decode cX12_begin 11 = .ok (.iconst 2, 1) := by decide +kernel
theorem dX12_begin_12 : decode cX12_begin 12 = .ok (.bipush 8, 2) := by decide +kernel
theorem dX12_begin_14 : decode cX12_begin 14 = .ok (.invokestatic 66, 3) := by decide +kernel
theorem dX12_begin_17 : decode cX12_begin 17 = .ok (.ifCond .ne 5, 3) := by decide +kernel
theorem dX12_begin_20 : decode cX12_begin 20 = .ok (.iconst (-1), 1) := by decide +kernel
theorem dX12_begin_21 : decode cX12_begin 21 = .ok (.ireturn, 1) := by decide +kernel
theorem dX12_begin_22 : decode cX12_begin 22 = .ok (.aload_n 0, 1) := by decide +kernel
theorem dX12_begin_23 : decode cX12_begin 23 = .ok (.iload_n 1, 1) := by decide +kernel
theorem dX12_begin_24 : decode cX12_begin 24 = .ok (.iload_n 2, 1) := by decide +kernel
theorem dX12_begin_25 : decode cX12_begin 25 = .ok (.invokevirtual 144, 3) := by decide +kernel
theorem dX12_begin_28 : decode cX12_begin 28 = .ok (.sipush 4290, 3) := by decide +kernel
theorem dX12_begin_31 : decode cX12_begin 31 = .ok (.istore_n 3, 1) := by decide +kernel
theorem dX12_begin_32 : decode cX12_begin 32 = .ok (.iload_n 3, 1) := by decide +kernel
theorem dX12_begin_33 : decode cX12_begin 33 = .ok (.sipush 4406, 3) := by decide +kernel
theorem dX12_begin_36 : decode cX12_begin 36 = .ok (.if_icmp .ge 16, 3) := by decide +kernel
theorem dX12_begin_39 : decode cX12_begin 39 = .ok (.aload_n 0, 1) := by decide +kernel
theorem dX12_begin_40 : decode cX12_begin 40 = .ok (.getfield 7, 3) := by decide +kernel
theorem dX12_begin_43 : decode cX12_begin 43 = .ok (.iload_n 3, 1) := by decide +kernel
theorem dX12_begin_44 : decode cX12_begin 44 = .ok (.iconst 0, 1) := by decide +kernel
theorem dX12_begin_45 : decode cX12_begin 45 = .ok (.iastore, 1) := by decide +kernel
theorem dX12_begin_46 : decode cX12_begin 46 = .ok (.iinc 3 1, 3) := by decide +kernel
theorem dX12_begin_49 : decode cX12_begin 49 = .ok (.goto (-17), 3) := by decide +kernel
theorem dX12_begin_52 : decode cX12_begin 52 = .ok (.iconst 0, 1) := by decide +kernel
theorem dX12_begin_53 : decode cX12_begin 53 = .ok (.ireturn, 1) := by decide +kernel
theorem dX12_empties_0 : decode cX12_empties 0 = .ok (.aload_n 0, 1) := by decide +kernel
theorem dX12_empties_1 : decode cX12_empties 1 = .ok (.getfield 7, 3) := by decide +kernel
theorem dX12_empties_4 : decode cX12_empties 4 = .ok (.iconst 0, 1) := by decide +kernel
theorem dX12_empties_5 : decode cX12_empties 5 = .ok (.iconst 0, 1) := by decide +kernel
theorem dX12_empties_6 : decode cX12_empties 6 = .ok (.iastore, 1) := by decide +kernel
theorem dX12_empties_7 : decode cX12_empties 7 = .ok (.aload_n 0, 1) := by decide +kernel
theorem dX12_empties_8 : decode cX12_empties 8 = .ok (.getfield 7, 3) := by decide +kernel
theorem dX12_empties_11 : decode cX12_empties 11 = .ok (.iconst 1, 1) := by decide +kernel
theorem dX12_empties_12 : decode cX12_empties 12 = .ok (.iload_n 1, 1) := by decide +kernel
theorem dX12_empties_13 : decode cX12_empties 13 = .ok (.iastore, 1) := by decide +kernel
theorem dX12_empties_14 : decode cX12_empties 14 = .ok (.aload_n 0, 1) := by decide +kernel
theorem dX12_empties_15 : decode cX12_empties 15 = .ok (.getfield 7, 3) := by decide +kernel
theorem dX12_empties_18 : decode cX12_empties 18 = .ok (.iconst 2, 1) := by decide +kernel
theorem dX12_empties_19 : decode cX12_empties 19 = .ok (.iload_n 2, 1) := by decide +kernel
theorem dX12_empties_20 : decode cX12_empties 20 = .ok (.iastore, 1) := by decide +kernel
theorem dX12_empties_21 : decode cX12_empties 21 = .ok (.iconst 3, 1) := by decide +kernel
theorem dX12_empties_22 : decode cX12_empties 22 = .ok (.istore_n 3, 1) := by decide +kernel
theorem dX12_empties_23 : decode cX12_empties 23 = .ok (.iload_n 3, 1) := by decide +kernel
theorem dX12_empties_24 : decode cX12_empties 24 = .ok (.bipush 6, 2) := by decide +kernel
theorem dX12_empties_26 : decode cX12_empties 26 = .ok (.if_icmp .gt 16, 3) := by decide +kernel
theorem dX12_empties_29 : decode cX12_empties 29 = .ok (.aload_n 0, 1) := by decide +kernel
theorem dX12_empties_30 : decode cX12_empties 30 = .ok (.getfield 7, 3) := by decide +kernel
theorem dX12_empties_33 : decode cX12_empties 33 = .ok (.iload_n 3, 1) := by decide +kernel
theorem dX12_empties_34 : decode cX12_empties 34 = .ok (.iconst 0, 1) := by decide +kernel
theorem dX12_empties_35 : decode cX12_empties 35 = .ok (.iastore, 1) := by decide +kernel
theorem dX12_empties_36 : decode cX12_empties 36 = .ok (.iinc 3 1, 3) := by decide +kernel
theorem dX12_empties_39 : decode cX12_empties 39 = .ok (.goto (-16), 3) := by decide +kernel
theorem dX12_empties_42 : decode cX12_empties 42 = .ok (.return_, 1) := by decide +kernel
theorem dX12_types_0 : decode cX12_types 0 = .ok (.iconst 3, 1) := by decide +kernel
theorem dX12_types_1 : decode cX12_types 1 = .ok (.istore_n 2, 1) := by decide +kernel
theorem dX12_types_2 : decode cX12_types 2 = .ok (.iload_n 2, 1) := by decide +kernel
theorem dX12_types_3 : decode cX12_types 3 = .ok (.ifCond .lt 35, 3) := by decide +kernel
theorem dX12_types_6 : decode cX12_types 6 = .ok (.aload_n 0, 1) := by decide +kernel
theorem dX12_types_7 : decode cX12_types 7 = .ok (.getfield 22, 3) := by decide +kernel
theorem dX12_types_10 : decode cX12_types 10 = .ok (.aload_n 0, 1) := by decide +kernel
theorem dX12_types_11 : decode cX12_types 11 = .ok (.getfield 147, 3) := by decide +kernel
theorem dX12_types_14 : decode cX12_types 14 = .ok (.iload_n 1, 1) := by decide +kernel
theorem dX12_types_15 : decode cX12_types 15 = .ok (.bipush 8, 2) := by decide +kernel
theorem dX12_types_17 : decode cX12_types 17 = .ok (.iload_n 2, 1) := by decide +kernel
theorem dX12_types_18 : decode cX12_types 18 = .ok (.imul, 1) := by decide +kernel
theorem dX12_types_19 : decode cX12_types 19 = .ok (.ishr, 1) := by decide +kernel
theorem dX12_types_20 : decode cX12_types 20 = .ok (.i2b, 1) := by decide +kernel
theorem dX12_types_21 : decode cX12_types 21 = .ok (.bastore, 1) := by decide +kernel
theorem dX12_types_22 : decode cX12_types 22 = .ok (.aload_n 0, 1) := by decide +kernel
theorem dX12_types_23 : decode cX12_types 23 = .ok (.aload_n 0, 1) := by decide +kernel
theorem dX12_types_24 : decode cX12_types 24 = .ok (.getfield 147, 3) := by decide +kernel
theorem dX12_types_27 : decode cX12_types 27 = .ok (.iconst 1, 1) := by decide +kernel
theorem dX12_types_28 : decode cX12_types 28 = .ok (.iadd, 1) := by decide +kernel
theorem dX12_types_29 : decode cX12_types 29 = .ok (.putfield 147, 3) := by decide +kernel
theorem dX12_types_32 : decode cX12_types 32 = .ok (.iinc 2 (-1), 3) := by decide +kernel
theorem dX12_types_35 : decode cX12_types 35 = .ok (.goto (-33), 3) := by decide +kernel
theorem dX12_types_38 : decode cX12_types 38 = .ok (.return_, 1) := by decide +kernel
set_option maxRecDepth 20000 in
theorem ggX12_feed_X12_types : GoodIn wsX12_feed wsX12_types := goodIn_r _ [6, 7, 1, 8, 9, 10, 11, 12, 13, 14, 15, 16, 17, 18, 19, 20, 21, 22, 23, 24, 25, 26, 27, 28, 29, 30, 31, 32, 33, 34, 35, 36, 37, 38, 39, 40, 41, 42, 43, 44, 45, 46, 47, 48] rfl (by decide +kernel)
set_option maxRecDepth 20000 in
theorem gX12_feed_X12_types : GoodIn wsX12_feed (wsV RX12 150 RX12 yX12_types wsX12_types) := goodIn_app (goodIn_r _ [2, 3, 4, 5] rfl (by decide +kernel)) ggX12_feed_X12_types
theorem dX12_feed_0 : decode cX12_feed 0 = .ok (.aload_n 0, 1) := by decide +kernel
theorem dX12_feed_1 : decode cX12_feed 1 = .ok (.getfield 147, 3) := by decide +kernel
theorem dX12_feed_4 : decode cX12_feed 4 = .ok (.bipush 20, 2) := by decide +kernel
theorem dX12_feed_6 : decode cX12_feed 6 = .ok (.iadd, 1) := by decide +kernel
theorem dX12_feed_7 : decode cX12_feed 7 = .ok (.sipush 240, 3) := by decide +kernel
theorem dX12_feed_10 : decode cX12_feed 10 = .ok (.if_icmp .le 5, 3) := by decide +kernel
theorem dX12_feed_13 : decode cX12_feed 13 = .ok (.iconst (-1), 1) := by decide +kernel
theorem dX12_feed_14 : decode cX12_feed 14 = .ok (.ireturn, 1) := by decide +kernel
theorem dX12_feed_15 : decode cX12_feed 15 = .ok (.aload_n 0, 1) := by decide +kernel
theorem dX12_feed_16 : decode cX12_feed 16 = .ok (.iload_n 1, 1) := by decide +kernel
theorem dX12_feed_17 : decode cX12_feed 17 = .ok (.invokevirtual 150, 3) := by decide +kernel
theorem dX12_feed_20 : decode cX12_feed 20 = .ok (.aload_n 0, 1) := by decide +kernel
theorem dX12_feed_21 : decode cX12_feed 21 = .ok (.iload_n 2, 1) := by decide +kernel
theorem dX12_feed_22 : decode cX12_feed 22 = .ok (.invokevirtual 150, 3) := by decide +kernel
theorem dX12_feed_25 : decode cX12_feed 25 = .ok (.aload_n 0, 1) := by decide +kernel
theorem dX12_feed_26 : decode cX12_feed 26 = .ok (.iload_n 3, 1) := by decide +kernel
theorem dX12_feed_27 : decode cX12_feed 27 = .ok (.invokevirtual 150, 3) := by decide +kernel
theorem dX12_feed_30 : decode cX12_feed 30 = .ok (.aload_n 0, 1) := by decide +kernel
theorem dX12_feed_31 : decode cX12_feed 31 = .ok (.iload 4, 2) := by decide +kernel
theorem dX12_feed_33 : decode cX12_feed 33 = .ok (.invokevirtual 150, 3) := by decide +kernel
theorem dX12_feed_36 : decode cX12_feed 36 = .ok (.aload_n 0, 1) := by decide +kernel
theorem dX12_feed_37 : decode cX12_feed 37 = .ok (.iload 5, 2) := by decide +kernel
theorem dX12_feed_39 : decode cX12_feed 39 = .ok (.invokevirtual 150, 3) := by decide +kernel
theorem dX12_feed_42 : decode cX12_feed 42 = .ok (.aload_n 0, 1) := by decide +kernel
theorem dX12_feed_43 : decode cX12_feed 43 = .ok (.getfield 147, 3) := by decide +kernel
theorem dX12_feed_46 : decode cX12_feed 46 = .ok (.ireturn, 1) := by decide +kernel
set_option maxRecDepth 20000 in
theorem ggX12_isByte_X12_in : GoodIn wsX12_isByte wsX12_in := goodIn_r _ [4] rfl (by decide +kernel)
set_option maxRecDepth 20000 in
theorem gX12_isByte_X12_in : GoodIn wsX12_isByte (va_wsS RX12 66 yX12_in wsX12_in) := goodIn_app (goodIn_r _ [1, 2, 3] rfl (by decide +kernel)) ggX12_isByte_X12_in
theorem dX12_isByte_0 : decode cX12_isByte 0 = .ok (.iload_n 0, 1) := by decide +kernel
theorem dX12_isByte_1 : decode cX12_isByte 1 = .ok (.bipush 33, 2) := by decide +kernel
theorem dX12_isByte_3 : decode cX12_isByte 3 = .ok (.bipush 126, 2) := by decide +kernel
theorem dX12_isByte_5 : decode cX12_isByte 5 = .ok (.invokestatic 66, 3) := by decide +kernel
theorem dX12_isByte_8 : decode cX12_isByte 8 = .ok (.ifCond .eq 31, 3) := by decide +kernel
theorem dX12_isByte_11 : decode cX12_isByte 11 = .ok (.iload_n 0, 1) := by decide +kernel
theorem dX12_isByte_12 : decode cX12_isByte 12 = .ok (.bipush 59, 2) := by decide +kernel
theorem dX12_isByte_14 : decode cX12_isByte 14 = .ok (.if_icmp .eq 25, 3) := by decide +kernel
theorem dX12_isByte_17 : decode cX12_isByte 17 = .ok (.iload_n 0, 1) := by decide +kernel
theorem dX12_isByte_18 : decode cX12_isByte 18 = .ok (.bipush 61, 2) := by decide +kernel
theorem dX12_isByte_20 : decode cX12_isByte 20 = .ok (.if_icmp .eq 19, 3) := by decide +kernel
theorem dX12_isByte_23 : decode cX12_isByte 23 = .ok (.iload_n 0, 1) := by decide +kernel
theorem dX12_isByte_24 : decode cX12_isByte 24 = .ok (.bipush 44, 2) := by decide +kernel
theorem dX12_isByte_26 : decode cX12_isByte 26 = .ok (.if_icmp .eq 13, 3) := by decide +kernel
theorem dX12_isByte_29 : decode cX12_isByte 29 = .ok (.iload_n 0, 1) := by decide +kernel
theorem dX12_isByte_30 : decode cX12_isByte 30 = .ok (.bipush 126, 2) := by decide +kernel
theorem dX12_isByte_32 : decode cX12_isByte 32 = .ok (.if_icmp .eq 7, 3) := by decide +kernel
theorem dX12_isByte_35 : decode cX12_isByte 35 = .ok (.iconst 1, 1) := by decide +kernel
theorem dX12_isByte_36 : decode cX12_isByte 36 = .ok (.goto 4, 3) := by decide +kernel
theorem dX12_isByte_39 : decode cX12_isByte 39 = .ok (.iconst 0, 1) := by decide +kernel
theorem dX12_isByte_40 : decode cX12_isByte 40 = .ok (.ireturn, 1) := by decide +kernel
set_option maxRecDepth 20000 in
theorem ggX12_isLong_X12_in : GoodIn wsX12_isLong wsX12_in := goodIn_r _ [5] rfl (by decide +kernel)
set_option maxRecDepth 20000 in
theorem gX12_isLong_X12_in : GoodIn wsX12_isLong (va_wsS RX12 66 yX12_in wsX12_in) := goodIn_app (goodIn_r _ [2, 3, 4] rfl (by decide +kernel)) ggX12_isLong_X12_in
theorem dX12_isLong_0 : decode cX12_isLong 0 = .ok (.iload_n 1, 1) := by decide +kernel
theorem dX12_isLong_1 : decode cX12_isLong 1 = .ok (.iconst 1, 1) := by decide +kernel
theorem dX12_isLong_2 : decode cX12_isLong 2 = .ok (.bipush 24, 2) := by decide +kernel
theorem dX12_isLong_4 : decode cX12_isLong 4 = .ok (.invokestatic 66, 3) := by decide +kernel
theorem dX12_isLong_7 : decode cX12_isLong 7 = .ok (.ifCond .eq 15, 3) := by decide +kernel
theorem dX12_isLong_10 : decode cX12_isLong 10 = .ok (.iload_n 1, 1) := by decide +kernel
theorem dX12_isLong_11 : decode cX12_isLong 11 = .ok (.aload_n 0, 1) := by decide +kernel
theorem dX12_isLong_12 : decode cX12_isLong 12 = .ok (.getfield 147, 3) := by decide +kernel
theorem dX12_isLong_15 : decode cX12_isLong 15 = .ok (.if_icmp .gt 7, 3) := by decide +kernel
theorem dX12_isLong_18 : decode cX12_isLong 18 = .ok (.iconst 1, 1) := by decide +kernel
theorem dX12_isLong_19 : decode cX12_isLong 19 = .ok (.goto 4, 3) := by decide +kernel
theorem dX12_isLong_22 : decode cX12_isLong 22 = .ok (.iconst 0, 1) := by decide +kernel
theorem dX12_isLong_23 : decode cX12_isLong 23 = .ok (.ireturn, 1) := by decide +kernel
set_option maxRecDepth 20000 in
theorem ggX12_takesKey_X12_isByte : GoodIn wsX12_takesKey wsX12_isByte := goodIn_r _ [8, 9, 10, 7, 11] rfl (by decide +kernel)
set_option maxRecDepth 20000 in
theorem gX12_takesKey_X12_isByte : GoodIn wsX12_takesKey (va_wsS RX12 153 yX12_isByte wsX12_isByte) := goodIn_app (goodIn_r _ [5, 6, 7] rfl (by decide +kernel)) ggX12_takesKey_X12_isByte
theorem dX12_takesKey_0 : decode cX12_takesKey 0 = .ok (.aload_n 0, 1) := by decide +kernel
theorem dX12_takesKey_1 : decode cX12_takesKey 1 = .ok (.iconst 0, 1) := by decide +kernel
theorem dX12_takesKey_2 : decode cX12_takesKey 2 = .ok (.putfield 147, 3) := by decide +kernel
theorem dX12_takesKey_5 : decode cX12_takesKey 5 = .ok (.aload_n 0, 1) := by decide +kernel
theorem dX12_takesKey_6 : decode cX12_takesKey 6 = .ok (.iload_n 1, 1) := by decide +kernel
theorem dX12_takesKey_7 : decode cX12_takesKey 7 = .ok (.putfield 70, 3) := by decide +kernel
theorem dX12_takesKey_10 : decode cX12_takesKey 10 = .ok (.iconst 1, 1) := by decide +kernel
theorem dX12_takesKey_11 : decode cX12_takesKey 11 = .ok (.istore_n 2, 1) := by decide +kernel
theorem dX12_takesKey_12 : decode cX12_takesKey 12 = .ok (.iconst 0, 1) := by decide +kernel
theorem dX12_takesKey_13 : decode cX12_takesKey 13 = .ok (.istore_n 3, 1) := by decide +kernel
theorem dX12_takesKey_14 : decode cX12_takesKey 14 = .ok (.iload_n 3, 1) := by decide +kernel
theorem dX12_takesKey_15 : decode cX12_takesKey 15 = .ok (.iload_n 1, 1) := by decide +kernel
theorem dX12_takesKey_16 : decode cX12_takesKey 16 = .ok (.if_icmp .ge 47, 3) := by decide +kernel
theorem dX12_takesKey_19 : decode cX12_takesKey 19 = .ok (.aload_n 0, 1) := by decide +kernel
theorem dX12_takesKey_20 : decode cX12_takesKey 20 = .ok (.getfield 13, 3) := by decide +kernel
theorem dX12_takesKey_23 : decode cX12_takesKey 23 = .ok (.iload_n 3, 1) := by decide +kernel
theorem dX12_takesKey_24 : decode cX12_takesKey 24 = .ok (.aload_n 0, 1) := by decide +kernel
theorem dX12_takesKey_25 : decode cX12_takesKey 25 = .ok (.getfield 22, 3) := by decide +kernel
theorem dX12_takesKey_28 : decode cX12_takesKey 28 = .ok (.iload_n 3, 1) := by decide +kernel
theorem dX12_takesKey_29 : decode cX12_takesKey 29 = .ok (.baload, 1) := by decide +kernel
theorem dX12_takesKey_30 : decode cX12_takesKey 30 = .ok (.sipush 255, 3) := by decide +kernel
theorem dX12_takesKey_33 : decode cX12_takesKey 33 = .ok (.iand, 1) := by decide +kernel
theorem dX12_takesKey_34 : decode cX12_takesKey 34 = .ok (.iastore, 1) := by decide +kernel
theorem dX12_takesKey_35 : decode cX12_takesKey 35 = .ok (.iload_n 2, 1) := by decide +kernel
theorem dX12_takesKey_36 : decode cX12_takesKey 36 = .ok (.ifCond .eq 19, 3) := by decide +kernel
theorem dX12_takesKey_39 : decode cX12_takesKey 39 = .ok (.aload_n 0, 1) := by decide +kernel
theorem dX12_takesKey_40 : decode cX12_takesKey 40 = .ok (.getfield 13, 3) := by decide +kernel
theorem dX12_takesKey_43 : decode cX12_takesKey 43 = .ok (.iload_n 3, 1) := by decide +kernel
theorem dX12_takesKey_44 : decode cX12_takesKey 44 = .ok (.iaload, 1) := by decide +kernel
theorem dX12_takesKey_45 : decode cX12_takesKey 45 = .ok (.invokestatic 153, 3) := by decide +kernel
theorem dX12_takesKey_48 : decode cX12_takesKey 48 = .ok (.ifCond .eq 7, 3) := by decide +kernel
theorem dX12_takesKey_51 : decode cX12_takesKey 51 = .ok (.iconst 1, 1) := by decide +kernel
theorem dX12_takesKey_52 : decode cX12_takesKey 52 = .ok (.goto 4, 3) := by decide +kernel
theorem dX12_takesKey_55 : decode cX12_takesKey 55 = .ok (.iconst 0, 1) := by decide +kernel
theorem dX12_takesKey_56 : decode cX12_takesKey 56 = .ok (.istore_n 2, 1) := by decide +kernel
theorem dX12_takesKey_57 : decode cX12_takesKey 57 = .ok (.iinc 3 1, 3) := by decide +kernel
theorem dX12_takesKey_60 : decode cX12_takesKey 60 = .ok (.goto (-46), 3) := by decide +kernel
theorem dX12_takesKey_63 : decode cX12_takesKey 63 = .ok (.iload_n 2, 1) := by decide +kernel
theorem dX12_takesKey_64 : decode cX12_takesKey 64 = .ok (.ireturn, 1) := by decide +kernel
set_option maxRecDepth 20000 in
theorem ggX12_put_X12_isLong : GoodIn wsX12_put wsX12_isLong := goodIn_r _ [6, 7, 8, 9, 5, 10, 111, 112, 113, 114, 115, 116, 117, 118, 119, 120, 121, 122, 123, 124, 125, 126, 127, 128, 129, 130, 131, 132, 133, 134, 135, 136, 137, 138, 139, 140, 141, 142, 143, 144, 145, 146, 147, 148, 149, 150, 151] rfl (by decide +kernel)
set_option maxRecDepth 20000 in
theorem gX12_put_X12_isLong : GoodIn wsX12_put (wsV RX12 157 RX12 yX12_isLong wsX12_isLong) := goodIn_app (goodIn_r _ [2, 3, 4, 5] rfl (by decide +kernel)) ggX12_put_X12_isLong
set_option maxRecDepth 20000 in
theorem ggX12_put_X12_in : GoodIn wsX12_put wsX12_in := goodIn_r _ [10] rfl (by decide +kernel)
set_option maxRecDepth 20000 in
theorem gX12_put_X12_in : GoodIn wsX12_put (va_wsS RX12 66 yX12_in wsX12_in) := goodIn_app (goodIn_r _ [8, 9, 5] rfl (by decide +kernel)) ggX12_put_X12_in
set_option maxRecDepth 20000 in
theorem ggX12_put_X12_takesKey : GoodIn wsX12_put wsX12_takesKey := goodIn_r _ [14, 7, 15, 16, 17, 18, 19, 5, 20, 8, 9, 10, 111, 112, 113, 114, 115, 116, 117, 118, 119, 120, 121, 122, 123, 124, 125, 126, 127, 128, 129, 130, 131, 132, 133, 134, 135, 136, 137, 138, 139, 140, 141, 142, 143, 144, 145, 146, 147, 148, 149, 150, 151] rfl (by decide +kernel)
set_option maxRecDepth 20000 in
theorem gX12_put_X12_takesKey : GoodIn wsX12_put (wsV RX12 161 RX12 yX12_takesKey wsX12_takesKey) := goodIn_app (goodIn_r _ [11, 12, 13, 5] rfl (by decide +kernel)) ggX12_put_X12_takesKey
set_option maxRecDepth 20000 in
theorem ggX12_put_X12_putsHand : GoodIn wsX12_put wsX12_putsHand := goodIn_r _ [24, 25, 26, 27, 5, 28, 29, 30, 31, 32, 33, 34, 35, 36, 37, 38, 39, 40, 41, 15, 16, 42, 43, 44, 45, 46, 47, 48, 49, 50, 51, 52, 53, 54, 55, 56, 57, 58, 59, 60, 61, 62, 63, 64, 65, 66, 67, 68, 69, 70, 71, 72, 73, 74, 75, 76, 77, 78, 79, 80, 81, 82, 83, 84, 85, 86, 87, 88, 89, 90, 91, 92, 93, 94, 95, 96, 97, 98, 99, 100, 101, 102, 103, 104, 105, 106, 107, 108, 109, 110, 111, 112, 113, 114, 115, 116, 117, 118, 119, 120, 121, 122, 123, 124, 125, 126, 127, 128, 129, 130, 131, 132, 133, 134, 135, 136, 137, 138, 139, 140, 141, 142, 143, 144, 145, 146, 147, 148, 149, 150, 151] rfl (by decide +kernel)
set_option maxRecDepth 20000 in
theorem gX12_put_X12_putsHand : GoodIn wsX12_put (wsV RX12 164 RX12 yX12_putsHand wsX12_putsHand) := goodIn_app (goodIn_r _ [21, 22, 23, 5] rfl (by decide +kernel)) ggX12_put_X12_putsHand
theorem dX12_put_0 : decode cX12_put 0 = .ok (.aload_n 0, 1) := by decide +kernel
theorem dX12_put_1 : decode cX12_put 1 = .ok (.iload_n 1, 1) := by decide +kernel
theorem dX12_put_2 : decode cX12_put 2 = .ok (.invokevirtual 157, 3) := by decide +kernel
theorem dX12_put_5 : decode cX12_put 5 = .ok (.ifCond .eq 13, 3) := by decide +kernel
theorem dX12_put_8 : decode cX12_put 8 = .ok (.iload_n 2, 1) := by decide +kernel
theorem dX12_put_9 : decode cX12_put 9 = .ok (.iconst 0, 1) := by decide +kernel
theorem dX12_put_10 : decode cX12_put 10 = .ok (.ldc 160, 2) := by decide +kernel
theorem dX12_put_12 : decode cX12_put 12 = .ok (.invokestatic 66, 3) := by decide +kernel
theorem dX12_put_15 : decode cX12_put 15 = .ok (.ifCond .ne 5, 3) := by decide +kernel
theorem dX12_put_18 : decode cX12_put 18 = .ok (.iconst (-1), 1) := by decide +kernel
theorem dX12_put_19 : decode cX12_put 19 = .ok (.ireturn, 1) := by decide +kernel
theorem dX12_put_20 : decode cX12_put 20 = .ok (.aload_n 0, 1) := by decide +kernel
theorem dX12_put_21 : decode cX12_put 21 = .ok (.iload_n 1, 1) := by decide +kernel
theorem dX12_put_22 : decode cX12_put 22 = .ok (.invokevirtual 161, 3) := by decide +kernel
theorem dX12_put_25 : decode cX12_put 25 = .ok (.ifCond .ne 6, 3) := by decide +kernel
theorem dX12_put_28 : decode cX12_put 28 = .ok (.bipush (-2), 2) := by decide +kernel
theorem dX12_put_30 : decode cX12_put 30 = .ok (.ireturn, 1) := by decide +kernel
theorem dX12_put_31 : decode cX12_put 31 = .ok (.aload_n 0, 1) := by decide +kernel
theorem dX12_put_32 : decode cX12_put 32 = .ok (.iload_n 2, 1) := by decide +kernel
theorem dX12_put_33 : decode cX12_put 33 = .ok (.invokevirtual 164, 3) := by decide +kernel
theorem dX12_put_36 : decode cX12_put 36 = .ok (.ireturn, 1) := by decide +kernel
set_option maxRecDepth 20000 in
theorem ggX12_putsHand_X12_isHandThere : GoodIn wsX12_putsHand wsX12_isHandThere := goodIn_r _ [5, 6, 7, 8, 4, 9, 10, 11, 12, 13, 14, 15, 16, 17, 18, 19, 20, 21, 22, 23, 24, 25, 26, 27, 28, 90, 91, 92, 93, 94, 95, 96, 97, 98, 99, 100, 101, 102, 103, 104, 105, 106, 107, 108, 109, 110, 111, 112, 113, 114, 115, 116, 117, 118, 119, 120, 121, 122, 123, 124, 125, 126, 127, 128, 129, 130] rfl (by decide +kernel)
set_option maxRecDepth 20000 in
theorem gX12_putsHand_X12_isHandThere : GoodIn wsX12_putsHand (wsV RX12 167 RX12 yX12_isHandThere wsX12_isHandThere) := goodIn_app (goodIn_r _ [1, 2, 3, 4] rfl (by decide +kernel)) ggX12_putsHand_X12_isHandThere
set_option maxRecDepth 20000 in
theorem ggX12_putsHand_X12_rankOfHand : GoodIn wsX12_putsHand wsX12_rankOfHand := goodIn_r _ [9, 10, 11, 12, 4, 13, 14, 15, 16, 17, 18, 19, 20, 21, 22, 23, 24, 25, 26, 27, 28, 90, 91, 92, 93, 94, 95, 96, 97, 98, 99, 100, 101, 102, 103, 104, 105, 106, 107, 108, 109, 110, 111, 112, 113, 114, 115, 116, 117, 118, 119, 120, 121, 122, 123, 124, 125, 126, 127, 128, 129, 130] rfl (by decide +kernel)
set_option maxRecDepth 20000 in
theorem gX12_putsHand_X12_rankOfHand : GoodIn wsX12_putsHand (wsV RX12 81 RX12 yX12_rankOfHand wsX12_rankOfHand) := goodIn_app (goodIn_r _ [6, 7, 8, 4] rfl (by decide +kernel)) ggX12_putsHand_X12_rankOfHand
set_option maxRecDepth 20000 in
theorem ggX12_putsHand_X12_of : GoodIn wsX12_putsHand wsX12_of := goodIn_r _ [24, 14, 90, 91, 92, 93, 94, 95, 96, 97, 98, 99, 100, 101, 102, 103, 104, 105, 106, 107, 108, 109, 110, 111, 112, 113, 114, 115, 116, 117, 118, 119, 120, 121, 122, 123, 124, 125, 126, 127, 128, 129, 130] rfl (by decide +kernel)
set_option maxRecDepth 20000 in
theorem gX12_putsHand_X12_of : GoodIn wsX12_putsHand (wsV RX12 50 RX12 yX12_of wsX12_of) := goodIn_app (goodIn_r _ [21, 22, 23, 4] rfl (by decide +kernel)) ggX12_putsHand_X12_of
set_option maxRecDepth 20000 in
theorem ggX12_putsHand_X12_sets : GoodIn wsX12_putsHand wsX12_sets := goodIn_r _ [32, 14, 90, 91, 92, 93, 94, 95, 96, 97, 98, 99, 100, 101, 102, 103, 104, 105, 106, 107, 108, 109, 110, 111, 112, 113, 114, 115, 116, 117, 118, 119, 120, 121, 122, 123, 124, 125, 126, 127, 128, 129, 130] rfl (by decide +kernel)
set_option maxRecDepth 20000 in
theorem gX12_putsHand_X12_sets : GoodIn wsX12_putsHand (wsV RX12 58 RX12 yX12_sets wsX12_sets) := goodIn_app (goodIn_r _ [29, 30, 31, 4] rfl (by decide +kernel)) ggX12_putsHand_X12_sets
set_option maxRecDepth 20000 in
theorem ggX12_putsHand_X12_many : GoodIn wsX12_putsHand wsX12_many := goodIn_r _ [13, 14, 90, 91, 92, 93, 94, 95, 96, 97, 98, 99, 100, 101, 102, 103, 104, 105, 106, 107, 108, 109, 110, 111, 112, 113, 114, 115, 116, 117, 118, 119, 120, 121, 122, 123, 124, 125, 126, 127, 128, 129, 130] rfl (by decide +kernel)
set_option maxRecDepth 20000 in
theorem gX12_putsHand_X12_many : GoodIn wsX12_putsHand (wsV RX12 62 RX12 yX12_many wsX12_many) := goodIn_app (goodIn_r _ [10, 11, 12, 4] rfl (by decide +kernel)) ggX12_putsHand_X12_many
set_option maxRecDepth 20000 in
theorem ggX12_putsHand_X12_comes : GoodIn wsX12_putsHand wsX12_comes := goodIn_r _ [36, 37, 38, 39, 14, 40, 41, 42, 4, 43, 19, 44, 45, 46, 47, 48, 49, 10, 11, 12, 13, 50, 51, 52, 53, 20, 21, 22, 23, 24, 25, 26, 27, 28, 54, 55, 56, 57, 29, 30, 31, 32, 15, 16, 17, 18, 6, 7, 8, 9, 58, 59, 60, 61, 62, 63, 64, 65, 66, 67, 68, 69, 70, 71, 72, 73, 74, 75, 76, 77, 78, 79, 80, 81, 82, 83, 84, 85, 86, 87, 88, 89, 90, 91, 92, 93, 94, 95, 96, 97, 98, 99, 100, 101, 102, 103, 104, 105, 106, 107, 108, 109, 110, 111, 112, 113, 114, 115, 116, 117, 118, 119, 120, 121, 122, 123, 124, 125, 126, 127, 128, 129, 130] rfl (by decide +kernel)
set_option maxRecDepth 20000 in
theorem gX12_putsHand_X12_comes : GoodIn wsX12_putsHand (wsV RX12 171 RX12 yX12_comes wsX12_comes) := goodIn_app (goodIn_r _ [33, 34, 35, 4] rfl (by decide +kernel)) ggX12_putsHand_X12_comes
theorem dX12_putsHand_0 : decode cX12_putsHand 0 = .ok (.aload_n 0, 1) := by decide +kernel
theorem dX12_putsHand_1 : decode cX12_putsHand 1 = .ok (.invokevirtual 167, 3) := by decide +kernel
theorem dX12_putsHand_4 : decode cX12_putsHand 4 = .ok (.ifCond .eq 24, 3) := by decide +kernel
theorem dX12_putsHand_7 : decode cX12_putsHand 7 = .ok (.aload_n 0, 1) := by decide +kernel
theorem dX12_putsHand_8 : decode cX12_putsHand 8 = .ok (.invokevirtual 81, 3) := by decide +kernel
theorem dX12_putsHand_11 : decode cX12_putsHand 11 = .ok (.istore_n 2, 1) := by decide +kernel
theorem dX12_putsHand_12 : decode cX12_putsHand 12 = .ok (.aload_n 0, 1) := by decide +kernel
theorem dX12_putsHand_13 : decode cX12_putsHand 13 = .ok (.iload_n 2, 1) := by decide +kernel
theorem dX12_putsHand_14 : decode cX12_putsHand 14 = .ok (.iconst 1, 1) := by decide +kernel
theorem dX12_putsHand_15 : decode cX12_putsHand 15 = .ok (.invokevirtual 50, 3) := by decide +kernel
theorem dX12_putsHand_18 : decode cX12_putsHand 18 = .ok (.istore_n 3, 1) := by decide +kernel
theorem dX12_putsHand_19 : decode cX12_putsHand 19 = .ok (.aload_n 0, 1) := by decide +kernel
theorem dX12_putsHand_20 : decode cX12_putsHand 20 = .ok (.iload_n 2, 1) := by decide +kernel
theorem dX12_putsHand_21 : decode cX12_putsHand 21 = .ok (.iconst 1, 1) := by decide +kernel
theorem dX12_putsHand_22 : decode cX12_putsHand 22 = .ok (.iload_n 1, 1) := by decide +kernel
theorem dX12_putsHand_23 : decode cX12_putsHand 23 = .ok (.invokevirtual 58, 3) := by decide +kernel
theorem dX12_putsHand_26 : decode cX12_putsHand 26 = .ok (.iload_n 3, 1) := by decide +kernel
theorem dX12_putsHand_27 : decode cX12_putsHand 27 = .ok (.ireturn, 1) := by decide +kernel
theorem dX12_putsHand_28 : decode cX12_putsHand 28 = .ok (.aload_n 0, 1) := by decide +kernel
theorem dX12_putsHand_29 : decode cX12_putsHand 29 = .ok (.invokevirtual 62, 3) := by decide +kernel
theorem dX12_putsHand_32 : decode cX12_putsHand 32 = .ok (.sipush 150, 3) := by decide +kernel
theorem dX12_putsHand_35 : decode cX12_putsHand 35 = .ok (.if_icmp .ne 6, 3) := by decide +kernel
theorem dX12_putsHand_38 : decode cX12_putsHand 38 = .ok (.bipush (-4), 2) := by decide +kernel
theorem dX12_putsHand_40 : decode cX12_putsHand 40 = .ok (.ireturn, 1) := by decide +kernel
theorem dX12_putsHand_41 : decode cX12_putsHand 41 = .ok (.aload_n 0, 1) := by decide +kernel
theorem dX12_putsHand_42 : decode cX12_putsHand 42 = .ok (.iload_n 1, 1) := by decide +kernel
theorem dX12_putsHand_43 : decode cX12_putsHand 43 = .ok (.invokevirtual 171, 3) := by decide +kernel
theorem dX12_putsHand_46 : decode cX12_putsHand 46 = .ok (.bipush (-3), 2) := by decide +kernel
theorem dX12_putsHand_48 : decode cX12_putsHand 48 = .ok (.ireturn, 1) := by decide +kernel
set_option maxRecDepth 20000 in
theorem ggX12_takesOut_X12_isHandThere : GoodIn wsX12_takesOut wsX12_isHandThere := goodIn_r _ [5, 6, 7, 8, 4, 9, 10, 11, 12, 13, 14, 15, 16, 17, 18, 19, 20, 21, 22, 23, 24, 25, 26, 27, 28, 97, 98, 99, 100, 101, 102, 103, 104, 105, 106, 107, 108, 109, 110, 111, 112, 113, 114, 115, 116, 117, 118, 119, 120, 121, 122, 123, 124, 125, 126, 127, 128, 129, 130, 131, 132, 133, 134, 135, 136, 137] rfl (by decide +kernel)
set_option maxRecDepth 20000 in
theorem gX12_takesOut_X12_isHandThere : GoodIn wsX12_takesOut (wsV RX12 167 RX12 yX12_isHandThere wsX12_isHandThere) := goodIn_app (goodIn_r _ [1, 2, 3, 4] rfl (by decide +kernel)) ggX12_takesOut_X12_isHandThere
set_option maxRecDepth 20000 in
theorem ggX12_takesOut_X12_rankOfHand : GoodIn wsX12_takesOut wsX12_rankOfHand := goodIn_r _ [9, 10, 11, 12, 4, 13, 14, 15, 16, 17, 18, 19, 20, 21, 22, 23, 24, 25, 26, 27, 28, 97, 98, 99, 100, 101, 102, 103, 104, 105, 106, 107, 108, 109, 110, 111, 112, 113, 114, 115, 116, 117, 118, 119, 120, 121, 122, 123, 124, 125, 126, 127, 128, 129, 130, 131, 132, 133, 134, 135, 136, 137] rfl (by decide +kernel)
set_option maxRecDepth 20000 in
theorem gX12_takesOut_X12_rankOfHand : GoodIn wsX12_takesOut (wsV RX12 81 RX12 yX12_rankOfHand wsX12_rankOfHand) := goodIn_app (goodIn_r _ [6, 7, 8, 4] rfl (by decide +kernel)) ggX12_takesOut_X12_rankOfHand
set_option maxRecDepth 20000 in
theorem ggX12_takesOut_X12_of : GoodIn wsX12_takesOut wsX12_of := goodIn_r _ [24, 14, 97, 98, 99, 100, 101, 102, 103, 104, 105, 106, 107, 108, 109, 110, 111, 112, 113, 114, 115, 116, 117, 118, 119, 120, 121, 122, 123, 124, 125, 126, 127, 128, 129, 130, 131, 132, 133, 134, 135, 136, 137] rfl (by decide +kernel)
set_option maxRecDepth 20000 in
theorem gX12_takesOut_X12_of : GoodIn wsX12_takesOut (wsV RX12 50 RX12 yX12_of wsX12_of) := goodIn_app (goodIn_r _ [21, 22, 23, 4] rfl (by decide +kernel)) ggX12_takesOut_X12_of
set_option maxRecDepth 20000 in
theorem ggX12_takesOut_X12_goes : GoodIn wsX12_takesOut wsX12_goes := goodIn_r _ [32, 14, 33, 34, 35, 36, 37, 4, 38, 19, 39, 40, 41, 42, 20, 21, 22, 23, 24, 25, 26, 27, 28, 43, 44, 45, 46, 10, 11, 12, 13, 47, 48, 49, 50, 51, 52, 53, 54, 55, 56, 57, 58, 59, 60, 61, 62, 63, 64, 65, 66, 67, 68, 69, 70, 71, 72, 73, 74, 75, 76, 77, 78, 79, 80, 81, 82, 83, 84, 85, 86, 87, 88, 89, 90, 91, 92, 93, 94, 95, 96, 97, 98, 99, 100, 101, 102, 103, 104, 105, 106, 107, 108, 109, 110, 111, 112, 113, 114, 115, 116, 117, 118, 119, 120, 121, 122, 123, 124, 125, 126, 127, 128, 129, 130, 131, 132, 133, 134, 135, 136, 137] rfl (by decide +kernel)
set_option maxRecDepth 20000 in
theorem gX12_takesOut_X12_goes : GoodIn wsX12_takesOut (wsV RX12 174 RX12 yX12_goes wsX12_goes) := goodIn_app (goodIn_r _ [29, 30, 31, 4] rfl (by decide +kernel)) ggX12_takesOut_X12_goes
theorem dX12_takesOut_0 : decode cX12_takesOut 0 = .ok (.aload_n 0, 1) := by decide +kernel
theorem dX12_takesOut_1 : decode cX12_takesOut 1 = .ok (.invokevirtual 167, 3) := by decide +kernel
theorem dX12_takesOut_4 : decode cX12_takesOut 4 = .ok (.ifCond .ne 6, 3) := by decide +kernel
theorem dX12_takesOut_7 : decode cX12_takesOut 7 = .ok (.bipush (-3), 2) := by decide +kernel
theorem dX12_takesOut_9 : decode cX12_takesOut 9 = .ok (.ireturn, 1) := by decide +kernel
theorem dX12_takesOut_10 : decode cX12_takesOut 10 = .ok (.aload_n 0, 1) := by decide +kernel
theorem dX12_takesOut_11 : decode cX12_takesOut 11 = .ok (.invokevirtual 81, 3) := by decide +kernel
theorem dX12_takesOut_14 : decode cX12_takesOut 14 = .ok (.istore_n 1, 1) := by decide +kernel
theorem dX12_takesOut_15 : decode cX12_takesOut 15 = .ok (.aload_n 0, 1) := by decide +kernel
theorem dX12_takesOut_16 : decode cX12_takesOut 16 = .ok (.iload_n 1, 1) := by decide +kernel
theorem dX12_takesOut_17 : decode cX12_takesOut 17 = .ok (.iconst 1, 1) := by decide +kernel
theorem dX12_takesOut_18 : decode cX12_takesOut 18 = .ok (.invokevirtual 50, 3) := by decide +kernel
theorem dX12_takesOut_21 : decode cX12_takesOut 21 = .ok (.istore_n 2, 1) := by decide +kernel
theorem dX12_takesOut_22 : decode cX12_takesOut 22 = .ok (.aload_n 0, 1) := by decide +kernel
theorem dX12_takesOut_23 : decode cX12_takesOut 23 = .ok (.iload_n 1, 1) := by decide +kernel
theorem dX12_takesOut_24 : decode cX12_takesOut 24 = .ok (.invokevirtual 174, 3) := by decide +kernel
theorem dX12_takesOut_27 : decode cX12_takesOut 27 = .ok (.iload_n 2, 1) := by decide +kernel
theorem dX12_takesOut_28 : decode cX12_takesOut 28 = .ok (.ireturn, 1) := by decide +kernel
set_option maxRecDepth 20000 in
theorem ggX12_take_X12_isLong : GoodIn wsX12_take wsX12_isLong := goodIn_r _ [5, 6, 7, 8, 4, 9, 117, 118, 119, 120, 121, 122, 123, 124, 125, 126, 127, 128, 129, 130, 131, 132, 133, 134, 135, 136, 137, 138, 139, 140, 141, 142, 143, 144, 145, 146, 147, 148, 149, 150, 151, 152, 153, 154, 155, 156, 157] rfl (by decide +kernel)
set_option maxRecDepth 20000 in
theorem gX12_take_X12_isLong : GoodIn wsX12_take (wsV RX12 157 RX12 yX12_isLong wsX12_isLong) := goodIn_app (goodIn_r _ [1, 2, 3, 4] rfl (by decide +kernel)) ggX12_take_X12_isLong
set_option maxRecDepth 20000 in
theorem ggX12_take_X12_takesKey : GoodIn wsX12_take wsX12_takesKey := goodIn_r _ [13, 6, 14, 15, 16, 17, 18, 4, 19, 7, 8, 9, 117, 118, 119, 120, 121, 122, 123, 124, 125, 126, 127, 128, 129, 130, 131, 132, 133, 134, 135, 136, 137, 138, 139, 140, 141, 142, 143, 144, 145, 146, 147, 148, 149, 150, 151, 152, 153, 154, 155, 156, 157] rfl (by decide +kernel)
set_option maxRecDepth 20000 in
theorem gX12_take_X12_takesKey : GoodIn wsX12_take (wsV RX12 161 RX12 yX12_takesKey wsX12_takesKey) := goodIn_app (goodIn_r _ [10, 11, 12, 4] rfl (by decide +kernel)) ggX12_take_X12_takesKey
set_option maxRecDepth 20000 in
theorem ggX12_take_X12_takesOut : GoodIn wsX12_take wsX12_takesOut := goodIn_r _ [23, 24, 25, 26, 4, 27, 28, 29, 30, 31, 32, 33, 34, 35, 36, 37, 38, 39, 40, 14, 15, 41, 42, 43, 44, 45, 46, 47, 48, 49, 50, 51, 52, 53, 54, 55, 56, 57, 58, 59, 60, 61, 62, 63, 64, 65, 66, 67, 68, 69, 70, 71, 72, 73, 74, 75, 76, 77, 78, 79, 80, 81, 82, 83, 84, 85, 86, 87, 88, 89, 90, 91, 92, 93, 94, 95, 96, 97, 98, 99, 100, 101, 102, 103, 104, 105, 106, 107, 108, 109, 110, 111, 112, 113, 114, 115, 116, 117, 118, 119, 120, 121, 122, 123, 124, 125, 126, 127, 128, 129, 130, 131, 132, 133, 134, 135, 136, 137, 138, 139, 140, 141, 142, 143, 144, 145, 146, 147, 148, 149, 150, 151, 152, 153, 154, 155, 156, 157] rfl (by decide +kernel)
set_option maxRecDepth 20000 in
theorem gX12_take_X12_takesOut : GoodIn wsX12_take (wsV RX12 177 RX12 yX12_takesOut wsX12_takesOut) := goodIn_app (goodIn_r _ [20, 21, 22, 4] rfl (by decide +kernel)) ggX12_take_X12_takesOut
theorem dX12_take_0 : decode cX12_take 0 = .ok (.aload_n 0, 1) := by decide +kernel
theorem dX12_take_1 : decode cX12_take 1 = .ok (.iload_n 1, 1) := by decide +kernel
theorem dX12_take_2 : decode cX12_take 2 = .ok (.invokevirtual 157, 3) := by decide +kernel
theorem dX12_take_5 : decode cX12_take 5 = .ok (.ifCond .ne 5, 3) := by decide +kernel
theorem dX12_take_8 : decode cX12_take 8 = .ok (.iconst (-1), 1) := by decide +kernel
theorem dX12_take_9 : decode cX12_take 9 = .ok (.ireturn, 1) := by decide +kernel
theorem dX12_take_10 : decode cX12_take 10 = .ok (.aload_n 0, 1) := by decide +kernel
theorem dX12_take_11 : decode cX12_take 11 = .ok (.iload_n 1, 1) := by decide +kernel
theorem dX12_take_12 : decode cX12_take 12 = .ok (.invokevirtual 161, 3) := by decide +kernel
theorem dX12_take_15 : decode cX12_take 15 = .ok (.ifCond .eq 10, 3) := by decide +kernel
theorem dX12_take_18 : decode cX12_take 18 = .ok (.aload_n 0, 1) := by decide +kernel
theorem dX12_take_19 : decode cX12_take 19 = .ok (.invokevirtual 177, 3) := by decide +kernel
theorem dX12_take_22 : decode cX12_take 22 = .ok (.goto 5, 3) := by decide +kernel
theorem dX12_take_25 : decode cX12_take 25 = .ok (.bipush (-2), 2) := by decide +kernel
theorem dX12_take_27 : decode cX12_take 27 = .ok (.ireturn, 1) := by decide +kernel
theorem dX12_here_0 : decode cX12_here 0 = .ok (.aload_n 0, 1) := by decide +kernel
theorem dX12_here_1 : decode cX12_here 1 = .ok (.getfield 180, 3) := by decide +kernel
theorem dX12_here_4 : decode cX12_here 4 = .ok (.aload_n 0, 1) := by decide +kernel
theorem dX12_here_5 : decode cX12_here 5 = .ok (.getfield 183, 3) := by decide +kernel
theorem dX12_here_8 : decode cX12_here 8 = .ok (.if_icmp .ge 19, 3) := by decide +kernel
theorem dX12_here_11 : decode cX12_here 11 = .ok (.aload_n 0, 1) := by decide +kernel
theorem dX12_here_12 : decode cX12_here 12 = .ok (.getfield 22, 3) := by decide +kernel
theorem dX12_here_15 : decode cX12_here 15 = .ok (.aload_n 0, 1) := by decide +kernel
theorem dX12_here_16 : decode cX12_here 16 = .ok (.getfield 180, 3) := by decide +kernel
theorem dX12_here_19 : decode cX12_here 19 = .ok (.baload, 1) := by decide +kernel
theorem dX12_here_20 : decode cX12_here 20 = .ok (.sipush 255, 3) := by decide +kernel
theorem dX12_here_23 : decode cX12_here 23 = .ok (.iand, 1) := by decide +kernel
theorem dX12_here_24 : decode cX12_here 24 = .ok (.goto 4, 3) := by decide +kernel
theorem dX12_here_27 : decode cX12_here 27 = .ok (.iconst (-1), 1) := by decide +kernel
theorem dX12_here_28 : decode cX12_here 28 = .ok (.ireturn, 1) := by decide +kernel
theorem dX12_wrongAt_0 : decode cX12_wrongAt 0 = .ok (.aload_n 0, 1) := by decide +kernel
theorem dX12_wrongAt_1 : decode cX12_wrongAt 1 = .ok (.sipush (-1000), 3) := by decide +kernel
theorem dX12_wrongAt_4 : decode cX12_wrongAt 4 = .ok (.iload_n 1, 1) := by decide +kernel
theorem dX12_wrongAt_5 : decode cX12_wrongAt 5 = .ok (.imul, 1) := by decide +kernel
theorem dX12_wrongAt_6 : decode cX12_wrongAt 6 = .ok (.iload_n 2, 1) := by decide +kernel
theorem dX12_wrongAt_7 : decode cX12_wrongAt 7 = .ok (.isub, 1) := by decide +kernel
theorem dX12_wrongAt_8 : decode cX12_wrongAt 8 = .ok (.putfield 186, 3) := by decide +kernel
theorem dX12_wrongAt_11 : decode cX12_wrongAt 11 = .ok (.iconst 0, 1) := by decide +kernel
theorem dX12_wrongAt_12 : decode cX12_wrongAt 12 = .ok (.ireturn, 1) := by decide +kernel
set_option maxRecDepth 20000 in
theorem ggX12_takesSign_X12_here : GoodIn wsX12_takesSign wsX12_here := goodIn_r _ [6, 1, 7, 8, 14, 15, 16, 17, 18, 19, 20, 21, 22, 23, 24, 25, 26, 27, 28, 29, 30, 31, 32, 33, 34, 35, 36, 37, 38, 39, 40, 41, 42, 43, 44, 45, 46, 47, 48, 49, 50, 51, 52, 53, 54] rfl (by decide +kernel)
set_option maxRecDepth 20000 in
theorem gX12_takesSign_X12_here : GoodIn wsX12_takesSign (wsV RX12 189 RX12 yX12_here wsX12_here) := goodIn_app (goodIn_r _ [2, 3, 4, 5] rfl (by decide +kernel)) ggX12_takesSign_X12_here
set_option maxRecDepth 20000 in
theorem ggX12_takesSign_X12_wrongAt : GoodIn wsX12_takesSign wsX12_wrongAt := goodIn_r _ [12, 13, 14, 15, 16, 17, 18, 19, 20, 21, 22, 23, 24, 25, 26, 27, 28, 29, 30, 31, 32, 33, 34, 35, 36, 37, 38, 39, 40, 41, 42, 43, 44, 45, 46, 47, 48, 49, 50, 51, 52, 53, 54] rfl (by decide +kernel)
set_option maxRecDepth 20000 in
theorem gX12_takesSign_X12_wrongAt : GoodIn wsX12_takesSign (wsV RX12 192 RX12 yX12_wrongAt wsX12_wrongAt) := goodIn_app (goodIn_r _ [9, 10, 11, 5] rfl (by decide +kernel)) ggX12_takesSign_X12_wrongAt
theorem dX12_takesSign_0 : decode cX12_takesSign 0 = .ok (.aload_n 0, 1) := by decide +kernel
theorem dX12_takesSign_1 : decode cX12_takesSign 1 = .ok (.invokevirtual 189, 3) := by decide +kernel
theorem dX12_takesSign_4 : decode cX12_takesSign 4 = .ok (.iload_n 1, 1) := by decide +kernel
theorem dX12_takesSign_5 : decode cX12_takesSign 5 = .ok (.if_icmp .eq 13, 3) := by decide +kernel
theorem dX12_takesSign_8 : decode cX12_takesSign 8 = .ok (.aload_n 0, 1) := by decide +kernel
theorem dX12_takesSign_9 : decode cX12_takesSign 9 = .ok (.iconst 1, 1) := by decide +kernel
theorem dX12_takesSign_10 : decode cX12_takesSign 10 = .ok (.aload_n 0, 1) := by decide +kernel
theorem dX12_takesSign_11 : decode cX12_takesSign 11 = .ok (.getfield 180, 3) := by decide +kernel
theorem dX12_takesSign_14 : decode cX12_takesSign 14 = .ok (.invokevirtual 192, 3) := by decide +kernel
theorem dX12_takesSign_17 : decode cX12_takesSign 17 = .ok (.ireturn, 1) := by decide +kernel
theorem dX12_takesSign_18 : decode cX12_takesSign 18 = .ok (.aload_n 0, 1) := by decide +kernel
theorem dX12_takesSign_19 : decode cX12_takesSign 19 = .ok (.aload_n 0, 1) := by decide +kernel
theorem dX12_takesSign_20 : decode cX12_takesSign 20 = .ok (.getfield 180, 3) := by decide +kernel
theorem dX12_takesSign_23 : decode cX12_takesSign 23 = .ok (.iconst 1, 1) := by decide +kernel
theorem dX12_takesSign_24 : decode cX12_takesSign 24 = .ok (.iadd, 1) := by decide +kernel
theorem dX12_takesSign_25 : decode cX12_takesSign 25 = .ok (.putfield 180, 3) := by decide +kernel
theorem dX12_takesSign_28 : decode cX12_takesSign 28 = .ok (.iconst 1, 1) := by decide +kernel
theorem dX12_takesSign_29 : decode cX12_takesSign 29 = .ok (.ireturn, 1) := by decide +kernel
set_option maxRecDepth 20000 in
theorem ggX12_readsNumber_X12_here : GoodIn wsX12_readsNumber wsX12_here := goodIn_r _ [7, 1, 8, 9, 18, 19, 20, 21, 22, 23, 24, 25, 26, 27, 28, 29, 30, 31, 32, 33, 34, 35, 36, 37, 38, 39, 40, 41, 42, 43, 44, 45, 46, 47, 48, 49, 50, 51, 52, 53, 54, 55, 56, 57, 58] rfl (by decide +kernel)
set_option maxRecDepth 20000 in
theorem gX12_readsNumber_X12_here : GoodIn wsX12_readsNumber (wsV RX12 189 RX12 yX12_here wsX12_here) := goodIn_app (goodIn_r _ [3, 4, 5, 6] rfl (by decide +kernel)) ggX12_readsNumber_X12_here
set_option maxRecDepth 20000 in
theorem ggX12_readsNumber_X12_in : GoodIn wsX12_readsNumber wsX12_in := goodIn_r _ [12] rfl (by decide +kernel)
set_option maxRecDepth 20000 in
theorem gX12_readsNumber_X12_in : GoodIn wsX12_readsNumber (va_wsS RX12 66 yX12_in wsX12_in) := goodIn_app (goodIn_r _ [10, 11, 6] rfl (by decide +kernel)) ggX12_readsNumber_X12_in
set_option maxRecDepth 20000 in
theorem ggX12_readsNumber_X12_wrongAt : GoodIn wsX12_readsNumber wsX12_wrongAt := goodIn_r _ [16, 17, 18, 19, 20, 21, 22, 23, 24, 25, 26, 27, 28, 29, 30, 31, 32, 33, 34, 35, 36, 37, 38, 39, 40, 41, 42, 43, 44, 45, 46, 47, 48, 49, 50, 51, 52, 53, 54, 55, 56, 57, 58] rfl (by decide +kernel)
set_option maxRecDepth 20000 in
theorem gX12_readsNumber_X12_wrongAt : GoodIn wsX12_readsNumber (wsV RX12 192 RX12 yX12_wrongAt wsX12_wrongAt) := goodIn_app (goodIn_r _ [13, 14, 15, 6] rfl (by decide +kernel)) ggX12_readsNumber_X12_wrongAt
theorem dX12_readsNumber_0 : decode cX12_readsNumber 0 = .ok (.aload_n 0, 1) := by decide +kernel
theorem dX12_readsNumber_1 : decode cX12_readsNumber 1 = .ok (.getfield 180, 3) := by decide +kernel
theorem dX12_readsNumber_4 : decode cX12_readsNumber 4 = .ok (.istore_n 1, 1) := by decide +kernel
theorem dX12_readsNumber_5 : decode cX12_readsNumber 5 = .ok (.aload_n 0, 1) := by decide +kernel
theorem dX12_readsNumber_6 : decode cX12_readsNumber 6 = .ok (.invokevirtual 189, 3) := by decide +kernel
theorem dX12_readsNumber_9 : decode cX12_readsNumber 9 = .ok (.bipush 48, 2) := by decide +kernel
theorem dX12_readsNumber_11 : decode cX12_readsNumber 11 = .ok (.bipush 57, 2) := by decide +kernel
theorem dX12_readsNumber_13 : decode cX12_readsNumber 13 = .ok (.invokestatic 66, 3) := by decide +kernel
theorem dX12_readsNumber_16 : decode cX12_readsNumber 16 = .ok (.ifCond .ne 13, 3) := by decide +kernel
theorem dX12_readsNumber_19 : decode cX12_readsNumber 19 = .ok (.aload_n 0, 1) := by decide +kernel
theorem dX12_readsNumber_20 : decode cX12_readsNumber 20 = .ok (.iconst 1, 1) := by decide +kernel
theorem dX12_readsNumber_21 : decode cX12_readsNumber 21 = .ok (.aload_n 0, 1) := by decide +kernel
theorem dX12_readsNumber_22 : decode cX12_readsNumber 22 = .ok (.getfield 180, 3) := by decide +kernel
theorem dX12_readsNumber_25 : decode cX12_readsNumber 25 = .ok (.invokevirtual 192, 3) := by decide +kernel
theorem dX12_readsNumber_28 : decode cX12_readsNumber 28 = .ok (.ireturn, 1) := by decide +kernel
theorem dX12_readsNumber_29 : decode cX12_readsNumber 29 = .ok (.aload_n 0, 1) := by decide +kernel
theorem dX12_readsNumber_30 : decode cX12_readsNumber 30 = .ok (.iconst 0, 1) := by decide +kernel
theorem dX12_readsNumber_31 : decode cX12_readsNumber 31 = .ok (.putfield 195, 3) := by decide +kernel
theorem dX12_readsNumber_34 : decode cX12_readsNumber 34 = .ok (.aload_n 0, 1) := by decide +kernel
theorem dX12_readsNumber_35 : decode cX12_readsNumber 35 = .ok (.invokevirtual 189, 3) := by decide +kernel
theorem dX12_readsNumber_38 : decode cX12_readsNumber 38 = .ok (.bipush 48, 2) := by decide +kernel
theorem dX12_readsNumber_40 : decode cX12_readsNumber 40 = .ok (.bipush 57, 2) := by decide +kernel
theorem dX12_readsNumber_42 : decode cX12_readsNumber 42 = .ok (.invokestatic 66, 3) := by decide +kernel
theorem dX12_readsNumber_45 : decode cX12_readsNumber 45 = .ok (.ifCond .eq 55, 3) := by decide +kernel
theorem dX12_readsNumber_48 : decode cX12_readsNumber 48 = .ok (.aload_n 0, 1) := by decide +kernel
theorem dX12_readsNumber_49 : decode cX12_readsNumber 49 = .ok (.getfield 180, 3) := by decide +kernel
theorem dX12_readsNumber_52 : decode cX12_readsNumber 52 = .ok (.iload_n 1, 1) := by decide +kernel
theorem dX12_readsNumber_53 : decode cX12_readsNumber 53 = .ok (.iconst 5, 1) := by decide +kernel
theorem dX12_readsNumber_54 : decode cX12_readsNumber 54 = .ok (.iadd, 1) := by decide +kernel
theorem dX12_readsNumber_55 : decode cX12_readsNumber 55 = .ok (.if_icmp .ne 13, 3) := by decide +kernel
theorem dX12_readsNumber_58 : decode cX12_readsNumber 58 = .ok (.aload_n 0, 1) := by decide +kernel
theorem dX12_readsNumber_59 : decode cX12_readsNumber 59 = .ok (.iconst 2, 1) := by decide +kernel
theorem dX12_readsNumber_60 : decode cX12_readsNumber 60 = .ok (.aload_n 0, 1) := by decide +kernel
theorem dX12_readsNumber_61 : decode cX12_readsNumber 61 = .ok (.getfield 180, 3) := by decide +kernel
theorem dX12_readsNumber_64 : decode cX12_readsNumber 64 = .ok (.invokevirtual 192, 3) := by decide +kernel
theorem dX12_readsNumber_67 : decode cX12_readsNumber 67 = .ok (.ireturn, 1) := by decide +kernel
theorem dX12_readsNumber_68 : decode cX12_readsNumber 68 = .ok (.aload_n 0, 1) := by decide +kernel
theorem dX12_readsNumber_69 : decode cX12_readsNumber 69 = .ok (.bipush 10, 2) := by decide +kernel
theorem dX12_readsNumber_71 : decode cX12_readsNumber 71 = .ok (.aload_n 0, 1) := by decide +kernel
theorem dX12_readsNumber_72 : decode cX12_readsNumber 72 = .ok (.getfield 195, 3) := by decide +kernel
theorem dX12_readsNumber_75 : decode cX12_readsNumber 75 = .ok (.imul, 1) := by decide +kernel
theorem dX12_readsNumber_76 : decode cX12_readsNumber 76 = .ok (.aload_n 0, 1) := by decide +kernel
theorem dX12_readsNumber_77 : decode cX12_readsNumber 77 = .ok (.invokevirtual 189, 3) := by decide +kernel
theorem dX12_readsNumber_80 : decode cX12_readsNumber 80 = .ok (.iadd, 1) := by decide +kernel
theorem dX12_readsNumber_81 : decode cX12_readsNumber 81 = .ok (.bipush 48, 2) := by decide +kernel
theorem dX12_readsNumber_83 : decode cX12_readsNumber 83 = .ok (.isub, 1) := by decide +kernel
theorem dX12_readsNumber_84 : decode cX12_readsNumber 84 = .ok (.putfield 195, 3) := by decide +kernel
theorem dX12_readsNumber_87 : decode cX12_readsNumber 87 = .ok (.aload_n 0, 1) := by decide +kernel
theorem dX12_readsNumber_88 : decode cX12_readsNumber 88 = .ok (.aload_n 0, 1) := by decide +kernel
theorem dX12_readsNumber_89 : decode cX12_readsNumber 89 = .ok (.getfield 180, 3) := by decide +kernel
theorem dX12_readsNumber_92 : decode cX12_readsNumber 92 = .ok (.iconst 1, 1) := by decide +kernel
theorem dX12_readsNumber_93 : decode cX12_readsNumber 93 = .ok (.iadd, 1) := by decide +kernel
theorem dX12_readsNumber_94 : decode cX12_readsNumber 94 = .ok (.putfield 180, 3) := by decide +kernel
theorem dX12_readsNumber_97 : decode cX12_readsNumber 97 = .ok (.goto (-63), 3) := by decide +kernel
theorem dX12_readsNumber_100 : decode cX12_readsNumber 100 = .ok (.iconst 1, 1) := by decide +kernel
theorem dX12_readsNumber_101 : decode cX12_readsNumber 101 = .ok (.ireturn, 1) := by decide +kernel
set_option maxRecDepth 20000 in
theorem ggX12_readsKey_X12_here : GoodIn wsX12_readsKey wsX12_here := goodIn_r _ [8, 1, 9, 10, 22, 23, 24, 25, 26, 27, 28, 29, 30, 31, 32, 33, 34, 35, 36, 37, 38, 39, 40, 41, 42, 43, 44, 45, 46, 47, 48, 49, 50, 51, 52, 53, 54, 55, 56, 57, 58, 59, 60, 61, 62] rfl (by decide +kernel)
set_option maxRecDepth 20000 in
theorem gX12_readsKey_X12_here : GoodIn wsX12_readsKey (wsV RX12 189 RX12 yX12_here wsX12_here) := goodIn_app (goodIn_r _ [4, 5, 6, 7] rfl (by decide +kernel)) ggX12_readsKey_X12_here
set_option maxRecDepth 20000 in
theorem ggX12_readsKey_X12_isByte : GoodIn wsX12_readsKey wsX12_isByte := goodIn_r _ [13, 14, 15, 7, 16] rfl (by decide +kernel)
set_option maxRecDepth 20000 in
theorem gX12_readsKey_X12_isByte : GoodIn wsX12_readsKey (va_wsS RX12 153 yX12_isByte wsX12_isByte) := goodIn_app (goodIn_r _ [11, 12, 7] rfl (by decide +kernel)) ggX12_readsKey_X12_isByte
set_option maxRecDepth 20000 in
theorem ggX12_readsKey_X12_wrongAt : GoodIn wsX12_readsKey wsX12_wrongAt := goodIn_r _ [20, 21, 22, 23, 24, 25, 26, 27, 28, 29, 30, 31, 32, 33, 34, 35, 36, 37, 38, 39, 40, 41, 42, 43, 44, 45, 46, 47, 48, 49, 50, 51, 52, 53, 54, 55, 56, 57, 58, 59, 60, 61, 62] rfl (by decide +kernel)
set_option maxRecDepth 20000 in
theorem gX12_readsKey_X12_wrongAt : GoodIn wsX12_readsKey (wsV RX12 192 RX12 yX12_wrongAt wsX12_wrongAt) := goodIn_app (goodIn_r _ [17, 18, 19, 7] rfl (by decide +kernel)) ggX12_readsKey_X12_wrongAt
theorem dX12_readsKey_0 : decode cX12_readsKey 0 = .ok (.aload_n 0, 1) := by decide +kernel
theorem dX12_readsKey_1 : decode cX12_readsKey 1 = .ok (.aload_n 0, 1) := by decide +kernel
theorem dX12_readsKey_2 : decode cX12_readsKey 2 = .ok (.getfield 180, 3) := by decide +kernel
theorem dX12_readsKey_5 : decode cX12_readsKey 5 = .ok (.putfield 198, 3) := by decide +kernel
theorem dX12_readsKey_8 : decode cX12_readsKey 8 = .ok (.aload_n 0, 1) := by decide +kernel
theorem dX12_readsKey_9 : decode cX12_readsKey 9 = .ok (.invokevirtual 189, 3) := by decide +kernel
theorem dX12_readsKey_12 : decode cX12_readsKey 12 = .ok (.invokestatic 153, 3) := by decide +kernel
theorem dX12_readsKey_15 : decode cX12_readsKey 15 = .ok (.ifCond .ne 13, 3) := by decide +kernel
theorem dX12_readsKey_18 : decode cX12_readsKey 18 = .ok (.aload_n 0, 1) := by decide +kernel
theorem dX12_readsKey_19 : decode cX12_readsKey 19 = .ok (.iconst 1, 1) := by decide +kernel
theorem dX12_readsKey_20 : decode cX12_readsKey 20 = .ok (.aload_n 0, 1) := by decide +kernel
theorem dX12_readsKey_21 : decode cX12_readsKey 21 = .ok (.getfield 180, 3) := by decide +kernel
theorem dX12_readsKey_24 : decode cX12_readsKey 24 = .ok (.invokevirtual 192, 3) := by decide +kernel
theorem dX12_readsKey_27 : decode cX12_readsKey 27 = .ok (.ireturn, 1) := by decide +kernel
theorem dX12_readsKey_28 : decode cX12_readsKey 28 = .ok (.aload_n 0, 1) := by decide +kernel
theorem dX12_readsKey_29 : decode cX12_readsKey 29 = .ok (.invokevirtual 189, 3) := by decide +kernel
theorem dX12_readsKey_32 : decode cX12_readsKey 32 = .ok (.invokestatic 153, 3) := by decide +kernel
theorem dX12_readsKey_35 : decode cX12_readsKey 35 = .ok (.ifCond .eq 40, 3) := by decide +kernel
theorem dX12_readsKey_38 : decode cX12_readsKey 38 = .ok (.aload_n 0, 1) := by decide +kernel
theorem dX12_readsKey_39 : decode cX12_readsKey 39 = .ok (.getfield 180, 3) := by decide +kernel
theorem dX12_readsKey_42 : decode cX12_readsKey 42 = .ok (.aload_n 0, 1) := by decide +kernel
theorem dX12_readsKey_43 : decode cX12_readsKey 43 = .ok (.getfield 198, 3) := by decide +kernel
theorem dX12_readsKey_46 : decode cX12_readsKey 46 = .ok (.bipush 24, 2) := by decide +kernel
theorem dX12_readsKey_48 : decode cX12_readsKey 48 = .ok (.iadd, 1) := by decide +kernel
theorem dX12_readsKey_49 : decode cX12_readsKey 49 = .ok (.if_icmp .ne 13, 3) := by decide +kernel
theorem dX12_readsKey_52 : decode cX12_readsKey 52 = .ok (.aload_n 0, 1) := by decide +kernel
theorem dX12_readsKey_53 : decode cX12_readsKey 53 = .ok (.iconst 5, 1) := by decide +kernel
theorem dX12_readsKey_54 : decode cX12_readsKey 54 = .ok (.aload_n 0, 1) := by decide +kernel
theorem dX12_readsKey_55 : decode cX12_readsKey 55 = .ok (.getfield 180, 3) := by decide +kernel
theorem dX12_readsKey_58 : decode cX12_readsKey 58 = .ok (.invokevirtual 192, 3) := by decide +kernel
theorem dX12_readsKey_61 : decode cX12_readsKey 61 = .ok (.ireturn, 1) := by decide +kernel
theorem dX12_readsKey_62 : decode cX12_readsKey 62 = .ok (.aload_n 0, 1) := by decide +kernel
theorem dX12_readsKey_63 : decode cX12_readsKey 63 = .ok (.aload_n 0, 1) := by decide +kernel
theorem dX12_readsKey_64 : decode cX12_readsKey 64 = .ok (.getfield 180, 3) := by decide +kernel
theorem dX12_readsKey_67 : decode cX12_readsKey 67 = .ok (.iconst 1, 1) := by decide +kernel
theorem dX12_readsKey_68 : decode cX12_readsKey 68 = .ok (.iadd, 1) := by decide +kernel
theorem dX12_readsKey_69 : decode cX12_readsKey 69 = .ok (.putfield 180, 3) := by decide +kernel
theorem dX12_readsKey_72 : decode cX12_readsKey 72 = .ok (.goto (-44), 3) := by decide +kernel
theorem dX12_readsKey_75 : decode cX12_readsKey 75 = .ok (.aload_n 0, 1) := by decide +kernel
theorem dX12_readsKey_76 : decode cX12_readsKey 76 = .ok (.aload_n 0, 1) := by decide +kernel
theorem dX12_readsKey_77 : decode cX12_readsKey 77 = .ok (.getfield 180, 3) := by decide +kernel
theorem dX12_readsKey_80 : decode cX12_readsKey 80 = .ok (.aload_n 0, 1) := by decide +kernel
theorem dX12_readsKey_81 : decode cX12_readsKey 81 = .ok (.getfield 198, 3) := by decide +kernel
theorem dX12_readsKey_84 : decode cX12_readsKey 84 = .ok (.isub, 1) := by decide +kernel
theorem dX12_readsKey_85 : decode cX12_readsKey 85 = .ok (.putfield 201, 3) := by decide +kernel
theorem dX12_readsKey_88 : decode cX12_readsKey 88 = .ok (.iconst 1, 1) := by decide +kernel
theorem dX12_readsKey_89 : decode cX12_readsKey 89 = .ok (.ireturn, 1) := by decide +kernel
set_option maxRecDepth 20000 in
theorem ggX12_readsItem_X12_wrongAt : GoodIn wsX12_readsItem wsX12_wrongAt := goodIn_r _ [16, 17, 42, 43, 44, 45, 46, 47, 48, 49, 50, 51, 52, 53, 54, 55, 56, 57, 58, 59, 60, 61, 62, 63, 64, 65, 66, 67, 68, 69, 70, 71, 72, 73, 74, 75, 76, 77, 78, 79, 80, 81, 82] rfl (by decide +kernel)
set_option maxRecDepth 20000 in
theorem gX12_readsItem_X12_wrongAt : GoodIn wsX12_readsItem (wsV RX12 192 RX12 yX12_wrongAt wsX12_wrongAt) := goodIn_app (goodIn_r _ [12, 13, 14, 15] rfl (by decide +kernel)) ggX12_readsItem_X12_wrongAt
set_option maxRecDepth 20000 in
theorem ggX12_readsItem_X12_here : GoodIn wsX12_readsItem wsX12_here := goodIn_r _ [21, 2, 22, 23, 42, 43, 44, 45, 46, 47, 48, 49, 50, 51, 52, 53, 54, 55, 56, 57, 58, 59, 60, 61, 62, 63, 64, 65, 66, 67, 68, 69, 70, 71, 72, 73, 74, 75, 76, 77, 78, 79, 80, 81, 82] rfl (by decide +kernel)
set_option maxRecDepth 20000 in
theorem gX12_readsItem_X12_here : GoodIn wsX12_readsItem (wsV RX12 189 RX12 yX12_here wsX12_here) := goodIn_app (goodIn_r _ [18, 19, 20, 15] rfl (by decide +kernel)) ggX12_readsItem_X12_here
set_option maxRecDepth 20000 in
theorem ggX12_readsItem_X12_readsKey : GoodIn wsX12_readsItem wsX12_readsKey := goodIn_r _ [27, 2, 5, 7, 18, 19, 20, 15, 21, 22, 23, 28, 29, 30, 31, 32, 33, 12, 13, 14, 16, 17, 42, 43, 44, 45, 46, 47, 48, 49, 50, 51, 52, 53, 54, 55, 56, 57, 58, 59, 60, 61, 62, 63, 64, 65, 66, 67, 68, 69, 70, 71, 72, 73, 74, 75, 76, 77, 78, 79, 80, 81, 82] rfl (by decide +kernel)
set_option maxRecDepth 20000 in
theorem gX12_readsItem_X12_readsKey : GoodIn wsX12_readsItem (wsV RX12 207 RX12 yX12_readsKey wsX12_readsKey) := goodIn_app (goodIn_r _ [24, 25, 26, 15] rfl (by decide +kernel)) ggX12_readsItem_X12_readsKey
set_option maxRecDepth 20000 in
theorem ggX12_readsItem_X12_takesSign : GoodIn wsX12_readsItem wsX12_takesSign := goodIn_r _ [37, 2, 18, 19, 20, 15, 21, 22, 23, 12, 13, 14, 16, 17, 42, 43, 44, 45, 46, 47, 48, 49, 50, 51, 52, 53, 54, 55, 56, 57, 58, 59, 60, 61, 62, 63, 64, 65, 66, 67, 68, 69, 70, 71, 72, 73, 74, 75, 76, 77, 78, 79, 80, 81, 82] rfl (by decide +kernel)
set_option maxRecDepth 20000 in
theorem gX12_readsItem_X12_takesSign : GoodIn wsX12_readsItem (wsV RX12 210 RX12 yX12_takesSign wsX12_takesSign) := goodIn_app (goodIn_r _ [34, 35, 36, 15] rfl (by decide +kernel)) ggX12_readsItem_X12_takesSign
set_option maxRecDepth 20000 in
theorem ggX12_readsItem_X12_readsNumber : GoodIn wsX12_readsItem wsX12_readsNumber := goodIn_r _ [41, 2, 9, 18, 19, 20, 15, 21, 22, 23, 31, 32, 33, 12, 13, 14, 16, 17, 42, 43, 44, 45, 46, 47, 48, 49, 50, 51, 52, 53, 54, 55, 56, 57, 58, 59, 60, 61, 62, 63, 64, 65, 66, 67, 68, 69, 70, 71, 72, 73, 74, 75, 76, 77, 78, 79, 80, 81, 82] rfl (by decide +kernel)
set_option maxRecDepth 20000 in
theorem gX12_readsItem_X12_readsNumber : GoodIn wsX12_readsItem (wsV RX12 213 RX12 yX12_readsNumber wsX12_readsNumber) := goodIn_app (goodIn_r _ [38, 39, 40, 15] rfl (by decide +kernel)) ggX12_readsItem_X12_readsNumber
theorem dX12_readsItem_0 : decode cX12_readsItem 0 = .ok (.aload_n 0, 1) := by decide +kernel
theorem dX12_readsItem_1 : decode cX12_readsItem 1 = .ok (.getfield 204, 3) := by decide +kernel
theorem dX12_readsItem_4 : decode cX12_readsItem 4 = .ok (.bipush 20, 2) := by decide +kernel
theorem dX12_readsItem_6 : decode cX12_readsItem 6 = .ok (.if_icmp .ne 13, 3) := by decide +kernel
theorem dX12_readsItem_9 : decode cX12_readsItem 9 = .ok (.aload_n 0, 1) := by decide +kernel
theorem dX12_readsItem_10 : decode cX12_readsItem 10 = .ok (.iconst 4, 1) := by decide +kernel
theorem dX12_readsItem_11 : decode cX12_readsItem 11 = .ok (.aload_n 0, 1) := by decide +kernel
theorem dX12_readsItem_12 : decode cX12_readsItem 12 = .ok (.getfield 180, 3) := by decide +kernel
theorem dX12_readsItem_15 : decode cX12_readsItem 15 = .ok (.invokevirtual 192, 3) := by decide +kernel
theorem dX12_readsItem_18 : decode cX12_readsItem 18 = .ok (.ireturn, 1) := by decide +kernel
theorem dX12_readsItem_19 : decode cX12_readsItem 19 = .ok (.aload_n 0, 1) := by decide +kernel
theorem dX12_readsItem_20 : decode cX12_readsItem 20 = .ok (.invokevirtual 189, 3) := by decide +kernel
theorem dX12_readsItem_23 : decode cX12_readsItem 23 = .ok (.istore_n 1, 1) := by decide +kernel
theorem dX12_readsItem_24 : decode cX12_readsItem 24 = .ok (.iload_n 1, 1) := by decide +kernel
theorem dX12_readsItem_25 : decode cX12_readsItem 25 = .ok (.bipush 43, 2) := by decide +kernel
theorem dX12_readsItem_27 : decode cX12_readsItem 27 = .ok (.if_icmp .eq 25, 3) := by decide +kernel
theorem dX12_readsItem_30 : decode cX12_readsItem 30 = .ok (.iload_n 1, 1) := by decide +kernel
theorem dX12_readsItem_31 : decode cX12_readsItem 31 = .ok (.bipush 45, 2) := by decide +kernel
theorem dX12_readsItem_33 : decode cX12_readsItem 33 = .ok (.if_icmp .eq 19, 3) := by decide +kernel
theorem dX12_readsItem_36 : decode cX12_readsItem 36 = .ok (.iload_n 1, 1) := by decide +kernel
theorem dX12_readsItem_37 : decode cX12_readsItem 37 = .ok (.bipush 126, 2) := by decide +kernel
theorem dX12_readsItem_39 : decode cX12_readsItem 39 = .ok (.if_icmp .eq 13, 3) := by decide +kernel
theorem dX12_readsItem_42 : decode cX12_readsItem 42 = .ok (.aload_n 0, 1) := by decide +kernel
theorem dX12_readsItem_43 : decode cX12_readsItem 43 = .ok (.iconst 1, 1) := by decide +kernel
theorem dX12_readsItem_44 : decode cX12_readsItem 44 = .ok (.aload_n 0, 1) := by decide +kernel
theorem dX12_readsItem_45 : decode cX12_readsItem 45 = .ok (.getfield 180, 3) := by decide +kernel
theorem dX12_readsItem_48 : decode cX12_readsItem 48 = .ok (.invokevirtual 192, 3) := by decide +kernel
theorem dX12_readsItem_51 : decode cX12_readsItem 51 = .ok (.ireturn, 1) := by decide +kernel
theorem dX12_readsItem_52 : decode cX12_readsItem 52 = .ok (.aload_n 0, 1) := by decide +kernel
theorem dX12_readsItem_53 : decode cX12_readsItem 53 = .ok (.getfield 26, 3) := by decide +kernel
theorem dX12_readsItem_56 : decode cX12_readsItem 56 = .ok (.aload_n 0, 1) := by decide +kernel
theorem dX12_readsItem_57 : decode cX12_readsItem 57 = .ok (.getfield 204, 3) := by decide +kernel
theorem dX12_readsItem_60 : decode cX12_readsItem 60 = .ok (.iload_n 1, 1) := by decide +kernel
theorem dX12_readsItem_61 : decode cX12_readsItem 61 = .ok (.iastore, 1) := by decide +kernel
theorem dX12_readsItem_62 : decode cX12_readsItem 62 = .ok (.aload_n 0, 1) := by decide +kernel
theorem dX12_readsItem_63 : decode cX12_readsItem 63 = .ok (.aload_n 0, 1) := by decide +kernel
theorem dX12_readsItem_64 : decode cX12_readsItem 64 = .ok (.getfield 180, 3) := by decide +kernel
theorem dX12_readsItem_67 : decode cX12_readsItem 67 = .ok (.iconst 1, 1) := by decide +kernel
theorem dX12_readsItem_68 : decode cX12_readsItem 68 = .ok (.iadd, 1) := by decide +kernel
theorem dX12_readsItem_69 : decode cX12_readsItem 69 = .ok (.putfield 180, 3) := by decide +kernel
theorem dX12_readsItem_72 : decode cX12_readsItem 72 = .ok (.aload_n 0, 1) := by decide +kernel
theorem dX12_readsItem_73 : decode cX12_readsItem 73 = .ok (.invokevirtual 207, 3) := by decide +kernel
theorem dX12_readsItem_76 : decode cX12_readsItem 76 = .ok (.ifCond .ne 5, 3) := by decide +kernel
theorem dX12_readsItem_79 : decode cX12_readsItem 79 = .ok (.iconst 0, 1) := by decide +kernel
theorem dX12_readsItem_80 : decode cX12_readsItem 80 = .ok (.ireturn, 1) := by decide +kernel
theorem dX12_readsItem_81 : decode cX12_readsItem 81 = .ok (.aload_n 0, 1) := by decide +kernel
theorem dX12_readsItem_82 : decode cX12_readsItem 82 = .ok (.getfield 32, 3) := by decide +kernel
theorem dX12_readsItem_85 : decode cX12_readsItem 85 = .ok (.aload_n 0, 1) := by decide +kernel
theorem dX12_readsItem_86 : decode cX12_readsItem 86 = .ok (.getfield 204, 3) := by decide +kernel
theorem dX12_readsItem_89 : decode cX12_readsItem 89 = .ok (.aload_n 0, 1) := by decide +kernel
theorem dX12_readsItem_90 : decode cX12_readsItem 90 = .ok (.getfield 198, 3) := by decide +kernel
theorem dX12_readsItem_93 : decode cX12_readsItem 93 = .ok (.iastore, 1) := by decide +kernel
theorem dX12_readsItem_94 : decode cX12_readsItem 94 = .ok (.aload_n 0, 1) := by decide +kernel
theorem dX12_readsItem_95 : decode cX12_readsItem 95 = .ok (.getfield 35, 3) := by decide +kernel
theorem dX12_readsItem_98 : decode cX12_readsItem 98 = .ok (.aload_n 0, 1) := by decide +kernel
theorem dX12_readsItem_99 : decode cX12_readsItem 99 = .ok (.getfield 204, 3) := by decide +kernel
theorem dX12_readsItem_102 : decode cX12_readsItem 102 = .ok (.aload_n 0, 1) := by decide +kernel
theorem dX12_readsItem_103 : decode cX12_readsItem 103 = .ok (.getfield 201, 3) := by decide +kernel
theorem dX12_readsItem_106 : decode cX12_readsItem 106 = .ok (.iastore, 1) := by decide +kernel
theorem dX12_readsItem_107 : decode cX12_readsItem 107 = .ok (.iload_n 1, 1) := by decide +kernel
theorem dX12_readsItem_108 : decode cX12_readsItem 108 = .ok (.bipush 43, 2) := by decide +kernel
theorem dX12_readsItem_110 : decode cX12_readsItem 110 = .ok (.if_icmp .ne 34, 3) := by decide +kernel
theorem dX12_readsItem_113 : decode cX12_readsItem 113 = .ok (.aload_n 0, 1) := by decide +kernel
theorem dX12_readsItem_114 : decode cX12_readsItem 114 = .ok (.bipush 61, 2) := by decide +kernel
theorem dX12_readsItem_116 : decode cX12_readsItem 116 = .ok (.invokevirtual 210, 3) := by decide +kernel
theorem dX12_readsItem_119 : decode cX12_readsItem 119 = .ok (.ifCond .eq 10, 3) := by decide +kernel
theorem dX12_readsItem_122 : decode cX12_readsItem 122 = .ok (.aload_n 0, 1) := by decide +kernel
theorem dX12_readsItem_123 : decode cX12_readsItem 123 = .ok (.invokevirtual 213, 3) := by decide +kernel
theorem dX12_readsItem_126 : decode cX12_readsItem 126 = .ok (.ifCond .ne 5, 3) := by decide +kernel
theorem dX12_readsItem_129 : decode cX12_readsItem 129 = .ok (.iconst 0, 1) := by decide +kernel
theorem dX12_readsItem_130 : decode cX12_readsItem 130 = .ok (.ireturn, 1) := by decide +kernel
theorem dX12_readsItem_131 : decode cX12_readsItem 131 = .ok (.aload_n 0, 1) := by decide +kernel
theorem dX12_readsItem_132 : decode cX12_readsItem 132 = .ok (.getfield 29, 3) := by decide +kernel
theorem dX12_readsItem_135 : decode cX12_readsItem 135 = .ok (.aload_n 0, 1) := by decide +kernel
theorem dX12_readsItem_136 : decode cX12_readsItem 136 = .ok (.getfield 204, 3) := by decide +kernel
theorem dX12_readsItem_139 : decode cX12_readsItem 139 = .ok (.aload_n 0, 1) := by decide +kernel
theorem dX12_readsItem_140 : decode cX12_readsItem 140 = .ok (.getfield 195, 3) := by decide +kernel
theorem dX12_readsItem_143 : decode cX12_readsItem 143 = .ok (.iastore, 1) := by decide +kernel
theorem dX12_readsItem_144 : decode cX12_readsItem 144 = .ok (.iload_n 1, 1) := by decide +kernel
theorem dX12_readsItem_145 : decode cX12_readsItem 145 = .ok (.bipush 126, 2) := by decide +kernel
theorem dX12_readsItem_147 : decode cX12_readsItem 147 = .ok (.if_icmp .ne 47, 3) := by decide +kernel
theorem dX12_readsItem_150 : decode cX12_readsItem 150 = .ok (.aload_n 0, 1) := by decide +kernel
theorem dX12_readsItem_151 : decode cX12_readsItem 151 = .ok (.bipush 44, 2) := by decide +kernel
theorem dX12_readsItem_153 : decode cX12_readsItem 153 = .ok (.invokevirtual 210, 3) := by decide +kernel
theorem dX12_readsItem_156 : decode cX12_readsItem 156 = .ok (.ifCond .eq 10, 3) := by decide +kernel
theorem dX12_readsItem_159 : decode cX12_readsItem 159 = .ok (.aload_n 0, 1) := by decide +kernel
theorem dX12_readsItem_160 : decode cX12_readsItem 160 = .ok (.invokevirtual 207, 3) := by decide +kernel
theorem dX12_readsItem_163 : decode cX12_readsItem 163 = .ok (.ifCond .ne 5, 3) := by decide +kernel
theorem dX12_readsItem_166 : decode cX12_readsItem 166 = .ok (.iconst 0, 1) := by decide +kernel
theorem dX12_readsItem_167 : decode cX12_readsItem 167 = .ok (.ireturn, 1) := by decide +kernel
theorem dX12_readsItem_168 : decode cX12_readsItem 168 = .ok (.aload_n 0, 1) := by decide +kernel
theorem dX12_readsItem_169 : decode cX12_readsItem 169 = .ok (.getfield 38, 3) := by decide +kernel
theorem dX12_readsItem_172 : decode cX12_readsItem 172 = .ok (.aload_n 0, 1) := by decide +kernel
theorem dX12_readsItem_173 : decode cX12_readsItem 173 = .ok (.getfield 204, 3) := by decide +kernel
theorem dX12_readsItem_176 : decode cX12_readsItem 176 = .ok (.aload_n 0, 1) := by decide +kernel
theorem dX12_readsItem_177 : decode cX12_readsItem 177 = .ok (.getfield 198, 3) := by decide +kernel
theorem dX12_readsItem_180 : decode cX12_readsItem 180 = .ok (.iastore, 1) := by decide +kernel
theorem dX12_readsItem_181 : decode cX12_readsItem 181 = .ok (.aload_n 0, 1) := by decide +kernel
theorem dX12_readsItem_182 : decode cX12_readsItem 182 = .ok (.getfield 41, 3) := by decide +kernel
theorem dX12_readsItem_185 : decode cX12_readsItem 185 = .ok (.aload_n 0, 1) := by decide +kernel
theorem dX12_readsItem_186 : decode cX12_readsItem 186 = .ok (.getfield 204, 3) := by decide +kernel
theorem dX12_readsItem_189 : decode cX12_readsItem 189 = .ok (.aload_n 0, 1) := by decide +kernel
theorem dX12_readsItem_190 : decode cX12_readsItem 190 = .ok (.getfield 201, 3) := by decide +kernel
theorem dX12_readsItem_193 : decode cX12_readsItem 193 = .ok (.iastore, 1) := by decide +kernel
theorem dX12_readsItem_194 : decode cX12_readsItem 194 = .ok (.aload_n 0, 1) := by decide +kernel
theorem dX12_readsItem_195 : decode cX12_readsItem 195 = .ok (.aload_n 0, 1) := by decide +kernel
theorem dX12_readsItem_196 : decode cX12_readsItem 196 = .ok (.getfield 204, 3) := by decide +kernel
theorem dX12_readsItem_199 : decode cX12_readsItem 199 = .ok (.iconst 1, 1) := by decide +kernel
theorem dX12_readsItem_200 : decode cX12_readsItem 200 = .ok (.iadd, 1) := by decide +kernel
theorem dX12_readsItem_201 : decode cX12_readsItem 201 = .ok (.putfield 204, 3) := by decide +kernel
theorem dX12_readsItem_204 : decode cX12_readsItem 204 = .ok (.iconst 1, 1) := by decide +kernel
theorem dX12_readsItem_205 : decode cX12_readsItem 205 = .ok (.ireturn, 1) := by decide +kernel
set_option maxRecDepth 20000 in
theorem ggX12_readsOrders_X12_readsItem : GoodIn wsX12_readsOrders wsX12_readsItem := goodIn_r _ [9, 4, 1, 10, 11, 12, 13, 14, 15, 16, 17, 18, 19, 20, 21, 8, 22, 23, 24, 25, 26, 27, 2, 28, 29, 30, 31, 32, 33, 34, 35, 36, 37, 38, 39, 40, 41, 42, 43, 44, 45, 46, 47, 48, 49, 50, 51, 52, 53, 54, 55, 56, 57, 58, 59, 60, 61, 62, 63, 64, 65, 66, 67, 68, 69, 70, 71, 72, 73, 74, 75, 76, 77, 78, 79, 80, 81, 82, 83, 84, 85, 86, 87] rfl (by decide +kernel)
set_option maxRecDepth 20000 in
theorem gX12_readsOrders_X12_readsItem : GoodIn wsX12_readsOrders (wsV RX12 216 RX12 yX12_readsItem wsX12_readsItem) := goodIn_app (goodIn_r _ [5, 6, 7, 8] rfl (by decide +kernel)) ggX12_readsOrders_X12_readsItem
set_option maxRecDepth 20000 in
theorem ggX12_readsOrders_X12_takesSign : GoodIn wsX12_readsOrders wsX12_takesSign := goodIn_r _ [42, 1, 24, 25, 26, 8, 27, 2, 28, 19, 20, 21, 22, 23, 47, 48, 49, 50, 51, 52, 53, 54, 55, 56, 57, 58, 59, 60, 61, 62, 63, 64, 65, 66, 67, 68, 69, 70, 71, 72, 73, 74, 75, 76, 77, 78, 79, 80, 81, 82, 83, 84, 85, 86, 87] rfl (by decide +kernel)
set_option maxRecDepth 20000 in
theorem gX12_readsOrders_X12_takesSign : GoodIn wsX12_readsOrders (wsV RX12 210 RX12 yX12_takesSign wsX12_takesSign) := goodIn_app (goodIn_r _ [39, 40, 41, 8] rfl (by decide +kernel)) ggX12_readsOrders_X12_takesSign
theorem dX12_readsOrders_0 : decode cX12_readsOrders 0 = .ok (.aload_n 0, 1) := by decide +kernel
theorem dX12_readsOrders_1 : decode cX12_readsOrders 1 = .ok (.iconst 0, 1) := by decide +kernel
theorem dX12_readsOrders_2 : decode cX12_readsOrders 2 = .ok (.putfield 180, 3) := by decide +kernel
theorem dX12_readsOrders_5 : decode cX12_readsOrders 5 = .ok (.aload_n 0, 1) := by decide +kernel
theorem dX12_readsOrders_6 : decode cX12_readsOrders 6 = .ok (.iload_n 1, 1) := by decide +kernel
theorem dX12_readsOrders_7 : decode cX12_readsOrders 7 = .ok (.putfield 183, 3) := by decide +kernel
theorem dX12_readsOrders_10 : decode cX12_readsOrders 10 = .ok (.aload_n 0, 1) := by decide +kernel
theorem dX12_readsOrders_11 : decode cX12_readsOrders 11 = .ok (.iconst 0, 1) := by decide +kernel
theorem dX12_readsOrders_12 : decode cX12_readsOrders 12 = .ok (.putfield 147, 3) := by decide +kernel
theorem dX12_readsOrders_15 : decode cX12_readsOrders 15 = .ok (.aload_n 0, 1) := by decide +kernel
theorem dX12_readsOrders_16 : decode cX12_readsOrders 16 = .ok (.iconst 0, 1) := by decide +kernel
theorem dX12_readsOrders_17 : decode cX12_readsOrders 17 = .ok (.putfield 204, 3) := by decide +kernel
theorem dX12_readsOrders_20 : decode cX12_readsOrders 20 = .ok (.aload_n 0, 1) := by decide +kernel
theorem dX12_readsOrders_21 : decode cX12_readsOrders 21 = .ok (.invokevirtual 216, 3) := by decide +kernel
theorem dX12_readsOrders_24 : decode cX12_readsOrders 24 = .ok (.istore_n 2, 1) := by decide +kernel
theorem dX12_readsOrders_25 : decode cX12_readsOrders 25 = .ok (.iload_n 2, 1) := by decide +kernel
theorem dX12_readsOrders_26 : decode cX12_readsOrders 26 = .ok (.ifCond .eq 39, 3) := by decide +kernel
theorem dX12_readsOrders_29 : decode cX12_readsOrders 29 = .ok (.aload_n 0, 1) := by decide +kernel
theorem dX12_readsOrders_30 : decode cX12_readsOrders 30 = .ok (.getfield 180, 3) := by decide +kernel
theorem dX12_readsOrders_33 : decode cX12_readsOrders 33 = .ok (.aload_n 0, 1) := by decide +kernel
theorem dX12_readsOrders_34 : decode cX12_readsOrders 34 = .ok (.getfield 183, 3) := by decide +kernel
theorem dX12_readsOrders_37 : decode cX12_readsOrders 37 = .ok (.if_icmp .ge 28, 3) := by decide +kernel
theorem dX12_readsOrders_40 : decode cX12_readsOrders 40 = .ok (.aload_n 0, 1) := by decide +kernel
theorem dX12_readsOrders_41 : decode cX12_readsOrders 41 = .ok (.bipush 59, 2) := by decide +kernel
theorem dX12_readsOrders_43 : decode cX12_readsOrders 43 = .ok (.invokevirtual 210, 3) := by decide +kernel
theorem dX12_readsOrders_46 : decode cX12_readsOrders 46 = .ok (.ifCond .eq 14, 3) := by decide +kernel
theorem dX12_readsOrders_49 : decode cX12_readsOrders 49 = .ok (.aload_n 0, 1) := by decide +kernel
theorem dX12_readsOrders_50 : decode cX12_readsOrders 50 = .ok (.invokevirtual 216, 3) := by decide +kernel
theorem dX12_readsOrders_53 : decode cX12_readsOrders 53 = .ok (.ifCond .eq 7, 3) := by decide +kernel
theorem dX12_readsOrders_56 : decode cX12_readsOrders 56 = .ok (.iconst 1, 1) := by decide +kernel
theorem dX12_readsOrders_57 : decode cX12_readsOrders 57 = .ok (.goto 4, 3) := by decide +kernel
theorem dX12_readsOrders_60 : decode cX12_readsOrders 60 = .ok (.iconst 0, 1) := by decide +kernel
theorem dX12_readsOrders_61 : decode cX12_readsOrders 61 = .ok (.istore_n 2, 1) := by decide +kernel
theorem dX12_readsOrders_62 : decode cX12_readsOrders 62 = .ok (.goto (-37), 3) := by decide +kernel
theorem dX12_readsOrders_65 : decode cX12_readsOrders 65 = .ok (.iload_n 2, 1) := by decide +kernel
theorem dX12_readsOrders_66 : decode cX12_readsOrders 66 = .ok (.ireturn, 1) := by decide +kernel
theorem dX12_handsKey_0 : decode cX12_handsKey 0 = .ok (.aload_n 0, 1) := by decide +kernel
theorem dX12_handsKey_1 : decode cX12_handsKey 1 = .ok (.iload_n 2, 1) := by decide +kernel
theorem dX12_handsKey_2 : decode cX12_handsKey 2 = .ok (.putfield 70, 3) := by decide +kernel
theorem dX12_handsKey_5 : decode cX12_handsKey 5 = .ok (.iconst 0, 1) := by decide +kernel
theorem dX12_handsKey_6 : decode cX12_handsKey 6 = .ok (.istore_n 3, 1) := by decide +kernel
theorem dX12_handsKey_7 : decode cX12_handsKey 7 = .ok (.iload_n 3, 1) := by decide +kernel
theorem dX12_handsKey_8 : decode cX12_handsKey 8 = .ok (.iload_n 2, 1) := by decide +kernel
theorem dX12_handsKey_9 : decode cX12_handsKey 9 = .ok (.if_icmp .ge 27, 3) := by decide +kernel
theorem dX12_handsKey_12 : decode cX12_handsKey 12 = .ok (.aload_n 0, 1) := by decide +kernel
theorem dX12_handsKey_13 : decode cX12_handsKey 13 = .ok (.getfield 13, 3) := by decide +kernel
theorem dX12_handsKey_16 : decode cX12_handsKey 16 = .ok (.iload_n 3, 1) := by decide +kernel
theorem dX12_handsKey_17 : decode cX12_handsKey 17 = .ok (.aload_n 0, 1) := by decide +kernel
theorem dX12_handsKey_18 : decode cX12_handsKey 18 = .ok (.getfield 22, 3) := by decide +kernel
theorem dX12_handsKey_21 : decode cX12_handsKey 21 = .ok (.iload_n 1, 1) := by decide +kernel
theorem dX12_handsKey_22 : decode cX12_handsKey 22 = .ok (.iload_n 3, 1) := by decide +kernel
theorem dX12_handsKey_23 : decode cX12_handsKey 23 = .ok (.iadd, 1) := by decide +kernel
theorem dX12_handsKey_24 : decode cX12_handsKey 24 = .ok (.baload, 1) := by decide +kernel
theorem dX12_handsKey_25 : decode cX12_handsKey 25 = .ok (.sipush 255, 3) := by decide +kernel
theorem dX12_handsKey_28 : decode cX12_handsKey 28 = .ok (.iand, 1) := by decide +kernel
theorem dX12_handsKey_29 : decode cX12_handsKey 29 = .ok (.iastore, 1) := by decide +kernel
theorem dX12_handsKey_30 : decode cX12_handsKey 30 = .ok (.iinc 3 1, 3) := by decide +kernel
theorem dX12_handsKey_33 : decode cX12_handsKey 33 = .ok (.goto (-26), 3) := by decide +kernel
theorem dX12_handsKey_36 : decode cX12_handsKey 36 = .ok (.return_, 1) := by decide +kernel
set_option maxRecDepth 20000 in
theorem ggX12_takesRange_X12_handsKey : GoodIn wsX12_takesRange wsX12_handsKey := goodIn_r _ [9, 10, 11, 12, 106, 107, 108, 109, 110, 111, 112, 113, 114, 115, 116, 117, 118, 119, 120, 121, 122, 123, 124, 125, 126, 127, 128, 129, 130, 131, 132, 133, 134, 135, 136, 137, 138, 139, 140, 141, 142, 143, 144, 145, 146] rfl (by decide +kernel)
set_option maxRecDepth 20000 in
theorem gX12_takesRange_X12_handsKey : GoodIn wsX12_takesRange (wsV RX12 219 RX12 yX12_handsKey wsX12_handsKey) := goodIn_app (goodIn_r _ [5, 6, 7, 8] rfl (by decide +kernel)) ggX12_takesRange_X12_handsKey
set_option maxRecDepth 20000 in
theorem ggX12_takesRange_X12_rankOfHand : GoodIn wsX12_takesRange wsX12_rankOfHand := goodIn_r _ [16, 17, 18, 19, 8, 20, 21, 22, 23, 24, 25, 10, 11, 26, 27, 28, 29, 30, 31, 32, 33, 106, 107, 108, 109, 110, 111, 112, 113, 114, 115, 116, 117, 118, 119, 120, 121, 122, 123, 124, 125, 126, 127, 128, 129, 130, 131, 132, 133, 134, 135, 136, 137, 138, 139, 140, 141, 142, 143, 144, 145, 146] rfl (by decide +kernel)
set_option maxRecDepth 20000 in
theorem gX12_takesRange_X12_rankOfHand : GoodIn wsX12_takesRange (wsV RX12 81 RX12 yX12_rankOfHand wsX12_rankOfHand) := goodIn_app (goodIn_r _ [13, 14, 15, 8] rfl (by decide +kernel)) ggX12_takesRange_X12_rankOfHand
set_option maxRecDepth 20000 in
theorem ggX12_takesRange_X12_isHandThere : GoodIn wsX12_takesRange wsX12_isHandThere := goodIn_r _ [37, 13, 14, 15, 8, 16, 17, 18, 19, 20, 21, 22, 23, 24, 25, 10, 11, 26, 27, 28, 29, 30, 31, 32, 33, 106, 107, 108, 109, 110, 111, 112, 113, 114, 115, 116, 117, 118, 119, 120, 121, 122, 123, 124, 125, 126, 127, 128, 129, 130, 131, 132, 133, 134, 135, 136, 137, 138, 139, 140, 141, 142, 143, 144, 145, 146] rfl (by decide +kernel)
set_option maxRecDepth 20000 in
theorem gX12_takesRange_X12_isHandThere : GoodIn wsX12_takesRange (wsV RX12 167 RX12 yX12_isHandThere wsX12_isHandThere) := goodIn_app (goodIn_r _ [34, 35, 36, 8] rfl (by decide +kernel)) ggX12_takesRange_X12_isHandThere
set_option maxRecDepth 20000 in
theorem ggX12_takesRange_X12_goes : GoodIn wsX12_takesRange wsX12_goes := goodIn_r _ [41, 21, 42, 43, 44, 45, 46, 8, 47, 10, 48, 49, 50, 51, 11, 26, 27, 28, 29, 30, 31, 32, 33, 52, 53, 54, 55, 17, 18, 19, 20, 56, 57, 58, 59, 60, 61, 62, 63, 64, 65, 66, 67, 68, 69, 70, 71, 72, 73, 74, 75, 76, 77, 78, 79, 80, 81, 82, 83, 84, 85, 86, 87, 88, 89, 90, 91, 92, 93, 94, 95, 96, 97, 98, 99, 100, 101, 102, 103, 104, 105, 106, 107, 108, 109, 110, 111, 112, 113, 114, 115, 116, 117, 118, 119, 120, 121, 122, 123, 124, 125, 126, 127, 128, 129, 130, 131, 132, 133, 134, 135, 136, 137, 138, 139, 140, 141, 142, 143, 144, 145, 146] rfl (by decide +kernel)
set_option maxRecDepth 20000 in
theorem gX12_takesRange_X12_goes : GoodIn wsX12_takesRange (wsV RX12 174 RX12 yX12_goes wsX12_goes) := goodIn_app (goodIn_r _ [38, 39, 40, 8] rfl (by decide +kernel)) ggX12_takesRange_X12_goes
theorem dX12_takesRange_0 : decode cX12_takesRange 0 = .ok (.aload_n 0, 1) := by decide +kernel
theorem dX12_takesRange_1 : decode cX12_takesRange 1 = .ok (.aload_n 0, 1) := by decide +kernel
theorem dX12_takesRange_2 : decode cX12_takesRange 2 = .ok (.getfield 32, 3) := by decide +kernel
theorem dX12_takesRange_5 : decode cX12_takesRange 5 = .ok (.iload_n 1, 1) := by decide +kernel
theorem dX12_takesRange_6 : decode cX12_takesRange 6 = .ok (.iaload, 1) := by decide +kernel
theorem dX12_takesRange_7 : decode cX12_takesRange 7 = .ok (.aload_n 0, 1) := by decide +kernel
theorem dX12_takesRange_8 : decode cX12_takesRange 8 = .ok (.getfield 35, 3) := by decide +kernel
theorem dX12_takesRange_11 : decode cX12_takesRange 11 = .ok (.iload_n 1, 1) := by decide +kernel
theorem dX12_takesRange_12 : decode cX12_takesRange 12 = .ok (.iaload, 1) := by decide +kernel
theorem dX12_takesRange_13 : decode cX12_takesRange 13 = .ok (.invokevirtual 219, 3) := by decide +kernel
theorem dX12_takesRange_16 : decode cX12_takesRange 16 = .ok (.aload_n 0, 1) := by decide +kernel
theorem dX12_takesRange_17 : decode cX12_takesRange 17 = .ok (.invokevirtual 81, 3) := by decide +kernel
theorem dX12_takesRange_20 : decode cX12_takesRange 20 = .ok (.istore_n 2, 1) := by decide +kernel
theorem dX12_takesRange_21 : decode cX12_takesRange 21 = .ok (.aload_n 0, 1) := by decide +kernel
theorem dX12_takesRange_22 : decode cX12_takesRange 22 = .ok (.aload_n 0, 1) := by decide +kernel
theorem dX12_takesRange_23 : decode cX12_takesRange 23 = .ok (.getfield 38, 3) := by decide +kernel
theorem dX12_takesRange_26 : decode cX12_takesRange 26 = .ok (.iload_n 1, 1) := by decide +kernel
theorem dX12_takesRange_27 : decode cX12_takesRange 27 = .ok (.iaload, 1) := by decide +kernel
theorem dX12_takesRange_28 : decode cX12_takesRange 28 = .ok (.aload_n 0, 1) := by decide +kernel
theorem dX12_takesRange_29 : decode cX12_takesRange 29 = .ok (.getfield 41, 3) := by decide +kernel
theorem dX12_takesRange_32 : decode cX12_takesRange 32 = .ok (.iload_n 1, 1) := by decide +kernel
theorem dX12_takesRange_33 : decode cX12_takesRange 33 = .ok (.iaload, 1) := by decide +kernel
theorem dX12_takesRange_34 : decode cX12_takesRange 34 = .ok (.invokevirtual 219, 3) := by decide +kernel
theorem dX12_takesRange_37 : decode cX12_takesRange 37 = .ok (.aload_n 0, 1) := by decide +kernel
theorem dX12_takesRange_38 : decode cX12_takesRange 38 = .ok (.invokevirtual 81, 3) := by decide +kernel
theorem dX12_takesRange_41 : decode cX12_takesRange 41 = .ok (.iload_n 2, 1) := by decide +kernel
theorem dX12_takesRange_42 : decode cX12_takesRange 42 = .ok (.isub, 1) := by decide +kernel
theorem dX12_takesRange_43 : decode cX12_takesRange 43 = .ok (.aload_n 0, 1) := by decide +kernel
theorem dX12_takesRange_44 : decode cX12_takesRange 44 = .ok (.invokevirtual 167, 3) := by decide +kernel
theorem dX12_takesRange_47 : decode cX12_takesRange 47 = .ok (.ifCond .eq 7, 3) := by decide +kernel
theorem dX12_takesRange_50 : decode cX12_takesRange 50 = .ok (.iconst 1, 1) := by decide +kernel
theorem dX12_takesRange_51 : decode cX12_takesRange 51 = .ok (.goto 4, 3) := by decide +kernel
theorem dX12_takesRange_54 : decode cX12_takesRange 54 = .ok (.iconst 0, 1) := by decide +kernel
theorem dX12_takesRange_55 : decode cX12_takesRange 55 = .ok (.iadd, 1) := by decide +kernel
theorem dX12_takesRange_56 : decode cX12_takesRange 56 = .ok (.istore_n 3, 1) := by decide +kernel
theorem dX12_takesRange_57 : decode cX12_takesRange 57 = .ok (.iconst 0, 1) := by decide +kernel
theorem dX12_takesRange_58 : decode cX12_takesRange 58 = .ok (.istore 4, 2) := by decide +kernel
theorem dX12_takesRange_60 : decode cX12_takesRange 60 = .ok (.iload 4, 2) := by decide +kernel
theorem dX12_takesRange_62 : decode cX12_takesRange 62 = .ok (.iload_n 3, 1) := by decide +kernel
theorem dX12_takesRange_63 : decode cX12_takesRange 63 = .ok (.if_icmp .ge 14, 3) := by decide +kernel
theorem dX12_takesRange_66 : decode cX12_takesRange 66 = .ok (.aload_n 0, 1) := by decide +kernel
theorem dX12_takesRange_67 : decode cX12_takesRange 67 = .ok (.iload_n 2, 1) := by decide +kernel
theorem dX12_takesRange_68 : decode cX12_takesRange 68 = .ok (.invokevirtual 174, 3) := by decide +kernel
theorem dX12_takesRange_71 : decode cX12_takesRange 71 = .ok (.iinc 4 1, 3) := by decide +kernel
theorem dX12_takesRange_74 : decode cX12_takesRange 74 = .ok (.goto (-14), 3) := by decide +kernel
theorem dX12_takesRange_77 : decode cX12_takesRange 77 = .ok (.iload_n 3, 1) := by decide +kernel
theorem dX12_takesRange_78 : decode cX12_takesRange 78 = .ok (.ifCond .le 7, 3) := by decide +kernel
theorem dX12_takesRange_81 : decode cX12_takesRange 81 = .ok (.iconst 1, 1) := by decide +kernel
theorem dX12_takesRange_82 : decode cX12_takesRange 82 = .ok (.goto 4, 3) := by decide +kernel
theorem dX12_takesRange_85 : decode cX12_takesRange 85 = .ok (.iconst 0, 1) := by decide +kernel
theorem dX12_takesRange_86 : decode cX12_takesRange 86 = .ok (.ireturn, 1) := by decide +kernel
set_option maxRecDepth 20000 in
theorem ggX12_does_X12_takesRange : GoodIn wsX12_does wsX12_takesRange := goodIn_r _ [9, 2, 3, 10, 11, 12, 13, 14, 8, 15, 16, 17, 18, 19, 20, 21, 22, 23, 24, 25, 26, 27, 28, 29, 30, 31, 32, 33, 34, 35, 36, 37, 38, 39, 40, 41, 42, 43, 44, 45, 46, 47, 48, 49, 50, 51, 52, 53, 54, 55, 56, 57, 58, 59, 60, 61, 62, 63, 64, 65, 66, 67, 68, 69, 70, 71, 72, 73, 74, 75, 76, 77, 78, 79, 80, 81, 82, 83, 84, 85, 86, 87, 88, 89, 90, 91, 92, 93, 94, 95, 96, 97, 98, 99, 100, 101, 102, 103, 104, 105, 106, 107, 108, 109, 110, 111, 133, 134, 135, 136, 137, 138, 139, 140, 141, 142, 143, 144, 145, 146, 147, 148, 149, 150, 151, 152, 153, 154, 155, 156, 157, 158, 159, 160, 161, 162, 163, 164, 165, 166, 167, 168, 169, 170, 171, 172, 173] rfl (by decide +kernel)
set_option maxRecDepth 20000 in
theorem gX12_does_X12_takesRange : GoodIn wsX12_does (wsV RX12 222 RX12 yX12_takesRange wsX12_takesRange) := goodIn_app (goodIn_r _ [5, 6, 7, 8] rfl (by decide +kernel)) ggX12_does_X12_takesRange
set_option maxRecDepth 20000 in
theorem ggX12_does_X12_handsKey : GoodIn wsX12_does wsX12_handsKey := goodIn_r _ [15, 16, 17, 18, 133, 134, 135, 136, 137, 138, 139, 140, 141, 142, 143, 144, 145, 146, 147, 148, 149, 150, 151, 152, 153, 154, 155, 156, 157, 158, 159, 160, 161, 162, 163, 164, 165, 166, 167, 168, 169, 170, 171, 172, 173] rfl (by decide +kernel)
set_option maxRecDepth 20000 in
theorem gX12_does_X12_handsKey : GoodIn wsX12_does (wsV RX12 219 RX12 yX12_handsKey wsX12_handsKey) := goodIn_app (goodIn_r _ [12, 13, 14, 8] rfl (by decide +kernel)) ggX12_does_X12_handsKey
set_option maxRecDepth 20000 in
theorem ggX12_does_X12_putsHand : GoodIn wsX12_does wsX12_putsHand := goodIn_r _ [115, 40, 41, 42, 8, 43, 19, 20, 21, 22, 23, 24, 25, 26, 27, 28, 29, 30, 31, 16, 17, 32, 33, 34, 35, 36, 37, 38, 39, 77, 78, 79, 80, 116, 117, 118, 119, 86, 120, 85, 121, 122, 123, 124, 48, 49, 58, 59, 60, 61, 62, 63, 64, 65, 73, 74, 75, 76, 87, 88, 89, 90, 91, 92, 93, 94, 95, 125, 126, 127, 128, 96, 97, 98, 99, 100, 101, 102, 103, 66, 67, 68, 69, 70, 71, 72, 104, 105, 106, 107, 133, 134, 135, 136, 137, 138, 139, 140, 141, 142, 143, 144, 145, 146, 147, 148, 149, 150, 151, 152, 153, 154, 155, 156, 157, 158, 159, 160, 161, 162, 163, 164, 165, 166, 167, 168, 169, 170, 171, 172, 173] rfl (by decide +kernel)
set_option maxRecDepth 20000 in
theorem gX12_does_X12_putsHand : GoodIn wsX12_does (wsV RX12 164 RX12 yX12_putsHand wsX12_putsHand) := goodIn_app (goodIn_r _ [112, 113, 114, 8] rfl (by decide +kernel)) ggX12_does_X12_putsHand
set_option maxRecDepth 20000 in
theorem ggX12_does_X12_takesOut : GoodIn wsX12_does wsX12_takesOut := goodIn_r _ [132, 40, 41, 42, 8, 43, 19, 20, 21, 22, 23, 24, 25, 26, 27, 28, 29, 30, 31, 16, 17, 32, 33, 34, 35, 36, 37, 38, 39, 44, 45, 46, 47, 48, 49, 50, 51, 52, 53, 54, 55, 56, 57, 58, 59, 60, 61, 62, 63, 64, 65, 66, 67, 68, 69, 70, 71, 72, 73, 74, 75, 76, 77, 78, 79, 80, 81, 82, 83, 84, 85, 86, 87, 88, 89, 90, 91, 92, 93, 94, 95, 96, 97, 98, 99, 100, 101, 102, 103, 104, 105, 106, 107, 108, 109, 110, 111, 133, 134, 135, 136, 137, 138, 139, 140, 141, 142, 143, 144, 145, 146, 147, 148, 149, 150, 151, 152, 153, 154, 155, 156, 157, 158, 159, 160, 161, 162, 163, 164, 165, 166, 167, 168, 169, 170, 171, 172, 173] rfl (by decide +kernel)
set_option maxRecDepth 20000 in
theorem gX12_does_X12_takesOut : GoodIn wsX12_does (wsV RX12 177 RX12 yX12_takesOut wsX12_takesOut) := goodIn_app (goodIn_r _ [129, 130, 131, 8] rfl (by decide +kernel)) ggX12_does_X12_takesOut
theorem dX12_does_0 : decode cX12_does 0 = .ok (.aload_n 0, 1) := by decide +kernel
theorem dX12_does_1 : decode cX12_does 1 = .ok (.getfield 26, 3) := by decide +kernel
theorem dX12_does_4 : decode cX12_does 4 = .ok (.iload_n 1, 1) := by decide +kernel
theorem dX12_does_5 : decode cX12_does 5 = .ok (.iaload, 1) := by decide +kernel
theorem dX12_does_6 : decode cX12_does 6 = .ok (.bipush 126, 2) := by decide +kernel
theorem dX12_does_8 : decode cX12_does 8 = .ok (.if_icmp .ne 9, 3) := by decide +kernel
theorem dX12_does_11 : decode cX12_does 11 = .ok (.aload_n 0, 1) := by decide +kernel
theorem dX12_does_12 : decode cX12_does 12 = .ok (.iload_n 1, 1) := by decide +kernel
theorem dX12_does_13 : decode cX12_does 13 = .ok (.invokevirtual 222, 3) := by decide +kernel
theorem dX12_does_16 : decode cX12_does 16 = .ok (.ireturn, 1) := by decide +kernel
theorem dX12_does_17 : decode cX12_does 17 = .ok (.aload_n 0, 1) := by decide +kernel
theorem dX12_does_18 : decode cX12_does 18 = .ok (.aload_n 0, 1) := by decide +kernel
theorem dX12_does_19 : decode cX12_does 19 = .ok (.getfield 32, 3) := by decide +kernel
theorem dX12_does_22 : decode cX12_does 22 = .ok (.iload_n 1, 1) := by decide +kernel
theorem dX12_does_23 : decode cX12_does 23 = .ok (.iaload, 1) := by decide +kernel
theorem dX12_does_24 : decode cX12_does 24 = .ok (.aload_n 0, 1) := by decide +kernel
theorem dX12_does_25 : decode cX12_does 25 = .ok (.getfield 35, 3) := by decide +kernel
theorem dX12_does_28 : decode cX12_does 28 = .ok (.iload_n 1, 1) := by decide +kernel
theorem dX12_does_29 : decode cX12_does 29 = .ok (.iaload, 1) := by decide +kernel
theorem dX12_does_30 : decode cX12_does 30 = .ok (.invokevirtual 219, 3) := by decide +kernel
theorem dX12_does_33 : decode cX12_does 33 = .ok (.aload_n 0, 1) := by decide +kernel
theorem dX12_does_34 : decode cX12_does 34 = .ok (.getfield 26, 3) := by decide +kernel
theorem dX12_does_37 : decode cX12_does 37 = .ok (.iload_n 1, 1) := by decide +kernel
theorem dX12_does_38 : decode cX12_does 38 = .ok (.iaload, 1) := by decide +kernel
theorem dX12_does_39 : decode cX12_does 39 = .ok (.bipush 43, 2) := by decide +kernel
theorem dX12_does_41 : decode cX12_does 41 = .ok (.if_icmp .ne 26, 3) := by decide +kernel
theorem dX12_does_44 : decode cX12_does 44 = .ok (.aload_n 0, 1) := by decide +kernel
theorem dX12_does_45 : decode cX12_does 45 = .ok (.aload_n 0, 1) := by decide +kernel
theorem dX12_does_46 : decode cX12_does 46 = .ok (.getfield 29, 3) := by decide +kernel
theorem dX12_does_49 : decode cX12_does 49 = .ok (.iload_n 1, 1) := by decide +kernel
theorem dX12_does_50 : decode cX12_does 50 = .ok (.iaload, 1) := by decide +kernel
theorem dX12_does_51 : decode cX12_does 51 = .ok (.invokevirtual 164, 3) := by decide +kernel
theorem dX12_does_54 : decode cX12_does 54 = .ok (.bipush (-4), 2) := by decide +kernel
theorem dX12_does_56 : decode cX12_does 56 = .ok (.if_icmp .eq 7, 3) := by decide +kernel
theorem dX12_does_59 : decode cX12_does 59 = .ok (.iconst 1, 1) := by decide +kernel
theorem dX12_does_60 : decode cX12_does 60 = .ok (.goto 21, 3) := by decide +kernel
theorem dX12_does_63 : decode cX12_does 63 = .ok (.iconst 0, 1) := by decide +kernel
theorem dX12_does_64 : decode cX12_does 64 = .ok (.goto 17, 3) := by decide +kernel
theorem dX12_does_67 : decode cX12_does 67 = .ok (.aload_n 0, 1) := by decide +kernel
theorem dX12_does_68 : decode cX12_does 68 = .ok (.invokevirtual 177, 3) := by decide +kernel
theorem dX12_does_71 : decode cX12_does 71 = .ok (.bipush (-3), 2) := by decide +kernel
theorem dX12_does_73 : decode cX12_does 73 = .ok (.if_icmp .eq 7, 3) := by decide +kernel
theorem dX12_does_76 : decode cX12_does 76 = .ok (.iconst 1, 1) := by decide +kernel
theorem dX12_does_77 : decode cX12_does 77 = .ok (.goto 4, 3) := by decide +kernel
theorem dX12_does_80 : decode cX12_does 80 = .ok (.iconst 0, 1) := by decide +kernel
theorem dX12_does_81 : decode cX12_does 81 = .ok (.ireturn, 1) := by decide +kernel
set_option maxRecDepth 20000 in
theorem ggX12_doesAll_X12_does : GoodIn wsX12_doesAll wsX12_does := goodIn_r _ [6, 7, 8, 9, 10, 11, 12, 13, 5, 14, 15, 16, 17, 18, 19, 20, 21, 22, 23, 24, 25, 26, 27, 28, 29, 30, 31, 32, 33, 34, 35, 36, 37, 38, 39, 40, 41, 42, 43, 44, 45, 46, 47, 48, 49, 50, 51, 52, 53, 54, 55, 56, 57, 58, 59, 60, 61, 62, 63, 64, 65, 66, 67, 68, 69, 70, 71, 72, 73, 74, 75, 76, 77, 78, 79, 80, 81, 82, 83, 84, 85, 86, 87, 88, 89, 90, 91, 92, 93, 94, 95, 96, 97, 98, 99, 100, 101, 102, 103, 104, 105, 106, 107, 108, 109, 110, 111, 112, 113, 114, 115, 116, 117, 118, 119, 120, 121, 122, 123, 124, 125, 126, 127, 128, 129, 130, 131, 132, 133, 134, 135, 136, 137, 138, 139, 140, 141, 142, 143, 144, 145, 146, 147, 148, 149, 150, 151, 152, 153, 154, 155, 156, 157, 158, 159, 160, 161, 162, 163, 164, 165, 166, 167, 168, 169, 170, 171, 172, 173, 174, 175, 176, 177, 178] rfl (by decide +kernel)
set_option maxRecDepth 20000 in
theorem gX12_doesAll_X12_does : GoodIn wsX12_doesAll (wsV RX12 225 RX12 yX12_does wsX12_does) := goodIn_app (goodIn_r _ [2, 3, 4, 5] rfl (by decide +kernel)) ggX12_doesAll_X12_does
theorem dX12_doesAll_0 : decode cX12_doesAll 0 = .ok (.iconst 0, 1) := by decide +kernel
theorem dX12_doesAll_1 : decode cX12_doesAll 1 = .ok (.istore_n 1, 1) := by decide +kernel
theorem dX12_doesAll_2 : decode cX12_doesAll 2 = .ok (.iload_n 1, 1) := by decide +kernel
theorem dX12_doesAll_3 : decode cX12_doesAll 3 = .ok (.aload_n 0, 1) := by decide +kernel
theorem dX12_doesAll_4 : decode cX12_doesAll 4 = .ok (.getfield 204, 3) := by decide +kernel
theorem dX12_doesAll_7 : decode cX12_doesAll 7 = .ok (.if_icmp .ge 18, 3) := by decide +kernel
theorem dX12_doesAll_10 : decode cX12_doesAll 10 = .ok (.aload_n 0, 1) := by decide +kernel
theorem dX12_doesAll_11 : decode cX12_doesAll 11 = .ok (.iload_n 1, 1) := by decide +kernel
theorem dX12_doesAll_12 : decode cX12_doesAll 12 = .ok (.invokevirtual 225, 3) := by decide +kernel
theorem dX12_doesAll_15 : decode cX12_doesAll 15 = .ok (.ifCond .eq 10, 3) := by decide +kernel
theorem dX12_doesAll_18 : decode cX12_doesAll 18 = .ok (.iload_n 1, 1) := by decide +kernel
theorem dX12_doesAll_19 : decode cX12_doesAll 19 = .ok (.iconst 1, 1) := by decide +kernel
theorem dX12_doesAll_20 : decode cX12_doesAll 20 = .ok (.iadd, 1) := by decide +kernel
theorem dX12_doesAll_21 : decode cX12_doesAll 21 = .ok (.istore_n 1, 1) := by decide +kernel
theorem dX12_doesAll_22 : decode cX12_doesAll 22 = .ok (.goto (-20), 3) := by decide +kernel
theorem dX12_doesAll_25 : decode cX12_doesAll 25 = .ok (.iload_n 1, 1) := by decide +kernel
theorem dX12_doesAll_26 : decode cX12_doesAll 26 = .ok (.ireturn, 1) := by decide +kernel
set_option maxRecDepth 20000 in
theorem ggX12_isText_X12_in : GoodIn wsX12_isText wsX12_in := goodIn_r _ [5] rfl (by decide +kernel)
set_option maxRecDepth 20000 in
theorem gX12_isText_X12_in : GoodIn wsX12_isText (va_wsS RX12 66 yX12_in wsX12_in) := goodIn_app (goodIn_r _ [2, 3, 4] rfl (by decide +kernel)) ggX12_isText_X12_in
theorem dX12_isText_0 : decode cX12_isText 0 = .ok (.iload_n 1, 1) := by decide +kernel
theorem dX12_isText_1 : decode cX12_isText 1 = .ok (.iload_n 2, 1) := by decide +kernel
theorem dX12_isText_2 : decode cX12_isText 2 = .ok (.iload_n 3, 1) := by decide +kernel
theorem dX12_isText_3 : decode cX12_isText 3 = .ok (.invokestatic 66, 3) := by decide +kernel
theorem dX12_isText_6 : decode cX12_isText 6 = .ok (.ifCond .eq 15, 3) := by decide +kernel
theorem dX12_isText_9 : decode cX12_isText 9 = .ok (.iload_n 1, 1) := by decide +kernel
theorem dX12_isText_10 : decode cX12_isText 10 = .ok (.aload_n 0, 1) := by decide +kernel
theorem dX12_isText_11 : decode cX12_isText 11 = .ok (.getfield 147, 3) := by decide +kernel
theorem dX12_isText_14 : decode cX12_isText 14 = .ok (.if_icmp .gt 7, 3) := by decide +kernel
theorem dX12_isText_17 : decode cX12_isText 17 = .ok (.iconst 1, 1) := by decide +kernel
theorem dX12_isText_18 : decode cX12_isText 18 = .ok (.goto 4, 3) := by decide +kernel
theorem dX12_isText_21 : decode cX12_isText 21 = .ok (.iconst 0, 1) := by decide +kernel
theorem dX12_isText_22 : decode cX12_isText 22 = .ok (.ireturn, 1) := by decide +kernel
set_option maxRecDepth 20000 in
theorem ggX12_orders_X12_isText : GoodIn wsX12_orders wsX12_isText := goodIn_r _ [6, 7, 8, 9, 5, 10, 187, 188, 189, 190, 191, 192, 193, 194, 195, 196, 197, 198, 199, 200, 201, 202, 203, 204, 205, 206, 207, 208, 209, 210, 211, 212, 213, 214, 215, 216, 217, 218, 219, 220, 221, 222, 223, 224, 225, 226, 227] rfl (by decide +kernel)
set_option maxRecDepth 20000 in
theorem gX12_orders_X12_isText : GoodIn wsX12_orders (wsV RX12 228 RX12 yX12_isText wsX12_isText) := goodIn_app (goodIn_r _ [2, 3, 4, 5] rfl (by decide +kernel)) ggX12_orders_X12_isText
set_option maxRecDepth 20000 in
theorem ggX12_orders_X12_readsOrders : GoodIn wsX12_orders wsX12_readsOrders := goodIn_r _ [14, 15, 16, 7, 17, 18, 19, 20, 5, 21, 22, 23, 24, 25, 26, 27, 28, 29, 30, 31, 32, 33, 34, 1, 35, 36, 37, 38, 39, 40, 41, 42, 43, 44, 45, 46, 8, 9, 10, 47, 48, 49, 50, 51, 52, 53, 54, 187, 188, 189, 190, 191, 192, 193, 194, 195, 196, 197, 198, 199, 200, 201, 202, 203, 204, 205, 206, 207, 208, 209, 210, 211, 212, 213, 214, 215, 216, 217, 218, 219, 220, 221, 222, 223, 224, 225, 226, 227] rfl (by decide +kernel)
set_option maxRecDepth 20000 in
theorem gX12_orders_X12_readsOrders : GoodIn wsX12_orders (wsV RX12 231 RX12 yX12_readsOrders wsX12_readsOrders) := goodIn_app (goodIn_r _ [11, 12, 13, 5] rfl (by decide +kernel)) ggX12_orders_X12_readsOrders
set_option maxRecDepth 20000 in
theorem ggX12_orders_X12_doesAll : GoodIn wsX12_orders wsX12_doesAll := goodIn_r _ [58, 17, 59, 60, 61, 5, 62, 22, 23, 25, 27, 63, 64, 65, 66, 29, 30, 67, 68, 69, 70, 71, 72, 39, 73, 74, 75, 76, 77, 78, 79, 80, 81, 82, 83, 84, 85, 86, 87, 88, 89, 90, 91, 92, 93, 94, 95, 96, 97, 98, 99, 100, 101, 102, 103, 104, 105, 106, 107, 108, 109, 110, 111, 112, 113, 114, 115, 116, 117, 118, 119, 120, 121, 122, 123, 124, 125, 126, 127, 128, 129, 130, 131, 132, 133, 134, 135, 136, 137, 138, 139, 140, 141, 142, 143, 144, 145, 146, 147, 148, 149, 150, 151, 152, 153, 154, 155, 156, 157, 158, 159, 160, 161, 162, 163, 164, 165, 166, 167, 168, 169, 170, 171, 172, 173, 174, 175, 176, 177, 178, 179, 180, 181, 182, 183, 184, 185, 186, 187, 188, 189, 190, 191, 192, 193, 194, 195, 196, 197, 198, 199, 200, 201, 202, 203, 204, 205, 206, 207, 208, 209, 210, 211, 212, 213, 214, 215, 216, 217, 218, 219, 220, 221, 222, 223, 224, 225, 226, 227] rfl (by decide +kernel)
set_option maxRecDepth 20000 in
theorem gX12_orders_X12_doesAll : GoodIn wsX12_orders (wsV RX12 234 RX12 yX12_doesAll wsX12_doesAll) := goodIn_app (goodIn_r _ [55, 56, 57, 5] rfl (by decide +kernel)) ggX12_orders_X12_doesAll
theorem dX12_orders_0 : decode cX12_orders 0 = .ok (.aload_n 0, 1) := by decide +kernel
theorem dX12_orders_1 : decode cX12_orders 1 = .ok (.iload_n 1, 1) := by decide +kernel
theorem dX12_orders_2 : decode cX12_orders 2 = .ok (.iconst 1, 1) := by decide +kernel
theorem dX12_orders_3 : decode cX12_orders 3 = .ok (.sipush 200, 3) := by decide +kernel
theorem dX12_orders_6 : decode cX12_orders 6 = .ok (.invokevirtual 228, 3) := by decide +kernel
theorem dX12_orders_9 : decode cX12_orders 9 = .ok (.ifCond .ne 5, 3) := by decide +kernel
theorem dX12_orders_12 : decode cX12_orders 12 = .ok (.iconst (-1), 1) := by decide +kernel
theorem dX12_orders_13 : decode cX12_orders 13 = .ok (.ireturn, 1) := by decide +kernel
theorem dX12_orders_14 : decode cX12_orders 14 = .ok (.aload_n 0, 1) := by decide +kernel
theorem dX12_orders_15 : decode cX12_orders 15 = .ok (.iload_n 1, 1) := by decide +kernel
theorem dX12_orders_16 : decode cX12_orders 16 = .ok (.invokevirtual 231, 3) := by decide +kernel
theorem dX12_orders_19 : decode cX12_orders 19 = .ok (.ifCond .eq 10, 3) := by decide +kernel
theorem dX12_orders_22 : decode cX12_orders 22 = .ok (.aload_n 0, 1) := by decide +kernel
theorem dX12_orders_23 : decode cX12_orders 23 = .ok (.invokevirtual 234, 3) := by decide +kernel
theorem dX12_orders_26 : decode cX12_orders 26 = .ok (.goto 7, 3) := by decide +kernel
theorem dX12_orders_29 : decode cX12_orders 29 = .ok (.aload_n 0, 1) := by decide +kernel
theorem dX12_orders_30 : decode cX12_orders 30 = .ok (.getfield 186, 3) := by decide +kernel
theorem dX12_orders_33 : decode cX12_orders 33 = .ok (.ireturn, 1) := by decide +kernel
set_option maxRecDepth 20000 in
theorem ggX12_batch_X12_isText : GoodIn wsX12_batch wsX12_isText := goodIn_r _ [7, 8, 9, 10, 6, 11, 191, 192, 193, 194, 195, 196, 197, 198, 199, 200, 201, 202, 203, 204, 205, 206, 207, 208, 209, 210, 211, 212, 213, 214, 215, 216, 217, 218, 219, 220, 221, 222, 223, 224, 225, 226, 227, 228, 229, 230, 231] rfl (by decide +kernel)
set_option maxRecDepth 20000 in
theorem gX12_batch_X12_isText : GoodIn wsX12_batch (wsV RX12 228 RX12 yX12_isText wsX12_isText) := goodIn_app (goodIn_r _ [3, 4, 5, 6] rfl (by decide +kernel)) ggX12_batch_X12_isText
set_option maxRecDepth 20000 in
theorem ggX12_batch_X12_readsOrders : GoodIn wsX12_batch wsX12_readsOrders := goodIn_r _ [15, 16, 17, 8, 2, 18, 19, 20, 6, 21, 22, 23, 24, 25, 26, 27, 28, 29, 30, 31, 32, 33, 34, 1, 35, 36, 37, 38, 39, 40, 41, 42, 43, 44, 45, 46, 9, 10, 11, 47, 48, 49, 50, 51, 52, 53, 54, 191, 192, 193, 194, 195, 196, 197, 198, 199, 200, 201, 202, 203, 204, 205, 206, 207, 208, 209, 210, 211, 212, 213, 214, 215, 216, 217, 218, 219, 220, 221, 222, 223, 224, 225, 226, 227, 228, 229, 230, 231] rfl (by decide +kernel)
set_option maxRecDepth 20000 in
theorem gX12_batch_X12_readsOrders : GoodIn wsX12_batch (wsV RX12 231 RX12 yX12_readsOrders wsX12_readsOrders) := goodIn_app (goodIn_r _ [12, 13, 14, 6] rfl (by decide +kernel)) ggX12_batch_X12_readsOrders
set_option maxRecDepth 20000 in
theorem ggX12_batch_X12_copies : GoodIn wsX12_batch wsX12_copies := goodIn_r _ [58, 59, 191, 192, 193, 194, 195, 196, 197, 198, 199, 200, 201, 202, 203, 204, 205, 206, 207, 208, 209, 210, 211, 212, 213, 214, 215, 216, 217, 218, 219, 220, 221, 222, 223, 224, 225, 226, 227, 228, 229, 230, 231] rfl (by decide +kernel)
set_option maxRecDepth 20000 in
theorem gX12_batch_X12_copies : GoodIn wsX12_batch (wsV RX12 237 RX12 yX12_copies wsX12_copies) := goodIn_app (goodIn_r _ [55, 56, 57, 6] rfl (by decide +kernel)) ggX12_batch_X12_copies
set_option maxRecDepth 20000 in
theorem ggX12_batch_X12_doesAll : GoodIn wsX12_batch wsX12_doesAll := goodIn_r _ [63, 2, 64, 65, 66, 6, 67, 22, 23, 25, 27, 68, 69, 70, 71, 29, 30, 72, 73, 74, 75, 76, 77, 39, 78, 79, 80, 81, 82, 83, 84, 85, 59, 86, 87, 88, 89, 90, 91, 92, 93, 94, 95, 96, 97, 98, 99, 100, 101, 102, 103, 104, 105, 106, 107, 108, 109, 110, 111, 112, 113, 114, 115, 116, 117, 118, 119, 120, 121, 122, 123, 124, 125, 126, 127, 128, 129, 130, 131, 132, 133, 134, 135, 136, 137, 138, 139, 140, 141, 142, 143, 144, 145, 146, 147, 148, 149, 150, 151, 152, 153, 154, 155, 156, 157, 158, 159, 160, 161, 162, 163, 164, 165, 166, 167, 168, 169, 170, 171, 172, 173, 174, 175, 176, 177, 178, 179, 180, 181, 182, 183, 184, 185, 186, 187, 188, 189, 190, 191, 192, 193, 194, 195, 196, 197, 198, 199, 200, 201, 202, 203, 204, 205, 206, 207, 208, 209, 210, 211, 212, 213, 214, 215, 216, 217, 218, 219, 220, 221, 222, 223, 224, 225, 226, 227, 228, 229, 230, 231] rfl (by decide +kernel)
set_option maxRecDepth 20000 in
theorem gX12_batch_X12_doesAll : GoodIn wsX12_batch (wsV RX12 234 RX12 yX12_doesAll wsX12_doesAll) := goodIn_app (goodIn_r _ [60, 61, 62, 6] rfl (by decide +kernel)) ggX12_batch_X12_doesAll
theorem dX12_batch_0 : decode cX12_batch 0 = .ok (.aload_n 0, 1) := by decide +kernel
theorem dX12_batch_1 : decode cX12_batch 1 = .ok (.iload_n 1, 1) := by decide +kernel
theorem dX12_batch_2 : decode cX12_batch 2 = .ok (.iconst 1, 1) := by decide +kernel
theorem dX12_batch_3 : decode cX12_batch 3 = .ok (.sipush 200, 3) := by decide +kernel
theorem dX12_batch_6 : decode cX12_batch 6 = .ok (.invokevirtual 228, 3) := by decide +kernel
theorem dX12_batch_9 : decode cX12_batch 9 = .ok (.ifCond .ne 5, 3) := by decide +kernel
theorem dX12_batch_12 : decode cX12_batch 12 = .ok (.iconst (-1), 1) := by decide +kernel
theorem dX12_batch_13 : decode cX12_batch 13 = .ok (.ireturn, 1) := by decide +kernel
theorem dX12_batch_14 : decode cX12_batch 14 = .ok (.aload_n 0, 1) := by decide +kernel
theorem dX12_batch_15 : decode cX12_batch 15 = .ok (.iload_n 1, 1) := by decide +kernel
theorem dX12_batch_16 : decode cX12_batch 16 = .ok (.invokevirtual 231, 3) := by decide +kernel
theorem dX12_batch_19 : decode cX12_batch 19 = .ok (.ifCond .ne 8, 3) := by decide +kernel
theorem dX12_batch_22 : decode cX12_batch 22 = .ok (.aload_n 0, 1) := by decide +kernel
theorem dX12_batch_23 : decode cX12_batch 23 = .ok (.getfield 186, 3) := by decide +kernel
theorem dX12_batch_26 : decode cX12_batch 26 = .ok (.ireturn, 1) := by decide +kernel
theorem dX12_batch_27 : decode cX12_batch 27 = .ok (.aload_n 0, 1) := by decide +kernel
theorem dX12_batch_28 : decode cX12_batch 28 = .ok (.iconst 0, 1) := by decide +kernel
theorem dX12_batch_29 : decode cX12_batch 29 = .ok (.iconst 3, 1) := by decide +kernel
theorem dX12_batch_30 : decode cX12_batch 30 = .ok (.invokevirtual 237, 3) := by decide +kernel
theorem dX12_batch_33 : decode cX12_batch 33 = .ok (.aload_n 0, 1) := by decide +kernel
theorem dX12_batch_34 : decode cX12_batch 34 = .ok (.invokevirtual 234, 3) := by decide +kernel
theorem dX12_batch_37 : decode cX12_batch 37 = .ok (.istore_n 2, 1) := by decide +kernel
theorem dX12_batch_38 : decode cX12_batch 38 = .ok (.iload_n 2, 1) := by decide +kernel
theorem dX12_batch_39 : decode cX12_batch 39 = .ok (.aload_n 0, 1) := by decide +kernel
theorem dX12_batch_40 : decode cX12_batch 40 = .ok (.getfield 204, 3) := by decide +kernel
theorem dX12_batch_43 : decode cX12_batch 43 = .ok (.if_icmp .ne 8, 3) := by decide +kernel
theorem dX12_batch_46 : decode cX12_batch 46 = .ok (.aload_n 0, 1) := by decide +kernel
theorem dX12_batch_47 : decode cX12_batch 47 = .ok (.getfield 204, 3) := by decide +kernel
theorem dX12_batch_50 : decode cX12_batch 50 = .ok (.ireturn, 1) := by decide +kernel
theorem dX12_batch_51 : decode cX12_batch 51 = .ok (.aload_n 0, 1) := by decide +kernel
theorem dX12_batch_52 : decode cX12_batch 52 = .ok (.iconst 3, 1) := by decide +kernel
theorem dX12_batch_53 : decode cX12_batch 53 = .ok (.iconst 0, 1) := by decide +kernel
theorem dX12_batch_54 : decode cX12_batch 54 = .ok (.invokevirtual 237, 3) := by decide +kernel
theorem dX12_batch_57 : decode cX12_batch 57 = .ok (.bipush (-3), 2) := by decide +kernel
theorem dX12_batch_59 : decode cX12_batch 59 = .ok (.iload_n 2, 1) := by decide +kernel
theorem dX12_batch_60 : decode cX12_batch 60 = .ok (.isub, 1) := by decide +kernel
theorem dX12_batch_61 : decode cX12_batch 61 = .ok (.ireturn, 1) := by decide +kernel
set_option maxRecDepth 20000 in
theorem ggX12_beginsLayer_X12_takesHand : GoodIn wsX12_beginsLayer wsX12_takesHand := goodIn_r _ [8, 9, 10, 11, 12, 13, 7, 14, 1, 15, 16, 17, 18, 31, 32, 33, 34, 35, 36, 37, 38, 39, 40, 41, 42, 43, 44, 45, 46, 47, 48, 49, 50, 51, 52, 53, 54, 55, 56, 57, 58, 59, 60, 61, 62, 63, 64, 65, 66, 67, 68, 69, 70, 71] rfl (by decide +kernel)
set_option maxRecDepth 20000 in
theorem gX12_beginsLayer_X12_takesHand : GoodIn wsX12_beginsLayer (wsV RX12 106 RX12 yX12_takesHand wsX12_takesHand) := goodIn_app (goodIn_r _ [4, 5, 6, 7] rfl (by decide +kernel)) ggX12_beginsLayer_X12_takesHand
set_option maxRecDepth 20000 in
theorem ggX12_beginsLayer_X12_findsRange : GoodIn wsX12_beginsLayer wsX12_findsRange := goodIn_r _ [22, 2, 3, 23, 24, 25, 7, 26, 1, 27, 28, 29, 30, 9, 10, 11, 12, 13, 14, 15, 16, 17, 18, 31, 32, 33, 34, 35, 36, 37, 38, 39, 40, 41, 42, 43, 44, 45, 46, 47, 48, 49, 50, 51, 52, 53, 54, 55, 56, 57, 58, 59, 60, 61, 62, 63, 64, 65, 66, 67, 68, 69, 70, 71] rfl (by decide +kernel)
set_option maxRecDepth 20000 in
theorem gX12_beginsLayer_X12_findsRange : GoodIn wsX12_beginsLayer (wsV RX12 93 RX12 yX12_findsRange wsX12_findsRange) := goodIn_app (goodIn_r _ [19, 20, 21, 7] rfl (by decide +kernel)) ggX12_beginsLayer_X12_findsRange
theorem dX12_beginsLayer_0 : decode cX12_beginsLayer 0 = .ok (.aload_n 0, 1) := by decide +kernel
theorem dX12_beginsLayer_1 : decode cX12_beginsLayer 1 = .ok (.iload_n 1, 1) := by decide +kernel
theorem dX12_beginsLayer_2 : decode cX12_beginsLayer 2 = .ok (.invokevirtual 106, 3) := by decide +kernel
theorem dX12_beginsLayer_5 : decode cX12_beginsLayer 5 = .ok (.aload_n 0, 1) := by decide +kernel
theorem dX12_beginsLayer_6 : decode cX12_beginsLayer 6 = .ok (.iload_n 2, 1) := by decide +kernel
theorem dX12_beginsLayer_7 : decode cX12_beginsLayer 7 = .ok (.aload_n 0, 1) := by decide +kernel
theorem dX12_beginsLayer_8 : decode cX12_beginsLayer 8 = .ok (.getfield 7, 3) := by decide +kernel
theorem dX12_beginsLayer_11 : decode cX12_beginsLayer 11 = .ok (.iconst 1, 1) := by decide +kernel
theorem dX12_beginsLayer_12 : decode cX12_beginsLayer 12 = .ok (.iaload, 1) := by decide +kernel
theorem dX12_beginsLayer_13 : decode cX12_beginsLayer 13 = .ok (.imul, 1) := by decide +kernel
theorem dX12_beginsLayer_14 : decode cX12_beginsLayer 14 = .ok (.invokevirtual 93, 3) := by decide +kernel
theorem dX12_beginsLayer_17 : decode cX12_beginsLayer 17 = .ok (.iload_n 2, 1) := by decide +kernel
theorem dX12_beginsLayer_18 : decode cX12_beginsLayer 18 = .ok (.ifCond .ne 15, 3) := by decide +kernel
theorem dX12_beginsLayer_21 : decode cX12_beginsLayer 21 = .ok (.iload_n 1, 1) := by decide +kernel
theorem dX12_beginsLayer_22 : decode cX12_beginsLayer 22 = .ok (.ifCond .ne 7, 3) := by decide +kernel
theorem dX12_beginsLayer_25 : decode cX12_beginsLayer 25 = .ok (.iconst 1, 1) := by decide +kernel
theorem dX12_beginsLayer_26 : decode cX12_beginsLayer 26 = .ok (.goto 33, 3) := by decide +kernel
theorem dX12_beginsLayer_29 : decode cX12_beginsLayer 29 = .ok (.iconst 0, 1) := by decide +kernel
theorem dX12_beginsLayer_30 : decode cX12_beginsLayer 30 = .ok (.goto 29, 3) := by decide +kernel
theorem dX12_beginsLayer_33 : decode cX12_beginsLayer 33 = .ok (.aload_n 0, 1) := by decide +kernel
theorem dX12_beginsLayer_34 : decode cX12_beginsLayer 34 = .ok (.getfield 84, 3) := by decide +kernel
theorem dX12_beginsLayer_37 : decode cX12_beginsLayer 37 = .ok (.iload_n 1, 1) := by decide +kernel
theorem dX12_beginsLayer_38 : decode cX12_beginsLayer 38 = .ok (.if_icmp .ne 20, 3) := by decide +kernel
theorem dX12_beginsLayer_41 : decode cX12_beginsLayer 41 = .ok (.aload_n 0, 1) := by decide +kernel
theorem dX12_beginsLayer_42 : decode cX12_beginsLayer 42 = .ok (.getfield 90, 3) := by decide +kernel
theorem dX12_beginsLayer_45 : decode cX12_beginsLayer 45 = .ok (.aload_n 0, 1) := by decide +kernel
theorem dX12_beginsLayer_46 : decode cX12_beginsLayer 46 = .ok (.getfield 84, 3) := by decide +kernel
theorem dX12_beginsLayer_49 : decode cX12_beginsLayer 49 = .ok (.isub, 1) := by decide +kernel
theorem dX12_beginsLayer_50 : decode cX12_beginsLayer 50 = .ok (.iconst 1, 1) := by decide +kernel
theorem dX12_beginsLayer_51 : decode cX12_beginsLayer 51 = .ok (.if_icmp .le 7, 3) := by decide +kernel
theorem dX12_beginsLayer_54 : decode cX12_beginsLayer 54 = .ok (.iconst 1, 1) := by decide +kernel
theorem dX12_beginsLayer_55 : decode cX12_beginsLayer 55 = .ok (.goto 4, 3) := by decide +kernel
theorem dX12_beginsLayer_58 : decode cX12_beginsLayer 58 = .ok (.iconst 0, 1) := by decide +kernel
theorem dX12_beginsLayer_59 : decode cX12_beginsLayer 59 = .ok (.ireturn, 1) := by decide +kernel
set_option maxRecDepth 20000 in
theorem ggX12_goesLayer_X12_many : GoodIn wsX12_goesLayer wsX12_many := goodIn_r _ [8, 3, 36, 37, 38, 39, 40, 41, 42, 43, 44, 45, 46, 47, 48, 49, 50, 51, 52, 53, 54, 55, 56, 57, 58, 59, 60, 61, 62, 63, 64, 65, 66, 67, 68, 69, 70, 71, 72, 73, 74, 75, 76] rfl (by decide +kernel)
set_option maxRecDepth 20000 in
theorem gX12_goesLayer_X12_many : GoodIn wsX12_goesLayer (wsV RX12 62 RX12 yX12_many wsX12_many) := goodIn_app (goodIn_r _ [4, 5, 6, 7] rfl (by decide +kernel)) ggX12_goesLayer_X12_many
set_option maxRecDepth 20000 in
theorem ggX12_goesLayer_X12_takesHand : GoodIn wsX12_goesLayer wsX12_takesHand := goodIn_r _ [12, 2, 13, 14, 15, 16, 7, 17, 3, 18, 19, 20, 21, 36, 37, 38, 39, 40, 41, 42, 43, 44, 45, 46, 47, 48, 49, 50, 51, 52, 53, 54, 55, 56, 57, 58, 59, 60, 61, 62, 63, 64, 65, 66, 67, 68, 69, 70, 71, 72, 73, 74, 75, 76] rfl (by decide +kernel)
set_option maxRecDepth 20000 in
theorem gX12_goesLayer_X12_takesHand : GoodIn wsX12_goesLayer (wsV RX12 106 RX12 yX12_takesHand wsX12_takesHand) := goodIn_app (goodIn_r _ [9, 10, 11, 7] rfl (by decide +kernel)) ggX12_goesLayer_X12_takesHand
set_option maxRecDepth 20000 in
theorem ggX12_goesLayer_X12_of : GoodIn wsX12_goesLayer wsX12_of := goodIn_r _ [17, 3, 36, 37, 38, 39, 40, 41, 42, 43, 44, 45, 46, 47, 48, 49, 50, 51, 52, 53, 54, 55, 56, 57, 58, 59, 60, 61, 62, 63, 64, 65, 66, 67, 68, 69, 70, 71, 72, 73, 74, 75, 76] rfl (by decide +kernel)
set_option maxRecDepth 20000 in
theorem gX12_goesLayer_X12_of : GoodIn wsX12_goesLayer (wsV RX12 50 RX12 yX12_of wsX12_of) := goodIn_app (goodIn_r _ [14, 15, 16, 7] rfl (by decide +kernel)) ggX12_goesLayer_X12_of
set_option maxRecDepth 20000 in
theorem ggX12_goesLayer_X12_beginsLayer : GoodIn wsX12_goesLayer wsX12_beginsLayer := goodIn_r _ [25, 3, 26, 27, 9, 10, 11, 7, 12, 2, 13, 14, 15, 16, 17, 18, 19, 20, 21, 28, 29, 30, 31, 4, 5, 6, 8, 32, 33, 34, 35, 36, 37, 38, 39, 40, 41, 42, 43, 44, 45, 46, 47, 48, 49, 50, 51, 52, 53, 54, 55, 56, 57, 58, 59, 60, 61, 62, 63, 64, 65, 66, 67, 68, 69, 70, 71, 72, 73, 74, 75, 76] rfl (by decide +kernel)
set_option maxRecDepth 20000 in
theorem gX12_goesLayer_X12_beginsLayer : GoodIn wsX12_goesLayer (wsV RX12 243 RX12 yX12_beginsLayer wsX12_beginsLayer) := goodIn_app (goodIn_r _ [22, 23, 24, 7] rfl (by decide +kernel)) ggX12_goesLayer_X12_beginsLayer
theorem dX12_goesLayer_0 : decode cX12_goesLayer 0 = .ok (.aload_n 0, 1) := by decide +kernel
theorem dX12_goesLayer_1 : decode cX12_goesLayer 1 = .ok (.iconst 0, 1) := by decide +kernel
theorem dX12_goesLayer_2 : decode cX12_goesLayer 2 = .ok (.putfield 240, 3) := by decide +kernel
theorem dX12_goesLayer_5 : decode cX12_goesLayer 5 = .ok (.aload_n 0, 1) := by decide +kernel
theorem dX12_goesLayer_6 : decode cX12_goesLayer 6 = .ok (.iconst 0, 1) := by decide +kernel
theorem dX12_goesLayer_7 : decode cX12_goesLayer 7 = .ok (.putfield 70, 3) := by decide +kernel
theorem dX12_goesLayer_10 : decode cX12_goesLayer 10 = .ok (.iconst 0, 1) := by decide +kernel
theorem dX12_goesLayer_11 : decode cX12_goesLayer 11 = .ok (.istore_n 2, 1) := by decide +kernel
theorem dX12_goesLayer_12 : decode cX12_goesLayer 12 = .ok (.iload_n 1, 1) := by decide +kernel
theorem dX12_goesLayer_13 : decode cX12_goesLayer 13 = .ok (.ifCond .ne 17, 3) := by decide +kernel
theorem dX12_goesLayer_16 : decode cX12_goesLayer 16 = .ok (.aload_n 0, 1) := by decide +kernel
theorem dX12_goesLayer_17 : decode cX12_goesLayer 17 = .ok (.invokevirtual 62, 3) := by decide +kernel
theorem dX12_goesLayer_20 : decode cX12_goesLayer 20 = .ok (.ifCond .le 8, 3) := by decide +kernel
theorem dX12_goesLayer_23 : decode cX12_goesLayer 23 = .ok (.aload_n 0, 1) := by decide +kernel
theorem dX12_goesLayer_24 : decode cX12_goesLayer 24 = .ok (.iconst 0, 1) := by decide +kernel
theorem dX12_goesLayer_25 : decode cX12_goesLayer 25 = .ok (.invokevirtual 106, 3) := by decide +kernel
theorem dX12_goesLayer_28 : decode cX12_goesLayer 28 = .ok (.iconst 1, 1) := by decide +kernel
theorem dX12_goesLayer_29 : decode cX12_goesLayer 29 = .ok (.ireturn, 1) := by decide +kernel
theorem dX12_goesLayer_30 : decode cX12_goesLayer 30 = .ok (.iconst 0, 1) := by decide +kernel
theorem dX12_goesLayer_31 : decode cX12_goesLayer 31 = .ok (.istore_n 3, 1) := by decide +kernel
theorem dX12_goesLayer_32 : decode cX12_goesLayer 32 = .ok (.iload_n 3, 1) := by decide +kernel
theorem dX12_goesLayer_33 : decode cX12_goesLayer 33 = .ok (.aload_n 0, 1) := by decide +kernel
theorem dX12_goesLayer_34 : decode cX12_goesLayer 34 = .ok (.invokevirtual 62, 3) := by decide +kernel
theorem dX12_goesLayer_37 : decode cX12_goesLayer 37 = .ok (.if_icmp .ge 66, 3) := by decide +kernel
theorem dX12_goesLayer_40 : decode cX12_goesLayer 40 = .ok (.iconst 0, 1) := by decide +kernel
theorem dX12_goesLayer_41 : decode cX12_goesLayer 41 = .ok (.istore 4, 2) := by decide +kernel
theorem dX12_goesLayer_43 : decode cX12_goesLayer 43 = .ok (.iload 4, 2) := by decide +kernel
theorem dX12_goesLayer_45 : decode cX12_goesLayer 45 = .ok (.aload_n 0, 1) := by decide +kernel
theorem dX12_goesLayer_46 : decode cX12_goesLayer 46 = .ok (.getfield 7, 3) := by decide +kernel
theorem dX12_goesLayer_49 : decode cX12_goesLayer 49 = .ok (.iconst 1, 1) := by decide +kernel
theorem dX12_goesLayer_50 : decode cX12_goesLayer 50 = .ok (.iaload, 1) := by decide +kernel
theorem dX12_goesLayer_51 : decode cX12_goesLayer 51 = .ok (.imul, 1) := by decide +kernel
theorem dX12_goesLayer_52 : decode cX12_goesLayer 52 = .ok (.aload_n 0, 1) := by decide +kernel
theorem dX12_goesLayer_53 : decode cX12_goesLayer 53 = .ok (.iload_n 3, 1) := by decide +kernel
theorem dX12_goesLayer_54 : decode cX12_goesLayer 54 = .ok (.iconst 0, 1) := by decide +kernel
theorem dX12_goesLayer_55 : decode cX12_goesLayer 55 = .ok (.invokevirtual 50, 3) := by decide +kernel
theorem dX12_goesLayer_58 : decode cX12_goesLayer 58 = .ok (.if_icmp .ge 39, 3) := by decide +kernel
theorem dX12_goesLayer_61 : decode cX12_goesLayer 61 = .ok (.aload_n 0, 1) := by decide +kernel
theorem dX12_goesLayer_62 : decode cX12_goesLayer 62 = .ok (.iload_n 3, 1) := by decide +kernel
theorem dX12_goesLayer_63 : decode cX12_goesLayer 63 = .ok (.iload 4, 2) := by decide +kernel
theorem dX12_goesLayer_65 : decode cX12_goesLayer 65 = .ok (.invokevirtual 243, 3) := by decide +kernel
theorem dX12_goesLayer_68 : decode cX12_goesLayer 68 = .ok (.ifCond .ne 6, 3) := by decide +kernel
theorem dX12_goesLayer_71 : decode cX12_goesLayer 71 = .ok (.goto 20, 3) := by decide +kernel
theorem dX12_goesLayer_74 : decode cX12_goesLayer 74 = .ok (.iload_n 2, 1) := by decide +kernel
theorem dX12_goesLayer_75 : decode cX12_goesLayer 75 = .ok (.iload_n 1, 1) := by decide +kernel
theorem dX12_goesLayer_76 : decode cX12_goesLayer 76 = .ok (.if_icmp .ne 11, 3) := by decide +kernel
theorem dX12_goesLayer_79 : decode cX12_goesLayer 79 = .ok (.aload_n 0, 1) := by decide +kernel
theorem dX12_goesLayer_80 : decode cX12_goesLayer 80 = .ok (.iload 4, 2) := by decide +kernel
theorem dX12_goesLayer_82 : decode cX12_goesLayer 82 = .ok (.putfield 240, 3) := by decide +kernel
theorem dX12_goesLayer_85 : decode cX12_goesLayer 85 = .ok (.iconst 1, 1) := by decide +kernel
theorem dX12_goesLayer_86 : decode cX12_goesLayer 86 = .ok (.ireturn, 1) := by decide +kernel
theorem dX12_goesLayer_87 : decode cX12_goesLayer 87 = .ok (.iload_n 2, 1) := by decide +kernel
theorem dX12_goesLayer_88 : decode cX12_goesLayer 88 = .ok (.iconst 1, 1) := by decide +kernel
theorem dX12_goesLayer_89 : decode cX12_goesLayer 89 = .ok (.iadd, 1) := by decide +kernel
theorem dX12_goesLayer_90 : decode cX12_goesLayer 90 = .ok (.istore_n 2, 1) := by decide +kernel
theorem dX12_goesLayer_91 : decode cX12_goesLayer 91 = .ok (.iinc 4 1, 3) := by decide +kernel
theorem dX12_goesLayer_94 : decode cX12_goesLayer 94 = .ok (.goto (-51), 3) := by decide +kernel
theorem dX12_goesLayer_97 : decode cX12_goesLayer 97 = .ok (.iinc 3 1, 3) := by decide +kernel
theorem dX12_goesLayer_100 : decode cX12_goesLayer 100 = .ok (.goto (-68), 3) := by decide +kernel
theorem dX12_goesLayer_103 : decode cX12_goesLayer 103 = .ok (.iconst 0, 1) := by decide +kernel
theorem dX12_goesLayer_104 : decode cX12_goesLayer 104 = .ok (.ireturn, 1) := by decide +kernel
set_option maxRecDepth 20000 in
theorem ggX12_pagesOf_X12_beginsPage : GoodIn wsX12_pagesOf wsX12_beginsPage := goodIn_r _ [7, 8, 9, 10, 6, 11, 12, 13, 14, 15, 16, 17, 18, 19, 20, 21, 22, 23, 24, 25, 26, 27, 28, 29, 30, 31, 32, 33, 34, 35, 36, 37, 38, 39, 40, 41, 42, 43, 44, 45, 46, 47, 48, 49, 50, 51, 52, 53, 54, 55, 56] rfl (by decide +kernel)
set_option maxRecDepth 20000 in
theorem gX12_pagesOf_X12_beginsPage : GoodIn wsX12_pagesOf (wsV RX12 103 RX12 yX12_beginsPage wsX12_beginsPage) := goodIn_app (goodIn_r _ [3, 4, 5, 6] rfl (by decide +kernel)) ggX12_pagesOf_X12_beginsPage
theorem dX12_pagesOf_0 : decode cX12_pagesOf 0 = .ok (.iconst 0, 1) := by decide +kernel
theorem dX12_pagesOf_1 : decode cX12_pagesOf 1 = .ok (.istore_n 2, 1) := by decide +kernel
theorem dX12_pagesOf_2 : decode cX12_pagesOf 2 = .ok (.iconst 0, 1) := by decide +kernel
theorem dX12_pagesOf_3 : decode cX12_pagesOf 3 = .ok (.istore_n 3, 1) := by decide +kernel
theorem dX12_pagesOf_4 : decode cX12_pagesOf 4 = .ok (.iload_n 3, 1) := by decide +kernel
theorem dX12_pagesOf_5 : decode cX12_pagesOf 5 = .ok (.aload_n 0, 1) := by decide +kernel
theorem dX12_pagesOf_6 : decode cX12_pagesOf 6 = .ok (.getfield 97, 3) := by decide +kernel
theorem dX12_pagesOf_9 : decode cX12_pagesOf 9 = .ok (.if_icmp .ge 27, 3) := by decide +kernel
theorem dX12_pagesOf_12 : decode cX12_pagesOf 12 = .ok (.aload_n 0, 1) := by decide +kernel
theorem dX12_pagesOf_13 : decode cX12_pagesOf 13 = .ok (.aload_n 0, 1) := by decide +kernel
theorem dX12_pagesOf_14 : decode cX12_pagesOf 14 = .ok (.getfield 16, 3) := by decide +kernel
theorem dX12_pagesOf_17 : decode cX12_pagesOf 17 = .ok (.iload_n 3, 1) := by decide +kernel
theorem dX12_pagesOf_18 : decode cX12_pagesOf 18 = .ok (.iaload, 1) := by decide +kernel
theorem dX12_pagesOf_19 : decode cX12_pagesOf 19 = .ok (.iload_n 1, 1) := by decide +kernel
theorem dX12_pagesOf_20 : decode cX12_pagesOf 20 = .ok (.invokevirtual 103, 3) := by decide +kernel
theorem dX12_pagesOf_23 : decode cX12_pagesOf 23 = .ok (.ifCond .eq 7, 3) := by decide +kernel
theorem dX12_pagesOf_26 : decode cX12_pagesOf 26 = .ok (.iload_n 2, 1) := by decide +kernel
theorem dX12_pagesOf_27 : decode cX12_pagesOf 27 = .ok (.iconst 1, 1) := by decide +kernel
theorem dX12_pagesOf_28 : decode cX12_pagesOf 28 = .ok (.iadd, 1) := by decide +kernel
theorem dX12_pagesOf_29 : decode cX12_pagesOf 29 = .ok (.istore_n 2, 1) := by decide +kernel
theorem dX12_pagesOf_30 : decode cX12_pagesOf 30 = .ok (.iinc 3 1, 3) := by decide +kernel
theorem dX12_pagesOf_33 : decode cX12_pagesOf 33 = .ok (.goto (-29), 3) := by decide +kernel
theorem dX12_pagesOf_36 : decode cX12_pagesOf 36 = .ok (.iload_n 2, 1) := by decide +kernel
theorem dX12_pagesOf_37 : decode cX12_pagesOf 37 = .ok (.ireturn, 1) := by decide +kernel
theorem dX12_kindsOf_0 : decode cX12_kindsOf 0 = .ok (.iconst 0, 1) := by decide +kernel
theorem dX12_kindsOf_1 : decode cX12_kindsOf 1 = .ok (.istore_n 2, 1) := by decide +kernel
theorem dX12_kindsOf_2 : decode cX12_kindsOf 2 = .ok (.iconst 0, 1) := by decide +kernel
theorem dX12_kindsOf_3 : decode cX12_kindsOf 3 = .ok (.istore_n 3, 1) := by decide +kernel
theorem dX12_kindsOf_4 : decode cX12_kindsOf 4 = .ok (.iload_n 3, 1) := by decide +kernel
theorem dX12_kindsOf_5 : decode cX12_kindsOf 5 = .ok (.aload_n 0, 1) := by decide +kernel
theorem dX12_kindsOf_6 : decode cX12_kindsOf 6 = .ok (.getfield 97, 3) := by decide +kernel
theorem dX12_kindsOf_9 : decode cX12_kindsOf 9 = .ok (.if_icmp .ge 23, 3) := by decide +kernel
theorem dX12_kindsOf_12 : decode cX12_kindsOf 12 = .ok (.aload_n 0, 1) := by decide +kernel
theorem dX12_kindsOf_13 : decode cX12_kindsOf 13 = .ok (.getfield 19, 3) := by decide +kernel
theorem dX12_kindsOf_16 : decode cX12_kindsOf 16 = .ok (.iload_n 3, 1) := by decide +kernel
theorem dX12_kindsOf_17 : decode cX12_kindsOf 17 = .ok (.iaload, 1) := by decide +kernel
theorem dX12_kindsOf_18 : decode cX12_kindsOf 18 = .ok (.iload_n 1, 1) := by decide +kernel
theorem dX12_kindsOf_19 : decode cX12_kindsOf 19 = .ok (.if_icmp .ne 7, 3) := by decide +kernel
theorem dX12_kindsOf_22 : decode cX12_kindsOf 22 = .ok (.iload_n 2, 1) := by decide +kernel
theorem dX12_kindsOf_23 : decode cX12_kindsOf 23 = .ok (.iconst 1, 1) := by decide +kernel
theorem dX12_kindsOf_24 : decode cX12_kindsOf 24 = .ok (.iadd, 1) := by decide +kernel
theorem dX12_kindsOf_25 : decode cX12_kindsOf 25 = .ok (.istore_n 2, 1) := by decide +kernel
theorem dX12_kindsOf_26 : decode cX12_kindsOf 26 = .ok (.iinc 3 1, 3) := by decide +kernel
theorem dX12_kindsOf_29 : decode cX12_kindsOf 29 = .ok (.goto (-25), 3) := by decide +kernel
theorem dX12_kindsOf_32 : decode cX12_kindsOf 32 = .ok (.iload_n 2, 1) := by decide +kernel
theorem dX12_kindsOf_33 : decode cX12_kindsOf 33 = .ok (.ireturn, 1) := by decide +kernel
set_option maxRecDepth 20000 in
theorem ggX12_partLong_X12_of : GoodIn wsX12_partLong wsX12_of := goodIn_r _ [7, 1, 11, 12, 13, 14, 15, 16, 17, 18, 19, 20, 21, 22, 23, 24, 25, 26, 27, 28, 29, 30, 31, 32, 33, 34, 35, 36, 37, 38, 39, 40, 41, 42, 43, 44, 45, 46, 47, 48, 49, 50, 51] rfl (by decide +kernel)
set_option maxRecDepth 20000 in
theorem gX12_partLong_X12_of : GoodIn wsX12_partLong (wsV RX12 50 RX12 yX12_of wsX12_of) := goodIn_app (goodIn_r _ [3, 4, 5, 6] rfl (by decide +kernel)) ggX12_partLong_X12_of
set_option maxRecDepth 20000 in
theorem ggX12_partLong_X12_min : GoodIn wsX12_partLong wsX12_min := goodIn_r _ [10] rfl (by decide +kernel)
set_option maxRecDepth 20000 in
theorem gX12_partLong_X12_min : GoodIn wsX12_partLong (va_wsS RX12 246 yX12_min wsX12_min) := goodIn_app (goodIn_r _ [8, 9, 6] rfl (by decide +kernel)) ggX12_partLong_X12_min
theorem dX12_partLong_0 : decode cX12_partLong 0 = .ok (.aload_n 0, 1) := by decide +kernel
theorem dX12_partLong_1 : decode cX12_partLong 1 = .ok (.getfield 7, 3) := by decide +kernel
theorem dX12_partLong_4 : decode cX12_partLong 4 = .ok (.iconst 1, 1) := by decide +kernel
theorem dX12_partLong_5 : decode cX12_partLong 5 = .ok (.iaload, 1) := by decide +kernel
theorem dX12_partLong_6 : decode cX12_partLong 6 = .ok (.aload_n 0, 1) := by decide +kernel
theorem dX12_partLong_7 : decode cX12_partLong 7 = .ok (.aload_n 0, 1) := by decide +kernel
theorem dX12_partLong_8 : decode cX12_partLong 8 = .ok (.getfield 16, 3) := by decide +kernel
theorem dX12_partLong_11 : decode cX12_partLong 11 = .ok (.iload_n 1, 1) := by decide +kernel
theorem dX12_partLong_12 : decode cX12_partLong 12 = .ok (.iaload, 1) := by decide +kernel
theorem dX12_partLong_13 : decode cX12_partLong 13 = .ok (.iconst 0, 1) := by decide +kernel
theorem dX12_partLong_14 : decode cX12_partLong 14 = .ok (.invokevirtual 50, 3) := by decide +kernel
theorem dX12_partLong_17 : decode cX12_partLong 17 = .ok (.iload_n 2, 1) := by decide +kernel
theorem dX12_partLong_18 : decode cX12_partLong 18 = .ok (.aload_n 0, 1) := by decide +kernel
theorem dX12_partLong_19 : decode cX12_partLong 19 = .ok (.getfield 7, 3) := by decide +kernel
theorem dX12_partLong_22 : decode cX12_partLong 22 = .ok (.iconst 1, 1) := by decide +kernel
theorem dX12_partLong_23 : decode cX12_partLong 23 = .ok (.iaload, 1) := by decide +kernel
theorem dX12_partLong_24 : decode cX12_partLong 24 = .ok (.imul, 1) := by decide +kernel
theorem dX12_partLong_25 : decode cX12_partLong 25 = .ok (.isub, 1) := by decide +kernel
theorem dX12_partLong_26 : decode cX12_partLong 26 = .ok (.invokestatic 246, 3) := by decide +kernel
theorem dX12_partLong_29 : decode cX12_partLong 29 = .ok (.ireturn, 1) := by decide +kernel
set_option maxRecDepth 20000 in
theorem ggX12_restLong_X12_of : GoodIn wsX12_restLong wsX12_of := goodIn_r _ [8, 3, 9, 10, 11, 12, 13, 14, 15, 16, 17, 18, 19, 20, 21, 22, 23, 24, 25, 26, 27, 28, 29, 30, 31, 32, 33, 34, 35, 36, 37, 38, 39, 40, 41, 42, 43, 44, 45, 46, 47, 48, 49] rfl (by decide +kernel)
set_option maxRecDepth 20000 in
theorem gX12_restLong_X12_of : GoodIn wsX12_restLong (wsV RX12 50 RX12 yX12_of wsX12_of) := goodIn_app (goodIn_r _ [4, 5, 6, 7] rfl (by decide +kernel)) ggX12_restLong_X12_of
theorem dX12_restLong_0 : decode cX12_restLong 0 = .ok (.aload_n 0, 1) := by decide +kernel
theorem dX12_restLong_1 : decode cX12_restLong 1 = .ok (.getfield 19, 3) := by decide +kernel
theorem dX12_restLong_4 : decode cX12_restLong 4 = .ok (.iload_n 1, 1) := by decide +kernel
theorem dX12_restLong_5 : decode cX12_restLong 5 = .ok (.iaload, 1) := by decide +kernel
theorem dX12_restLong_6 : decode cX12_restLong 6 = .ok (.iconst 1, 1) := by decide +kernel
theorem dX12_restLong_7 : decode cX12_restLong 7 = .ok (.if_icmp .ne 28, 3) := by decide +kernel
theorem dX12_restLong_10 : decode cX12_restLong 10 = .ok (.aload_n 0, 1) := by decide +kernel
theorem dX12_restLong_11 : decode cX12_restLong 11 = .ok (.aload_n 0, 1) := by decide +kernel
theorem dX12_restLong_12 : decode cX12_restLong 12 = .ok (.getfield 16, 3) := by decide +kernel
theorem dX12_restLong_15 : decode cX12_restLong 15 = .ok (.iload_n 1, 1) := by decide +kernel
theorem dX12_restLong_16 : decode cX12_restLong 16 = .ok (.iaload, 1) := by decide +kernel
theorem dX12_restLong_17 : decode cX12_restLong 17 = .ok (.iconst 0, 1) := by decide +kernel
theorem dX12_restLong_18 : decode cX12_restLong 18 = .ok (.invokevirtual 50, 3) := by decide +kernel
theorem dX12_restLong_21 : decode cX12_restLong 21 = .ok (.iload_n 2, 1) := by decide +kernel
theorem dX12_restLong_22 : decode cX12_restLong 22 = .ok (.iconst 1, 1) := by decide +kernel
theorem dX12_restLong_23 : decode cX12_restLong 23 = .ok (.iadd, 1) := by decide +kernel
theorem dX12_restLong_24 : decode cX12_restLong 24 = .ok (.aload_n 0, 1) := by decide +kernel
theorem dX12_restLong_25 : decode cX12_restLong 25 = .ok (.getfield 7, 3) := by decide +kernel
theorem dX12_restLong_28 : decode cX12_restLong 28 = .ok (.iconst 1, 1) := by decide +kernel
theorem dX12_restLong_29 : decode cX12_restLong 29 = .ok (.iaload, 1) := by decide +kernel
theorem dX12_restLong_30 : decode cX12_restLong 30 = .ok (.imul, 1) := by decide +kernel
theorem dX12_restLong_31 : decode cX12_restLong 31 = .ok (.isub, 1) := by decide +kernel
theorem dX12_restLong_32 : decode cX12_restLong 32 = .ok (.goto 4, 3) := by decide +kernel
theorem dX12_restLong_35 : decode cX12_restLong 35 = .ok (.iconst 0, 1) := by decide +kernel
theorem dX12_restLong_36 : decode cX12_restLong 36 = .ok (.ireturn, 1) := by decide +kernel
set_option maxRecDepth 20000 in
theorem ggX12_weightOf_X12_pagesOf : GoodIn wsX12_weightOf wsX12_pagesOf := goodIn_r _ [6, 1, 7, 8, 9, 10, 5, 11, 12, 13, 14, 15, 16, 17, 18, 19, 32, 33, 34, 35, 36, 37, 38, 39, 40, 41, 42, 43, 44, 45, 46, 47, 48, 49, 50, 51, 52, 53, 54, 55, 56, 57, 58, 59, 60, 61, 62, 63, 64, 65, 66, 67, 68, 69, 70, 71, 72] rfl (by decide +kernel)
set_option maxRecDepth 20000 in
theorem gX12_weightOf_X12_pagesOf : GoodIn wsX12_weightOf (wsV RX12 249 RX12 yX12_pagesOf wsX12_pagesOf) := goodIn_app (goodIn_r _ [2, 3, 4, 5] rfl (by decide +kernel)) ggX12_weightOf_X12_pagesOf
set_option maxRecDepth 20000 in
theorem ggX12_weightOf_X12_partLong : GoodIn wsX12_weightOf wsX12_partLong := goodIn_r _ [23, 16, 7, 12, 13, 14, 5, 15, 24, 25, 26, 32, 33, 34, 35, 36, 37, 38, 39, 40, 41, 42, 43, 44, 45, 46, 47, 48, 49, 50, 51, 52, 53, 54, 55, 56, 57, 58, 59, 60, 61, 62, 63, 64, 65, 66, 67, 68, 69, 70, 71, 72] rfl (by decide +kernel)
set_option maxRecDepth 20000 in
theorem gX12_weightOf_X12_partLong : GoodIn wsX12_weightOf (wsV RX12 252 RX12 yX12_partLong wsX12_partLong) := goodIn_app (goodIn_r _ [20, 21, 22, 5] rfl (by decide +kernel)) ggX12_weightOf_X12_partLong
set_option maxRecDepth 20000 in
theorem ggX12_weightOf_X12_restLong : GoodIn wsX12_weightOf wsX12_restLong := goodIn_r _ [30, 31, 7, 16, 12, 13, 14, 5, 15, 32, 33, 34, 35, 36, 37, 38, 39, 40, 41, 42, 43, 44, 45, 46, 47, 48, 49, 50, 51, 52, 53, 54, 55, 56, 57, 58, 59, 60, 61, 62, 63, 64, 65, 66, 67, 68, 69, 70, 71, 72] rfl (by decide +kernel)
set_option maxRecDepth 20000 in
theorem gX12_weightOf_X12_restLong : GoodIn wsX12_weightOf (wsV RX12 255 RX12 yX12_restLong wsX12_restLong) := goodIn_app (goodIn_r _ [27, 28, 29, 5] rfl (by decide +kernel)) ggX12_weightOf_X12_restLong
theorem dX12_weightOf_0 : decode cX12_weightOf 0 = .ok (.bipush 8, 2) := by decide +kernel
theorem dX12_weightOf_2 : decode cX12_weightOf 2 = .ok (.iconst 4, 1) := by decide +kernel
theorem dX12_weightOf_3 : decode cX12_weightOf 3 = .ok (.aload_n 0, 1) := by decide +kernel
theorem dX12_weightOf_4 : decode cX12_weightOf 4 = .ok (.iload_n 1, 1) := by decide +kernel
theorem dX12_weightOf_5 : decode cX12_weightOf 5 = .ok (.invokevirtual 249, 3) := by decide +kernel
theorem dX12_weightOf_8 : decode cX12_weightOf 8 = .ok (.imul, 1) := by decide +kernel
theorem dX12_weightOf_9 : decode cX12_weightOf 9 = .ok (.iadd, 1) := by decide +kernel
theorem dX12_weightOf_10 : decode cX12_weightOf 10 = .ok (.istore_n 2, 1) := by decide +kernel
theorem dX12_weightOf_11 : decode cX12_weightOf 11 = .ok (.iconst 0, 1) := by decide +kernel
theorem dX12_weightOf_12 : decode cX12_weightOf 12 = .ok (.istore_n 3, 1) := by decide +kernel
theorem dX12_weightOf_13 : decode cX12_weightOf 13 = .ok (.iload_n 3, 1) := by decide +kernel
theorem dX12_weightOf_14 : decode cX12_weightOf 14 = .ok (.aload_n 0, 1) := by decide +kernel
theorem dX12_weightOf_15 : decode cX12_weightOf 15 = .ok (.getfield 97, 3) := by decide +kernel
theorem dX12_weightOf_18 : decode cX12_weightOf 18 = .ok (.if_icmp .ge 27, 3) := by decide +kernel
theorem dX12_weightOf_21 : decode cX12_weightOf 21 = .ok (.iload_n 2, 1) := by decide +kernel
theorem dX12_weightOf_22 : decode cX12_weightOf 22 = .ok (.iconst 2, 1) := by decide +kernel
theorem dX12_weightOf_23 : decode cX12_weightOf 23 = .ok (.iadd, 1) := by decide +kernel
theorem dX12_weightOf_24 : decode cX12_weightOf 24 = .ok (.aload_n 0, 1) := by decide +kernel
theorem dX12_weightOf_25 : decode cX12_weightOf 25 = .ok (.iload_n 3, 1) := by decide +kernel
theorem dX12_weightOf_26 : decode cX12_weightOf 26 = .ok (.iload_n 1, 1) := by decide +kernel
theorem dX12_weightOf_27 : decode cX12_weightOf 27 = .ok (.invokevirtual 252, 3) := by decide +kernel
theorem dX12_weightOf_30 : decode cX12_weightOf 30 = .ok (.iadd, 1) := by decide +kernel
theorem dX12_weightOf_31 : decode cX12_weightOf 31 = .ok (.aload_n 0, 1) := by decide +kernel
theorem dX12_weightOf_32 : decode cX12_weightOf 32 = .ok (.iload_n 3, 1) := by decide +kernel
theorem dX12_weightOf_33 : decode cX12_weightOf 33 = .ok (.iload_n 1, 1) := by decide +kernel
theorem dX12_weightOf_34 : decode cX12_weightOf 34 = .ok (.invokevirtual 255, 3) := by decide +kernel
theorem dX12_weightOf_37 : decode cX12_weightOf 37 = .ok (.iadd, 1) := by decide +kernel
theorem dX12_weightOf_38 : decode cX12_weightOf 38 = .ok (.istore_n 2, 1) := by decide +kernel
theorem dX12_weightOf_39 : decode cX12_weightOf 39 = .ok (.iinc 3 1, 3) := by decide +kernel
theorem dX12_weightOf_42 : decode cX12_weightOf 42 = .ok (.goto (-29), 3) := by decide +kernel
theorem dX12_weightOf_45 : decode cX12_weightOf 45 = .ok (.iload_n 2, 1) := by decide +kernel
theorem dX12_weightOf_46 : decode cX12_weightOf 46 = .ok (.ireturn, 1) := by decide +kernel
set_option maxRecDepth 20000 in
theorem ggX12_addsLayer_X12_pagesOf : GoodIn wsX12_addsLayer wsX12_pagesOf := goodIn_r _ [12, 13, 14, 15, 16, 17, 11, 18, 19, 20, 21, 22, 23, 24, 25, 26, 50, 51, 52, 53, 54, 55, 56, 57, 58, 59, 60, 61, 62, 63, 64, 65, 66, 67, 68, 69, 70, 71, 72, 73, 74, 75, 76, 77, 78, 79, 80, 81, 82, 83, 84, 85, 86, 87, 88, 89, 90] rfl (by decide +kernel)
set_option maxRecDepth 20000 in
theorem gX12_addsLayer_X12_pagesOf : GoodIn wsX12_addsLayer (wsV RX12 249 RX12 yX12_pagesOf wsX12_pagesOf) := goodIn_app (goodIn_r _ [8, 9, 10, 11] rfl (by decide +kernel)) ggX12_addsLayer_X12_pagesOf
set_option maxRecDepth 20000 in
theorem ggX12_addsLayer_X12_kindsOf : GoodIn wsX12_addsLayer wsX12_kindsOf := goodIn_r _ [30, 13, 31, 50, 51, 52, 53, 54, 55, 56, 57, 58, 59, 60, 61, 62, 63, 64, 65, 66, 67, 68, 69, 70, 71, 72, 73, 74, 75, 76, 77, 78, 79, 80, 81, 82, 83, 84, 85, 86, 87, 88, 89, 90] rfl (by decide +kernel)
set_option maxRecDepth 20000 in
theorem gX12_addsLayer_X12_kindsOf : GoodIn wsX12_addsLayer (wsV RX12 267 RX12 yX12_kindsOf wsX12_kindsOf) := goodIn_app (goodIn_r _ [27, 28, 29, 11] rfl (by decide +kernel)) ggX12_addsLayer_X12_kindsOf
set_option maxRecDepth 20000 in
theorem ggX12_addsLayer_X12_max : GoodIn wsX12_addsLayer wsX12_max := goodIn_r _ [34] rfl (by decide +kernel)
set_option maxRecDepth 20000 in
theorem gX12_addsLayer_X12_max : GoodIn wsX12_addsLayer (va_wsS RX12 279 yX12_max wsX12_max) := goodIn_app (goodIn_r _ [32, 33, 11] rfl (by decide +kernel)) ggX12_addsLayer_X12_max
set_option maxRecDepth 20000 in
theorem ggX12_addsLayer_X12_weightOf : GoodIn wsX12_addsLayer wsX12_weightOf := goodIn_r _ [38, 13, 8, 9, 10, 11, 12, 14, 15, 16, 17, 18, 19, 20, 21, 22, 23, 24, 25, 26, 39, 40, 41, 42, 43, 44, 45, 46, 47, 48, 49, 31, 50, 51, 52, 53, 54, 55, 56, 57, 58, 59, 60, 61, 62, 63, 64, 65, 66, 67, 68, 69, 70, 71, 72, 73, 74, 75, 76, 77, 78, 79, 80, 81, 82, 83, 84, 85, 86, 87, 88, 89, 90] rfl (by decide +kernel)
set_option maxRecDepth 20000 in
theorem gX12_addsLayer_X12_weightOf : GoodIn wsX12_addsLayer (wsV RX12 285 RX12 yX12_weightOf wsX12_weightOf) := goodIn_app (goodIn_r _ [35, 36, 37, 11] rfl (by decide +kernel)) ggX12_addsLayer_X12_weightOf
theorem dX12_addsLayer_0 : decode cX12_addsLayer 0 = .ok (.aload_n 0, 1) := by decide +kernel
theorem dX12_addsLayer_1 : decode cX12_addsLayer 1 = .ok (.aload_n 0, 1) := by decide +kernel
theorem dX12_addsLayer_2 : decode cX12_addsLayer 2 = .ok (.getfield 258, 3) := by decide +kernel
theorem dX12_addsLayer_5 : decode cX12_addsLayer 5 = .ok (.iconst 1, 1) := by decide +kernel
theorem dX12_addsLayer_6 : decode cX12_addsLayer 6 = .ok (.iadd, 1) := by decide +kernel
theorem dX12_addsLayer_7 : decode cX12_addsLayer 7 = .ok (.putfield 258, 3) := by decide +kernel
theorem dX12_addsLayer_10 : decode cX12_addsLayer 10 = .ok (.aload_n 0, 1) := by decide +kernel
theorem dX12_addsLayer_11 : decode cX12_addsLayer 11 = .ok (.aload_n 0, 1) := by decide +kernel
theorem dX12_addsLayer_12 : decode cX12_addsLayer 12 = .ok (.getfield 261, 3) := by decide +kernel
theorem dX12_addsLayer_15 : decode cX12_addsLayer 15 = .ok (.aload_n 0, 1) := by decide +kernel
theorem dX12_addsLayer_16 : decode cX12_addsLayer 16 = .ok (.iload_n 1, 1) := by decide +kernel
theorem dX12_addsLayer_17 : decode cX12_addsLayer 17 = .ok (.invokevirtual 249, 3) := by decide +kernel
theorem dX12_addsLayer_20 : decode cX12_addsLayer 20 = .ok (.iadd, 1) := by decide +kernel
theorem dX12_addsLayer_21 : decode cX12_addsLayer 21 = .ok (.putfield 261, 3) := by decide +kernel
theorem dX12_addsLayer_24 : decode cX12_addsLayer 24 = .ok (.aload_n 0, 1) := by decide +kernel
theorem dX12_addsLayer_25 : decode cX12_addsLayer 25 = .ok (.aload_n 0, 1) := by decide +kernel
theorem dX12_addsLayer_26 : decode cX12_addsLayer 26 = .ok (.getfield 264, 3) := by decide +kernel
theorem dX12_addsLayer_29 : decode cX12_addsLayer 29 = .ok (.aload_n 0, 1) := by decide +kernel
theorem dX12_addsLayer_30 : decode cX12_addsLayer 30 = .ok (.iconst 0, 1) := by decide +kernel
theorem dX12_addsLayer_31 : decode cX12_addsLayer 31 = .ok (.invokevirtual 267, 3) := by decide +kernel
theorem dX12_addsLayer_34 : decode cX12_addsLayer 34 = .ok (.iadd, 1) := by decide +kernel
theorem dX12_addsLayer_35 : decode cX12_addsLayer 35 = .ok (.putfield 264, 3) := by decide +kernel
theorem dX12_addsLayer_38 : decode cX12_addsLayer 38 = .ok (.aload_n 0, 1) := by decide +kernel
theorem dX12_addsLayer_39 : decode cX12_addsLayer 39 = .ok (.aload_n 0, 1) := by decide +kernel
theorem dX12_addsLayer_40 : decode cX12_addsLayer 40 = .ok (.getfield 270, 3) := by decide +kernel
theorem dX12_addsLayer_43 : decode cX12_addsLayer 43 = .ok (.aload_n 0, 1) := by decide +kernel
theorem dX12_addsLayer_44 : decode cX12_addsLayer 44 = .ok (.iconst 1, 1) := by decide +kernel
theorem dX12_addsLayer_45 : decode cX12_addsLayer 45 = .ok (.invokevirtual 267, 3) := by decide +kernel
theorem dX12_addsLayer_48 : decode cX12_addsLayer 48 = .ok (.iadd, 1) := by decide +kernel
theorem dX12_addsLayer_49 : decode cX12_addsLayer 49 = .ok (.putfield 270, 3) := by decide +kernel
theorem dX12_addsLayer_52 : decode cX12_addsLayer 52 = .ok (.aload_n 0, 1) := by decide +kernel
theorem dX12_addsLayer_53 : decode cX12_addsLayer 53 = .ok (.aload_n 0, 1) := by decide +kernel
theorem dX12_addsLayer_54 : decode cX12_addsLayer 54 = .ok (.getfield 273, 3) := by decide +kernel
theorem dX12_addsLayer_57 : decode cX12_addsLayer 57 = .ok (.aload_n 0, 1) := by decide +kernel
theorem dX12_addsLayer_58 : decode cX12_addsLayer 58 = .ok (.iconst 2, 1) := by decide +kernel
theorem dX12_addsLayer_59 : decode cX12_addsLayer 59 = .ok (.invokevirtual 267, 3) := by decide +kernel
theorem dX12_addsLayer_62 : decode cX12_addsLayer 62 = .ok (.iadd, 1) := by decide +kernel
theorem dX12_addsLayer_63 : decode cX12_addsLayer 63 = .ok (.putfield 273, 3) := by decide +kernel
theorem dX12_addsLayer_66 : decode cX12_addsLayer 66 = .ok (.aload_n 0, 1) := by decide +kernel
theorem dX12_addsLayer_67 : decode cX12_addsLayer 67 = .ok (.aload_n 0, 1) := by decide +kernel
theorem dX12_addsLayer_68 : decode cX12_addsLayer 68 = .ok (.getfield 276, 3) := by decide +kernel
theorem dX12_addsLayer_71 : decode cX12_addsLayer 71 = .ok (.iload_n 1, 1) := by decide +kernel
theorem dX12_addsLayer_72 : decode cX12_addsLayer 72 = .ok (.iconst 1, 1) := by decide +kernel
theorem dX12_addsLayer_73 : decode cX12_addsLayer 73 = .ok (.iadd, 1) := by decide +kernel
theorem dX12_addsLayer_74 : decode cX12_addsLayer 74 = .ok (.invokestatic 279, 3) := by decide +kernel
theorem dX12_addsLayer_77 : decode cX12_addsLayer 77 = .ok (.putfield 276, 3) := by decide +kernel
theorem dX12_addsLayer_80 : decode cX12_addsLayer 80 = .ok (.aload_n 0, 1) := by decide +kernel
theorem dX12_addsLayer_81 : decode cX12_addsLayer 81 = .ok (.aload_n 0, 1) := by decide +kernel
theorem dX12_addsLayer_82 : decode cX12_addsLayer 82 = .ok (.getfield 282, 3) := by decide +kernel
theorem dX12_addsLayer_85 : decode cX12_addsLayer 85 = .ok (.aload_n 0, 1) := by decide +kernel
theorem dX12_addsLayer_86 : decode cX12_addsLayer 86 = .ok (.iload_n 1, 1) := by decide +kernel
theorem dX12_addsLayer_87 : decode cX12_addsLayer 87 = .ok (.invokevirtual 285, 3) := by decide +kernel
theorem dX12_addsLayer_90 : decode cX12_addsLayer 90 = .ok (.iadd, 1) := by decide +kernel
theorem dX12_addsLayer_91 : decode cX12_addsLayer 91 = .ok (.putfield 282, 3) := by decide +kernel
theorem dX12_addsLayer_94 : decode cX12_addsLayer 94 = .ok (.return_, 1) := by decide +kernel
set_option maxRecDepth 20000 in
theorem ggX12_sums_X12_many : GoodIn wsX12_sums wsX12_many := goodIn_r _ [13, 8, 90, 91, 92, 93, 94, 95, 96, 97, 98, 99, 100, 101, 102, 103, 104, 105, 106, 107, 108, 109, 110, 111, 112, 113, 114, 115, 116, 117, 118, 119, 120, 121, 122, 123, 124, 125, 126, 127, 128, 129, 130] rfl (by decide +kernel)
set_option maxRecDepth 20000 in
theorem gX12_sums_X12_many : GoodIn wsX12_sums (wsV RX12 62 RX12 yX12_many wsX12_many) := goodIn_app (goodIn_r _ [9, 10, 11, 12] rfl (by decide +kernel)) ggX12_sums_X12_many
set_option maxRecDepth 20000 in
theorem ggX12_sums_X12_of : GoodIn wsX12_sums wsX12_of := goodIn_r _ [17, 8, 90, 91, 92, 93, 94, 95, 96, 97, 98, 99, 100, 101, 102, 103, 104, 105, 106, 107, 108, 109, 110, 111, 112, 113, 114, 115, 116, 117, 118, 119, 120, 121, 122, 123, 124, 125, 126, 127, 128, 129, 130] rfl (by decide +kernel)
set_option maxRecDepth 20000 in
theorem gX12_sums_X12_of : GoodIn wsX12_sums (wsV RX12 50 RX12 yX12_of wsX12_of) := goodIn_app (goodIn_r _ [14, 15, 16, 12] rfl (by decide +kernel)) ggX12_sums_X12_of
set_option maxRecDepth 20000 in
theorem ggX12_sums_X12_beginsLayer : GoodIn wsX12_sums wsX12_beginsLayer := goodIn_r _ [21, 8, 22, 23, 24, 25, 26, 12, 27, 28, 29, 14, 15, 16, 17, 30, 31, 32, 33, 34, 35, 36, 37, 9, 10, 11, 13, 38, 39, 40, 41, 90, 91, 92, 93, 94, 95, 96, 97, 98, 99, 100, 101, 102, 103, 104, 105, 106, 107, 108, 109, 110, 111, 112, 113, 114, 115, 116, 117, 118, 119, 120, 121, 122, 123, 124, 125, 126, 127, 128, 129, 130] rfl (by decide +kernel)
set_option maxRecDepth 20000 in
theorem gX12_sums_X12_beginsLayer : GoodIn wsX12_sums (wsV RX12 243 RX12 yX12_beginsLayer wsX12_beginsLayer) := goodIn_app (goodIn_r _ [18, 19, 20, 12] rfl (by decide +kernel)) ggX12_sums_X12_beginsLayer
set_option maxRecDepth 20000 in
theorem ggX12_sums_X12_findsEntries : GoodIn wsX12_sums wsX12_findsEntries := goodIn_r _ [45, 8, 46, 22, 23, 47, 48, 34, 35, 36, 12, 37, 9, 10, 11, 13, 38, 39, 40, 41, 28, 29, 14, 15, 16, 17, 30, 31, 32, 33, 49, 50, 51, 52, 90, 91, 92, 93, 94, 95, 96, 97, 98, 99, 100, 101, 102, 103, 104, 105, 106, 107, 108, 109, 110, 111, 112, 113, 114, 115, 116, 117, 118, 119, 120, 121, 122, 123, 124, 125, 126, 127, 128, 129, 130] rfl (by decide +kernel)
set_option maxRecDepth 20000 in
theorem gX12_sums_X12_findsEntries : GoodIn wsX12_sums (wsV RX12 119 RX12 yX12_findsEntries wsX12_findsEntries) := goodIn_app (goodIn_r _ [42, 43, 44, 12] rfl (by decide +kernel)) ggX12_sums_X12_findsEntries
set_option maxRecDepth 20000 in
theorem ggX12_sums_X12_addsLayer : GoodIn wsX12_sums wsX12_addsLayer := goodIn_r _ [56, 1, 2, 3, 4, 5, 6, 7, 57, 58, 59, 12, 60, 46, 48, 61, 62, 63, 64, 14, 15, 16, 17, 8, 65, 66, 67, 68, 69, 70, 71, 47, 72, 73, 74, 75, 76, 77, 78, 79, 80, 81, 82, 83, 84, 85, 86, 87, 88, 89, 90, 91, 92, 93, 94, 95, 96, 97, 98, 99, 100, 101, 102, 103, 104, 105, 106, 107, 108, 109, 110, 111, 112, 113, 114, 115, 116, 117, 118, 119, 120, 121, 122, 123, 124, 125, 126, 127, 128, 129, 130] rfl (by decide +kernel)
set_option maxRecDepth 20000 in
theorem gX12_sums_X12_addsLayer : GoodIn wsX12_sums (wsV RX12 288 RX12 yX12_addsLayer wsX12_addsLayer) := goodIn_app (goodIn_r _ [53, 54, 55, 12] rfl (by decide +kernel)) ggX12_sums_X12_addsLayer
theorem dX12_sums_0 : decode cX12_sums 0 = .ok (.aload_n 0, 1) := by decide +kernel
theorem dX12_sums_1 : decode cX12_sums 1 = .ok (.iconst 0, 1) := by decide +kernel
theorem dX12_sums_2 : decode cX12_sums 2 = .ok (.putfield 258, 3) := by decide +kernel
theorem dX12_sums_5 : decode cX12_sums 5 = .ok (.aload_n 0, 1) := by decide +kernel
theorem dX12_sums_6 : decode cX12_sums 6 = .ok (.iconst 0, 1) := by decide +kernel
theorem dX12_sums_7 : decode cX12_sums 7 = .ok (.putfield 261, 3) := by decide +kernel
theorem dX12_sums_10 : decode cX12_sums 10 = .ok (.aload_n 0, 1) := by decide +kernel
theorem dX12_sums_11 : decode cX12_sums 11 = .ok (.iconst 0, 1) := by decide +kernel
theorem dX12_sums_12 : decode cX12_sums 12 = .ok (.putfield 264, 3) := by decide +kernel
theorem dX12_sums_15 : decode cX12_sums 15 = .ok (.aload_n 0, 1) := by decide +kernel
theorem dX12_sums_16 : decode cX12_sums 16 = .ok (.iconst 0, 1) := by decide +kernel
theorem dX12_sums_17 : decode cX12_sums 17 = .ok (.putfield 270, 3) := by decide +kernel
theorem dX12_sums_20 : decode cX12_sums 20 = .ok (.aload_n 0, 1) := by decide +kernel
theorem dX12_sums_21 : decode cX12_sums 21 = .ok (.iconst 0, 1) := by decide +kernel
theorem dX12_sums_22 : decode cX12_sums 22 = .ok (.putfield 273, 3) := by decide +kernel
theorem dX12_sums_25 : decode cX12_sums 25 = .ok (.aload_n 0, 1) := by decide +kernel
theorem dX12_sums_26 : decode cX12_sums 26 = .ok (.iconst 1, 1) := by decide +kernel
theorem dX12_sums_27 : decode cX12_sums 27 = .ok (.putfield 276, 3) := by decide +kernel
theorem dX12_sums_30 : decode cX12_sums 30 = .ok (.aload_n 0, 1) := by decide +kernel
theorem dX12_sums_31 : decode cX12_sums 31 = .ok (.bipush 8, 2) := by decide +kernel
theorem dX12_sums_33 : decode cX12_sums 33 = .ok (.putfield 282, 3) := by decide +kernel
theorem dX12_sums_36 : decode cX12_sums 36 = .ok (.aload_n 0, 1) := by decide +kernel
theorem dX12_sums_37 : decode cX12_sums 37 = .ok (.invokevirtual 62, 3) := by decide +kernel
theorem dX12_sums_40 : decode cX12_sums 40 = .ok (.ifCond .ne 8, 3) := by decide +kernel
theorem dX12_sums_43 : decode cX12_sums 43 = .ok (.aload_n 0, 1) := by decide +kernel
theorem dX12_sums_44 : decode cX12_sums 44 = .ok (.iconst 1, 1) := by decide +kernel
theorem dX12_sums_45 : decode cX12_sums 45 = .ok (.putfield 258, 3) := by decide +kernel
theorem dX12_sums_48 : decode cX12_sums 48 = .ok (.aload_n 0, 1) := by decide +kernel
theorem dX12_sums_49 : decode cX12_sums 49 = .ok (.invokevirtual 62, 3) := by decide +kernel
theorem dX12_sums_52 : decode cX12_sums 52 = .ok (.ifCond .le 8, 3) := by decide +kernel
theorem dX12_sums_55 : decode cX12_sums 55 = .ok (.aload_n 0, 1) := by decide +kernel
theorem dX12_sums_56 : decode cX12_sums 56 = .ok (.iconst 0, 1) := by decide +kernel
theorem dX12_sums_57 : decode cX12_sums 57 = .ok (.putfield 282, 3) := by decide +kernel
theorem dX12_sums_60 : decode cX12_sums 60 = .ok (.iconst 0, 1) := by decide +kernel
theorem dX12_sums_61 : decode cX12_sums 61 = .ok (.istore_n 1, 1) := by decide +kernel
theorem dX12_sums_62 : decode cX12_sums 62 = .ok (.iload_n 1, 1) := by decide +kernel
theorem dX12_sums_63 : decode cX12_sums 63 = .ok (.aload_n 0, 1) := by decide +kernel
theorem dX12_sums_64 : decode cX12_sums 64 = .ok (.invokevirtual 62, 3) := by decide +kernel
theorem dX12_sums_67 : decode cX12_sums 67 = .ok (.if_icmp .ge 56, 3) := by decide +kernel
theorem dX12_sums_70 : decode cX12_sums 70 = .ok (.iconst 0, 1) := by decide +kernel
theorem dX12_sums_71 : decode cX12_sums 71 = .ok (.istore_n 2, 1) := by decide +kernel
theorem dX12_sums_72 : decode cX12_sums 72 = .ok (.iload_n 2, 1) := by decide +kernel
theorem dX12_sums_73 : decode cX12_sums 73 = .ok (.aload_n 0, 1) := by decide +kernel
theorem dX12_sums_74 : decode cX12_sums 74 = .ok (.getfield 7, 3) := by decide +kernel
theorem dX12_sums_77 : decode cX12_sums 77 = .ok (.iconst 1, 1) := by decide +kernel
theorem dX12_sums_78 : decode cX12_sums 78 = .ok (.iaload, 1) := by decide +kernel
theorem dX12_sums_79 : decode cX12_sums 79 = .ok (.imul, 1) := by decide +kernel
theorem dX12_sums_80 : decode cX12_sums 80 = .ok (.aload_n 0, 1) := by decide +kernel
theorem dX12_sums_81 : decode cX12_sums 81 = .ok (.iload_n 1, 1) := by decide +kernel
theorem dX12_sums_82 : decode cX12_sums 82 = .ok (.iconst 0, 1) := by decide +kernel
theorem dX12_sums_83 : decode cX12_sums 83 = .ok (.invokevirtual 50, 3) := by decide +kernel
theorem dX12_sums_86 : decode cX12_sums 86 = .ok (.if_icmp .ge 31, 3) := by decide +kernel
theorem dX12_sums_89 : decode cX12_sums 89 = .ok (.aload_n 0, 1) := by decide +kernel
theorem dX12_sums_90 : decode cX12_sums 90 = .ok (.iload_n 1, 1) := by decide +kernel
theorem dX12_sums_91 : decode cX12_sums 91 = .ok (.iload_n 2, 1) := by decide +kernel
theorem dX12_sums_92 : decode cX12_sums 92 = .ok (.invokevirtual 243, 3) := by decide +kernel
theorem dX12_sums_95 : decode cX12_sums 95 = .ok (.ifCond .ne 6, 3) := by decide +kernel
theorem dX12_sums_98 : decode cX12_sums 98 = .ok (.goto 13, 3) := by decide +kernel
theorem dX12_sums_101 : decode cX12_sums 101 = .ok (.aload_n 0, 1) := by decide +kernel
theorem dX12_sums_102 : decode cX12_sums 102 = .ok (.iload_n 2, 1) := by decide +kernel
theorem dX12_sums_103 : decode cX12_sums 103 = .ok (.invokevirtual 119, 3) := by decide +kernel
theorem dX12_sums_106 : decode cX12_sums 106 = .ok (.aload_n 0, 1) := by decide +kernel
theorem dX12_sums_107 : decode cX12_sums 107 = .ok (.iload_n 2, 1) := by decide +kernel
theorem dX12_sums_108 : decode cX12_sums 108 = .ok (.invokevirtual 288, 3) := by decide +kernel
theorem dX12_sums_111 : decode cX12_sums 111 = .ok (.iinc 2 1, 3) := by decide +kernel
theorem dX12_sums_114 : decode cX12_sums 114 = .ok (.goto (-42), 3) := by decide +kernel
theorem dX12_sums_117 : decode cX12_sums 117 = .ok (.iinc 1 1, 3) := by decide +kernel
theorem dX12_sums_120 : decode cX12_sums 120 = .ok (.goto (-58), 3) := by decide +kernel
theorem dX12_sums_123 : decode cX12_sums 123 = .ok (.return_, 1) := by decide +kernel
set_option maxRecDepth 20000 in
theorem ggX12_valuesAll_X12_many : GoodIn wsX12_valuesAll wsX12_many := goodIn_r _ [5, 6, 11, 12, 13, 14, 15, 16, 17, 18, 19, 20, 21, 22, 23, 24, 25, 26, 27, 28, 29, 30, 31, 32, 33, 34, 35, 36, 37, 38, 39, 40, 41, 42, 43, 44, 45, 46, 47, 48, 49, 50, 51] rfl (by decide +kernel)
set_option maxRecDepth 20000 in
theorem gX12_valuesAll_X12_many : GoodIn wsX12_valuesAll (wsV RX12 62 RX12 yX12_many wsX12_many) := goodIn_app (goodIn_r _ [1, 2, 3, 4] rfl (by decide +kernel)) ggX12_valuesAll_X12_many
set_option maxRecDepth 20000 in
theorem ggX12_valuesAll_X12_of : GoodIn wsX12_valuesAll wsX12_of := goodIn_r _ [10, 6, 11, 12, 13, 14, 15, 16, 17, 18, 19, 20, 21, 22, 23, 24, 25, 26, 27, 28, 29, 30, 31, 32, 33, 34, 35, 36, 37, 38, 39, 40, 41, 42, 43, 44, 45, 46, 47, 48, 49, 50, 51] rfl (by decide +kernel)
set_option maxRecDepth 20000 in
theorem gX12_valuesAll_X12_of : GoodIn wsX12_valuesAll (wsV RX12 50 RX12 yX12_of wsX12_of) := goodIn_app (goodIn_r _ [7, 8, 9, 4] rfl (by decide +kernel)) ggX12_valuesAll_X12_of
theorem dX12_valuesAll_0 : decode cX12_valuesAll 0 = .ok (.iconst 0, 1) := by decide +kernel
theorem dX12_valuesAll_1 : decode cX12_valuesAll 1 = .ok (.istore_n 1, 1) := by decide +kernel
theorem dX12_valuesAll_2 : decode cX12_valuesAll 2 = .ok (.iconst 0, 1) := by decide +kernel
theorem dX12_valuesAll_3 : decode cX12_valuesAll 3 = .ok (.istore_n 2, 1) := by decide +kernel
theorem dX12_valuesAll_4 : decode cX12_valuesAll 4 = .ok (.iload_n 2, 1) := by decide +kernel
theorem dX12_valuesAll_5 : decode cX12_valuesAll 5 = .ok (.aload_n 0, 1) := by decide +kernel
theorem dX12_valuesAll_6 : decode cX12_valuesAll 6 = .ok (.invokevirtual 62, 3) := by decide +kernel
theorem dX12_valuesAll_9 : decode cX12_valuesAll 9 = .ok (.if_icmp .ge 18, 3) := by decide +kernel
theorem dX12_valuesAll_12 : decode cX12_valuesAll 12 = .ok (.iload_n 1, 1) := by decide +kernel
theorem dX12_valuesAll_13 : decode cX12_valuesAll 13 = .ok (.aload_n 0, 1) := by decide +kernel
theorem dX12_valuesAll_14 : decode cX12_valuesAll 14 = .ok (.iload_n 2, 1) := by decide +kernel
theorem dX12_valuesAll_15 : decode cX12_valuesAll 15 = .ok (.iconst 1, 1) := by decide +kernel
theorem dX12_valuesAll_16 : decode cX12_valuesAll 16 = .ok (.invokevirtual 50, 3) := by decide +kernel
theorem dX12_valuesAll_19 : decode cX12_valuesAll 19 = .ok (.iadd, 1) := by decide +kernel
theorem dX12_valuesAll_20 : decode cX12_valuesAll 20 = .ok (.istore_n 1, 1) := by decide +kernel
theorem dX12_valuesAll_21 : decode cX12_valuesAll 21 = .ok (.iinc 2 1, 3) := by decide +kernel
theorem dX12_valuesAll_24 : decode cX12_valuesAll 24 = .ok (.goto (-20), 3) := by decide +kernel
theorem dX12_valuesAll_27 : decode cX12_valuesAll 27 = .ok (.iload_n 1, 1) := by decide +kernel
theorem dX12_valuesAll_28 : decode cX12_valuesAll 28 = .ok (.ireturn, 1) := by decide +kernel
set_option maxRecDepth 20000 in
theorem ggX12_sumOf_X12_sums : GoodIn wsX12_sumOf wsX12_sums := goodIn_r _ [13, 1, 2, 3, 4, 5, 6, 7, 8, 14, 15, 16, 12, 17, 18, 19, 20, 21, 22, 23, 24, 25, 26, 27, 28, 29, 30, 31, 32, 33, 34, 35, 36, 37, 38, 39, 40, 41, 42, 43, 44, 45, 46, 47, 48, 49, 50, 51, 52, 53, 54, 55, 56, 57, 58, 59, 60, 61, 62, 63, 64, 65, 66, 67, 68, 69, 70, 71, 72, 73, 74, 75, 76, 77, 78, 79, 80, 81, 82, 83, 84, 85, 86, 87, 88, 89, 90, 91, 92, 93, 94, 95, 96, 97, 98, 99, 100, 101, 102, 103, 104, 105, 106, 107, 108, 109, 110, 111, 112, 113, 114, 115, 116, 117, 118, 119, 120, 121, 122, 123, 124, 125, 126, 127, 128, 129, 130, 131, 132, 133, 134] rfl (by decide +kernel)
set_option maxRecDepth 20000 in
theorem gX12_sumOf_X12_sums : GoodIn wsX12_sumOf (wsV RX12 291 RX12 yX12_sums wsX12_sums) := goodIn_app (goodIn_r _ [9, 10, 11, 12] rfl (by decide +kernel)) ggX12_sumOf_X12_sums
theorem dX12_sumOf_0 : decode cX12_sumOf 0 = .ok (.aload_n 0, 1) := by decide +kernel
theorem dX12_sumOf_1 : decode cX12_sumOf 1 = .ok (.invokevirtual 291, 3) := by decide +kernel
theorem dX12_sumOf_4 : decode cX12_sumOf 4 = .ok (.iload_n 1, 1) := by decide +kernel
theorem dX12_sumOf_5 : decode cX12_sumOf 5 = .ok (.tableswitch 94 3 13 #[59, 64, 69, 74, 79, 84, 94, 94, 94, 94, 89], 59) := by decide +kernel
theorem dX12_sumOf_64 : decode cX12_sumOf 64 = .ok (.aload_n 0, 1) := by decide +kernel
theorem dX12_sumOf_65 : decode cX12_sumOf 65 = .ok (.getfield 258, 3) := by decide +kernel
theorem dX12_sumOf_68 : decode cX12_sumOf 68 = .ok (.ireturn, 1) := by decide +kernel
theorem dX12_sumOf_69 : decode cX12_sumOf 69 = .ok (.aload_n 0, 1) := by decide +kernel
theorem dX12_sumOf_70 : decode cX12_sumOf 70 = .ok (.getfield 261, 3) := by decide +kernel
theorem dX12_sumOf_73 : decode cX12_sumOf 73 = .ok (.ireturn, 1) := by decide +kernel
theorem dX12_sumOf_74 : decode cX12_sumOf 74 = .ok (.aload_n 0, 1) := by decide +kernel
theorem dX12_sumOf_75 : decode cX12_sumOf 75 = .ok (.getfield 264, 3) := by decide +kernel
theorem dX12_sumOf_78 : decode cX12_sumOf 78 = .ok (.ireturn, 1) := by decide +kernel
theorem dX12_sumOf_79 : decode cX12_sumOf 79 = .ok (.aload_n 0, 1) := by decide +kernel
theorem dX12_sumOf_80 : decode cX12_sumOf 80 = .ok (.getfield 270, 3) := by decide +kernel
theorem dX12_sumOf_83 : decode cX12_sumOf 83 = .ok (.ireturn, 1) := by decide +kernel
theorem dX12_sumOf_84 : decode cX12_sumOf 84 = .ok (.aload_n 0, 1) := by decide +kernel
theorem dX12_sumOf_85 : decode cX12_sumOf 85 = .ok (.getfield 273, 3) := by decide +kernel
theorem dX12_sumOf_88 : decode cX12_sumOf 88 = .ok (.ireturn, 1) := by decide +kernel
theorem dX12_sumOf_89 : decode cX12_sumOf 89 = .ok (.aload_n 0, 1) := by decide +kernel
theorem dX12_sumOf_90 : decode cX12_sumOf 90 = .ok (.getfield 276, 3) := by decide +kernel
theorem dX12_sumOf_93 : decode cX12_sumOf 93 = .ok (.ireturn, 1) := by decide +kernel
theorem dX12_sumOf_94 : decode cX12_sumOf 94 = .ok (.aload_n 0, 1) := by decide +kernel
theorem dX12_sumOf_95 : decode cX12_sumOf 95 = .ok (.getfield 282, 3) := by decide +kernel
theorem dX12_sumOf_98 : decode cX12_sumOf 98 = .ok (.ireturn, 1) := by decide +kernel
theorem dX12_sumOf_99 : decode cX12_sumOf 99 = .ok (.aload_n 0, 1) := by decide +kernel
theorem dX12_sumOf_100 : decode cX12_sumOf 100 = .ok (.getfield 7, 3) := by decide +kernel
theorem dX12_sumOf_103 : decode cX12_sumOf 103 = .ok (.iconst 3, 1) := by decide +kernel
theorem dX12_sumOf_104 : decode cX12_sumOf 104 = .ok (.iload_n 1, 1) := by decide +kernel
theorem dX12_sumOf_105 : decode cX12_sumOf 105 = .ok (.iadd, 1) := by decide +kernel
theorem dX12_sumOf_106 : decode cX12_sumOf 106 = .ok (.bipush 9, 2) := by decide +kernel
theorem dX12_sumOf_108 : decode cX12_sumOf 108 = .ok (.isub, 1) := by decide +kernel
theorem dX12_sumOf_109 : decode cX12_sumOf 109 = .ok (.iaload, 1) := by decide +kernel
theorem dX12_sumOf_110 : decode cX12_sumOf 110 = .ok (.ireturn, 1) := by decide +kernel
set_option maxRecDepth 20000 in
theorem ggX12_count_X12_in : GoodIn wsX12_count wsX12_in := goodIn_r _ [6] rfl (by decide +kernel)
set_option maxRecDepth 20000 in
theorem gX12_count_X12_in : GoodIn wsX12_count (va_wsS RX12 66 yX12_in wsX12_in) := goodIn_app (goodIn_r _ [3, 4, 5] rfl (by decide +kernel)) ggX12_count_X12_in
set_option maxRecDepth 20000 in
theorem ggX12_count_X12_sumOf : GoodIn wsX12_count wsX12_sumOf := goodIn_r _ [10, 11, 12, 13, 14, 15, 16, 17, 1, 18, 19, 20, 5, 21, 22, 23, 24, 25, 26, 27, 28, 29, 30, 31, 32, 33, 34, 35, 36, 37, 38, 39, 40, 41, 42, 43, 44, 45, 46, 47, 48, 49, 50, 51, 52, 53, 54, 55, 56, 57, 58, 59, 60, 61, 62, 63, 64, 65, 66, 67, 68, 69, 70, 71, 72, 73, 74, 75, 76, 77, 78, 79, 80, 81, 82, 83, 84, 85, 86, 87, 88, 89, 90, 91, 92, 93, 94, 95, 96, 97, 98, 99, 100, 101, 106, 107, 108, 109, 110, 111, 112, 113, 114, 115, 116, 117, 118, 119, 120, 121, 122, 123, 124, 125, 126, 127, 128, 129, 130, 131, 132, 133, 134, 135, 136, 137, 138, 139, 140, 141, 142, 143, 144, 145, 146] rfl (by decide +kernel)
set_option maxRecDepth 20000 in
theorem gX12_count_X12_sumOf : GoodIn wsX12_count (wsV RX12 294 RX12 yX12_sumOf wsX12_sumOf) := goodIn_app (goodIn_r _ [7, 8, 9, 5] rfl (by decide +kernel)) ggX12_count_X12_sumOf
set_option maxRecDepth 20000 in
theorem ggX12_count_X12_many : GoodIn wsX12_count wsX12_many := goodIn_r _ [25, 1, 106, 107, 108, 109, 110, 111, 112, 113, 114, 115, 116, 117, 118, 119, 120, 121, 122, 123, 124, 125, 126, 127, 128, 129, 130, 131, 132, 133, 134, 135, 136, 137, 138, 139, 140, 141, 142, 143, 144, 145, 146] rfl (by decide +kernel)
set_option maxRecDepth 20000 in
theorem gX12_count_X12_many : GoodIn wsX12_count (wsV RX12 62 RX12 yX12_many wsX12_many) := goodIn_app (goodIn_r _ [22, 23, 24, 5] rfl (by decide +kernel)) ggX12_count_X12_many
set_option maxRecDepth 20000 in
theorem ggX12_count_X12_valuesAll : GoodIn wsX12_count wsX12_valuesAll := goodIn_r _ [105, 22, 23, 24, 5, 25, 1, 26, 27, 28, 29, 106, 107, 108, 109, 110, 111, 112, 113, 114, 115, 116, 117, 118, 119, 120, 121, 122, 123, 124, 125, 126, 127, 128, 129, 130, 131, 132, 133, 134, 135, 136, 137, 138, 139, 140, 141, 142, 143, 144, 145, 146] rfl (by decide +kernel)
set_option maxRecDepth 20000 in
theorem gX12_count_X12_valuesAll : GoodIn wsX12_count (wsV RX12 297 RX12 yX12_valuesAll wsX12_valuesAll) := goodIn_app (goodIn_r _ [102, 103, 104, 5] rfl (by decide +kernel)) ggX12_count_X12_valuesAll
theorem dX12_count_0 : decode cX12_count 0 = .ok (.iload_n 1, 1) := by decide +kernel
theorem dX12_count_1 : decode cX12_count 1 = .ok (.iconst 3, 1) := by decide +kernel
theorem dX12_count_2 : decode cX12_count 2 = .ok (.bipush 13, 2) := by decide +kernel
theorem dX12_count_4 : decode cX12_count 4 = .ok (.invokestatic 66, 3) := by decide +kernel
theorem dX12_count_7 : decode cX12_count 7 = .ok (.ifCond .eq 9, 3) := by decide +kernel
theorem dX12_count_10 : decode cX12_count 10 = .ok (.aload_n 0, 1) := by decide +kernel
theorem dX12_count_11 : decode cX12_count 11 = .ok (.iload_n 1, 1) := by decide +kernel
theorem dX12_count_12 : decode cX12_count 12 = .ok (.invokevirtual 294, 3) := by decide +kernel
theorem dX12_count_15 : decode cX12_count 15 = .ok (.ireturn, 1) := by decide +kernel
theorem dX12_count_16 : decode cX12_count 16 = .ok (.iload_n 1, 1) := by decide +kernel
theorem dX12_count_17 : decode cX12_count 17 = .ok (.lookupswitch 80 #[(0, 51), (1, 56), (2, 63), (14, 70), (15, 75)], 51) := by decide +kernel
theorem dX12_count_68 : decode cX12_count 68 = .ok (.aload_n 0, 1) := by decide +kernel
theorem dX12_count_69 : decode cX12_count 69 = .ok (.invokevirtual 62, 3) := by decide +kernel
theorem dX12_count_72 : decode cX12_count 72 = .ok (.ireturn, 1) := by decide +kernel
theorem dX12_count_73 : decode cX12_count 73 = .ok (.aload_n 0, 1) := by decide +kernel
theorem dX12_count_74 : decode cX12_count 74 = .ok (.getfield 7, 3) := by decide +kernel
theorem dX12_count_77 : decode cX12_count 77 = .ok (.iconst 1, 1) := by decide +kernel
theorem dX12_count_78 : decode cX12_count 78 = .ok (.iaload, 1) := by decide +kernel
theorem dX12_count_79 : decode cX12_count 79 = .ok (.ireturn, 1) := by decide +kernel
theorem dX12_count_80 : decode cX12_count 80 = .ok (.aload_n 0, 1) := by decide +kernel
theorem dX12_count_81 : decode cX12_count 81 = .ok (.getfield 7, 3) := by decide +kernel
theorem dX12_count_84 : decode cX12_count 84 = .ok (.iconst 2, 1) := by decide +kernel
theorem dX12_count_85 : decode cX12_count 85 = .ok (.iaload, 1) := by decide +kernel
theorem dX12_count_86 : decode cX12_count 86 = .ok (.ireturn, 1) := by decide +kernel
theorem dX12_count_87 : decode cX12_count 87 = .ok (.aload_n 0, 1) := by decide +kernel
theorem dX12_count_88 : decode cX12_count 88 = .ok (.invokevirtual 297, 3) := by decide +kernel
theorem dX12_count_91 : decode cX12_count 91 = .ok (.ireturn, 1) := by decide +kernel
theorem dX12_count_92 : decode cX12_count 92 = .ok (.aload_n 0, 1) := by decide +kernel
theorem dX12_count_93 : decode cX12_count 93 = .ok (.getfield 147, 3) := by decide +kernel
theorem dX12_count_96 : decode cX12_count 96 = .ok (.ireturn, 1) := by decide +kernel
theorem dX12_count_97 : decode cX12_count 97 = .ok (.iconst (-1), 1) := by decide +kernel
theorem dX12_count_98 : decode cX12_count 98 = .ok (.ireturn, 1) := by decide +kernel
set_option maxRecDepth 20000 in
theorem ggX12_layer_X12_in : GoodIn wsX12_layer wsX12_in := goodIn_r _ [9] rfl (by decide +kernel)
set_option maxRecDepth 20000 in
theorem gX12_layer_X12_in : GoodIn wsX12_layer (va_wsS RX12 66 yX12_in wsX12_in) := goodIn_app (goodIn_r _ [6, 7, 8] rfl (by decide +kernel)) ggX12_layer_X12_in
set_option maxRecDepth 20000 in
theorem ggX12_layer_X12_goesLayer : GoodIn wsX12_layer wsX12_goesLayer := goodIn_r _ [13, 1, 14, 4, 15, 16, 17, 8, 18, 19, 20, 21, 22, 23, 24, 25, 26, 27, 28, 29, 30, 31, 32, 33, 34, 35, 3, 2, 36, 37, 38, 39, 40, 41, 42, 43, 73, 74, 75, 76, 77, 78, 79, 80, 81, 82, 83, 84, 85, 86, 87, 88, 89, 90, 91, 92, 93, 94, 95, 96, 97, 98, 99, 100, 101, 102, 103, 104, 105, 106, 107, 108, 109, 110, 111, 112, 113] rfl (by decide +kernel)
set_option maxRecDepth 20000 in
theorem gX12_layer_X12_goesLayer : GoodIn wsX12_layer (wsV RX12 300 RX12 yX12_goesLayer wsX12_goesLayer) := goodIn_app (goodIn_r _ [10, 11, 12, 8] rfl (by decide +kernel)) ggX12_layer_X12_goesLayer
set_option maxRecDepth 20000 in
theorem ggX12_layer_X12_findsEntries : GoodIn wsX12_layer wsX12_findsEntries := goodIn_r _ [47, 4, 5, 3, 2, 48, 49, 36, 37, 38, 8, 39, 15, 16, 17, 18, 40, 41, 42, 43, 14, 23, 24, 25, 26, 27, 28, 29, 30, 31, 50, 51, 52, 53, 73, 74, 75, 76, 77, 78, 79, 80, 81, 82, 83, 84, 85, 86, 87, 88, 89, 90, 91, 92, 93, 94, 95, 96, 97, 98, 99, 100, 101, 102, 103, 104, 105, 106, 107, 108, 109, 110, 111, 112, 113] rfl (by decide +kernel)
set_option maxRecDepth 20000 in
theorem gX12_layer_X12_findsEntries : GoodIn wsX12_layer (wsV RX12 119 RX12 yX12_findsEntries wsX12_findsEntries) := goodIn_app (goodIn_r _ [44, 45, 46, 8] rfl (by decide +kernel)) ggX12_layer_X12_findsEntries
set_option maxRecDepth 20000 in
theorem ggX12_layer_X12_pagesOf : GoodIn wsX12_layer wsX12_pagesOf := goodIn_r _ [57, 5, 49, 58, 59, 60, 8, 61, 24, 25, 26, 27, 4, 62, 63, 64, 73, 74, 75, 76, 77, 78, 79, 80, 81, 82, 83, 84, 85, 86, 87, 88, 89, 90, 91, 92, 93, 94, 95, 96, 97, 98, 99, 100, 101, 102, 103, 104, 105, 106, 107, 108, 109, 110, 111, 112, 113] rfl (by decide +kernel)
set_option maxRecDepth 20000 in
theorem gX12_layer_X12_pagesOf : GoodIn wsX12_layer (wsV RX12 249 RX12 yX12_pagesOf wsX12_pagesOf) := goodIn_app (goodIn_r _ [54, 55, 56, 8] rfl (by decide +kernel)) ggX12_layer_X12_pagesOf
set_option maxRecDepth 20000 in
theorem ggX12_layer_X12_pageSize : GoodIn wsX12_layer wsX12_pageSize := goodIn_r _ [68, 5, 49, 1, 58, 59, 60, 8, 61, 24, 25, 26, 27, 4, 62, 63, 64, 69, 70, 71, 72, 73, 74, 75, 76, 77, 78, 79, 80, 81, 82, 83, 84, 85, 86, 87, 88, 89, 90, 91, 92, 93, 94, 95, 96, 97, 98, 99, 100, 101, 102, 103, 104, 105, 106, 107, 108, 109, 110, 111, 112, 113] rfl (by decide +kernel)
set_option maxRecDepth 20000 in
theorem gX12_layer_X12_pageSize : GoodIn wsX12_layer (wsV RX12 303 RX12 yX12_pageSize wsX12_pageSize) := goodIn_app (goodIn_r _ [65, 66, 67, 8] rfl (by decide +kernel)) ggX12_layer_X12_pageSize
theorem dX12_layer_0 : decode cX12_layer 0 = .ok (.iload_n 1, 1) := by decide +kernel
theorem dX12_layer_1 : decode cX12_layer 1 = .ok (.ifCond .lt 25, 3) := by decide +kernel
theorem dX12_layer_4 : decode cX12_layer 4 = .ok (.iload_n 2, 1) := by decide +kernel
theorem dX12_layer_5 : decode cX12_layer 5 = .ok (.ifCond .lt 21, 3) := by decide +kernel
theorem dX12_layer_8 : decode cX12_layer 8 = .ok (.iload_n 2, 1) := by decide +kernel
theorem dX12_layer_9 : decode cX12_layer 9 = .ok (.iconst 4, 1) := by decide +kernel
theorem dX12_layer_10 : decode cX12_layer 10 = .ok (.bipush 9, 2) := by decide +kernel
theorem dX12_layer_12 : decode cX12_layer 12 = .ok (.invokestatic 66, 3) := by decide +kernel
theorem dX12_layer_15 : decode cX12_layer 15 = .ok (.ifCond .ne 11, 3) := by decide +kernel
theorem dX12_layer_18 : decode cX12_layer 18 = .ok (.aload_n 0, 1) := by decide +kernel
theorem dX12_layer_19 : decode cX12_layer 19 = .ok (.iload_n 1, 1) := by decide +kernel
theorem dX12_layer_20 : decode cX12_layer 20 = .ok (.invokevirtual 300, 3) := by decide +kernel
theorem dX12_layer_23 : decode cX12_layer 23 = .ok (.ifCond .ne 5, 3) := by decide +kernel
theorem dX12_layer_26 : decode cX12_layer 26 = .ok (.iconst (-1), 1) := by decide +kernel
theorem dX12_layer_27 : decode cX12_layer 27 = .ok (.ireturn, 1) := by decide +kernel
theorem dX12_layer_28 : decode cX12_layer 28 = .ok (.aload_n 0, 1) := by decide +kernel
theorem dX12_layer_29 : decode cX12_layer 29 = .ok (.aload_n 0, 1) := by decide +kernel
theorem dX12_layer_30 : decode cX12_layer 30 = .ok (.getfield 240, 3) := by decide +kernel
theorem dX12_layer_33 : decode cX12_layer 33 = .ok (.invokevirtual 119, 3) := by decide +kernel
theorem dX12_layer_36 : decode cX12_layer 36 = .ok (.aload_n 0, 1) := by decide +kernel
theorem dX12_layer_37 : decode cX12_layer 37 = .ok (.getfield 90, 3) := by decide +kernel
theorem dX12_layer_40 : decode cX12_layer 40 = .ok (.aload_n 0, 1) := by decide +kernel
theorem dX12_layer_41 : decode cX12_layer 41 = .ok (.getfield 84, 3) := by decide +kernel
theorem dX12_layer_44 : decode cX12_layer 44 = .ok (.isub, 1) := by decide +kernel
theorem dX12_layer_45 : decode cX12_layer 45 = .ok (.istore_n 3, 1) := by decide +kernel
theorem dX12_layer_46 : decode cX12_layer 46 = .ok (.iload_n 2, 1) := by decide +kernel
theorem dX12_layer_47 : decode cX12_layer 47 = .ok (.tableswitch 57 0 3 #[29, 41, 46, 55], 29) := by decide +kernel
theorem dX12_layer_76 : decode cX12_layer 76 = .ok (.aload_n 0, 1) := by decide +kernel
theorem dX12_layer_77 : decode cX12_layer 77 = .ok (.getfield 240, 3) := by decide +kernel
theorem dX12_layer_80 : decode cX12_layer 80 = .ok (.aload_n 0, 1) := by decide +kernel
theorem dX12_layer_81 : decode cX12_layer 81 = .ok (.getfield 7, 3) := by decide +kernel
theorem dX12_layer_84 : decode cX12_layer 84 = .ok (.iconst 1, 1) := by decide +kernel
theorem dX12_layer_85 : decode cX12_layer 85 = .ok (.iaload, 1) := by decide +kernel
theorem dX12_layer_86 : decode cX12_layer 86 = .ok (.imul, 1) := by decide +kernel
theorem dX12_layer_87 : decode cX12_layer 87 = .ok (.ireturn, 1) := by decide +kernel
theorem dX12_layer_88 : decode cX12_layer 88 = .ok (.aload_n 0, 1) := by decide +kernel
theorem dX12_layer_89 : decode cX12_layer 89 = .ok (.getfield 97, 3) := by decide +kernel
theorem dX12_layer_92 : decode cX12_layer 92 = .ok (.ireturn, 1) := by decide +kernel
theorem dX12_layer_93 : decode cX12_layer 93 = .ok (.aload_n 0, 1) := by decide +kernel
theorem dX12_layer_94 : decode cX12_layer 94 = .ok (.aload_n 0, 1) := by decide +kernel
theorem dX12_layer_95 : decode cX12_layer 95 = .ok (.getfield 240, 3) := by decide +kernel
theorem dX12_layer_98 : decode cX12_layer 98 = .ok (.invokevirtual 249, 3) := by decide +kernel
theorem dX12_layer_101 : decode cX12_layer 101 = .ok (.ireturn, 1) := by decide +kernel
theorem dX12_layer_102 : decode cX12_layer 102 = .ok (.iload_n 3, 1) := by decide +kernel
theorem dX12_layer_103 : decode cX12_layer 103 = .ok (.ireturn, 1) := by decide +kernel
theorem dX12_layer_104 : decode cX12_layer 104 = .ok (.aload_n 0, 1) := by decide +kernel
theorem dX12_layer_105 : decode cX12_layer 105 = .ok (.iload_n 2, 1) := by decide +kernel
theorem dX12_layer_106 : decode cX12_layer 106 = .ok (.bipush 10, 2) := by decide +kernel
theorem dX12_layer_108 : decode cX12_layer 108 = .ok (.isub, 1) := by decide +kernel
theorem dX12_layer_109 : decode cX12_layer 109 = .ok (.invokevirtual 303, 3) := by decide +kernel
theorem dX12_layer_112 : decode cX12_layer 112 = .ok (.ireturn, 1) := by decide +kernel
set_option maxRecDepth 20000 in
theorem ggX12_pageSize_X12_beginsPage : GoodIn wsX12_pageSize wsX12_beginsPage := goodIn_r _ [8, 9, 10, 11, 7, 12, 13, 14, 15, 16, 21, 22, 23, 24, 25, 26, 27, 28, 29, 30, 31, 32, 33, 34, 35, 36, 37, 38, 39, 40, 41, 42, 43, 44, 45, 46, 47, 48, 49, 50, 51, 52, 53, 54, 55, 56, 57, 58, 59, 60, 61] rfl (by decide +kernel)
set_option maxRecDepth 20000 in
theorem gX12_pageSize_X12_beginsPage : GoodIn wsX12_pageSize (wsV RX12 103 RX12 yX12_beginsPage wsX12_beginsPage) := goodIn_app (goodIn_r _ [4, 5, 6, 7] rfl (by decide +kernel)) ggX12_pageSize_X12_beginsPage
set_option maxRecDepth 20000 in
theorem ggX12_pageSize_X12_pageEnd : GoodIn wsX12_pageSize wsX12_pageEnd := goodIn_r _ [20, 1, 2, 4, 5, 6, 7, 8, 9, 10, 11, 12, 13, 14, 15, 16, 21, 22, 23, 24, 25, 26, 27, 28, 29, 30, 31, 32, 33, 34, 35, 36, 37, 38, 39, 40, 41, 42, 43, 44, 45, 46, 47, 48, 49, 50, 51, 52, 53, 54, 55, 56, 57, 58, 59, 60, 61] rfl (by decide +kernel)
set_option maxRecDepth 20000 in
theorem gX12_pageSize_X12_pageEnd : GoodIn wsX12_pageSize (wsV RX12 132 RX12 yX12_pageEnd wsX12_pageEnd) := goodIn_app (goodIn_r _ [17, 18, 19, 7] rfl (by decide +kernel)) ggX12_pageSize_X12_pageEnd
theorem dX12_pageSize_0 : decode cX12_pageSize 0 = .ok (.iconst (-1), 1) := by decide +kernel
theorem dX12_pageSize_1 : decode cX12_pageSize 1 = .ok (.istore_n 2, 1) := by decide +kernel
theorem dX12_pageSize_2 : decode cX12_pageSize 2 = .ok (.iconst 0, 1) := by decide +kernel
theorem dX12_pageSize_3 : decode cX12_pageSize 3 = .ok (.istore_n 3, 1) := by decide +kernel
theorem dX12_pageSize_4 : decode cX12_pageSize 4 = .ok (.iload_n 3, 1) := by decide +kernel
theorem dX12_pageSize_5 : decode cX12_pageSize 5 = .ok (.aload_n 0, 1) := by decide +kernel
theorem dX12_pageSize_6 : decode cX12_pageSize 6 = .ok (.getfield 97, 3) := by decide +kernel
theorem dX12_pageSize_9 : decode cX12_pageSize 9 = .ok (.if_icmp .ge 50, 3) := by decide +kernel
theorem dX12_pageSize_12 : decode cX12_pageSize 12 = .ok (.aload_n 0, 1) := by decide +kernel
theorem dX12_pageSize_13 : decode cX12_pageSize 13 = .ok (.aload_n 0, 1) := by decide +kernel
theorem dX12_pageSize_14 : decode cX12_pageSize 14 = .ok (.getfield 16, 3) := by decide +kernel
theorem dX12_pageSize_17 : decode cX12_pageSize 17 = .ok (.iload_n 3, 1) := by decide +kernel
theorem dX12_pageSize_18 : decode cX12_pageSize 18 = .ok (.iaload, 1) := by decide +kernel
theorem dX12_pageSize_19 : decode cX12_pageSize 19 = .ok (.aload_n 0, 1) := by decide +kernel
theorem dX12_pageSize_20 : decode cX12_pageSize 20 = .ok (.getfield 240, 3) := by decide +kernel
theorem dX12_pageSize_23 : decode cX12_pageSize 23 = .ok (.invokevirtual 103, 3) := by decide +kernel
theorem dX12_pageSize_26 : decode cX12_pageSize 26 = .ok (.ifCond .ne 6, 3) := by decide +kernel
theorem dX12_pageSize_29 : decode cX12_pageSize 29 = .ok (.goto 24, 3) := by decide +kernel
theorem dX12_pageSize_32 : decode cX12_pageSize 32 = .ok (.iload_n 2, 1) := by decide +kernel
theorem dX12_pageSize_33 : decode cX12_pageSize 33 = .ok (.iconst 1, 1) := by decide +kernel
theorem dX12_pageSize_34 : decode cX12_pageSize 34 = .ok (.iadd, 1) := by decide +kernel
theorem dX12_pageSize_35 : decode cX12_pageSize 35 = .ok (.istore_n 2, 1) := by decide +kernel
theorem dX12_pageSize_36 : decode cX12_pageSize 36 = .ok (.iload_n 2, 1) := by decide +kernel
theorem dX12_pageSize_37 : decode cX12_pageSize 37 = .ok (.iload_n 1, 1) := by decide +kernel
theorem dX12_pageSize_38 : decode cX12_pageSize 38 = .ok (.if_icmp .ne 15, 3) := by decide +kernel
theorem dX12_pageSize_41 : decode cX12_pageSize 41 = .ok (.aload_n 0, 1) := by decide +kernel
theorem dX12_pageSize_42 : decode cX12_pageSize 42 = .ok (.iload_n 3, 1) := by decide +kernel
theorem dX12_pageSize_43 : decode cX12_pageSize 43 = .ok (.aload_n 0, 1) := by decide +kernel
theorem dX12_pageSize_44 : decode cX12_pageSize 44 = .ok (.getfield 240, 3) := by decide +kernel
theorem dX12_pageSize_47 : decode cX12_pageSize 47 = .ok (.invokevirtual 132, 3) := by decide +kernel
theorem dX12_pageSize_50 : decode cX12_pageSize 50 = .ok (.iload_n 3, 1) := by decide +kernel
theorem dX12_pageSize_51 : decode cX12_pageSize 51 = .ok (.isub, 1) := by decide +kernel
theorem dX12_pageSize_52 : decode cX12_pageSize 52 = .ok (.ireturn, 1) := by decide +kernel
theorem dX12_pageSize_53 : decode cX12_pageSize 53 = .ok (.iinc 3 1, 3) := by decide +kernel
theorem dX12_pageSize_56 : decode cX12_pageSize 56 = .ok (.goto (-52), 3) := by decide +kernel
theorem dX12_pageSize_59 : decode cX12_pageSize 59 = .ok (.bipush (-4), 2) := by decide +kernel
theorem dX12_pageSize_61 : decode cX12_pageSize 61 = .ok (.ireturn, 1) := by decide +kernel
set_option maxRecDepth 20000 in
theorem ggX12_pageNumber_X12_beginsPage : GoodIn wsX12_pageNumber wsX12_beginsPage := goodIn_r _ [7, 8, 9, 10, 6, 11, 12, 13, 14, 15, 16, 17, 18, 19, 20, 21, 22, 23, 24, 25, 26, 27, 28, 29, 30, 31, 32, 33, 34, 35, 36, 37, 38, 39, 40, 41, 42, 43, 44, 45, 46, 47, 48, 49, 50, 51, 52, 53, 54, 55, 56] rfl (by decide +kernel)
set_option maxRecDepth 20000 in
theorem gX12_pageNumber_X12_beginsPage : GoodIn wsX12_pageNumber (wsV RX12 103 RX12 yX12_beginsPage wsX12_beginsPage) := goodIn_app (goodIn_r _ [3, 4, 5, 6] rfl (by decide +kernel)) ggX12_pageNumber_X12_beginsPage
theorem dX12_pageNumber_0 : decode cX12_pageNumber 0 = .ok (.iconst (-1), 1) := by decide +kernel
theorem dX12_pageNumber_1 : decode cX12_pageNumber 1 = .ok (.istore_n 2, 1) := by decide +kernel
theorem dX12_pageNumber_2 : decode cX12_pageNumber 2 = .ok (.iconst 0, 1) := by decide +kernel
theorem dX12_pageNumber_3 : decode cX12_pageNumber 3 = .ok (.istore_n 3, 1) := by decide +kernel
theorem dX12_pageNumber_4 : decode cX12_pageNumber 4 = .ok (.iload_n 3, 1) := by decide +kernel
theorem dX12_pageNumber_5 : decode cX12_pageNumber 5 = .ok (.iload_n 1, 1) := by decide +kernel
theorem dX12_pageNumber_6 : decode cX12_pageNumber 6 = .ok (.if_icmp .gt 30, 3) := by decide +kernel
theorem dX12_pageNumber_9 : decode cX12_pageNumber 9 = .ok (.aload_n 0, 1) := by decide +kernel
theorem dX12_pageNumber_10 : decode cX12_pageNumber 10 = .ok (.aload_n 0, 1) := by decide +kernel
theorem dX12_pageNumber_11 : decode cX12_pageNumber 11 = .ok (.getfield 16, 3) := by decide +kernel
theorem dX12_pageNumber_14 : decode cX12_pageNumber 14 = .ok (.iload_n 3, 1) := by decide +kernel
theorem dX12_pageNumber_15 : decode cX12_pageNumber 15 = .ok (.iaload, 1) := by decide +kernel
theorem dX12_pageNumber_16 : decode cX12_pageNumber 16 = .ok (.aload_n 0, 1) := by decide +kernel
theorem dX12_pageNumber_17 : decode cX12_pageNumber 17 = .ok (.getfield 240, 3) := by decide +kernel
theorem dX12_pageNumber_20 : decode cX12_pageNumber 20 = .ok (.invokevirtual 103, 3) := by decide +kernel
theorem dX12_pageNumber_23 : decode cX12_pageNumber 23 = .ok (.ifCond .eq 7, 3) := by decide +kernel
theorem dX12_pageNumber_26 : decode cX12_pageNumber 26 = .ok (.iload_n 2, 1) := by decide +kernel
theorem dX12_pageNumber_27 : decode cX12_pageNumber 27 = .ok (.iconst 1, 1) := by decide +kernel
theorem dX12_pageNumber_28 : decode cX12_pageNumber 28 = .ok (.iadd, 1) := by decide +kernel
theorem dX12_pageNumber_29 : decode cX12_pageNumber 29 = .ok (.istore_n 2, 1) := by decide +kernel
theorem dX12_pageNumber_30 : decode cX12_pageNumber 30 = .ok (.iinc 3 1, 3) := by decide +kernel
theorem dX12_pageNumber_33 : decode cX12_pageNumber 33 = .ok (.goto (-29), 3) := by decide +kernel
theorem dX12_pageNumber_36 : decode cX12_pageNumber 36 = .ok (.iload_n 2, 1) := by decide +kernel
theorem dX12_pageNumber_37 : decode cX12_pageNumber 37 = .ok (.ireturn, 1) := by decide +kernel
set_option maxRecDepth 20000 in
theorem ggX12_entry_X12_in : GoodIn wsX12_entry wsX12_in := goodIn_r _ [9] rfl (by decide +kernel)
set_option maxRecDepth 20000 in
theorem gX12_entry_X12_in : GoodIn wsX12_entry (va_wsS RX12 66 yX12_in wsX12_in) := goodIn_app (goodIn_r _ [6, 7, 8] rfl (by decide +kernel)) ggX12_entry_X12_in
set_option maxRecDepth 20000 in
theorem ggX12_entry_X12_goesLayer : GoodIn wsX12_entry wsX12_goesLayer := goodIn_r _ [13, 1, 14, 4, 15, 16, 17, 8, 18, 19, 20, 21, 22, 23, 24, 25, 26, 27, 28, 29, 30, 31, 32, 33, 34, 35, 36, 37, 38, 39, 40, 41, 42, 43, 44, 45, 76, 77, 78, 79, 80, 81, 82, 83, 84, 85, 86, 87, 88, 89, 90, 91, 92, 93, 94, 95, 96, 97, 98, 99, 100, 101, 102, 103, 104, 105, 106, 107, 108, 109, 110, 111, 112, 113, 114, 115, 116] rfl (by decide +kernel)
set_option maxRecDepth 20000 in
theorem gX12_entry_X12_goesLayer : GoodIn wsX12_entry (wsV RX12 300 RX12 yX12_goesLayer wsX12_goesLayer) := goodIn_app (goodIn_r _ [10, 11, 12, 8] rfl (by decide +kernel)) ggX12_entry_X12_goesLayer
set_option maxRecDepth 20000 in
theorem ggX12_entry_X12_findsEntries : GoodIn wsX12_entry wsX12_findsEntries := goodIn_r _ [49, 4, 2, 36, 37, 5, 3, 38, 39, 40, 8, 41, 15, 16, 17, 18, 42, 43, 44, 45, 14, 23, 24, 25, 26, 27, 28, 29, 30, 31, 50, 51, 52, 53, 76, 77, 78, 79, 80, 81, 82, 83, 84, 85, 86, 87, 88, 89, 90, 91, 92, 93, 94, 95, 96, 97, 98, 99, 100, 101, 102, 103, 104, 105, 106, 107, 108, 109, 110, 111, 112, 113, 114, 115, 116] rfl (by decide +kernel)
set_option maxRecDepth 20000 in
theorem gX12_entry_X12_findsEntries : GoodIn wsX12_entry (wsV RX12 119 RX12 yX12_findsEntries wsX12_findsEntries) := goodIn_app (goodIn_r _ [46, 47, 48, 8] rfl (by decide +kernel)) ggX12_entry_X12_findsEntries
set_option maxRecDepth 20000 in
theorem ggX12_entry_X12_restLong : GoodIn wsX12_entry wsX12_restLong := goodIn_r _ [57, 5, 3, 4, 24, 25, 26, 8, 27, 76, 77, 78, 79, 80, 81, 82, 83, 84, 85, 86, 87, 88, 89, 90, 91, 92, 93, 94, 95, 96, 97, 98, 99, 100, 101, 102, 103, 104, 105, 106, 107, 108, 109, 110, 111, 112, 113, 114, 115, 116] rfl (by decide +kernel)
set_option maxRecDepth 20000 in
theorem gX12_entry_X12_restLong : GoodIn wsX12_entry (wsV RX12 255 RX12 yX12_restLong wsX12_restLong) := goodIn_app (goodIn_r _ [54, 55, 56, 8] rfl (by decide +kernel)) ggX12_entry_X12_restLong
set_option maxRecDepth 20000 in
theorem ggX12_entry_X12_byteOf : GoodIn wsX12_entry wsX12_byteOf := goodIn_r _ [31, 4, 76, 77, 78, 79, 80, 81, 82, 83, 84, 85, 86, 87, 88, 89, 90, 91, 92, 93, 94, 95, 96, 97, 98, 99, 100, 101, 102, 103, 104, 105, 106, 107, 108, 109, 110, 111, 112, 113, 114, 115, 116] rfl (by decide +kernel)
set_option maxRecDepth 20000 in
theorem gX12_entry_X12_byteOf : GoodIn wsX12_entry (wsV RX12 74 RX12 yX12_byteOf wsX12_byteOf) := goodIn_app (goodIn_r _ [28, 29, 30, 8] rfl (by decide +kernel)) ggX12_entry_X12_byteOf
set_option maxRecDepth 20000 in
theorem ggX12_entry_X12_partLong : GoodIn wsX12_entry wsX12_partLong := goodIn_r _ [61, 4, 3, 24, 25, 26, 8, 27, 62, 63, 64, 76, 77, 78, 79, 80, 81, 82, 83, 84, 85, 86, 87, 88, 89, 90, 91, 92, 93, 94, 95, 96, 97, 98, 99, 100, 101, 102, 103, 104, 105, 106, 107, 108, 109, 110, 111, 112, 113, 114, 115, 116] rfl (by decide +kernel)
set_option maxRecDepth 20000 in
theorem gX12_entry_X12_partLong : GoodIn wsX12_entry (wsV RX12 252 RX12 yX12_partLong wsX12_partLong) := goodIn_app (goodIn_r _ [58, 59, 60, 8] rfl (by decide +kernel)) ggX12_entry_X12_partLong
set_option maxRecDepth 20000 in
theorem ggX12_entry_X12_of : GoodIn wsX12_entry wsX12_of := goodIn_r _ [27, 4, 76, 77, 78, 79, 80, 81, 82, 83, 84, 85, 86, 87, 88, 89, 90, 91, 92, 93, 94, 95, 96, 97, 98, 99, 100, 101, 102, 103, 104, 105, 106, 107, 108, 109, 110, 111, 112, 113, 114, 115, 116] rfl (by decide +kernel)
set_option maxRecDepth 20000 in
theorem gX12_entry_X12_of : GoodIn wsX12_entry (wsV RX12 50 RX12 yX12_of wsX12_of) := goodIn_app (goodIn_r _ [24, 25, 26, 8] rfl (by decide +kernel)) ggX12_entry_X12_of
set_option maxRecDepth 20000 in
theorem ggX12_entry_X12_pageNumber : GoodIn wsX12_entry wsX12_pageNumber := goodIn_r _ [68, 3, 1, 69, 70, 71, 8, 72, 24, 25, 26, 27, 4, 73, 74, 75, 76, 77, 78, 79, 80, 81, 82, 83, 84, 85, 86, 87, 88, 89, 90, 91, 92, 93, 94, 95, 96, 97, 98, 99, 100, 101, 102, 103, 104, 105, 106, 107, 108, 109, 110, 111, 112, 113, 114, 115, 116] rfl (by decide +kernel)
set_option maxRecDepth 20000 in
theorem gX12_entry_X12_pageNumber : GoodIn wsX12_entry (wsV RX12 306 RX12 yX12_pageNumber wsX12_pageNumber) := goodIn_app (goodIn_r _ [65, 66, 67, 8] rfl (by decide +kernel)) ggX12_entry_X12_pageNumber
theorem dX12_entry_0 : decode cX12_entry 0 = .ok (.iload_n 3, 1) := by decide +kernel
theorem dX12_entry_1 : decode cX12_entry 1 = .ok (.iconst 0, 1) := by decide +kernel
theorem dX12_entry_2 : decode cX12_entry 2 = .ok (.iconst 4, 1) := by decide +kernel
theorem dX12_entry_3 : decode cX12_entry 3 = .ok (.invokestatic 66, 3) := by decide +kernel
theorem dX12_entry_6 : decode cX12_entry 6 = .ok (.ifCond .ne 25, 3) := by decide +kernel
theorem dX12_entry_9 : decode cX12_entry 9 = .ok (.iload_n 3, 1) := by decide +kernel
theorem dX12_entry_10 : decode cX12_entry 10 = .ok (.bipush 10, 2) := by decide +kernel
theorem dX12_entry_12 : decode cX12_entry 12 = .ok (.bipush 17, 2) := by decide +kernel
theorem dX12_entry_14 : decode cX12_entry 14 = .ok (.invokestatic 66, 3) := by decide +kernel
theorem dX12_entry_17 : decode cX12_entry 17 = .ok (.ifCond .ne 14, 3) := by decide +kernel
theorem dX12_entry_20 : decode cX12_entry 20 = .ok (.iload_n 3, 1) := by decide +kernel
theorem dX12_entry_21 : decode cX12_entry 21 = .ok (.bipush 20, 2) := by decide +kernel
theorem dX12_entry_23 : decode cX12_entry 23 = .ok (.bipush 42, 2) := by decide +kernel
theorem dX12_entry_25 : decode cX12_entry 25 = .ok (.invokestatic 66, 3) := by decide +kernel
theorem dX12_entry_28 : decode cX12_entry 28 = .ok (.ifCond .eq 7, 3) := by decide +kernel
theorem dX12_entry_31 : decode cX12_entry 31 = .ok (.iconst 1, 1) := by decide +kernel
theorem dX12_entry_32 : decode cX12_entry 32 = .ok (.goto 4, 3) := by decide +kernel
theorem dX12_entry_35 : decode cX12_entry 35 = .ok (.iconst 0, 1) := by decide +kernel
theorem dX12_entry_36 : decode cX12_entry 36 = .ok (.istore 4, 2) := by decide +kernel
theorem dX12_entry_38 : decode cX12_entry 38 = .ok (.iload_n 1, 1) := by decide +kernel
theorem dX12_entry_39 : decode cX12_entry 39 = .ok (.ifCond .lt 20, 3) := by decide +kernel
theorem dX12_entry_42 : decode cX12_entry 42 = .ok (.iload_n 2, 1) := by decide +kernel
theorem dX12_entry_43 : decode cX12_entry 43 = .ok (.ifCond .lt 16, 3) := by decide +kernel
theorem dX12_entry_46 : decode cX12_entry 46 = .ok (.iload 4, 2) := by decide +kernel
theorem dX12_entry_48 : decode cX12_entry 48 = .ok (.ifCond .eq 11, 3) := by decide +kernel
theorem dX12_entry_51 : decode cX12_entry 51 = .ok (.aload_n 0, 1) := by decide +kernel
theorem dX12_entry_52 : decode cX12_entry 52 = .ok (.iload_n 1, 1) := by decide +kernel
theorem dX12_entry_53 : decode cX12_entry 53 = .ok (.invokevirtual 300, 3) := by decide +kernel
theorem dX12_entry_56 : decode cX12_entry 56 = .ok (.ifCond .ne 5, 3) := by decide +kernel
theorem dX12_entry_59 : decode cX12_entry 59 = .ok (.iconst (-1), 1) := by decide +kernel
theorem dX12_entry_60 : decode cX12_entry 60 = .ok (.ireturn, 1) := by decide +kernel
theorem dX12_entry_61 : decode cX12_entry 61 = .ok (.aload_n 0, 1) := by decide +kernel
theorem dX12_entry_62 : decode cX12_entry 62 = .ok (.aload_n 0, 1) := by decide +kernel
theorem dX12_entry_63 : decode cX12_entry 63 = .ok (.getfield 240, 3) := by decide +kernel
theorem dX12_entry_66 : decode cX12_entry 66 = .ok (.invokevirtual 119, 3) := by decide +kernel
theorem dX12_entry_69 : decode cX12_entry 69 = .ok (.iload_n 2, 1) := by decide +kernel
theorem dX12_entry_70 : decode cX12_entry 70 = .ok (.aload_n 0, 1) := by decide +kernel
theorem dX12_entry_71 : decode cX12_entry 71 = .ok (.getfield 97, 3) := by decide +kernel
theorem dX12_entry_74 : decode cX12_entry 74 = .ok (.if_icmp .lt 5, 3) := by decide +kernel
theorem dX12_entry_77 : decode cX12_entry 77 = .ok (.iconst (-1), 1) := by decide +kernel
theorem dX12_entry_78 : decode cX12_entry 78 = .ok (.ireturn, 1) := by decide +kernel
theorem dX12_entry_79 : decode cX12_entry 79 = .ok (.aload_n 0, 1) := by decide +kernel
theorem dX12_entry_80 : decode cX12_entry 80 = .ok (.getfield 16, 3) := by decide +kernel
theorem dX12_entry_83 : decode cX12_entry 83 = .ok (.iload_n 2, 1) := by decide +kernel
theorem dX12_entry_84 : decode cX12_entry 84 = .ok (.iaload, 1) := by decide +kernel
theorem dX12_entry_85 : decode cX12_entry 85 = .ok (.istore 5, 2) := by decide +kernel
theorem dX12_entry_87 : decode cX12_entry 87 = .ok (.aload_n 0, 1) := by decide +kernel
theorem dX12_entry_88 : decode cX12_entry 88 = .ok (.getfield 240, 3) := by decide +kernel
theorem dX12_entry_91 : decode cX12_entry 91 = .ok (.aload_n 0, 1) := by decide +kernel
theorem dX12_entry_92 : decode cX12_entry 92 = .ok (.getfield 7, 3) := by decide +kernel
theorem dX12_entry_95 : decode cX12_entry 95 = .ok (.iconst 1, 1) := by decide +kernel
theorem dX12_entry_96 : decode cX12_entry 96 = .ok (.iaload, 1) := by decide +kernel
theorem dX12_entry_97 : decode cX12_entry 97 = .ok (.imul, 1) := by decide +kernel
theorem dX12_entry_98 : decode cX12_entry 98 = .ok (.istore 6, 2) := by decide +kernel
theorem dX12_entry_100 : decode cX12_entry 100 = .ok (.iload_n 3, 1) := by decide +kernel
theorem dX12_entry_101 : decode cX12_entry 101 = .ok (.bipush 20, 2) := by decide +kernel
theorem dX12_entry_103 : decode cX12_entry 103 = .ok (.if_icmp .lt 45, 3) := by decide +kernel
theorem dX12_entry_106 : decode cX12_entry 106 = .ok (.iload_n 3, 1) := by decide +kernel
theorem dX12_entry_107 : decode cX12_entry 107 = .ok (.bipush 20, 2) := by decide +kernel
theorem dX12_entry_109 : decode cX12_entry 109 = .ok (.isub, 1) := by decide +kernel
theorem dX12_entry_110 : decode cX12_entry 110 = .ok (.aload_n 0, 1) := by decide +kernel
theorem dX12_entry_111 : decode cX12_entry 111 = .ok (.iload_n 2, 1) := by decide +kernel
theorem dX12_entry_112 : decode cX12_entry 112 = .ok (.aload_n 0, 1) := by decide +kernel
theorem dX12_entry_113 : decode cX12_entry 113 = .ok (.getfield 240, 3) := by decide +kernel
theorem dX12_entry_116 : decode cX12_entry 116 = .ok (.invokevirtual 255, 3) := by decide +kernel
theorem dX12_entry_119 : decode cX12_entry 119 = .ok (.if_icmp .ge 26, 3) := by decide +kernel
theorem dX12_entry_122 : decode cX12_entry 122 = .ok (.aload_n 0, 1) := by decide +kernel
theorem dX12_entry_123 : decode cX12_entry 123 = .ok (.iload 5, 2) := by decide +kernel
theorem dX12_entry_125 : decode cX12_entry 125 = .ok (.iload 6, 2) := by decide +kernel
theorem dX12_entry_127 : decode cX12_entry 127 = .ok (.aload_n 0, 1) := by decide +kernel
theorem dX12_entry_128 : decode cX12_entry 128 = .ok (.getfield 7, 3) := by decide +kernel
theorem dX12_entry_131 : decode cX12_entry 131 = .ok (.iconst 1, 1) := by decide +kernel
theorem dX12_entry_132 : decode cX12_entry 132 = .ok (.iaload, 1) := by decide +kernel
theorem dX12_entry_133 : decode cX12_entry 133 = .ok (.iadd, 1) := by decide +kernel
theorem dX12_entry_134 : decode cX12_entry 134 = .ok (.iload_n 3, 1) := by decide +kernel
theorem dX12_entry_135 : decode cX12_entry 135 = .ok (.iadd, 1) := by decide +kernel
theorem dX12_entry_136 : decode cX12_entry 136 = .ok (.bipush 20, 2) := by decide +kernel
theorem dX12_entry_138 : decode cX12_entry 138 = .ok (.isub, 1) := by decide +kernel
theorem dX12_entry_139 : decode cX12_entry 139 = .ok (.invokevirtual 74, 3) := by decide +kernel
theorem dX12_entry_142 : decode cX12_entry 142 = .ok (.goto 5, 3) := by decide +kernel
theorem dX12_entry_145 : decode cX12_entry 145 = .ok (.bipush (-4), 2) := by decide +kernel
theorem dX12_entry_147 : decode cX12_entry 147 = .ok (.ireturn, 1) := by decide +kernel
theorem dX12_entry_148 : decode cX12_entry 148 = .ok (.iload_n 3, 1) := by decide +kernel
theorem dX12_entry_149 : decode cX12_entry 149 = .ok (.bipush 10, 2) := by decide +kernel
theorem dX12_entry_151 : decode cX12_entry 151 = .ok (.if_icmp .lt 38, 3) := by decide +kernel
theorem dX12_entry_154 : decode cX12_entry 154 = .ok (.iload_n 3, 1) := by decide +kernel
theorem dX12_entry_155 : decode cX12_entry 155 = .ok (.bipush 10, 2) := by decide +kernel
theorem dX12_entry_157 : decode cX12_entry 157 = .ok (.isub, 1) := by decide +kernel
theorem dX12_entry_158 : decode cX12_entry 158 = .ok (.aload_n 0, 1) := by decide +kernel
theorem dX12_entry_159 : decode cX12_entry 159 = .ok (.iload_n 2, 1) := by decide +kernel
theorem dX12_entry_160 : decode cX12_entry 160 = .ok (.aload_n 0, 1) := by decide +kernel
theorem dX12_entry_161 : decode cX12_entry 161 = .ok (.getfield 240, 3) := by decide +kernel
theorem dX12_entry_164 : decode cX12_entry 164 = .ok (.invokevirtual 252, 3) := by decide +kernel
theorem dX12_entry_167 : decode cX12_entry 167 = .ok (.if_icmp .ge 19, 3) := by decide +kernel
theorem dX12_entry_170 : decode cX12_entry 170 = .ok (.aload_n 0, 1) := by decide +kernel
theorem dX12_entry_171 : decode cX12_entry 171 = .ok (.iload 5, 2) := by decide +kernel
theorem dX12_entry_173 : decode cX12_entry 173 = .ok (.iload 6, 2) := by decide +kernel
theorem dX12_entry_175 : decode cX12_entry 175 = .ok (.iload_n 3, 1) := by decide +kernel
theorem dX12_entry_176 : decode cX12_entry 176 = .ok (.iadd, 1) := by decide +kernel
theorem dX12_entry_177 : decode cX12_entry 177 = .ok (.bipush 10, 2) := by decide +kernel
theorem dX12_entry_179 : decode cX12_entry 179 = .ok (.isub, 1) := by decide +kernel
theorem dX12_entry_180 : decode cX12_entry 180 = .ok (.invokevirtual 74, 3) := by decide +kernel
theorem dX12_entry_183 : decode cX12_entry 183 = .ok (.goto 5, 3) := by decide +kernel
theorem dX12_entry_186 : decode cX12_entry 186 = .ok (.bipush (-4), 2) := by decide +kernel
theorem dX12_entry_188 : decode cX12_entry 188 = .ok (.ireturn, 1) := by decide +kernel
theorem dX12_entry_189 : decode cX12_entry 189 = .ok (.iload_n 3, 1) := by decide +kernel
theorem dX12_entry_190 : decode cX12_entry 190 = .ok (.tableswitch 80 0 3 #[30, 37, 47, 70], 30) := by decide +kernel
theorem dX12_entry_220 : decode cX12_entry 220 = .ok (.aload_n 0, 1) := by decide +kernel
theorem dX12_entry_221 : decode cX12_entry 221 = .ok (.getfield 19, 3) := by decide +kernel
theorem dX12_entry_224 : decode cX12_entry 224 = .ok (.iload_n 2, 1) := by decide +kernel
theorem dX12_entry_225 : decode cX12_entry 225 = .ok (.iaload, 1) := by decide +kernel
theorem dX12_entry_226 : decode cX12_entry 226 = .ok (.ireturn, 1) := by decide +kernel
theorem dX12_entry_227 : decode cX12_entry 227 = .ok (.aload_n 0, 1) := by decide +kernel
theorem dX12_entry_228 : decode cX12_entry 228 = .ok (.iload_n 2, 1) := by decide +kernel
theorem dX12_entry_229 : decode cX12_entry 229 = .ok (.aload_n 0, 1) := by decide +kernel
theorem dX12_entry_230 : decode cX12_entry 230 = .ok (.getfield 240, 3) := by decide +kernel
theorem dX12_entry_233 : decode cX12_entry 233 = .ok (.invokevirtual 252, 3) := by decide +kernel
theorem dX12_entry_236 : decode cX12_entry 236 = .ok (.ireturn, 1) := by decide +kernel
theorem dX12_entry_237 : decode cX12_entry 237 = .ok (.aload_n 0, 1) := by decide +kernel
theorem dX12_entry_238 : decode cX12_entry 238 = .ok (.getfield 19, 3) := by decide +kernel
theorem dX12_entry_241 : decode cX12_entry 241 = .ok (.iload_n 2, 1) := by decide +kernel
theorem dX12_entry_242 : decode cX12_entry 242 = .ok (.iaload, 1) := by decide +kernel
theorem dX12_entry_243 : decode cX12_entry 243 = .ok (.iconst 2, 1) := by decide +kernel
theorem dX12_entry_244 : decode cX12_entry 244 = .ok (.if_icmp .ne 8, 3) := by decide +kernel
theorem dX12_entry_247 : decode cX12_entry 247 = .ok (.bipush (-2), 2) := by decide +kernel
theorem dX12_entry_249 : decode cX12_entry 249 = .ok (.goto 10, 3) := by decide +kernel
theorem dX12_entry_252 : decode cX12_entry 252 = .ok (.aload_n 0, 1) := by decide +kernel
theorem dX12_entry_253 : decode cX12_entry 253 = .ok (.iload 5, 2) := by decide +kernel
theorem dX12_entry_255 : decode cX12_entry 255 = .ok (.iconst 1, 1) := by decide +kernel
theorem dX12_entry_256 : decode cX12_entry 256 = .ok (.invokevirtual 50, 3) := by decide +kernel
theorem dX12_entry_259 : decode cX12_entry 259 = .ok (.ireturn, 1) := by decide +kernel
theorem dX12_entry_260 : decode cX12_entry 260 = .ok (.aload_n 0, 1) := by decide +kernel
theorem dX12_entry_261 : decode cX12_entry 261 = .ok (.iload_n 2, 1) := by decide +kernel
theorem dX12_entry_262 : decode cX12_entry 262 = .ok (.aload_n 0, 1) := by decide +kernel
theorem dX12_entry_263 : decode cX12_entry 263 = .ok (.getfield 240, 3) := by decide +kernel
theorem dX12_entry_266 : decode cX12_entry 266 = .ok (.invokevirtual 255, 3) := by decide +kernel
theorem dX12_entry_269 : decode cX12_entry 269 = .ok (.ireturn, 1) := by decide +kernel
theorem dX12_entry_270 : decode cX12_entry 270 = .ok (.aload_n 0, 1) := by decide +kernel
theorem dX12_entry_271 : decode cX12_entry 271 = .ok (.iload_n 2, 1) := by decide +kernel
theorem dX12_entry_272 : decode cX12_entry 272 = .ok (.invokevirtual 306, 3) := by decide +kernel
theorem dX12_entry_275 : decode cX12_entry 275 = .ok (.ireturn, 1) := by decide +kernel
set_option maxRecDepth 20000 in
theorem ggX12_value_X12_isLong : GoodIn wsX12_value wsX12_isLong := goodIn_r _ [5, 6, 7, 8, 4, 9, 45, 46, 47, 48, 49, 50, 51, 52, 53, 54, 55, 56, 57, 58, 59, 60, 61, 62, 63, 64, 65, 66, 67, 68, 69, 70, 71, 72, 73, 74, 75, 76, 77, 78, 79, 80, 81, 82, 83, 84, 85] rfl (by decide +kernel)
set_option maxRecDepth 20000 in
theorem gX12_value_X12_isLong : GoodIn wsX12_value (wsV RX12 157 RX12 yX12_isLong wsX12_isLong) := goodIn_app (goodIn_r _ [1, 2, 3, 4] rfl (by decide +kernel)) ggX12_value_X12_isLong
set_option maxRecDepth 20000 in
theorem ggX12_value_X12_takesKey : GoodIn wsX12_value wsX12_takesKey := goodIn_r _ [13, 6, 14, 15, 16, 17, 18, 4, 19, 7, 8, 9, 45, 46, 47, 48, 49, 50, 51, 52, 53, 54, 55, 56, 57, 58, 59, 60, 61, 62, 63, 64, 65, 66, 67, 68, 69, 70, 71, 72, 73, 74, 75, 76, 77, 78, 79, 80, 81, 82, 83, 84, 85] rfl (by decide +kernel)
set_option maxRecDepth 20000 in
theorem gX12_value_X12_takesKey : GoodIn wsX12_value (wsV RX12 161 RX12 yX12_takesKey wsX12_takesKey) := goodIn_app (goodIn_r _ [10, 11, 12, 4] rfl (by decide +kernel)) ggX12_value_X12_takesKey
set_option maxRecDepth 20000 in
theorem ggX12_value_X12_isHandThere : GoodIn wsX12_value wsX12_isHandThere := goodIn_r _ [23, 24, 25, 26, 4, 27, 28, 29, 30, 31, 32, 33, 34, 35, 36, 14, 15, 37, 38, 39, 40, 41, 42, 43, 44, 45, 46, 47, 48, 49, 50, 51, 52, 53, 54, 55, 56, 57, 58, 59, 60, 61, 62, 63, 64, 65, 66, 67, 68, 69, 70, 71, 72, 73, 74, 75, 76, 77, 78, 79, 80, 81, 82, 83, 84, 85] rfl (by decide +kernel)
set_option maxRecDepth 20000 in
theorem gX12_value_X12_isHandThere : GoodIn wsX12_value (wsV RX12 167 RX12 yX12_isHandThere wsX12_isHandThere) := goodIn_app (goodIn_r _ [20, 21, 22, 4] rfl (by decide +kernel)) ggX12_value_X12_isHandThere
set_option maxRecDepth 20000 in
theorem ggX12_value_X12_rankOfHand : GoodIn wsX12_value wsX12_rankOfHand := goodIn_r _ [27, 28, 29, 30, 4, 31, 32, 33, 34, 35, 36, 14, 15, 37, 38, 39, 40, 41, 42, 43, 44, 45, 46, 47, 48, 49, 50, 51, 52, 53, 54, 55, 56, 57, 58, 59, 60, 61, 62, 63, 64, 65, 66, 67, 68, 69, 70, 71, 72, 73, 74, 75, 76, 77, 78, 79, 80, 81, 82, 83, 84, 85] rfl (by decide +kernel)
set_option maxRecDepth 20000 in
theorem gX12_value_X12_rankOfHand : GoodIn wsX12_value (wsV RX12 81 RX12 yX12_rankOfHand wsX12_rankOfHand) := goodIn_app (goodIn_r _ [24, 25, 26, 4] rfl (by decide +kernel)) ggX12_value_X12_rankOfHand
set_option maxRecDepth 20000 in
theorem ggX12_value_X12_of : GoodIn wsX12_value wsX12_of := goodIn_r _ [40, 32, 45, 46, 47, 48, 49, 50, 51, 52, 53, 54, 55, 56, 57, 58, 59, 60, 61, 62, 63, 64, 65, 66, 67, 68, 69, 70, 71, 72, 73, 74, 75, 76, 77, 78, 79, 80, 81, 82, 83, 84, 85] rfl (by decide +kernel)
set_option maxRecDepth 20000 in
theorem gX12_value_X12_of : GoodIn wsX12_value (wsV RX12 50 RX12 yX12_of wsX12_of) := goodIn_app (goodIn_r _ [37, 38, 39, 4] rfl (by decide +kernel)) ggX12_value_X12_of
theorem dX12_value_0 : decode cX12_value 0 = .ok (.aload_n 0, 1) := by decide +kernel
theorem dX12_value_1 : decode cX12_value 1 = .ok (.iload_n 1, 1) := by decide +kernel
theorem dX12_value_2 : decode cX12_value 2 = .ok (.invokevirtual 157, 3) := by decide +kernel
theorem dX12_value_5 : decode cX12_value 5 = .ok (.ifCond .ne 5, 3) := by decide +kernel
theorem dX12_value_8 : decode cX12_value 8 = .ok (.iconst (-1), 1) := by decide +kernel
theorem dX12_value_9 : decode cX12_value 9 = .ok (.ireturn, 1) := by decide +kernel
theorem dX12_value_10 : decode cX12_value 10 = .ok (.aload_n 0, 1) := by decide +kernel
theorem dX12_value_11 : decode cX12_value 11 = .ok (.iload_n 1, 1) := by decide +kernel
theorem dX12_value_12 : decode cX12_value 12 = .ok (.invokevirtual 161, 3) := by decide +kernel
theorem dX12_value_15 : decode cX12_value 15 = .ok (.ifCond .ne 6, 3) := by decide +kernel
theorem dX12_value_18 : decode cX12_value 18 = .ok (.bipush (-2), 2) := by decide +kernel
theorem dX12_value_20 : decode cX12_value 20 = .ok (.ireturn, 1) := by decide +kernel
theorem dX12_value_21 : decode cX12_value 21 = .ok (.aload_n 0, 1) := by decide +kernel
theorem dX12_value_22 : decode cX12_value 22 = .ok (.invokevirtual 167, 3) := by decide +kernel
theorem dX12_value_25 : decode cX12_value 25 = .ok (.ifCond .eq 15, 3) := by decide +kernel
theorem dX12_value_28 : decode cX12_value 28 = .ok (.aload_n 0, 1) := by decide +kernel
theorem dX12_value_29 : decode cX12_value 29 = .ok (.aload_n 0, 1) := by decide +kernel
theorem dX12_value_30 : decode cX12_value 30 = .ok (.invokevirtual 81, 3) := by decide +kernel
theorem dX12_value_33 : decode cX12_value 33 = .ok (.iconst 1, 1) := by decide +kernel
theorem dX12_value_34 : decode cX12_value 34 = .ok (.invokevirtual 50, 3) := by decide +kernel
theorem dX12_value_37 : decode cX12_value 37 = .ok (.goto 5, 3) := by decide +kernel
theorem dX12_value_40 : decode cX12_value 40 = .ok (.bipush (-3), 2) := by decide +kernel
theorem dX12_value_42 : decode cX12_value 42 = .ok (.ireturn, 1) := by decide +kernel
set_option maxRecDepth 20000 in
theorem ggX12_rank_X12_isLong : GoodIn wsX12_rank wsX12_isLong := goodIn_r _ [5, 6, 7, 8, 4, 9, 41, 42, 43, 44, 45, 46, 47, 48, 49, 50, 51, 52, 53, 54, 55, 56, 57, 58, 59, 60, 61, 62, 63, 64, 65, 66, 67, 68, 69, 70, 71, 72, 73, 74, 75, 76, 77, 78, 79, 80, 81] rfl (by decide +kernel)
set_option maxRecDepth 20000 in
theorem gX12_rank_X12_isLong : GoodIn wsX12_rank (wsV RX12 157 RX12 yX12_isLong wsX12_isLong) := goodIn_app (goodIn_r _ [1, 2, 3, 4] rfl (by decide +kernel)) ggX12_rank_X12_isLong
set_option maxRecDepth 20000 in
theorem ggX12_rank_X12_takesKey : GoodIn wsX12_rank wsX12_takesKey := goodIn_r _ [13, 6, 14, 15, 16, 17, 18, 4, 19, 7, 8, 9, 41, 42, 43, 44, 45, 46, 47, 48, 49, 50, 51, 52, 53, 54, 55, 56, 57, 58, 59, 60, 61, 62, 63, 64, 65, 66, 67, 68, 69, 70, 71, 72, 73, 74, 75, 76, 77, 78, 79, 80, 81] rfl (by decide +kernel)
set_option maxRecDepth 20000 in
theorem gX12_rank_X12_takesKey : GoodIn wsX12_rank (wsV RX12 161 RX12 yX12_takesKey wsX12_takesKey) := goodIn_app (goodIn_r _ [10, 11, 12, 4] rfl (by decide +kernel)) ggX12_rank_X12_takesKey
set_option maxRecDepth 20000 in
theorem ggX12_rank_X12_rankOfHand : GoodIn wsX12_rank wsX12_rankOfHand := goodIn_r _ [23, 24, 25, 26, 4, 27, 28, 29, 30, 31, 32, 14, 15, 33, 34, 35, 36, 37, 38, 39, 40, 41, 42, 43, 44, 45, 46, 47, 48, 49, 50, 51, 52, 53, 54, 55, 56, 57, 58, 59, 60, 61, 62, 63, 64, 65, 66, 67, 68, 69, 70, 71, 72, 73, 74, 75, 76, 77, 78, 79, 80, 81] rfl (by decide +kernel)
set_option maxRecDepth 20000 in
theorem gX12_rank_X12_rankOfHand : GoodIn wsX12_rank (wsV RX12 81 RX12 yX12_rankOfHand wsX12_rankOfHand) := goodIn_app (goodIn_r _ [20, 21, 22, 4] rfl (by decide +kernel)) ggX12_rank_X12_rankOfHand
theorem dX12_rank_0 : decode cX12_rank 0 = .ok (.aload_n 0, 1) := by decide +kernel
