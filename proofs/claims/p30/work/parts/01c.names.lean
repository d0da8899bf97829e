set_option maxRecDepth 20000 in
theorem ggX0_init_X2_init : GoodIn wsX0_init wsX2_init := goodIn_r _ [14, 15, 2, 3, 16, 17, 18, 19, 20] rfl (by decide +kernel)
set_option maxRecDepth 20000 in
theorem gX0_init_X2_init : GoodIn wsX0_init (wsX2_init) := ggX0_init_X2_init
theorem dX0_init_0 : decode cX0_init 0 = .ok (.aload_n 0, 1) := by decide +kernel
theorem dX0_init_1 : decode cX0_init 1 = .ok (.invokespecial 3, 3) := by decide +kernel
theorem dX0_init_4 : decode cX0_init 4 = .ok (.aload_n 0, 1) := by decide +kernel
theorem dX0_init_5 : decode cX0_init 5 = .ok (.new 9, 3) := by decide +kernel
theorem dX0_init_8 : decode cX0_init 8 = .ok (.dup, 1) := by decide +kernel
theorem dX0_init_9 : decode cX0_init 9 = .ok (.invokespecial 11, 3) := by decide +kernel
theorem dX0_init_12 : decode cX0_init 12 = .ok (.putfield 12, 3) := by decide +kernel
theorem dX0_init_15 : decode cX0_init 15 = .ok (.aload_n 0, 1) := by decide +kernel
theorem dX0_init_16 : decode cX0_init 16 = .ok (.iconst 0, 1) := by decide +kernel
theorem dX0_init_17 : decode cX0_init 17 = .ok (.putfield 18, 3) := by decide +kernel
theorem dX0_init_20 : decode cX0_init 20 = .ok (.aload_n 0, 1) := by decide +kernel
theorem dX0_init_21 : decode cX0_init 21 = .ok (.iconst 0, 1) := by decide +kernel
theorem dX0_init_22 : decode cX0_init 22 = .ok (.putfield 22, 3) := by decide +kernel
theorem dX0_init_25 : decode cX0_init 25 = .ok (.aload_n 0, 1) := by decide +kernel
theorem dX0_init_26 : decode cX0_init 26 = .ok (.iconst 0, 1) := by decide +kernel
theorem dX0_init_27 : decode cX0_init 27 = .ok (.putfield 26, 3) := by decide +kernel
theorem dX0_init_30 : decode cX0_init 30 = .ok (.aload_n 0, 1) := by decide +kernel
theorem dX0_init_31 : decode cX0_init 31 = .ok (.iconst 0, 1) := by decide +kernel
theorem dX0_init_32 : decode cX0_init 32 = .ok (.putfield 29, 3) := by decide +kernel
theorem dX0_init_35 : decode cX0_init 35 = .ok (.return_, 1) := by decide +kernel
set_option maxRecDepth 20000 in
theorem ggX0_copyFrom_X2_copyFrom : GoodIn wsX0_copyFrom wsX2_copyFrom := goodIn_r _ [10, 11, 12, 13, 14, 15, 16, 22, 23] rfl (by decide +kernel)
set_option maxRecDepth 20000 in
theorem gX0_copyFrom_X2_copyFrom : GoodIn wsX0_copyFrom (wsV RX0 32 RX2 yX2_copyFrom wsX2_copyFrom) := goodIn_app (goodIn_r _ [6, 7, 8, 9] rfl (by decide +kernel)) ggX0_copyFrom_X2_copyFrom
theorem dX0_copyFrom_0 : decode cX0_copyFrom 0 = .ok (.aload_n 0, 1) := by decide +kernel
theorem dX0_copyFrom_1 : decode cX0_copyFrom 1 = .ok (.getfield 12, 3) := by decide +kernel
theorem dX0_copyFrom_4 : decode cX0_copyFrom 4 = .ok (.aload_n 1, 1) := by decide +kernel
theorem dX0_copyFrom_5 : decode cX0_copyFrom 5 = .ok (.getfield 12, 3) := by decide +kernel
theorem dX0_copyFrom_8 : decode cX0_copyFrom 8 = .ok (.invokevirtual 32, 3) := by decide +kernel
theorem dX0_copyFrom_11 : decode cX0_copyFrom 11 = .ok (.aload_n 0, 1) := by decide +kernel
theorem dX0_copyFrom_12 : decode cX0_copyFrom 12 = .ok (.aload_n 1, 1) := by decide +kernel
theorem dX0_copyFrom_13 : decode cX0_copyFrom 13 = .ok (.getfield 18, 3) := by decide +kernel
theorem dX0_copyFrom_16 : decode cX0_copyFrom 16 = .ok (.putfield 18, 3) := by decide +kernel
theorem dX0_copyFrom_19 : decode cX0_copyFrom 19 = .ok (.aload_n 0, 1) := by decide +kernel
theorem dX0_copyFrom_20 : decode cX0_copyFrom 20 = .ok (.aload_n 1, 1) := by decide +kernel
theorem dX0_copyFrom_21 : decode cX0_copyFrom 21 = .ok (.getfield 22, 3) := by decide +kernel
theorem dX0_copyFrom_24 : decode cX0_copyFrom 24 = .ok (.putfield 22, 3) := by decide +kernel
theorem dX0_copyFrom_27 : decode cX0_copyFrom 27 = .ok (.aload_n 0, 1) := by decide +kernel
theorem dX0_copyFrom_28 : decode cX0_copyFrom 28 = .ok (.aload_n 1, 1) := by decide +kernel
theorem dX0_copyFrom_29 : decode cX0_copyFrom 29 = .ok (.getfield 26, 3) := by decide +kernel
theorem dX0_copyFrom_32 : decode cX0_copyFrom 32 = .ok (.putfield 26, 3) := by decide +kernel
theorem dX0_copyFrom_35 : decode cX0_copyFrom 35 = .ok (.aload_n 0, 1) := by decide +kernel
theorem dX0_copyFrom_36 : decode cX0_copyFrom 36 = .ok (.aload_n 1, 1) := by decide +kernel
theorem dX0_copyFrom_37 : decode cX0_copyFrom 37 = .ok (.getfield 29, 3) := by decide +kernel
theorem dX0_copyFrom_40 : decode cX0_copyFrom 40 = .ok (.putfield 29, 3) := by decide +kernel
theorem dX0_copyFrom_43 : decode cX0_copyFrom 43 = .ok (.return_, 1) := by decide +kernel
set_option maxRecDepth 20000 in
theorem ggX0_tell_X2_copyFrom : GoodIn wsX0_tell wsX2_copyFrom := goodIn_r _ [10, 11, 12, 13, 14, 15, 16, 22, 23] rfl (by decide +kernel)
set_option maxRecDepth 20000 in
theorem gX0_tell_X2_copyFrom : GoodIn wsX0_tell (wsV RX0 32 RX2 yX2_copyFrom wsX2_copyFrom) := goodIn_app (goodIn_r _ [6, 7, 8, 9] rfl (by decide +kernel)) ggX0_tell_X2_copyFrom
theorem dX0_tell_0 : decode cX0_tell 0 = .ok (.aload_n 0, 1) := by decide +kernel
theorem dX0_tell_1 : decode cX0_tell 1 = .ok (.getfield 12, 3) := by decide +kernel
theorem dX0_tell_4 : decode cX0_tell 4 = .ok (.aload_n 1, 1) := by decide +kernel
theorem dX0_tell_5 : decode cX0_tell 5 = .ok (.invokevirtual 32, 3) := by decide +kernel
theorem dX0_tell_8 : decode cX0_tell 8 = .ok (.aload_n 0, 1) := by decide +kernel
theorem dX0_tell_9 : decode cX0_tell 9 = .ok (.iconst 1, 1) := by decide +kernel
theorem dX0_tell_10 : decode cX0_tell 10 = .ok (.putfield 18, 3) := by decide +kernel
theorem dX0_tell_13 : decode cX0_tell 13 = .ok (.aload_n 0, 1) := by decide +kernel
theorem dX0_tell_14 : decode cX0_tell 14 = .ok (.iconst 0, 1) := by decide +kernel
theorem dX0_tell_15 : decode cX0_tell 15 = .ok (.putfield 22, 3) := by decide +kernel
theorem dX0_tell_18 : decode cX0_tell 18 = .ok (.aload_n 0, 1) := by decide +kernel
theorem dX0_tell_19 : decode cX0_tell 19 = .ok (.iconst 0, 1) := by decide +kernel
theorem dX0_tell_20 : decode cX0_tell 20 = .ok (.putfield 26, 3) := by decide +kernel
theorem dX0_tell_23 : decode cX0_tell 23 = .ok (.aload_n 0, 1) := by decide +kernel
theorem dX0_tell_24 : decode cX0_tell 24 = .ok (.iconst 0, 1) := by decide +kernel
theorem dX0_tell_25 : decode cX0_tell 25 = .ok (.putfield 29, 3) := by decide +kernel
theorem dX0_tell_28 : decode cX0_tell 28 = .ok (.return_, 1) := by decide +kernel
set_option maxRecDepth 20000 in
theorem ggX0_go_X3_placeOf : GoodIn wsX0_go wsX3_placeOf := goodIn_r _ [14, 15, 16, 17, 18, 13, 19, 20, 21, 22, 6, 23, 24, 25, 26, 27, 28, 29, 30, 31, 32, 33, 34, 35, 36, 37, 38, 39, 40, 99, 100, 101, 102, 103, 104] rfl (by decide +kernel)
set_option maxRecDepth 20000 in
theorem gX0_go_X3_placeOf : GoodIn wsX0_go (wsV RX0 42 RX3 yX3_placeOf wsX3_placeOf) := goodIn_app (goodIn_r _ [10, 11, 12, 13] rfl (by decide +kernel)) ggX0_go_X3_placeOf
set_option maxRecDepth 20000 in
theorem ggX0_go_X3_isAt : GoodIn wsX0_go wsX3_isAt := goodIn_r _ [44, 45, 46, 47, 13, 48, 15, 16, 17, 18, 19, 20, 21, 22, 6, 23, 24, 25, 26, 27, 28, 29, 30, 31, 32, 33, 34, 35, 36, 37, 38, 39, 40, 99, 100, 101, 102, 103, 104] rfl (by decide +kernel)
set_option maxRecDepth 20000 in
theorem gX0_go_X3_isAt : GoodIn wsX0_go (wsV RX0 48 RX3 yX3_isAt wsX3_isAt) := goodIn_app (goodIn_r _ [41, 42, 43, 13] rfl (by decide +kernel)) ggX0_go_X3_isAt
set_option maxRecDepth 20000 in
theorem ggX0_go_X3_beside : GoodIn wsX0_go wsX3_beside := goodIn_r _ [52] rfl (by decide +kernel)
set_option maxRecDepth 20000 in
theorem gX0_go_X3_beside : GoodIn wsX0_go (wsV RX0 52 RX3 yX3_beside wsX3_beside) := goodIn_app (goodIn_r _ [49, 50, 51, 13] rfl (by decide +kernel)) ggX0_go_X3_beside
set_option maxRecDepth 20000 in
theorem ggX0_go_X3_has : GoodIn wsX0_go wsX3_has := goodIn_r _ [48, 15, 99, 100, 101, 102] rfl (by decide +kernel)
set_option maxRecDepth 20000 in
theorem gX0_go_X3_has : GoodIn wsX0_go (wsV RX0 56 RX3 yX3_has wsX3_has) := goodIn_app (goodIn_r _ [53, 46, 47, 13] rfl (by decide +kernel)) ggX0_go_X3_has
set_option maxRecDepth 20000 in
theorem ggX0_go_X10_isPageCommon : GoodIn wsX0_go wsX10_isPageCommon := goodIn_r _ [58, 59, 60, 61, 57, 62, 63, 64, 65, 66, 67, 68, 69, 70, 5, 6, 7, 71, 72, 73, 74, 75, 85, 86, 87, 88, 89, 90, 91, 92, 93, 99, 100, 101, 102] rfl (by decide +kernel)
set_option maxRecDepth 20000 in
theorem gX0_go_X10_isPageCommon : GoodIn wsX0_go (wsV RX0 66 RX10 yX10_isPageCommon wsX10_isPageCommon) := goodIn_app (goodIn_r _ [54, 55, 56, 57] rfl (by decide +kernel)) ggX0_go_X10_isPageCommon
set_option maxRecDepth 20000 in
theorem ggX0_go_X3_copyTo : GoodIn wsX0_go wsX3_copyTo := goodIn_r _ [79, 33, 80, 81, 82, 83, 84, 28, 20, 45, 46, 47, 13, 48, 15, 99, 100, 101, 102, 103, 104] rfl (by decide +kernel)
set_option maxRecDepth 20000 in
theorem gX0_go_X3_copyTo : GoodIn wsX0_go (wsV RX0 69 RX3 yX3_copyTo wsX3_copyTo) := goodIn_app (goodIn_r _ [76, 77, 78, 13] rfl (by decide +kernel)) ggX0_go_X3_copyTo
theorem dX0_go_0 : decode cX0_go 0 = .ok (.aload_n 1, 1) := by decide +kernel
theorem dX0_go_1 : decode cX0_go 1 = .ok (.getfield 36, 3) := by decide +kernel
theorem dX0_go_4 : decode cX0_go 4 = .ok (.aload_n 0, 1) := by decide +kernel
theorem dX0_go_5 : decode cX0_go 5 = .ok (.getfield 12, 3) := by decide +kernel
theorem dX0_go_8 : decode cX0_go 8 = .ok (.invokevirtual 42, 3) := by decide +kernel
theorem dX0_go_11 : decode cX0_go 11 = .ok (.istore_n 3, 1) := by decide +kernel
theorem dX0_go_12 : decode cX0_go 12 = .ok (.aload_n 1, 1) := by decide +kernel
theorem dX0_go_13 : decode cX0_go 13 = .ok (.getfield 36, 3) := by decide +kernel
theorem dX0_go_16 : decode cX0_go 16 = .ok (.iload_n 3, 1) := by decide +kernel
theorem dX0_go_17 : decode cX0_go 17 = .ok (.aload_n 0, 1) := by decide +kernel
theorem dX0_go_18 : decode cX0_go 18 = .ok (.getfield 12, 3) := by decide +kernel
theorem dX0_go_21 : decode cX0_go 21 = .ok (.invokevirtual 48, 3) := by decide +kernel
theorem dX0_go_24 : decode cX0_go 24 = .ok (.istore 4, 2) := by decide +kernel
theorem dX0_go_26 : decode cX0_go 26 = .ok (.aload_n 1, 1) := by decide +kernel
theorem dX0_go_27 : decode cX0_go 27 = .ok (.getfield 36, 3) := by decide +kernel
theorem dX0_go_30 : decode cX0_go 30 = .ok (.iload_n 3, 1) := by decide +kernel
theorem dX0_go_31 : decode cX0_go 31 = .ok (.iload 4, 2) := by decide +kernel
theorem dX0_go_33 : decode cX0_go 33 = .ok (.iload_n 2, 1) := by decide +kernel
theorem dX0_go_34 : decode cX0_go 34 = .ok (.invokevirtual 52, 3) := by decide +kernel
theorem dX0_go_37 : decode cX0_go 37 = .ok (.istore 5, 2) := by decide +kernel
theorem dX0_go_39 : decode cX0_go 39 = .ok (.aload_n 1, 1) := by decide +kernel
theorem dX0_go_40 : decode cX0_go 40 = .ok (.getfield 36, 3) := by decide +kernel
theorem dX0_go_43 : decode cX0_go 43 = .ok (.iload 5, 2) := by decide +kernel
theorem dX0_go_45 : decode cX0_go 45 = .ok (.invokevirtual 56, 3) := by decide +kernel
theorem dX0_go_48 : decode cX0_go 48 = .ok (.ifCond .ne 6, 3) := by decide +kernel
theorem dX0_go_51 : decode cX0_go 51 = .ok (.bipush (-3), 2) := by decide +kernel
theorem dX0_go_53 : decode cX0_go 53 = .ok (.ireturn, 1) := by decide +kernel
theorem dX0_go_54 : decode cX0_go 54 = .ok (.iload 4, 2) := by decide +kernel
theorem dX0_go_56 : decode cX0_go 56 = .ok (.ifCond .ne 16, 3) := by decide +kernel
theorem dX0_go_59 : decode cX0_go 59 = .ok (.aload_n 0, 1) := by decide +kernel
theorem dX0_go_60 : decode cX0_go 60 = .ok (.dup, 1) := by decide +kernel
theorem dX0_go_61 : decode cX0_go 61 = .ok (.getfield 29, 3) := by decide +kernel
theorem dX0_go_64 : decode cX0_go 64 = .ok (.iconst 1, 1) := by decide +kernel
theorem dX0_go_65 : decode cX0_go 65 = .ok (.iadd, 1) := by decide +kernel
theorem dX0_go_66 : decode cX0_go 66 = .ok (.putfield 29, 3) := by decide +kernel
theorem dX0_go_69 : decode cX0_go 69 = .ok (.goto 39, 3) := by decide +kernel
theorem dX0_go_72 : decode cX0_go 72 = .ok (.aload_n 1, 1) := by decide +kernel
theorem dX0_go_73 : decode cX0_go 73 = .ok (.iload_n 3, 1) := by decide +kernel
theorem dX0_go_74 : decode cX0_go 74 = .ok (.iload 5, 2) := by decide +kernel
theorem dX0_go_76 : decode cX0_go 76 = .ok (.invokestatic 60, 3) := by decide +kernel
theorem dX0_go_79 : decode cX0_go 79 = .ok (.invokevirtual 66, 3) := by decide +kernel
theorem dX0_go_82 : decode cX0_go 82 = .ok (.ifCond .eq 16, 3) := by decide +kernel
theorem dX0_go_85 : decode cX0_go 85 = .ok (.aload_n 0, 1) := by decide +kernel
theorem dX0_go_86 : decode cX0_go 86 = .ok (.dup, 1) := by decide +kernel
theorem dX0_go_87 : decode cX0_go 87 = .ok (.getfield 22, 3) := by decide +kernel
theorem dX0_go_90 : decode cX0_go 90 = .ok (.iconst 1, 1) := by decide +kernel
theorem dX0_go_91 : decode cX0_go 91 = .ok (.iadd, 1) := by decide +kernel
theorem dX0_go_92 : decode cX0_go 92 = .ok (.putfield 22, 3) := by decide +kernel
theorem dX0_go_95 : decode cX0_go 95 = .ok (.goto 13, 3) := by decide +kernel
theorem dX0_go_98 : decode cX0_go 98 = .ok (.aload_n 0, 1) := by decide +kernel
theorem dX0_go_99 : decode cX0_go 99 = .ok (.dup, 1) := by decide +kernel
theorem dX0_go_100 : decode cX0_go 100 = .ok (.getfield 26, 3) := by decide +kernel
theorem dX0_go_103 : decode cX0_go 103 = .ok (.iconst 1, 1) := by decide +kernel
theorem dX0_go_104 : decode cX0_go 104 = .ok (.iadd, 1) := by decide +kernel
theorem dX0_go_105 : decode cX0_go 105 = .ok (.putfield 26, 3) := by decide +kernel
theorem dX0_go_108 : decode cX0_go 108 = .ok (.aload_n 1, 1) := by decide +kernel
theorem dX0_go_109 : decode cX0_go 109 = .ok (.getfield 36, 3) := by decide +kernel
theorem dX0_go_112 : decode cX0_go 112 = .ok (.iload 5, 2) := by decide +kernel
theorem dX0_go_114 : decode cX0_go 114 = .ok (.aload_n 0, 1) := by decide +kernel
theorem dX0_go_115 : decode cX0_go 115 = .ok (.getfield 12, 3) := by decide +kernel
theorem dX0_go_118 : decode cX0_go 118 = .ok (.invokevirtual 69, 3) := by decide +kernel
theorem dX0_go_121 : decode cX0_go 121 = .ok (.iload 5, 2) := by decide +kernel
theorem dX0_go_123 : decode cX0_go 123 = .ok (.ireturn, 1) := by decide +kernel
theorem dX1_init_0 : decode cX1_init 0 = .ok (.aload_n 0, 1) := by decide +kernel
theorem dX1_init_1 : decode cX1_init 1 = .ok (.invokespecial 3, 3) := by decide +kernel
theorem dX1_init_4 : decode cX1_init 4 = .ok (.aload_n 0, 1) := by decide +kernel
theorem dX1_init_5 : decode cX1_init 5 = .ok (.aload_n 1, 1) := by decide +kernel
theorem dX1_init_6 : decode cX1_init 6 = .ok (.putfield 9, 3) := by decide +kernel
theorem dX1_init_9 : decode cX1_init 9 = .ok (.aload_n 0, 1) := by decide +kernel
theorem dX1_init_10 : decode cX1_init 10 = .ok (.sipush 150, 3) := by decide +kernel
theorem dX1_init_13 : decode cX1_init 13 = .ok (.newarray .int, 2) := by decide +kernel
theorem dX1_init_15 : decode cX1_init 15 = .ok (.putfield 15, 3) := by decide +kernel
theorem dX1_init_18 : decode cX1_init 18 = .ok (.aload_n 0, 1) := by decide +kernel
theorem dX1_init_19 : decode cX1_init 19 = .ok (.iconst 0, 1) := by decide +kernel
theorem dX1_init_20 : decode cX1_init 20 = .ok (.putfield 19, 3) := by decide +kernel
theorem dX1_init_23 : decode cX1_init 23 = .ok (.return_, 1) := by decide +kernel
set_option maxRecDepth 20000 in
theorem ggX1_goThrough_X6_turnsRound : GoodIn wsX1_goThrough wsX6_turnsRound := goodIn_r _ [10, 11, 12, 65, 66, 67, 68] rfl (by decide +kernel)
set_option maxRecDepth 20000 in
theorem gX1_goThrough_X6_turnsRound : GoodIn wsX1_goThrough (wsV RX1 29 RX6 yX6_turnsRound wsX6_turnsRound) := goodIn_app (goodIn_r _ [6, 7, 8, 9] rfl (by decide +kernel)) ggX1_goThrough_X6_turnsRound
set_option maxRecDepth 20000 in
theorem ggX1_goThrough_X1_turnRound : GoodIn wsX1_goThrough wsX1_turnRound := goodIn_r _ [17, 3, 4, 58, 59, 60] rfl (by decide +kernel)
set_option maxRecDepth 20000 in
theorem gX1_goThrough_X1_turnRound : GoodIn wsX1_goThrough (wsV RX1 33 RX1 yX1_turnRound wsX1_turnRound) := goodIn_app (goodIn_r _ [13, 14, 15, 16] rfl (by decide +kernel)) ggX1_goThrough_X1_turnRound
set_option maxRecDepth 20000 in
theorem ggX1_goThrough_X1_sift : GoodIn wsX1_goThrough wsX1_sift := goodIn_r _ [21, 3, 1, 4, 22, 23, 24, 9, 25, 11, 26, 12, 27, 28, 29, 30, 31, 32, 33, 34, 35, 36, 37, 38, 39, 40, 41, 42, 43, 44, 45, 46, 47, 48, 49, 50, 51, 52, 53, 54, 55, 56, 57, 58, 59, 60, 65, 66, 67, 68, 69, 70, 61, 62, 63, 64] rfl (by decide +kernel)
set_option maxRecDepth 20000 in
theorem gX1_goThrough_X1_sift : GoodIn wsX1_goThrough (wsV RX1 36 RX1 yX1_sift wsX1_sift) := goodIn_app (goodIn_r _ [18, 19, 20, 16] rfl (by decide +kernel)) ggX1_goThrough_X1_sift
theorem dX1_goThrough_0 : decode cX1_goThrough 0 = .ok (.aload_n 0, 1) := by decide +kernel
theorem dX1_goThrough_1 : decode cX1_goThrough 1 = .ok (.aload_n 0, 1) := by decide +kernel
theorem dX1_goThrough_2 : decode cX1_goThrough 2 = .ok (.getfield 9, 3) := by decide +kernel
theorem dX1_goThrough_5 : decode cX1_goThrough 5 = .ok (.getfield 23, 3) := by decide +kernel
theorem dX1_goThrough_8 : decode cX1_goThrough 8 = .ok (.putfield 19, 3) := by decide +kernel
theorem dX1_goThrough_11 : decode cX1_goThrough 11 = .ok (.iconst 0, 1) := by decide +kernel
theorem dX1_goThrough_12 : decode cX1_goThrough 12 = .ok (.istore_n 2, 1) := by decide +kernel
theorem dX1_goThrough_13 : decode cX1_goThrough 13 = .ok (.iload_n 2, 1) := by decide +kernel
theorem dX1_goThrough_14 : decode cX1_goThrough 14 = .ok (.aload_n 0, 1) := by decide +kernel
theorem dX1_goThrough_15 : decode cX1_goThrough 15 = .ok (.getfield 19, 3) := by decide +kernel
theorem dX1_goThrough_18 : decode cX1_goThrough 18 = .ok (.if_icmp .ge 23, 3) := by decide +kernel
theorem dX1_goThrough_21 : decode cX1_goThrough 21 = .ok (.iload_n 2, 1) := by decide +kernel
theorem dX1_goThrough_22 : decode cX1_goThrough 22 = .ok (.sipush 150, 3) := by decide +kernel
theorem dX1_goThrough_25 : decode cX1_goThrough 25 = .ok (.if_icmp .ge 16, 3) := by decide +kernel
theorem dX1_goThrough_28 : decode cX1_goThrough 28 = .ok (.aload_n 0, 1) := by decide +kernel
theorem dX1_goThrough_29 : decode cX1_goThrough 29 = .ok (.getfield 15, 3) := by decide +kernel
theorem dX1_goThrough_32 : decode cX1_goThrough 32 = .ok (.iload_n 2, 1) := by decide +kernel
theorem dX1_goThrough_33 : decode cX1_goThrough 33 = .ok (.iload_n 2, 1) := by decide +kernel
theorem dX1_goThrough_34 : decode cX1_goThrough 34 = .ok (.iastore, 1) := by decide +kernel
theorem dX1_goThrough_35 : decode cX1_goThrough 35 = .ok (.iinc 2 1, 3) := by decide +kernel
theorem dX1_goThrough_38 : decode cX1_goThrough 38 = .ok (.goto (-25), 3) := by decide +kernel
theorem dX1_goThrough_41 : decode cX1_goThrough 41 = .ok (.iconst 0, 1) := by decide +kernel
theorem dX1_goThrough_42 : decode cX1_goThrough 42 = .ok (.istore_n 2, 1) := by decide +kernel
theorem dX1_goThrough_43 : decode cX1_goThrough 43 = .ok (.iload_n 2, 1) := by decide +kernel
theorem dX1_goThrough_44 : decode cX1_goThrough 44 = .ok (.aload_n 1, 1) := by decide +kernel
theorem dX1_goThrough_45 : decode cX1_goThrough 45 = .ok (.getfield 26, 3) := by decide +kernel
theorem dX1_goThrough_48 : decode cX1_goThrough 48 = .ok (.if_icmp .ge 30, 3) := by decide +kernel
theorem dX1_goThrough_51 : decode cX1_goThrough 51 = .ok (.aload_n 1, 1) := by decide +kernel
theorem dX1_goThrough_52 : decode cX1_goThrough 52 = .ok (.iload_n 2, 1) := by decide +kernel
theorem dX1_goThrough_53 : decode cX1_goThrough 53 = .ok (.invokevirtual 29, 3) := by decide +kernel
theorem dX1_goThrough_56 : decode cX1_goThrough 56 = .ok (.ifCond .eq 10, 3) := by decide +kernel
theorem dX1_goThrough_59 : decode cX1_goThrough 59 = .ok (.aload_n 0, 1) := by decide +kernel
theorem dX1_goThrough_60 : decode cX1_goThrough 60 = .ok (.invokevirtual 33, 3) := by decide +kernel
theorem dX1_goThrough_63 : decode cX1_goThrough 63 = .ok (.goto 9, 3) := by decide +kernel
theorem dX1_goThrough_66 : decode cX1_goThrough 66 = .ok (.aload_n 0, 1) := by decide +kernel
theorem dX1_goThrough_67 : decode cX1_goThrough 67 = .ok (.aload_n 1, 1) := by decide +kernel
theorem dX1_goThrough_68 : decode cX1_goThrough 68 = .ok (.iload_n 2, 1) := by decide +kernel
theorem dX1_goThrough_69 : decode cX1_goThrough 69 = .ok (.invokevirtual 36, 3) := by decide +kernel
theorem dX1_goThrough_72 : decode cX1_goThrough 72 = .ok (.iinc 2 1, 3) := by decide +kernel
theorem dX1_goThrough_75 : decode cX1_goThrough 75 = .ok (.goto (-32), 3) := by decide +kernel
theorem dX1_goThrough_78 : decode cX1_goThrough 78 = .ok (.return_, 1) := by decide +kernel
theorem dX1_turnRound_0 : decode cX1_turnRound 0 = .ok (.iconst 0, 1) := by decide +kernel
theorem dX1_turnRound_1 : decode cX1_turnRound 1 = .ok (.istore_n 1, 1) := by decide +kernel
theorem dX1_turnRound_2 : decode cX1_turnRound 2 = .ok (.iload_n 1, 1) := by decide +kernel
theorem dX1_turnRound_3 : decode cX1_turnRound 3 = .ok (.aload_n 0, 1) := by decide +kernel
theorem dX1_turnRound_4 : decode cX1_turnRound 4 = .ok (.getfield 19, 3) := by decide +kernel
theorem dX1_turnRound_7 : decode cX1_turnRound 7 = .ok (.iconst 2, 1) := by decide +kernel
theorem dX1_turnRound_8 : decode cX1_turnRound 8 = .ok (.idiv, 1) := by decide +kernel
theorem dX1_turnRound_9 : decode cX1_turnRound 9 = .ok (.if_icmp .ge 49, 3) := by decide +kernel
theorem dX1_turnRound_12 : decode cX1_turnRound 12 = .ok (.aload_n 0, 1) := by decide +kernel
theorem dX1_turnRound_13 : decode cX1_turnRound 13 = .ok (.getfield 15, 3) := by decide +kernel
theorem dX1_turnRound_16 : decode cX1_turnRound 16 = .ok (.aload_n 0, 1) := by decide +kernel
theorem dX1_turnRound_17 : decode cX1_turnRound 17 = .ok (.getfield 19, 3) := by decide +kernel
theorem dX1_turnRound_20 : decode cX1_turnRound 20 = .ok (.iconst 1, 1) := by decide +kernel
theorem dX1_turnRound_21 : decode cX1_turnRound 21 = .ok (.isub, 1) := by decide +kernel
theorem dX1_turnRound_22 : decode cX1_turnRound 22 = .ok (.iload_n 1, 1) := by decide +kernel
theorem dX1_turnRound_23 : decode cX1_turnRound 23 = .ok (.isub, 1) := by decide +kernel
theorem dX1_turnRound_24 : decode cX1_turnRound 24 = .ok (.iaload, 1) := by decide +kernel
theorem dX1_turnRound_25 : decode cX1_turnRound 25 = .ok (.istore_n 2, 1) := by decide +kernel
theorem dX1_turnRound_26 : decode cX1_turnRound 26 = .ok (.aload_n 0, 1) := by decide +kernel
theorem dX1_turnRound_27 : decode cX1_turnRound 27 = .ok (.getfield 15, 3) := by decide +kernel
theorem dX1_turnRound_30 : decode cX1_turnRound 30 = .ok (.aload_n 0, 1) := by decide +kernel
theorem dX1_turnRound_31 : decode cX1_turnRound 31 = .ok (.getfield 19, 3) := by decide +kernel
theorem dX1_turnRound_34 : decode cX1_turnRound 34 = .ok (.iconst 1, 1) := by decide +kernel
theorem dX1_turnRound_35 : decode cX1_turnRound 35 = .ok (.isub, 1) := by decide +kernel
theorem dX1_turnRound_36 : decode cX1_turnRound 36 = .ok (.iload_n 1, 1) := by decide +kernel
theorem dX1_turnRound_37 : decode cX1_turnRound 37 = .ok (.isub, 1) := by decide +kernel
theorem dX1_turnRound_38 : decode cX1_turnRound 38 = .ok (.aload_n 0, 1) := by decide +kernel
theorem dX1_turnRound_39 : decode cX1_turnRound 39 = .ok (.getfield 15, 3) := by decide +kernel
theorem dX1_turnRound_42 : decode cX1_turnRound 42 = .ok (.iload_n 1, 1) := by decide +kernel
theorem dX1_turnRound_43 : decode cX1_turnRound 43 = .ok (.iaload, 1) := by decide +kernel
theorem dX1_turnRound_44 : decode cX1_turnRound 44 = .ok (.iastore, 1) := by decide +kernel
theorem dX1_turnRound_45 : decode cX1_turnRound 45 = .ok (.aload_n 0, 1) := by decide +kernel
theorem dX1_turnRound_46 : decode cX1_turnRound 46 = .ok (.getfield 15, 3) := by decide +kernel
theorem dX1_turnRound_49 : decode cX1_turnRound 49 = .ok (.iload_n 1, 1) := by decide +kernel
theorem dX1_turnRound_50 : decode cX1_turnRound 50 = .ok (.iload_n 2, 1) := by decide +kernel
theorem dX1_turnRound_51 : decode cX1_turnRound 51 = .ok (.iastore, 1) := by decide +kernel
theorem dX1_turnRound_52 : decode cX1_turnRound 52 = .ok (.iinc 1 1, 3) := by decide +kernel
theorem dX1_turnRound_55 : decode cX1_turnRound 55 = .ok (.goto (-53), 3) := by decide +kernel
theorem dX1_turnRound_58 : decode cX1_turnRound 58 = .ok (.return_, 1) := by decide +kernel
set_option maxRecDepth 20000 in
theorem ggX1_sift_X6_leaves : GoodIn wsX1_sift wsX6_leaves := goodIn_r _ [8, 9, 10, 11, 12, 13, 14, 15, 16, 17, 18, 19, 20, 21, 22, 23, 24, 25, 26, 27, 28, 29, 30, 31, 32, 33, 34, 35, 36, 37, 38, 39, 40, 41, 42, 46, 47, 48, 49, 50, 51, 52, 53, 54, 55] rfl (by decide +kernel)
set_option maxRecDepth 20000 in
theorem gX1_sift_X6_leaves : GoodIn wsX1_sift (wsV RX1 40 RX6 yX6_leaves wsX6_leaves) := goodIn_app (goodIn_r _ [4, 5, 6, 7] rfl (by decide +kernel)) ggX1_sift_X6_leaves
theorem dX1_sift_0 : decode cX1_sift 0 = .ok (.iconst 0, 1) := by decide +kernel
theorem dX1_sift_1 : decode cX1_sift 1 = .ok (.istore_n 3, 1) := by decide +kernel
theorem dX1_sift_2 : decode cX1_sift 2 = .ok (.iconst 0, 1) := by decide +kernel
theorem dX1_sift_3 : decode cX1_sift 3 = .ok (.istore 4, 2) := by decide +kernel
theorem dX1_sift_5 : decode cX1_sift 5 = .ok (.iload 4, 2) := by decide +kernel
theorem dX1_sift_7 : decode cX1_sift 7 = .ok (.aload_n 0, 1) := by decide +kernel
theorem dX1_sift_8 : decode cX1_sift 8 = .ok (.getfield 19, 3) := by decide +kernel
theorem dX1_sift_11 : decode cX1_sift 11 = .ok (.if_icmp .ge 46, 3) := by decide +kernel
theorem dX1_sift_14 : decode cX1_sift 14 = .ok (.aload_n 1, 1) := by decide +kernel
theorem dX1_sift_15 : decode cX1_sift 15 = .ok (.iload_n 2, 1) := by decide +kernel
theorem dX1_sift_16 : decode cX1_sift 16 = .ok (.aload_n 0, 1) := by decide +kernel
theorem dX1_sift_17 : decode cX1_sift 17 = .ok (.getfield 9, 3) := by decide +kernel
theorem dX1_sift_20 : decode cX1_sift 20 = .ok (.aload_n 0, 1) := by decide +kernel
theorem dX1_sift_21 : decode cX1_sift 21 = .ok (.getfield 15, 3) := by decide +kernel
theorem dX1_sift_24 : decode cX1_sift 24 = .ok (.iload 4, 2) := by decide +kernel
theorem dX1_sift_26 : decode cX1_sift 26 = .ok (.iaload, 1) := by decide +kernel
theorem dX1_sift_27 : decode cX1_sift 27 = .ok (.iload 4, 2) := by decide +kernel
theorem dX1_sift_29 : decode cX1_sift 29 = .ok (.invokevirtual 40, 3) := by decide +kernel
theorem dX1_sift_32 : decode cX1_sift 32 = .ok (.ifCond .eq 19, 3) := by decide +kernel
theorem dX1_sift_35 : decode cX1_sift 35 = .ok (.aload_n 0, 1) := by decide +kernel
theorem dX1_sift_36 : decode cX1_sift 36 = .ok (.getfield 15, 3) := by decide +kernel
theorem dX1_sift_39 : decode cX1_sift 39 = .ok (.iload_n 3, 1) := by decide +kernel
theorem dX1_sift_40 : decode cX1_sift 40 = .ok (.aload_n 0, 1) := by decide +kernel
theorem dX1_sift_41 : decode cX1_sift 41 = .ok (.getfield 15, 3) := by decide +kernel
theorem dX1_sift_44 : decode cX1_sift 44 = .ok (.iload 4, 2) := by decide +kernel
theorem dX1_sift_46 : decode cX1_sift 46 = .ok (.iaload, 1) := by decide +kernel
theorem dX1_sift_47 : decode cX1_sift 47 = .ok (.iastore, 1) := by decide +kernel
theorem dX1_sift_48 : decode cX1_sift 48 = .ok (.iinc 3 1, 3) := by decide +kernel
theorem dX1_sift_51 : decode cX1_sift 51 = .ok (.iinc 4 1, 3) := by decide +kernel
theorem dX1_sift_54 : decode cX1_sift 54 = .ok (.goto (-49), 3) := by decide +kernel
theorem dX1_sift_57 : decode cX1_sift 57 = .ok (.aload_n 0, 1) := by decide +kernel
theorem dX1_sift_58 : decode cX1_sift 58 = .ok (.iload_n 3, 1) := by decide +kernel
theorem dX1_sift_59 : decode cX1_sift 59 = .ok (.putfield 19, 3) := by decide +kernel
theorem dX1_sift_62 : decode cX1_sift 62 = .ok (.return_, 1) := by decide +kernel
theorem dX1_numberAt_0 : decode cX1_numberAt 0 = .ok (.iload_n 1, 1) := by decide +kernel
theorem dX1_numberAt_1 : decode cX1_numberAt 1 = .ok (.ifCond .lt 27, 3) := by decide +kernel
theorem dX1_numberAt_4 : decode cX1_numberAt 4 = .ok (.iload_n 1, 1) := by decide +kernel
theorem dX1_numberAt_5 : decode cX1_numberAt 5 = .ok (.aload_n 0, 1) := by decide +kernel
theorem dX1_numberAt_6 : decode cX1_numberAt 6 = .ok (.getfield 19, 3) := by decide +kernel
theorem dX1_numberAt_9 : decode cX1_numberAt 9 = .ok (.if_icmp .ge 19, 3) := by decide +kernel
theorem dX1_numberAt_12 : decode cX1_numberAt 12 = .ok (.iload_n 1, 1) := by decide +kernel
theorem dX1_numberAt_13 : decode cX1_numberAt 13 = .ok (.sipush 150, 3) := by decide +kernel
theorem dX1_numberAt_16 : decode cX1_numberAt 16 = .ok (.if_icmp .ge 12, 3) := by decide +kernel
theorem dX1_numberAt_19 : decode cX1_numberAt 19 = .ok (.aload_n 0, 1) := by decide +kernel
theorem dX1_numberAt_20 : decode cX1_numberAt 20 = .ok (.getfield 15, 3) := by decide +kernel
theorem dX1_numberAt_23 : decode cX1_numberAt 23 = .ok (.iload_n 1, 1) := by decide +kernel
theorem dX1_numberAt_24 : decode cX1_numberAt 24 = .ok (.iaload, 1) := by decide +kernel
theorem dX1_numberAt_25 : decode cX1_numberAt 25 = .ok (.goto 4, 3) := by decide +kernel
theorem dX1_numberAt_28 : decode cX1_numberAt 28 = .ok (.iconst (-1), 1) := by decide +kernel
theorem dX1_numberAt_29 : decode cX1_numberAt 29 = .ok (.ireturn, 1) := by decide +kernel
theorem dX1_closeGap_0 : decode cX1_closeGap 0 = .ok (.iload_n 1, 1) := by decide +kernel
theorem dX1_closeGap_1 : decode cX1_closeGap 1 = .ok (.istore_n 3, 1) := by decide +kernel
theorem dX1_closeGap_2 : decode cX1_closeGap 2 = .ok (.iload_n 3, 1) := by decide +kernel
theorem dX1_closeGap_3 : decode cX1_closeGap 3 = .ok (.aload_n 0, 1) := by decide +kernel
theorem dX1_closeGap_4 : decode cX1_closeGap 4 = .ok (.getfield 19, 3) := by decide +kernel
theorem dX1_closeGap_7 : decode cX1_closeGap 7 = .ok (.if_icmp .ge 29, 3) := by decide +kernel
theorem dX1_closeGap_10 : decode cX1_closeGap 10 = .ok (.aload_n 0, 1) := by decide +kernel
theorem dX1_closeGap_11 : decode cX1_closeGap 11 = .ok (.getfield 15, 3) := by decide +kernel
theorem dX1_closeGap_14 : decode cX1_closeGap 14 = .ok (.iload_n 3, 1) := by decide +kernel
theorem dX1_closeGap_15 : decode cX1_closeGap 15 = .ok (.iaload, 1) := by decide +kernel
theorem dX1_closeGap_16 : decode cX1_closeGap 16 = .ok (.iload_n 2, 1) := by decide +kernel
theorem dX1_closeGap_17 : decode cX1_closeGap 17 = .ok (.if_icmp .le 13, 3) := by decide +kernel
theorem dX1_closeGap_20 : decode cX1_closeGap 20 = .ok (.aload_n 0, 1) := by decide +kernel
theorem dX1_closeGap_21 : decode cX1_closeGap 21 = .ok (.getfield 15, 3) := by decide +kernel
theorem dX1_closeGap_24 : decode cX1_closeGap 24 = .ok (.iload_n 3, 1) := by decide +kernel
theorem dX1_closeGap_25 : decode cX1_closeGap 25 = .ok (.dup2, 1) := by decide +kernel
theorem dX1_closeGap_26 : decode cX1_closeGap 26 = .ok (.iaload, 1) := by decide +kernel
theorem dX1_closeGap_27 : decode cX1_closeGap 27 = .ok (.iconst 1, 1) := by decide +kernel
theorem dX1_closeGap_28 : decode cX1_closeGap 28 = .ok (.isub, 1) := by decide +kernel
theorem dX1_closeGap_29 : decode cX1_closeGap 29 = .ok (.iastore, 1) := by decide +kernel
theorem dX1_closeGap_30 : decode cX1_closeGap 30 = .ok (.iinc 3 1, 3) := by decide +kernel
theorem dX1_closeGap_33 : decode cX1_closeGap 33 = .ok (.goto (-31), 3) := by decide +kernel
theorem dX1_closeGap_36 : decode cX1_closeGap 36 = .ok (.return_, 1) := by decide +kernel
set_option maxRecDepth 20000 in
theorem ggX1_valuesTogether_X3_valueOf : GoodIn wsX1_valuesTogether wsX3_valueOf := goodIn_r _ [8, 9, 10, 14, 15, 16, 17] rfl (by decide +kernel)
set_option maxRecDepth 20000 in
theorem gX1_valuesTogether_X3_valueOf : GoodIn wsX1_valuesTogether (wsV RX1 44 RX3 yX3_valueOf wsX3_valueOf) := goodIn_app (goodIn_r _ [4, 5, 6, 7] rfl (by decide +kernel)) ggX1_valuesTogether_X3_valueOf
theorem dX1_valuesTogether_0 : decode cX1_valuesTogether 0 = .ok (.iconst 0, 1) := by decide +kernel
theorem dX1_valuesTogether_1 : decode cX1_valuesTogether 1 = .ok (.istore_n 1, 1) := by decide +kernel
theorem dX1_valuesTogether_2 : decode cX1_valuesTogether 2 = .ok (.iconst 0, 1) := by decide +kernel
theorem dX1_valuesTogether_3 : decode cX1_valuesTogether 3 = .ok (.istore_n 2, 1) := by decide +kernel
theorem dX1_valuesTogether_4 : decode cX1_valuesTogether 4 = .ok (.iload_n 2, 1) := by decide +kernel
theorem dX1_valuesTogether_5 : decode cX1_valuesTogether 5 = .ok (.aload_n 0, 1) := by decide +kernel
theorem dX1_valuesTogether_6 : decode cX1_valuesTogether 6 = .ok (.getfield 19, 3) := by decide +kernel
theorem dX1_valuesTogether_9 : decode cX1_valuesTogether 9 = .ok (.if_icmp .ge 25, 3) := by decide +kernel
theorem dX1_valuesTogether_12 : decode cX1_valuesTogether 12 = .ok (.iload_n 1, 1) := by decide +kernel
theorem dX1_valuesTogether_13 : decode cX1_valuesTogether 13 = .ok (.aload_n 0, 1) := by decide +kernel
theorem dX1_valuesTogether_14 : decode cX1_valuesTogether 14 = .ok (.getfield 9, 3) := by decide +kernel
theorem dX1_valuesTogether_17 : decode cX1_valuesTogether 17 = .ok (.aload_n 0, 1) := by decide +kernel
theorem dX1_valuesTogether_18 : decode cX1_valuesTogether 18 = .ok (.getfield 15, 3) := by decide +kernel
theorem dX1_valuesTogether_21 : decode cX1_valuesTogether 21 = .ok (.iload_n 2, 1) := by decide +kernel
theorem dX1_valuesTogether_22 : decode cX1_valuesTogether 22 = .ok (.iaload, 1) := by decide +kernel
theorem dX1_valuesTogether_23 : decode cX1_valuesTogether 23 = .ok (.invokevirtual 44, 3) := by decide +kernel
theorem dX1_valuesTogether_26 : decode cX1_valuesTogether 26 = .ok (.iadd, 1) := by decide +kernel
theorem dX1_valuesTogether_27 : decode cX1_valuesTogether 27 = .ok (.istore_n 1, 1) := by decide +kernel
theorem dX1_valuesTogether_28 : decode cX1_valuesTogether 28 = .ok (.iinc 2 1, 3) := by decide +kernel
theorem dX1_valuesTogether_31 : decode cX1_valuesTogether 31 = .ok (.goto (-27), 3) := by decide +kernel
theorem dX1_valuesTogether_34 : decode cX1_valuesTogether 34 = .ok (.iload_n 1, 1) := by decide +kernel
theorem dX1_valuesTogether_35 : decode cX1_valuesTogether 35 = .ok (.ireturn, 1) := by decide +kernel
set_option maxRecDepth 20000 in
theorem ggX1_bytesTogether_X3_lengthOf : GoodIn wsX1_bytesTogether wsX3_lengthOf := goodIn_r _ [8, 9, 10, 14, 15, 16, 17] rfl (by decide +kernel)
set_option maxRecDepth 20000 in
theorem gX1_bytesTogether_X3_lengthOf : GoodIn wsX1_bytesTogether (wsV RX1 48 RX3 yX3_lengthOf wsX3_lengthOf) := goodIn_app (goodIn_r _ [4, 5, 6, 7] rfl (by decide +kernel)) ggX1_bytesTogether_X3_lengthOf
theorem dX1_bytesTogether_0 : decode cX1_bytesTogether 0 = .ok (.iconst 0, 1) := by decide +kernel
theorem dX1_bytesTogether_1 : decode cX1_bytesTogether 1 = .ok (.istore_n 1, 1) := by decide +kernel
theorem dX1_bytesTogether_2 : decode cX1_bytesTogether 2 = .ok (.iconst 0, 1) := by decide +kernel
theorem dX1_bytesTogether_3 : decode cX1_bytesTogether 3 = .ok (.istore_n 2, 1) := by decide +kernel
theorem dX1_bytesTogether_4 : decode cX1_bytesTogether 4 = .ok (.iload_n 2, 1) := by decide +kernel
theorem dX1_bytesTogether_5 : decode cX1_bytesTogether 5 = .ok (.aload_n 0, 1) := by decide +kernel
theorem dX1_bytesTogether_6 : decode cX1_bytesTogether 6 = .ok (.getfield 19, 3) := by decide +kernel
theorem dX1_bytesTogether_9 : decode cX1_bytesTogether 9 = .ok (.if_icmp .ge 25, 3) := by decide +kernel
theorem dX1_bytesTogether_12 : decode cX1_bytesTogether 12 = .ok (.iload_n 1, 1) := by decide +kernel
theorem dX1_bytesTogether_13 : decode cX1_bytesTogether 13 = .ok (.aload_n 0, 1) := by decide +kernel
theorem dX1_bytesTogether_14 : decode cX1_bytesTogether 14 = .ok (.getfield 9, 3) := by decide +kernel
theorem dX1_bytesTogether_17 : decode cX1_bytesTogether 17 = .ok (.aload_n 0, 1) := by decide +kernel
theorem dX1_bytesTogether_18 : decode cX1_bytesTogether 18 = .ok (.getfield 15, 3) := by decide +kernel
theorem dX1_bytesTogether_21 : decode cX1_bytesTogether 21 = .ok (.iload_n 2, 1) := by decide +kernel
theorem dX1_bytesTogether_22 : decode cX1_bytesTogether 22 = .ok (.iaload, 1) := by decide +kernel
theorem dX1_bytesTogether_23 : decode cX1_bytesTogether 23 = .ok (.invokevirtual 48, 3) := by decide +kernel
theorem dX1_bytesTogether_26 : decode cX1_bytesTogether 26 = .ok (.iadd, 1) := by decide +kernel
theorem dX1_bytesTogether_27 : decode cX1_bytesTogether 27 = .ok (.istore_n 1, 1) := by decide +kernel
theorem dX1_bytesTogether_28 : decode cX1_bytesTogether 28 = .ok (.iinc 2 1, 3) := by decide +kernel
theorem dX1_bytesTogether_31 : decode cX1_bytesTogether 31 = .ok (.goto (-27), 3) := by decide +kernel
theorem dX1_bytesTogether_34 : decode cX1_bytesTogether 34 = .ok (.iload_n 1, 1) := by decide +kernel
theorem dX1_bytesTogether_35 : decode cX1_bytesTogether 35 = .ok (.ireturn, 1) := by decide +kernel
set_option maxRecDepth 20000 in
theorem ggX1_greatest_X3_valueOf : GoodIn wsX1_greatest wsX3_valueOf := goodIn_r _ [12, 13, 14, 18, 19, 20, 21] rfl (by decide +kernel)
set_option maxRecDepth 20000 in
theorem gX1_greatest_X3_valueOf : GoodIn wsX1_greatest (wsV RX1 44 RX3 yX3_valueOf wsX3_valueOf) := goodIn_app (goodIn_r _ [8, 9, 10, 11] rfl (by decide +kernel)) ggX1_greatest_X3_valueOf
theorem dX1_greatest_0 : decode cX1_greatest 0 = .ok (.bipush (-2), 2) := by decide +kernel
theorem dX1_greatest_2 : decode cX1_greatest 2 = .ok (.istore_n 1, 1) := by decide +kernel
theorem dX1_greatest_3 : decode cX1_greatest 3 = .ok (.iconst 0, 1) := by decide +kernel
theorem dX1_greatest_4 : decode cX1_greatest 4 = .ok (.istore_n 2, 1) := by decide +kernel
theorem dX1_greatest_5 : decode cX1_greatest 5 = .ok (.iload_n 2, 1) := by decide +kernel
theorem dX1_greatest_6 : decode cX1_greatest 6 = .ok (.aload_n 0, 1) := by decide +kernel
theorem dX1_greatest_7 : decode cX1_greatest 7 = .ok (.getfield 19, 3) := by decide +kernel
theorem dX1_greatest_10 : decode cX1_greatest 10 = .ok (.if_icmp .ge 27, 3) := by decide +kernel
theorem dX1_greatest_13 : decode cX1_greatest 13 = .ok (.iload_n 1, 1) := by decide +kernel
theorem dX1_greatest_14 : decode cX1_greatest 14 = .ok (.aload_n 0, 1) := by decide +kernel
theorem dX1_greatest_15 : decode cX1_greatest 15 = .ok (.getfield 9, 3) := by decide +kernel
theorem dX1_greatest_18 : decode cX1_greatest 18 = .ok (.aload_n 0, 1) := by decide +kernel
theorem dX1_greatest_19 : decode cX1_greatest 19 = .ok (.getfield 15, 3) := by decide +kernel
theorem dX1_greatest_22 : decode cX1_greatest 22 = .ok (.iload_n 2, 1) := by decide +kernel
theorem dX1_greatest_23 : decode cX1_greatest 23 = .ok (.iaload, 1) := by decide +kernel
theorem dX1_greatest_24 : decode cX1_greatest 24 = .ok (.invokevirtual 44, 3) := by decide +kernel
theorem dX1_greatest_27 : decode cX1_greatest 27 = .ok (.invokestatic 51, 3) := by decide +kernel
theorem dX1_greatest_30 : decode cX1_greatest 30 = .ok (.istore_n 1, 1) := by decide +kernel
theorem dX1_greatest_31 : decode cX1_greatest 31 = .ok (.iinc 2 1, 3) := by decide +kernel
theorem dX1_greatest_34 : decode cX1_greatest 34 = .ok (.goto (-29), 3) := by decide +kernel
theorem dX1_greatest_37 : decode cX1_greatest 37 = .ok (.iload_n 1, 1) := by decide +kernel
theorem dX1_greatest_38 : decode cX1_greatest 38 = .ok (.ireturn, 1) := by decide +kernel
set_option maxRecDepth 20000 in
theorem ggX1_least_X3_valueOf : GoodIn wsX1_least wsX3_valueOf := goodIn_r _ [13, 14, 15, 19, 20, 21, 22] rfl (by decide +kernel)
set_option maxRecDepth 20000 in
theorem gX1_least_X3_valueOf : GoodIn wsX1_least (wsV RX1 44 RX3 yX3_valueOf wsX3_valueOf) := goodIn_app (goodIn_r _ [9, 10, 11, 12] rfl (by decide +kernel)) ggX1_least_X3_valueOf
theorem dX1_least_0 : decode cX1_least 0 = .ok (.ldc 57, 2) := by decide +kernel
theorem dX1_least_2 : decode cX1_least 2 = .ok (.istore_n 1, 1) := by decide +kernel
theorem dX1_least_3 : decode cX1_least 3 = .ok (.iconst 0, 1) := by decide +kernel
theorem dX1_least_4 : decode cX1_least 4 = .ok (.istore_n 2, 1) := by decide +kernel
theorem dX1_least_5 : decode cX1_least 5 = .ok (.iload_n 2, 1) := by decide +kernel
theorem dX1_least_6 : decode cX1_least 6 = .ok (.aload_n 0, 1) := by decide +kernel
theorem dX1_least_7 : decode cX1_least 7 = .ok (.getfield 19, 3) := by decide +kernel
theorem dX1_least_10 : decode cX1_least 10 = .ok (.if_icmp .ge 27, 3) := by decide +kernel
theorem dX1_least_13 : decode cX1_least 13 = .ok (.iload_n 1, 1) := by decide +kernel
theorem dX1_least_14 : decode cX1_least 14 = .ok (.aload_n 0, 1) := by decide +kernel
theorem dX1_least_15 : decode cX1_least 15 = .ok (.getfield 9, 3) := by decide +kernel
theorem dX1_least_18 : decode cX1_least 18 = .ok (.aload_n 0, 1) := by decide +kernel
theorem dX1_least_19 : decode cX1_least 19 = .ok (.getfield 15, 3) := by decide +kernel
theorem dX1_least_22 : decode cX1_least 22 = .ok (.iload_n 2, 1) := by decide +kernel
theorem dX1_least_23 : decode cX1_least 23 = .ok (.iaload, 1) := by decide +kernel
theorem dX1_least_24 : decode cX1_least 24 = .ok (.invokevirtual 44, 3) := by decide +kernel
theorem dX1_least_27 : decode cX1_least 27 = .ok (.invokestatic 58, 3) := by decide +kernel
theorem dX1_least_30 : decode cX1_least 30 = .ok (.istore_n 1, 1) := by decide +kernel
theorem dX1_least_31 : decode cX1_least 31 = .ok (.iinc 2 1, 3) := by decide +kernel
theorem dX1_least_34 : decode cX1_least 34 = .ok (.goto (-29), 3) := by decide +kernel
theorem dX1_least_37 : decode cX1_least 37 = .ok (.aload_n 0, 1) := by decide +kernel
theorem dX1_least_38 : decode cX1_least 38 = .ok (.getfield 19, 3) := by decide +kernel
theorem dX1_least_41 : decode cX1_least 41 = .ok (.ifCond .ne 8, 3) := by decide +kernel
theorem dX1_least_44 : decode cX1_least 44 = .ok (.bipush (-2), 2) := by decide +kernel
theorem dX1_least_46 : decode cX1_least 46 = .ok (.goto 4, 3) := by decide +kernel
theorem dX1_least_49 : decode cX1_least 49 = .ok (.iload_n 1, 1) := by decide +kernel
theorem dX1_least_50 : decode cX1_least 50 = .ok (.ireturn, 1) := by decide +kernel
set_option maxRecDepth 20000 in
theorem ggX1_unlikeValues_X1_isValueAheadOf : GoodIn wsX1_unlikeValues wsX1_isValueAheadOf := goodIn_r _ [6, 7, 8, 9, 10, 11, 12, 13, 14, 15, 16, 17, 18, 19, 20, 21, 22] rfl (by decide +kernel)
set_option maxRecDepth 20000 in
theorem gX1_unlikeValues_X1_isValueAheadOf : GoodIn wsX1_unlikeValues (wsV RX1 61 RX1 yX1_isValueAheadOf wsX1_isValueAheadOf) := goodIn_app (goodIn_r _ [2, 3, 4, 5] rfl (by decide +kernel)) ggX1_unlikeValues_X1_isValueAheadOf
theorem dX1_unlikeValues_0 : decode cX1_unlikeValues 0 = .ok (.iconst 0, 1) := by decide +kernel
theorem dX1_unlikeValues_1 : decode cX1_unlikeValues 1 = .ok (.istore_n 1, 1) := by decide +kernel
theorem dX1_unlikeValues_2 : decode cX1_unlikeValues 2 = .ok (.iconst 0, 1) := by decide +kernel
theorem dX1_unlikeValues_3 : decode cX1_unlikeValues 3 = .ok (.istore_n 2, 1) := by decide +kernel
theorem dX1_unlikeValues_4 : decode cX1_unlikeValues 4 = .ok (.iload_n 2, 1) := by decide +kernel
theorem dX1_unlikeValues_5 : decode cX1_unlikeValues 5 = .ok (.aload_n 0, 1) := by decide +kernel
theorem dX1_unlikeValues_6 : decode cX1_unlikeValues 6 = .ok (.getfield 19, 3) := by decide +kernel
theorem dX1_unlikeValues_9 : decode cX1_unlikeValues 9 = .ok (.if_icmp .ge 20, 3) := by decide +kernel
theorem dX1_unlikeValues_12 : decode cX1_unlikeValues 12 = .ok (.aload_n 0, 1) := by decide +kernel
theorem dX1_unlikeValues_13 : decode cX1_unlikeValues 13 = .ok (.iload_n 2, 1) := by decide +kernel
theorem dX1_unlikeValues_14 : decode cX1_unlikeValues 14 = .ok (.invokevirtual 61, 3) := by decide +kernel
theorem dX1_unlikeValues_17 : decode cX1_unlikeValues 17 = .ok (.ifCond .ne 6, 3) := by decide +kernel
theorem dX1_unlikeValues_20 : decode cX1_unlikeValues 20 = .ok (.iinc 1 1, 3) := by decide +kernel
theorem dX1_unlikeValues_23 : decode cX1_unlikeValues 23 = .ok (.iinc 2 1, 3) := by decide +kernel
theorem dX1_unlikeValues_26 : decode cX1_unlikeValues 26 = .ok (.goto (-22), 3) := by decide +kernel
theorem dX1_unlikeValues_29 : decode cX1_unlikeValues 29 = .ok (.iload_n 1, 1) := by decide +kernel
theorem dX1_unlikeValues_30 : decode cX1_unlikeValues 30 = .ok (.ireturn, 1) := by decide +kernel
set_option maxRecDepth 20000 in
theorem ggX1_isValueAheadOf_X3_valueOf : GoodIn wsX1_isValueAheadOf wsX3_valueOf := goodIn_r _ [7, 8, 9, 13, 14, 15, 16] rfl (by decide +kernel)
set_option maxRecDepth 20000 in
theorem gX1_isValueAheadOf_X3_valueOf : GoodIn wsX1_isValueAheadOf (wsV RX1 44 RX3 yX3_valueOf wsX3_valueOf) := goodIn_app (goodIn_r _ [3, 4, 5, 6] rfl (by decide +kernel)) ggX1_isValueAheadOf_X3_valueOf
theorem dX1_isValueAheadOf_0 : decode cX1_isValueAheadOf 0 = .ok (.aload_n 0, 1) := by decide +kernel
theorem dX1_isValueAheadOf_1 : decode cX1_isValueAheadOf 1 = .ok (.getfield 9, 3) := by decide +kernel
theorem dX1_isValueAheadOf_4 : decode cX1_isValueAheadOf 4 = .ok (.aload_n 0, 1) := by decide +kernel
theorem dX1_isValueAheadOf_5 : decode cX1_isValueAheadOf 5 = .ok (.getfield 15, 3) := by decide +kernel
theorem dX1_isValueAheadOf_8 : decode cX1_isValueAheadOf 8 = .ok (.iload_n 1, 1) := by decide +kernel
theorem dX1_isValueAheadOf_9 : decode cX1_isValueAheadOf 9 = .ok (.iaload, 1) := by decide +kernel
theorem dX1_isValueAheadOf_10 : decode cX1_isValueAheadOf 10 = .ok (.invokevirtual 44, 3) := by decide +kernel
theorem dX1_isValueAheadOf_13 : decode cX1_isValueAheadOf 13 = .ok (.istore_n 2, 1) := by decide +kernel
theorem dX1_isValueAheadOf_14 : decode cX1_isValueAheadOf 14 = .ok (.iconst 0, 1) := by decide +kernel
theorem dX1_isValueAheadOf_15 : decode cX1_isValueAheadOf 15 = .ok (.istore_n 3, 1) := by decide +kernel
theorem dX1_isValueAheadOf_16 : decode cX1_isValueAheadOf 16 = .ok (.iload_n 3, 1) := by decide +kernel
theorem dX1_isValueAheadOf_17 : decode cX1_isValueAheadOf 17 = .ok (.iload_n 1, 1) := by decide +kernel
theorem dX1_isValueAheadOf_18 : decode cX1_isValueAheadOf 18 = .ok (.if_icmp .ge 28, 3) := by decide +kernel
theorem dX1_isValueAheadOf_21 : decode cX1_isValueAheadOf 21 = .ok (.aload_n 0, 1) := by decide +kernel
theorem dX1_isValueAheadOf_22 : decode cX1_isValueAheadOf 22 = .ok (.getfield 9, 3) := by decide +kernel
theorem dX1_isValueAheadOf_25 : decode cX1_isValueAheadOf 25 = .ok (.aload_n 0, 1) := by decide +kernel
theorem dX1_isValueAheadOf_26 : decode cX1_isValueAheadOf 26 = .ok (.getfield 15, 3) := by decide +kernel
theorem dX1_isValueAheadOf_29 : decode cX1_isValueAheadOf 29 = .ok (.iload_n 3, 1) := by decide +kernel
theorem dX1_isValueAheadOf_30 : decode cX1_isValueAheadOf 30 = .ok (.iaload, 1) := by decide +kernel
theorem dX1_isValueAheadOf_31 : decode cX1_isValueAheadOf 31 = .ok (.invokevirtual 44, 3) := by decide +kernel
theorem dX1_isValueAheadOf_34 : decode cX1_isValueAheadOf 34 = .ok (.iload_n 2, 1) := by decide +kernel
theorem dX1_isValueAheadOf_35 : decode cX1_isValueAheadOf 35 = .ok (.if_icmp .ne 5, 3) := by decide +kernel
theorem dX1_isValueAheadOf_38 : decode cX1_isValueAheadOf 38 = .ok (.iconst 1, 1) := by decide +kernel
theorem dX1_isValueAheadOf_39 : decode cX1_isValueAheadOf 39 = .ok (.ireturn, 1) := by decide +kernel
theorem dX1_isValueAheadOf_40 : decode cX1_isValueAheadOf 40 = .ok (.iinc 3 1, 3) := by decide +kernel
theorem dX1_isValueAheadOf_43 : decode cX1_isValueAheadOf 43 = .ok (.goto (-27), 3) := by decide +kernel
theorem dX1_isValueAheadOf_46 : decode cX1_isValueAheadOf 46 = .ok (.iconst 0, 1) := by decide +kernel
theorem dX1_isValueAheadOf_47 : decode cX1_isValueAheadOf 47 = .ok (.ireturn, 1) := by decide +kernel
theorem dX2_init_0 : decode cX2_init 0 = .ok (.aload_n 0, 1) := by decide +kernel
theorem dX2_init_1 : decode cX2_init 1 = .ok (.invokespecial 3, 3) := by decide +kernel
theorem dX2_init_4 : decode cX2_init 4 = .ok (.aload_n 0, 1) := by decide +kernel
theorem dX2_init_5 : decode cX2_init 5 = .ok (.bipush 24, 2) := by decide +kernel
theorem dX2_init_7 : decode cX2_init 7 = .ok (.newarray .byte, 2) := by decide +kernel
theorem dX2_init_9 : decode cX2_init 9 = .ok (.putfield 9, 3) := by decide +kernel
theorem dX2_init_12 : decode cX2_init 12 = .ok (.aload_n 0, 1) := by decide +kernel
theorem dX2_init_13 : decode cX2_init 13 = .ok (.iconst 0, 1) := by decide +kernel
theorem dX2_init_14 : decode cX2_init 14 = .ok (.putfield 15, 3) := by decide +kernel
theorem dX2_init_17 : decode cX2_init 17 = .ok (.return_, 1) := by decide +kernel
theorem dX2_clear_0 : decode cX2_clear 0 = .ok (.aload_n 0, 1) := by decide +kernel
theorem dX2_clear_1 : decode cX2_clear 1 = .ok (.iconst 0, 1) := by decide +kernel
theorem dX2_clear_2 : decode cX2_clear 2 = .ok (.putfield 15, 3) := by decide +kernel
theorem dX2_clear_5 : decode cX2_clear 5 = .ok (.return_, 1) := by decide +kernel
theorem dX2_add_0 : decode cX2_add 0 = .ok (.aload_n 0, 1) := by decide +kernel
theorem dX2_add_1 : decode cX2_add 1 = .ok (.getfield 15, 3) := by decide +kernel
theorem dX2_add_4 : decode cX2_add 4 = .ok (.ifCond .lt 15, 3) := by decide +kernel
theorem dX2_add_7 : decode cX2_add 7 = .ok (.aload_n 0, 1) := by decide +kernel
theorem dX2_add_8 : decode cX2_add 8 = .ok (.getfield 15, 3) := by decide +kernel
theorem dX2_add_11 : decode cX2_add 11 = .ok (.aload_n 0, 1) := by decide +kernel
theorem dX2_add_12 : decode cX2_add 12 = .ok (.getfield 9, 3) := by decide +kernel
theorem dX2_add_15 : decode cX2_add 15 = .ok (.arraylength, 1) := by decide +kernel
theorem dX2_add_16 : decode cX2_add 16 = .ok (.if_icmp .lt 5, 3) := by decide +kernel
theorem dX2_add_19 : decode cX2_add 19 = .ok (.iconst 0, 1) := by decide +kernel
theorem dX2_add_20 : decode cX2_add 20 = .ok (.ireturn, 1) := by decide +kernel
theorem dX2_add_21 : decode cX2_add 21 = .ok (.aload_n 0, 1) := by decide +kernel
theorem dX2_add_22 : decode cX2_add 22 = .ok (.getfield 9, 3) := by decide +kernel
theorem dX2_add_25 : decode cX2_add 25 = .ok (.aload_n 0, 1) := by decide +kernel
theorem dX2_add_26 : decode cX2_add 26 = .ok (.getfield 15, 3) := by decide +kernel
theorem dX2_add_29 : decode cX2_add 29 = .ok (.iload_n 1, 1) := by decide +kernel
theorem dX2_add_30 : decode cX2_add 30 = .ok (.i2b, 1) := by decide +kernel
theorem dX2_add_31 : decode cX2_add 31 = .ok (.bastore, 1) := by decide +kernel
theorem dX2_add_32 : decode cX2_add 32 = .ok (.aload_n 0, 1) := by decide +kernel
theorem dX2_add_33 : decode cX2_add 33 = .ok (.dup, 1) := by decide +kernel
theorem dX2_add_34 : decode cX2_add 34 = .ok (.getfield 15, 3) := by decide +kernel
theorem dX2_add_37 : decode cX2_add 37 = .ok (.iconst 1, 1) := by decide +kernel
theorem dX2_add_38 : decode cX2_add 38 = .ok (.iadd, 1) := by decide +kernel
theorem dX2_add_39 : decode cX2_add 39 = .ok (.putfield 15, 3) := by decide +kernel
theorem dX2_add_42 : decode cX2_add 42 = .ok (.iconst 1, 1) := by decide +kernel
theorem dX2_add_43 : decode cX2_add 43 = .ok (.ireturn, 1) := by decide +kernel
theorem dX2_byteOf_0 : decode cX2_byteOf 0 = .ok (.iload_n 1, 1) := by decide +kernel
theorem dX2_byteOf_1 : decode cX2_byteOf 1 = .ok (.ifCond .lt 29, 3) := by decide +kernel
theorem dX2_byteOf_4 : decode cX2_byteOf 4 = .ok (.iload_n 1, 1) := by decide +kernel
theorem dX2_byteOf_5 : decode cX2_byteOf 5 = .ok (.aload_n 0, 1) := by decide +kernel
theorem dX2_byteOf_6 : decode cX2_byteOf 6 = .ok (.getfield 15, 3) := by decide +kernel
theorem dX2_byteOf_9 : decode cX2_byteOf 9 = .ok (.if_icmp .ge 21, 3) := by decide +kernel
theorem dX2_byteOf_12 : decode cX2_byteOf 12 = .ok (.iload_n 1, 1) := by decide +kernel
theorem dX2_byteOf_13 : decode cX2_byteOf 13 = .ok (.aload_n 0, 1) := by decide +kernel
theorem dX2_byteOf_14 : decode cX2_byteOf 14 = .ok (.getfield 9, 3) := by decide +kernel
theorem dX2_byteOf_17 : decode cX2_byteOf 17 = .ok (.arraylength, 1) := by decide +kernel
theorem dX2_byteOf_18 : decode cX2_byteOf 18 = .ok (.if_icmp .ge 12, 3) := by decide +kernel
theorem dX2_byteOf_21 : decode cX2_byteOf 21 = .ok (.aload_n 0, 1) := by decide +kernel
theorem dX2_byteOf_22 : decode cX2_byteOf 22 = .ok (.getfield 9, 3) := by decide +kernel
theorem dX2_byteOf_25 : decode cX2_byteOf 25 = .ok (.iload_n 1, 1) := by decide +kernel
theorem dX2_byteOf_26 : decode cX2_byteOf 26 = .ok (.baload, 1) := by decide +kernel
theorem dX2_byteOf_27 : decode cX2_byteOf 27 = .ok (.goto 4, 3) := by decide +kernel
theorem dX2_byteOf_30 : decode cX2_byteOf 30 = .ok (.iconst (-1), 1) := by decide +kernel
theorem dX2_byteOf_31 : decode cX2_byteOf 31 = .ok (.ireturn, 1) := by decide +kernel
theorem dX2_copyFrom_0 : decode cX2_copyFrom 0 = .ok (.aload_n 1, 1) := by decide +kernel
theorem dX2_copyFrom_1 : decode cX2_copyFrom 1 = .ok (.getfield 9, 3) := by decide +kernel
theorem dX2_copyFrom_4 : decode cX2_copyFrom 4 = .ok (.iconst 0, 1) := by decide +kernel
theorem dX2_copyFrom_5 : decode cX2_copyFrom 5 = .ok (.aload_n 0, 1) := by decide +kernel
theorem dX2_copyFrom_6 : decode cX2_copyFrom 6 = .ok (.getfield 9, 3) := by decide +kernel
theorem dX2_copyFrom_9 : decode cX2_copyFrom 9 = .ok (.iconst 0, 1) := by decide +kernel
theorem dX2_copyFrom_10 : decode cX2_copyFrom 10 = .ok (.bipush 24, 2) := by decide +kernel
theorem dX2_copyFrom_12 : decode cX2_copyFrom 12 = .ok (.invokestatic 19, 3) := by decide +kernel
theorem dX2_copyFrom_15 : decode cX2_copyFrom 15 = .ok (.aload_n 0, 1) := by decide +kernel
theorem dX2_copyFrom_16 : decode cX2_copyFrom 16 = .ok (.aload_n 1, 1) := by decide +kernel
theorem dX2_copyFrom_17 : decode cX2_copyFrom 17 = .ok (.getfield 15, 3) := by decide +kernel
theorem dX2_copyFrom_20 : decode cX2_copyFrom 20 = .ok (.putfield 15, 3) := by decide +kernel
theorem dX2_copyFrom_23 : decode cX2_copyFrom 23 = .ok (.return_, 1) := by decide +kernel
theorem dX3_init_0 : decode cX3_init 0 = .ok (.aload_n 0, 1) := by decide +kernel
theorem dX3_init_1 : decode cX3_init 1 = .ok (.invokespecial 3, 3) := by decide +kernel
theorem dX3_init_4 : decode cX3_init 4 = .ok (.aload_n 0, 1) := by decide +kernel
theorem dX3_init_5 : decode cX3_init 5 = .ok (.sipush 3600, 3) := by decide +kernel
theorem dX3_init_8 : decode cX3_init 8 = .ok (.newarray .byte, 2) := by decide +kernel
theorem dX3_init_10 : decode cX3_init 10 = .ok (.putfield 9, 3) := by decide +kernel
theorem dX3_init_13 : decode cX3_init 13 = .ok (.aload_n 0, 1) := by decide +kernel
theorem dX3_init_14 : decode cX3_init 14 = .ok (.sipush 150, 3) := by decide +kernel
theorem dX3_init_17 : decode cX3_init 17 = .ok (.newarray .int, 2) := by decide +kernel
theorem dX3_init_19 : decode cX3_init 19 = .ok (.putfield 15, 3) := by decide +kernel
theorem dX3_init_22 : decode cX3_init 22 = .ok (.aload_n 0, 1) := by decide +kernel
theorem dX3_init_23 : decode cX3_init 23 = .ok (.sipush 150, 3) := by decide +kernel
theorem dX3_init_26 : decode cX3_init 26 = .ok (.newarray .int, 2) := by decide +kernel
theorem dX3_init_28 : decode cX3_init 28 = .ok (.putfield 19, 3) := by decide +kernel
theorem dX3_init_31 : decode cX3_init 31 = .ok (.aload_n 0, 1) := by decide +kernel
theorem dX3_init_32 : decode cX3_init 32 = .ok (.iconst 0, 1) := by decide +kernel
theorem dX3_init_33 : decode cX3_init 33 = .ok (.putfield 22, 3) := by decide +kernel
theorem dX3_init_36 : decode cX3_init 36 = .ok (.return_, 1) := by decide +kernel
theorem dX3_copyFrom_0 : decode cX3_copyFrom 0 = .ok (.aload_n 1, 1) := by decide +kernel
theorem dX3_copyFrom_1 : decode cX3_copyFrom 1 = .ok (.getfield 9, 3) := by decide +kernel
theorem dX3_copyFrom_4 : decode cX3_copyFrom 4 = .ok (.iconst 0, 1) := by decide +kernel
theorem dX3_copyFrom_5 : decode cX3_copyFrom 5 = .ok (.aload_n 0, 1) := by decide +kernel
theorem dX3_copyFrom_6 : decode cX3_copyFrom 6 = .ok (.getfield 9, 3) := by decide +kernel
theorem dX3_copyFrom_9 : decode cX3_copyFrom 9 = .ok (.iconst 0, 1) := by decide +kernel
theorem dX3_copyFrom_10 : decode cX3_copyFrom 10 = .ok (.sipush 3600, 3) := by decide +kernel
theorem dX3_copyFrom_13 : decode cX3_copyFrom 13 = .ok (.invokestatic 26, 3) := by decide +kernel
theorem dX3_copyFrom_16 : decode cX3_copyFrom 16 = .ok (.aload_n 1, 1) := by decide +kernel
theorem dX3_copyFrom_17 : decode cX3_copyFrom 17 = .ok (.getfield 15, 3) := by decide +kernel
theorem dX3_copyFrom_20 : decode cX3_copyFrom 20 = .ok (.iconst 0, 1) := by decide +kernel
theorem dX3_copyFrom_21 : decode cX3_copyFrom 21 = .ok (.aload_n 0, 1) := by decide +kernel
theorem dX3_copyFrom_22 : decode cX3_copyFrom 22 = .ok (.getfield 15, 3) := by decide +kernel
theorem dX3_copyFrom_25 : decode cX3_copyFrom 25 = .ok (.iconst 0, 1) := by decide +kernel
theorem dX3_copyFrom_26 : decode cX3_copyFrom 26 = .ok (.sipush 150, 3) := by decide +kernel
theorem dX3_copyFrom_29 : decode cX3_copyFrom 29 = .ok (.invokestatic 26, 3) := by decide +kernel
theorem dX3_copyFrom_32 : decode cX3_copyFrom 32 = .ok (.aload_n 1, 1) := by decide +kernel
theorem dX3_copyFrom_33 : decode cX3_copyFrom 33 = .ok (.getfield 19, 3) := by decide +kernel
theorem dX3_copyFrom_36 : decode cX3_copyFrom 36 = .ok (.iconst 0, 1) := by decide +kernel
theorem dX3_copyFrom_37 : decode cX3_copyFrom 37 = .ok (.aload_n 0, 1) := by decide +kernel
theorem dX3_copyFrom_38 : decode cX3_copyFrom 38 = .ok (.getfield 19, 3) := by decide +kernel
theorem dX3_copyFrom_41 : decode cX3_copyFrom 41 = .ok (.iconst 0, 1) := by decide +kernel
theorem dX3_copyFrom_42 : decode cX3_copyFrom 42 = .ok (.sipush 150, 3) := by decide +kernel
theorem dX3_copyFrom_45 : decode cX3_copyFrom 45 = .ok (.invokestatic 26, 3) := by decide +kernel
theorem dX3_copyFrom_48 : decode cX3_copyFrom 48 = .ok (.aload_n 0, 1) := by decide +kernel
theorem dX3_copyFrom_49 : decode cX3_copyFrom 49 = .ok (.aload_n 1, 1) := by decide +kernel
theorem dX3_copyFrom_50 : decode cX3_copyFrom 50 = .ok (.getfield 22, 3) := by decide +kernel
theorem dX3_copyFrom_53 : decode cX3_copyFrom 53 = .ok (.putfield 22, 3) := by decide +kernel
theorem dX3_copyFrom_56 : decode cX3_copyFrom 56 = .ok (.return_, 1) := by decide +kernel
theorem dX3_has_0 : decode cX3_has 0 = .ok (.iload_n 1, 1) := by decide +kernel
theorem dX3_has_1 : decode cX3_has 1 = .ok (.ifCond .lt 22, 3) := by decide +kernel
theorem dX3_has_4 : decode cX3_has 4 = .ok (.iload_n 1, 1) := by decide +kernel
theorem dX3_has_5 : decode cX3_has 5 = .ok (.aload_n 0, 1) := by decide +kernel
theorem dX3_has_6 : decode cX3_has 6 = .ok (.getfield 22, 3) := by decide +kernel
theorem dX3_has_9 : decode cX3_has 9 = .ok (.if_icmp .ge 14, 3) := by decide +kernel
theorem dX3_has_12 : decode cX3_has 12 = .ok (.iload_n 1, 1) := by decide +kernel
theorem dX3_has_13 : decode cX3_has 13 = .ok (.sipush 150, 3) := by decide +kernel
theorem dX3_has_16 : decode cX3_has 16 = .ok (.if_icmp .ge 7, 3) := by decide +kernel
theorem dX3_has_19 : decode cX3_has 19 = .ok (.iconst 1, 1) := by decide +kernel
theorem dX3_has_20 : decode cX3_has 20 = .ok (.goto 4, 3) := by decide +kernel
theorem dX3_has_23 : decode cX3_has 23 = .ok (.iconst 0, 1) := by decide +kernel
theorem dX3_has_24 : decode cX3_has 24 = .ok (.ireturn, 1) := by decide +kernel
theorem dX3_lengthOf_0 : decode cX3_lengthOf 0 = .ok (.iload_n 1, 1) := by decide +kernel
theorem dX3_lengthOf_1 : decode cX3_lengthOf 1 = .ok (.ifCond .lt 27, 3) := by decide +kernel
theorem dX3_lengthOf_4 : decode cX3_lengthOf 4 = .ok (.iload_n 1, 1) := by decide +kernel
theorem dX3_lengthOf_5 : decode cX3_lengthOf 5 = .ok (.aload_n 0, 1) := by decide +kernel
theorem dX3_lengthOf_6 : decode cX3_lengthOf 6 = .ok (.getfield 22, 3) := by decide +kernel
theorem dX3_lengthOf_9 : decode cX3_lengthOf 9 = .ok (.if_icmp .ge 19, 3) := by decide +kernel
theorem dX3_lengthOf_12 : decode cX3_lengthOf 12 = .ok (.iload_n 1, 1) := by decide +kernel
theorem dX3_lengthOf_13 : decode cX3_lengthOf 13 = .ok (.sipush 150, 3) := by decide +kernel
theorem dX3_lengthOf_16 : decode cX3_lengthOf 16 = .ok (.if_icmp .ge 12, 3) := by decide +kernel
theorem dX3_lengthOf_19 : decode cX3_lengthOf 19 = .ok (.aload_n 0, 1) := by decide +kernel
theorem dX3_lengthOf_20 : decode cX3_lengthOf 20 = .ok (.getfield 15, 3) := by decide +kernel
theorem dX3_lengthOf_23 : decode cX3_lengthOf 23 = .ok (.iload_n 1, 1) := by decide +kernel
theorem dX3_lengthOf_24 : decode cX3_lengthOf 24 = .ok (.iaload, 1) := by decide +kernel
theorem dX3_lengthOf_25 : decode cX3_lengthOf 25 = .ok (.goto 4, 3) := by decide +kernel
theorem dX3_lengthOf_28 : decode cX3_lengthOf 28 = .ok (.iconst 0, 1) := by decide +kernel
theorem dX3_lengthOf_29 : decode cX3_lengthOf 29 = .ok (.ireturn, 1) := by decide +kernel
theorem dX3_valueOf_0 : decode cX3_valueOf 0 = .ok (.iload_n 1, 1) := by decide +kernel
theorem dX3_valueOf_1 : decode cX3_valueOf 1 = .ok (.ifCond .lt 27, 3) := by decide +kernel
theorem dX3_valueOf_4 : decode cX3_valueOf 4 = .ok (.iload_n 1, 1) := by decide +kernel
theorem dX3_valueOf_5 : decode cX3_valueOf 5 = .ok (.aload_n 0, 1) := by decide +kernel
theorem dX3_valueOf_6 : decode cX3_valueOf 6 = .ok (.getfield 22, 3) := by decide +kernel
theorem dX3_valueOf_9 : decode cX3_valueOf 9 = .ok (.if_icmp .ge 19, 3) := by decide +kernel
theorem dX3_valueOf_12 : decode cX3_valueOf 12 = .ok (.iload_n 1, 1) := by decide +kernel
theorem dX3_valueOf_13 : decode cX3_valueOf 13 = .ok (.sipush 150, 3) := by decide +kernel
theorem dX3_valueOf_16 : decode cX3_valueOf 16 = .ok (.if_icmp .ge 12, 3) := by decide +kernel
theorem dX3_valueOf_19 : decode cX3_valueOf 19 = .ok (.aload_n 0, 1) := by decide +kernel
theorem dX3_valueOf_20 : decode cX3_valueOf 20 = .ok (.getfield 19, 3) := by decide +kernel
theorem dX3_valueOf_23 : decode cX3_valueOf 23 = .ok (.iload_n 1, 1) := by decide +kernel
theorem dX3_valueOf_24 : decode cX3_valueOf 24 = .ok (.iaload, 1) := by decide +kernel
theorem dX3_valueOf_25 : decode cX3_valueOf 25 = .ok (.goto 4, 3) := by decide +kernel
theorem dX3_valueOf_28 : decode cX3_valueOf 28 = .ok (.iconst 0, 1) := by decide +kernel
theorem dX3_valueOf_29 : decode cX3_valueOf 29 = .ok (.ireturn, 1) := by decide +kernel
set_option maxRecDepth 20000 in
theorem ggX3_setValue_X3_has : GoodIn wsX3_setValue wsX3_has := goodIn_r _ [6, 7, 8, 9, 10, 11] rfl (by decide +kernel)
set_option maxRecDepth 20000 in
theorem gX3_setValue_X3_has : GoodIn wsX3_setValue (wsV RX3 32 RX3 yX3_has wsX3_has) := goodIn_app (goodIn_r _ [2, 3, 4, 5] rfl (by decide +kernel)) ggX3_setValue_X3_has
theorem dX3_setValue_0 : decode cX3_setValue 0 = .ok (.aload_n 0, 1) := by decide +kernel
theorem dX3_setValue_1 : decode cX3_setValue 1 = .ok (.iload_n 1, 1) := by decide +kernel
theorem dX3_setValue_2 : decode cX3_setValue 2 = .ok (.invokevirtual 32, 3) := by decide +kernel
theorem dX3_setValue_5 : decode cX3_setValue 5 = .ok (.ifCond .eq 10, 3) := by decide +kernel
theorem dX3_setValue_8 : decode cX3_setValue 8 = .ok (.aload_n 0, 1) := by decide +kernel
theorem dX3_setValue_9 : decode cX3_setValue 9 = .ok (.getfield 19, 3) := by decide +kernel
theorem dX3_setValue_12 : decode cX3_setValue 12 = .ok (.iload_n 1, 1) := by decide +kernel
theorem dX3_setValue_13 : decode cX3_setValue 13 = .ok (.iload_n 2, 1) := by decide +kernel
theorem dX3_setValue_14 : decode cX3_setValue 14 = .ok (.iastore, 1) := by decide +kernel
theorem dX3_setValue_15 : decode cX3_setValue 15 = .ok (.return_, 1) := by decide +kernel
theorem dX3_byteOf_0 : decode cX3_byteOf 0 = .ok (.iload_n 1, 1) := by decide +kernel
theorem dX3_byteOf_1 : decode cX3_byteOf 1 = .ok (.ifCond .lt 32, 3) := by decide +kernel
theorem dX3_byteOf_4 : decode cX3_byteOf 4 = .ok (.iload_n 1, 1) := by decide +kernel
theorem dX3_byteOf_5 : decode cX3_byteOf 5 = .ok (.aload_n 0, 1) := by decide +kernel
theorem dX3_byteOf_6 : decode cX3_byteOf 6 = .ok (.getfield 22, 3) := by decide +kernel
theorem dX3_byteOf_9 : decode cX3_byteOf 9 = .ok (.if_icmp .ge 24, 3) := by decide +kernel
theorem dX3_byteOf_12 : decode cX3_byteOf 12 = .ok (.iload_n 1, 1) := by decide +kernel
theorem dX3_byteOf_13 : decode cX3_byteOf 13 = .ok (.sipush 150, 3) := by decide +kernel
theorem dX3_byteOf_16 : decode cX3_byteOf 16 = .ok (.if_icmp .ge 17, 3) := by decide +kernel
theorem dX3_byteOf_19 : decode cX3_byteOf 19 = .ok (.iload_n 2, 1) := by decide +kernel
theorem dX3_byteOf_20 : decode cX3_byteOf 20 = .ok (.ifCond .lt 13, 3) := by decide +kernel
theorem dX3_byteOf_23 : decode cX3_byteOf 23 = .ok (.iload_n 2, 1) := by decide +kernel
theorem dX3_byteOf_24 : decode cX3_byteOf 24 = .ok (.bipush 24, 2) := by decide +kernel
theorem dX3_byteOf_26 : decode cX3_byteOf 26 = .ok (.if_icmp .ge 7, 3) := by decide +kernel
theorem dX3_byteOf_29 : decode cX3_byteOf 29 = .ok (.iconst 1, 1) := by decide +kernel
theorem dX3_byteOf_30 : decode cX3_byteOf 30 = .ok (.goto 4, 3) := by decide +kernel
theorem dX3_byteOf_33 : decode cX3_byteOf 33 = .ok (.iconst 0, 1) := by decide +kernel
theorem dX3_byteOf_34 : decode cX3_byteOf 34 = .ok (.istore_n 3, 1) := by decide +kernel
theorem dX3_byteOf_35 : decode cX3_byteOf 35 = .ok (.iload_n 3, 1) := by decide +kernel
theorem dX3_byteOf_36 : decode cX3_byteOf 36 = .ok (.ifCond .eq 17, 3) := by decide +kernel
theorem dX3_byteOf_39 : decode cX3_byteOf 39 = .ok (.aload_n 0, 1) := by decide +kernel
theorem dX3_byteOf_40 : decode cX3_byteOf 40 = .ok (.getfield 9, 3) := by decide +kernel
theorem dX3_byteOf_43 : decode cX3_byteOf 43 = .ok (.iload_n 1, 1) := by decide +kernel
theorem dX3_byteOf_44 : decode cX3_byteOf 44 = .ok (.bipush 24, 2) := by decide +kernel
theorem dX3_byteOf_46 : decode cX3_byteOf 46 = .ok (.imul, 1) := by decide +kernel
theorem dX3_byteOf_47 : decode cX3_byteOf 47 = .ok (.iload_n 2, 1) := by decide +kernel
theorem dX3_byteOf_48 : decode cX3_byteOf 48 = .ok (.iadd, 1) := by decide +kernel
theorem dX3_byteOf_49 : decode cX3_byteOf 49 = .ok (.baload, 1) := by decide +kernel
theorem dX3_byteOf_50 : decode cX3_byteOf 50 = .ok (.goto 4, 3) := by decide +kernel
theorem dX3_byteOf_53 : decode cX3_byteOf 53 = .ok (.iconst 0, 1) := by decide +kernel
theorem dX3_byteOf_54 : decode cX3_byteOf 54 = .ok (.ireturn, 1) := by decide +kernel
theorem dX3_insertAt_0 : decode cX3_insertAt 0 = .ok (.iload_n 1, 1) := by decide +kernel
theorem dX3_insertAt_1 : decode cX3_insertAt 1 = .ok (.ifCond .lt 21, 3) := by decide +kernel
theorem dX3_insertAt_4 : decode cX3_insertAt 4 = .ok (.iload_n 1, 1) := by decide +kernel
theorem dX3_insertAt_5 : decode cX3_insertAt 5 = .ok (.aload_n 0, 1) := by decide +kernel
theorem dX3_insertAt_6 : decode cX3_insertAt 6 = .ok (.getfield 22, 3) := by decide +kernel
theorem dX3_insertAt_9 : decode cX3_insertAt 9 = .ok (.if_icmp .gt 13, 3) := by decide +kernel
theorem dX3_insertAt_12 : decode cX3_insertAt 12 = .ok (.aload_n 0, 1) := by decide +kernel
theorem dX3_insertAt_13 : decode cX3_insertAt 13 = .ok (.getfield 22, 3) := by decide +kernel
theorem dX3_insertAt_16 : decode cX3_insertAt 16 = .ok (.sipush 150, 3) := by decide +kernel
theorem dX3_insertAt_19 : decode cX3_insertAt 19 = .ok (.if_icmp .lt 4, 3) := by decide +kernel
theorem dX3_insertAt_22 : decode cX3_insertAt 22 = .ok (.return_, 1) := by decide +kernel
theorem dX3_insertAt_23 : decode cX3_insertAt 23 = .ok (.aload_n 0, 1) := by decide +kernel
theorem dX3_insertAt_24 : decode cX3_insertAt 24 = .ok (.getfield 22, 3) := by decide +kernel
theorem dX3_insertAt_27 : decode cX3_insertAt 27 = .ok (.iload_n 1, 1) := by decide +kernel
theorem dX3_insertAt_28 : decode cX3_insertAt 28 = .ok (.isub, 1) := by decide +kernel
theorem dX3_insertAt_29 : decode cX3_insertAt 29 = .ok (.istore 4, 2) := by decide +kernel
theorem dX3_insertAt_31 : decode cX3_insertAt 31 = .ok (.aload_n 0, 1) := by decide +kernel
theorem dX3_insertAt_32 : decode cX3_insertAt 32 = .ok (.getfield 9, 3) := by decide +kernel
theorem dX3_insertAt_35 : decode cX3_insertAt 35 = .ok (.iload_n 1, 1) := by decide +kernel
theorem dX3_insertAt_36 : decode cX3_insertAt 36 = .ok (.bipush 24, 2) := by decide +kernel
theorem dX3_insertAt_38 : decode cX3_insertAt 38 = .ok (.imul, 1) := by decide +kernel
theorem dX3_insertAt_39 : decode cX3_insertAt 39 = .ok (.aload_n 0, 1) := by decide +kernel
theorem dX3_insertAt_40 : decode cX3_insertAt 40 = .ok (.getfield 9, 3) := by decide +kernel
theorem dX3_insertAt_43 : decode cX3_insertAt 43 = .ok (.iload_n 1, 1) := by decide +kernel
theorem dX3_insertAt_44 : decode cX3_insertAt 44 = .ok (.iconst 1, 1) := by decide +kernel
theorem dX3_insertAt_45 : decode cX3_insertAt 45 = .ok (.iadd, 1) := by decide +kernel
theorem dX3_insertAt_46 : decode cX3_insertAt 46 = .ok (.bipush 24, 2) := by decide +kernel
theorem dX3_insertAt_48 : decode cX3_insertAt 48 = .ok (.imul, 1) := by decide +kernel
theorem dX3_insertAt_49 : decode cX3_insertAt 49 = .ok (.iload 4, 2) := by decide +kernel
theorem dX3_insertAt_51 : decode cX3_insertAt 51 = .ok (.bipush 24, 2) := by decide +kernel
theorem dX3_insertAt_53 : decode cX3_insertAt 53 = .ok (.imul, 1) := by decide +kernel
theorem dX3_insertAt_54 : decode cX3_insertAt 54 = .ok (.invokestatic 26, 3) := by decide +kernel
theorem dX3_insertAt_57 : decode cX3_insertAt 57 = .ok (.aload_n 0, 1) := by decide +kernel
theorem dX3_insertAt_58 : decode cX3_insertAt 58 = .ok (.getfield 15, 3) := by decide +kernel
theorem dX3_insertAt_61 : decode cX3_insertAt 61 = .ok (.iload_n 1, 1) := by decide +kernel
theorem dX3_insertAt_62 : decode cX3_insertAt 62 = .ok (.aload_n 0, 1) := by decide +kernel
theorem dX3_insertAt_63 : decode cX3_insertAt 63 = .ok (.getfield 15, 3) := by decide +kernel
theorem dX3_insertAt_66 : decode cX3_insertAt 66 = .ok (.iload_n 1, 1) := by decide +kernel
theorem dX3_insertAt_67 : decode cX3_insertAt 67 = .ok (.iconst 1, 1) := by decide +kernel
theorem dX3_insertAt_68 : decode cX3_insertAt 68 = .ok (.iadd, 1) := by decide +kernel
theorem dX3_insertAt_69 : decode cX3_insertAt 69 = .ok (.iload 4, 2) := by decide +kernel
theorem dX3_insertAt_71 : decode cX3_insertAt 71 = .ok (.invokestatic 26, 3) := by decide +kernel
theorem dX3_insertAt_74 : decode cX3_insertAt 74 = .ok (.aload_n 0, 1) := by decide +kernel
theorem dX3_insertAt_75 : decode cX3_insertAt 75 = .ok (.getfield 19, 3) := by decide +kernel
theorem dX3_insertAt_78 : decode cX3_insertAt 78 = .ok (.iload_n 1, 1) := by decide +kernel
theorem dX3_insertAt_79 : decode cX3_insertAt 79 = .ok (.aload_n 0, 1) := by decide +kernel
theorem dX3_insertAt_80 : decode cX3_insertAt 80 = .ok (.getfield 19, 3) := by decide +kernel
theorem dX3_insertAt_83 : decode cX3_insertAt 83 = .ok (.iload_n 1, 1) := by decide +kernel
theorem dX3_insertAt_84 : decode cX3_insertAt 84 = .ok (.iconst 1, 1) := by decide +kernel
theorem dX3_insertAt_85 : decode cX3_insertAt 85 = .ok (.iadd, 1) := by decide +kernel
theorem dX3_insertAt_86 : decode cX3_insertAt 86 = .ok (.iload 4, 2) := by decide +kernel
theorem dX3_insertAt_88 : decode cX3_insertAt 88 = .ok (.invokestatic 26, 3) := by decide +kernel
theorem dX3_insertAt_91 : decode cX3_insertAt 91 = .ok (.aload_n 2, 1) := by decide +kernel
theorem dX3_insertAt_92 : decode cX3_insertAt 92 = .ok (.getfield 36, 3) := by decide +kernel
theorem dX3_insertAt_95 : decode cX3_insertAt 95 = .ok (.iconst 0, 1) := by decide +kernel
theorem dX3_insertAt_96 : decode cX3_insertAt 96 = .ok (.aload_n 0, 1) := by decide +kernel
theorem dX3_insertAt_97 : decode cX3_insertAt 97 = .ok (.getfield 9, 3) := by decide +kernel
theorem dX3_insertAt_100 : decode cX3_insertAt 100 = .ok (.iload_n 1, 1) := by decide +kernel
theorem dX3_insertAt_101 : decode cX3_insertAt 101 = .ok (.bipush 24, 2) := by decide +kernel
theorem dX3_insertAt_103 : decode cX3_insertAt 103 = .ok (.imul, 1) := by decide +kernel
theorem dX3_insertAt_104 : decode cX3_insertAt 104 = .ok (.bipush 24, 2) := by decide +kernel
theorem dX3_insertAt_106 : decode cX3_insertAt 106 = .ok (.invokestatic 26, 3) := by decide +kernel
theorem dX3_insertAt_109 : decode cX3_insertAt 109 = .ok (.aload_n 0, 1) := by decide +kernel
theorem dX3_insertAt_110 : decode cX3_insertAt 110 = .ok (.getfield 15, 3) := by decide +kernel
theorem dX3_insertAt_113 : decode cX3_insertAt 113 = .ok (.iload_n 1, 1) := by decide +kernel
theorem dX3_insertAt_114 : decode cX3_insertAt 114 = .ok (.aload_n 2, 1) := by decide +kernel
theorem dX3_insertAt_115 : decode cX3_insertAt 115 = .ok (.getfield 39, 3) := by decide +kernel
theorem dX3_insertAt_118 : decode cX3_insertAt 118 = .ok (.iastore, 1) := by decide +kernel
theorem dX3_insertAt_119 : decode cX3_insertAt 119 = .ok (.aload_n 0, 1) := by decide +kernel
theorem dX3_insertAt_120 : decode cX3_insertAt 120 = .ok (.getfield 19, 3) := by decide +kernel
theorem dX3_insertAt_123 : decode cX3_insertAt 123 = .ok (.iload_n 1, 1) := by decide +kernel
theorem dX3_insertAt_124 : decode cX3_insertAt 124 = .ok (.iload_n 3, 1) := by decide +kernel
theorem dX3_insertAt_125 : decode cX3_insertAt 125 = .ok (.iastore, 1) := by decide +kernel
theorem dX3_insertAt_126 : decode cX3_insertAt 126 = .ok (.aload_n 0, 1) := by decide +kernel
theorem dX3_insertAt_127 : decode cX3_insertAt 127 = .ok (.dup, 1) := by decide +kernel
theorem dX3_insertAt_128 : decode cX3_insertAt 128 = .ok (.getfield 22, 3) := by decide +kernel
theorem dX3_insertAt_131 : decode cX3_insertAt 131 = .ok (.iconst 1, 1) := by decide +kernel
theorem dX3_insertAt_132 : decode cX3_insertAt 132 = .ok (.iadd, 1) := by decide +kernel
theorem dX3_insertAt_133 : decode cX3_insertAt 133 = .ok (.putfield 22, 3) := by decide +kernel
theorem dX3_insertAt_136 : decode cX3_insertAt 136 = .ok (.return_, 1) := by decide +kernel
set_option maxRecDepth 20000 in
theorem ggX3_append_X3_has : GoodIn wsX3_append wsX3_has := goodIn_r _ [13, 1, 14, 15, 16, 17] rfl (by decide +kernel)
set_option maxRecDepth 20000 in
theorem gX3_append_X3_has : GoodIn wsX3_append (wsV RX3 32 RX3 yX3_has wsX3_has) := goodIn_app (goodIn_r _ [9, 10, 11, 12] rfl (by decide +kernel)) ggX3_append_X3_has
theorem dX3_append_0 : decode cX3_append 0 = .ok (.aload_n 1, 1) := by decide +kernel
theorem dX3_append_1 : decode cX3_append 1 = .ok (.iload_n 2, 1) := by decide +kernel
theorem dX3_append_2 : decode cX3_append 2 = .ok (.invokevirtual 32, 3) := by decide +kernel
theorem dX3_append_5 : decode cX3_append 5 = .ok (.ifCond .eq 20, 3) := by decide +kernel
theorem dX3_append_8 : decode cX3_append 8 = .ok (.aload_n 0, 1) := by decide +kernel
theorem dX3_append_9 : decode cX3_append 9 = .ok (.getfield 22, 3) := by decide +kernel
theorem dX3_append_12 : decode cX3_append 12 = .ok (.ifCond .lt 13, 3) := by decide +kernel
theorem dX3_append_15 : decode cX3_append 15 = .ok (.aload_n 0, 1) := by decide +kernel
theorem dX3_append_16 : decode cX3_append 16 = .ok (.getfield 22, 3) := by decide +kernel
theorem dX3_append_19 : decode cX3_append 19 = .ok (.sipush 150, 3) := by decide +kernel
theorem dX3_append_22 : decode cX3_append 22 = .ok (.if_icmp .lt 4, 3) := by decide +kernel
theorem dX3_append_25 : decode cX3_append 25 = .ok (.return_, 1) := by decide +kernel
theorem dX3_append_26 : decode cX3_append 26 = .ok (.aload_n 1, 1) := by decide +kernel
theorem dX3_append_27 : decode cX3_append 27 = .ok (.getfield 9, 3) := by decide +kernel
theorem dX3_append_30 : decode cX3_append 30 = .ok (.iload_n 2, 1) := by decide +kernel
theorem dX3_append_31 : decode cX3_append 31 = .ok (.bipush 24, 2) := by decide +kernel
theorem dX3_append_33 : decode cX3_append 33 = .ok (.imul, 1) := by decide +kernel
theorem dX3_append_34 : decode cX3_append 34 = .ok (.aload_n 0, 1) := by decide +kernel
theorem dX3_append_35 : decode cX3_append 35 = .ok (.getfield 9, 3) := by decide +kernel
theorem dX3_append_38 : decode cX3_append 38 = .ok (.aload_n 0, 1) := by decide +kernel
theorem dX3_append_39 : decode cX3_append 39 = .ok (.getfield 22, 3) := by decide +kernel
theorem dX3_append_42 : decode cX3_append 42 = .ok (.bipush 24, 2) := by decide +kernel
theorem dX3_append_44 : decode cX3_append 44 = .ok (.imul, 1) := by decide +kernel
theorem dX3_append_45 : decode cX3_append 45 = .ok (.bipush 24, 2) := by decide +kernel
theorem dX3_append_47 : decode cX3_append 47 = .ok (.invokestatic 26, 3) := by decide +kernel
theorem dX3_append_50 : decode cX3_append 50 = .ok (.aload_n 0, 1) := by decide +kernel
theorem dX3_append_51 : decode cX3_append 51 = .ok (.getfield 15, 3) := by decide +kernel
theorem dX3_append_54 : decode cX3_append 54 = .ok (.aload_n 0, 1) := by decide +kernel
theorem dX3_append_55 : decode cX3_append 55 = .ok (.getfield 22, 3) := by decide +kernel
theorem dX3_append_58 : decode cX3_append 58 = .ok (.aload_n 1, 1) := by decide +kernel
theorem dX3_append_59 : decode cX3_append 59 = .ok (.getfield 15, 3) := by decide +kernel
theorem dX3_append_62 : decode cX3_append 62 = .ok (.iload_n 2, 1) := by decide +kernel
theorem dX3_append_63 : decode cX3_append 63 = .ok (.iaload, 1) := by decide +kernel
theorem dX3_append_64 : decode cX3_append 64 = .ok (.iastore, 1) := by decide +kernel
theorem dX3_append_65 : decode cX3_append 65 = .ok (.aload_n 0, 1) := by decide +kernel
theorem dX3_append_66 : decode cX3_append 66 = .ok (.getfield 19, 3) := by decide +kernel
theorem dX3_append_69 : decode cX3_append 69 = .ok (.aload_n 0, 1) := by decide +kernel
theorem dX3_append_70 : decode cX3_append 70 = .ok (.getfield 22, 3) := by decide +kernel
theorem dX3_append_73 : decode cX3_append 73 = .ok (.aload_n 1, 1) := by decide +kernel
theorem dX3_append_74 : decode cX3_append 74 = .ok (.getfield 19, 3) := by decide +kernel
theorem dX3_append_77 : decode cX3_append 77 = .ok (.iload_n 2, 1) := by decide +kernel
theorem dX3_append_78 : decode cX3_append 78 = .ok (.iaload, 1) := by decide +kernel
theorem dX3_append_79 : decode cX3_append 79 = .ok (.iastore, 1) := by decide +kernel
theorem dX3_append_80 : decode cX3_append 80 = .ok (.aload_n 0, 1) := by decide +kernel
theorem dX3_append_81 : decode cX3_append 81 = .ok (.dup, 1) := by decide +kernel
theorem dX3_append_82 : decode cX3_append 82 = .ok (.getfield 22, 3) := by decide +kernel
theorem dX3_append_85 : decode cX3_append 85 = .ok (.iconst 1, 1) := by decide +kernel
theorem dX3_append_86 : decode cX3_append 86 = .ok (.iadd, 1) := by decide +kernel
theorem dX3_append_87 : decode cX3_append 87 = .ok (.putfield 22, 3) := by decide +kernel
theorem dX3_append_90 : decode cX3_append 90 = .ok (.return_, 1) := by decide +kernel
set_option maxRecDepth 20000 in
theorem ggX3_removeAt_X3_has : GoodIn wsX3_removeAt wsX3_has := goodIn_r _ [13, 1, 14, 15, 16, 17] rfl (by decide +kernel)
set_option maxRecDepth 20000 in
theorem gX3_removeAt_X3_has : GoodIn wsX3_removeAt (wsV RX3 32 RX3 yX3_has wsX3_has) := goodIn_app (goodIn_r _ [9, 10, 11, 12] rfl (by decide +kernel)) ggX3_removeAt_X3_has
theorem dX3_removeAt_0 : decode cX3_removeAt 0 = .ok (.aload_n 0, 1) := by decide +kernel
theorem dX3_removeAt_1 : decode cX3_removeAt 1 = .ok (.iload_n 1, 1) := by decide +kernel
theorem dX3_removeAt_2 : decode cX3_removeAt 2 = .ok (.invokevirtual 32, 3) := by decide +kernel
theorem dX3_removeAt_5 : decode cX3_removeAt 5 = .ok (.ifCond .ne 4, 3) := by decide +kernel
theorem dX3_removeAt_8 : decode cX3_removeAt 8 = .ok (.return_, 1) := by decide +kernel
theorem dX3_removeAt_9 : decode cX3_removeAt 9 = .ok (.aload_n 0, 1) := by decide +kernel
theorem dX3_removeAt_10 : decode cX3_removeAt 10 = .ok (.getfield 22, 3) := by decide +kernel
theorem dX3_removeAt_13 : decode cX3_removeAt 13 = .ok (.iload_n 1, 1) := by decide +kernel
theorem dX3_removeAt_14 : decode cX3_removeAt 14 = .ok (.isub, 1) := by decide +kernel
theorem dX3_removeAt_15 : decode cX3_removeAt 15 = .ok (.iconst 1, 1) := by decide +kernel
theorem dX3_removeAt_16 : decode cX3_removeAt 16 = .ok (.isub, 1) := by decide +kernel
theorem dX3_removeAt_17 : decode cX3_removeAt 17 = .ok (.istore_n 2, 1) := by decide +kernel
theorem dX3_removeAt_18 : decode cX3_removeAt 18 = .ok (.aload_n 0, 1) := by decide +kernel
theorem dX3_removeAt_19 : decode cX3_removeAt 19 = .ok (.getfield 9, 3) := by decide +kernel
theorem dX3_removeAt_22 : decode cX3_removeAt 22 = .ok (.iload_n 1, 1) := by decide +kernel
theorem dX3_removeAt_23 : decode cX3_removeAt 23 = .ok (.iconst 1, 1) := by decide +kernel
theorem dX3_removeAt_24 : decode cX3_removeAt 24 = .ok (.iadd, 1) := by decide +kernel
theorem dX3_removeAt_25 : decode cX3_removeAt 25 = .ok (.bipush 24, 2) := by decide +kernel
theorem dX3_removeAt_27 : decode cX3_removeAt 27 = .ok (.imul, 1) := by decide +kernel
theorem dX3_removeAt_28 : decode cX3_removeAt 28 = .ok (.aload_n 0, 1) := by decide +kernel
theorem dX3_removeAt_29 : decode cX3_removeAt 29 = .ok (.getfield 9, 3) := by decide +kernel
theorem dX3_removeAt_32 : decode cX3_removeAt 32 = .ok (.iload_n 1, 1) := by decide +kernel
theorem dX3_removeAt_33 : decode cX3_removeAt 33 = .ok (.bipush 24, 2) := by decide +kernel
theorem dX3_removeAt_35 : decode cX3_removeAt 35 = .ok (.imul, 1) := by decide +kernel
theorem dX3_removeAt_36 : decode cX3_removeAt 36 = .ok (.iload_n 2, 1) := by decide +kernel
theorem dX3_removeAt_37 : decode cX3_removeAt 37 = .ok (.bipush 24, 2) := by decide +kernel
theorem dX3_removeAt_39 : decode cX3_removeAt 39 = .ok (.imul, 1) := by decide +kernel
theorem dX3_removeAt_40 : decode cX3_removeAt 40 = .ok (.invokestatic 26, 3) := by decide +kernel
theorem dX3_removeAt_43 : decode cX3_removeAt 43 = .ok (.aload_n 0, 1) := by decide +kernel
theorem dX3_removeAt_44 : decode cX3_removeAt 44 = .ok (.getfield 15, 3) := by decide +kernel
theorem dX3_removeAt_47 : decode cX3_removeAt 47 = .ok (.iload_n 1, 1) := by decide +kernel
theorem dX3_removeAt_48 : decode cX3_removeAt 48 = .ok (.iconst 1, 1) := by decide +kernel
theorem dX3_removeAt_49 : decode cX3_removeAt 49 = .ok (.iadd, 1) := by decide +kernel
theorem dX3_removeAt_50 : decode cX3_removeAt 50 = .ok (.aload_n 0, 1) := by decide +kernel
theorem dX3_removeAt_51 : decode cX3_removeAt 51 = .ok (.getfield 15, 3) := by decide +kernel
theorem dX3_removeAt_54 : decode cX3_removeAt 54 = .ok (.iload_n 1, 1) := by decide +kernel
theorem dX3_removeAt_55 : decode cX3_removeAt 55 = .ok (.iload_n 2, 1) := by decide +kernel
theorem dX3_removeAt_56 : decode cX3_removeAt 56 = .ok (.invokestatic 26, 3) := by decide +kernel
theorem dX3_removeAt_59 : decode cX3_removeAt 59 = .ok (.aload_n 0, 1) := by decide +kernel
theorem dX3_removeAt_60 : decode cX3_removeAt 60 = .ok (.getfield 19, 3) := by decide +kernel
theorem dX3_removeAt_63 : decode cX3_removeAt 63 = .ok (.iload_n 1, 1) := by decide +kernel
theorem dX3_removeAt_64 : decode cX3_removeAt 64 = .ok (.iconst 1, 1) := by decide +kernel
theorem dX3_removeAt_65 : decode cX3_removeAt 65 = .ok (.iadd, 1) := by decide +kernel
theorem dX3_removeAt_66 : decode cX3_removeAt 66 = .ok (.aload_n 0, 1) := by decide +kernel
theorem dX3_removeAt_67 : decode cX3_removeAt 67 = .ok (.getfield 19, 3) := by decide +kernel
theorem dX3_removeAt_70 : decode cX3_removeAt 70 = .ok (.iload_n 1, 1) := by decide +kernel
theorem dX3_removeAt_71 : decode cX3_removeAt 71 = .ok (.iload_n 2, 1) := by decide +kernel
theorem dX3_removeAt_72 : decode cX3_removeAt 72 = .ok (.invokestatic 26, 3) := by decide +kernel
theorem dX3_removeAt_75 : decode cX3_removeAt 75 = .ok (.aload_n 0, 1) := by decide +kernel
theorem dX3_removeAt_76 : decode cX3_removeAt 76 = .ok (.dup, 1) := by decide +kernel
theorem dX3_removeAt_77 : decode cX3_removeAt 77 = .ok (.getfield 22, 3) := by decide +kernel
theorem dX3_removeAt_80 : decode cX3_removeAt 80 = .ok (.iconst 1, 1) := by decide +kernel
theorem dX3_removeAt_81 : decode cX3_removeAt 81 = .ok (.isub, 1) := by decide +kernel
theorem dX3_removeAt_82 : decode cX3_removeAt 82 = .ok (.putfield 22, 3) := by decide +kernel
theorem dX3_removeAt_85 : decode cX3_removeAt 85 = .ok (.return_, 1) := by decide +kernel
set_option maxRecDepth 20000 in
theorem ggX3_copyTo_X3_has : GoodIn wsX3_copyTo wsX3_has := goodIn_r _ [13, 14, 15, 16, 17, 18] rfl (by decide +kernel)
set_option maxRecDepth 20000 in
theorem gX3_copyTo_X3_has : GoodIn wsX3_copyTo (wsV RX3 32 RX3 yX3_has wsX3_has) := goodIn_app (goodIn_r _ [9, 10, 11, 12] rfl (by decide +kernel)) ggX3_copyTo_X3_has
theorem dX3_copyTo_0 : decode cX3_copyTo 0 = .ok (.aload_n 0, 1) := by decide +kernel
theorem dX3_copyTo_1 : decode cX3_copyTo 1 = .ok (.iload_n 1, 1) := by decide +kernel
theorem dX3_copyTo_2 : decode cX3_copyTo 2 = .ok (.invokevirtual 32, 3) := by decide +kernel
theorem dX3_copyTo_5 : decode cX3_copyTo 5 = .ok (.ifCond .eq 31, 3) := by decide +kernel
theorem dX3_copyTo_8 : decode cX3_copyTo 8 = .ok (.aload_n 0, 1) := by decide +kernel
theorem dX3_copyTo_9 : decode cX3_copyTo 9 = .ok (.getfield 9, 3) := by decide +kernel
theorem dX3_copyTo_12 : decode cX3_copyTo 12 = .ok (.iload_n 1, 1) := by decide +kernel
theorem dX3_copyTo_13 : decode cX3_copyTo 13 = .ok (.bipush 24, 2) := by decide +kernel
theorem dX3_copyTo_15 : decode cX3_copyTo 15 = .ok (.imul, 1) := by decide +kernel
theorem dX3_copyTo_16 : decode cX3_copyTo 16 = .ok (.aload_n 2, 1) := by decide +kernel
theorem dX3_copyTo_17 : decode cX3_copyTo 17 = .ok (.getfield 36, 3) := by decide +kernel
theorem dX3_copyTo_20 : decode cX3_copyTo 20 = .ok (.iconst 0, 1) := by decide +kernel
theorem dX3_copyTo_21 : decode cX3_copyTo 21 = .ok (.bipush 24, 2) := by decide +kernel
theorem dX3_copyTo_23 : decode cX3_copyTo 23 = .ok (.invokestatic 26, 3) := by decide +kernel
theorem dX3_copyTo_26 : decode cX3_copyTo 26 = .ok (.aload_n 2, 1) := by decide +kernel
theorem dX3_copyTo_27 : decode cX3_copyTo 27 = .ok (.aload_n 0, 1) := by decide +kernel
theorem dX3_copyTo_28 : decode cX3_copyTo 28 = .ok (.getfield 15, 3) := by decide +kernel
theorem dX3_copyTo_31 : decode cX3_copyTo 31 = .ok (.iload_n 1, 1) := by decide +kernel
theorem dX3_copyTo_32 : decode cX3_copyTo 32 = .ok (.iaload, 1) := by decide +kernel
theorem dX3_copyTo_33 : decode cX3_copyTo 33 = .ok (.putfield 39, 3) := by decide +kernel
theorem dX3_copyTo_36 : decode cX3_copyTo 36 = .ok (.return_, 1) := by decide +kernel
set_option maxRecDepth 20000 in
theorem ggX3_compare_X3_lengthOf : GoodIn wsX3_compare wsX3_lengthOf := goodIn_r _ [10, 11, 12, 27, 28, 29, 30] rfl (by decide +kernel)
set_option maxRecDepth 20000 in
theorem gX3_compare_X3_lengthOf : GoodIn wsX3_compare (wsV RX3 42 RX3 yX3_lengthOf wsX3_lengthOf) := goodIn_app (goodIn_r _ [6, 7, 8, 9] rfl (by decide +kernel)) ggX3_compare_X3_lengthOf
set_option maxRecDepth 20000 in
theorem ggX3_compare_X3_byteOf : GoodIn wsX3_compare wsX3_byteOf := goodIn_r _ [16, 11, 17, 27, 28, 29, 30] rfl (by decide +kernel)
set_option maxRecDepth 20000 in
theorem gX3_compare_X3_byteOf : GoodIn wsX3_compare (wsV RX3 52 RX3 yX3_byteOf wsX3_byteOf) := goodIn_app (goodIn_r _ [13, 14, 15, 9] rfl (by decide +kernel)) ggX3_compare_X3_byteOf
set_option maxRecDepth 20000 in
theorem ggX3_compare_X2_byteOf : GoodIn wsX3_compare wsX2_byteOf := goodIn_r _ [22, 23, 24, 25, 26] rfl (by decide +kernel)
set_option maxRecDepth 20000 in
theorem gX3_compare_X2_byteOf : GoodIn wsX3_compare (wsV RX3 55 RX2 yX2_byteOf wsX2_byteOf) := goodIn_app (goodIn_r _ [18, 19, 20, 21] rfl (by decide +kernel)) ggX3_compare_X2_byteOf
theorem dX3_compare_0 : decode cX3_compare 0 = .ok (.aload_n 0, 1) := by decide +kernel
theorem dX3_compare_1 : decode cX3_compare 1 = .ok (.iload_n 1, 1) := by decide +kernel
theorem dX3_compare_2 : decode cX3_compare 2 = .ok (.invokevirtual 42, 3) := by decide +kernel
theorem dX3_compare_5 : decode cX3_compare 5 = .ok (.aload_n 2, 1) := by decide +kernel
theorem dX3_compare_6 : decode cX3_compare 6 = .ok (.getfield 39, 3) := by decide +kernel
theorem dX3_compare_9 : decode cX3_compare 9 = .ok (.invokestatic 46, 3) := by decide +kernel
theorem dX3_compare_12 : decode cX3_compare 12 = .ok (.istore_n 3, 1) := by decide +kernel
theorem dX3_compare_13 : decode cX3_compare 13 = .ok (.iconst 0, 1) := by decide +kernel
theorem dX3_compare_14 : decode cX3_compare 14 = .ok (.istore 4, 2) := by decide +kernel
theorem dX3_compare_16 : decode cX3_compare 16 = .ok (.iload 4, 2) := by decide +kernel
theorem dX3_compare_18 : decode cX3_compare 18 = .ok (.iload_n 3, 1) := by decide +kernel
theorem dX3_compare_19 : decode cX3_compare 19 = .ok (.if_icmp .ge 33, 3) := by decide +kernel
theorem dX3_compare_22 : decode cX3_compare 22 = .ok (.aload_n 0, 1) := by decide +kernel
theorem dX3_compare_23 : decode cX3_compare 23 = .ok (.iload_n 1, 1) := by decide +kernel
theorem dX3_compare_24 : decode cX3_compare 24 = .ok (.iload 4, 2) := by decide +kernel
theorem dX3_compare_26 : decode cX3_compare 26 = .ok (.invokevirtual 52, 3) := by decide +kernel
theorem dX3_compare_29 : decode cX3_compare 29 = .ok (.aload_n 2, 1) := by decide +kernel
theorem dX3_compare_30 : decode cX3_compare 30 = .ok (.iload 4, 2) := by decide +kernel
theorem dX3_compare_32 : decode cX3_compare 32 = .ok (.invokevirtual 55, 3) := by decide +kernel
theorem dX3_compare_35 : decode cX3_compare 35 = .ok (.isub, 1) := by decide +kernel
theorem dX3_compare_36 : decode cX3_compare 36 = .ok (.istore 5, 2) := by decide +kernel
theorem dX3_compare_38 : decode cX3_compare 38 = .ok (.iload 5, 2) := by decide +kernel
theorem dX3_compare_40 : decode cX3_compare 40 = .ok (.ifCond .eq 6, 3) := by decide +kernel
theorem dX3_compare_43 : decode cX3_compare 43 = .ok (.iload 5, 2) := by decide +kernel
theorem dX3_compare_45 : decode cX3_compare 45 = .ok (.ireturn, 1) := by decide +kernel
theorem dX3_compare_46 : decode cX3_compare 46 = .ok (.iinc 4 1, 3) := by decide +kernel
theorem dX3_compare_49 : decode cX3_compare 49 = .ok (.goto (-33), 3) := by decide +kernel
theorem dX3_compare_52 : decode cX3_compare 52 = .ok (.aload_n 0, 1) := by decide +kernel
theorem dX3_compare_53 : decode cX3_compare 53 = .ok (.iload_n 1, 1) := by decide +kernel
theorem dX3_compare_54 : decode cX3_compare 54 = .ok (.invokevirtual 42, 3) := by decide +kernel
theorem dX3_compare_57 : decode cX3_compare 57 = .ok (.aload_n 2, 1) := by decide +kernel
theorem dX3_compare_58 : decode cX3_compare 58 = .ok (.getfield 39, 3) := by decide +kernel
theorem dX3_compare_61 : decode cX3_compare 61 = .ok (.isub, 1) := by decide +kernel
theorem dX3_compare_62 : decode cX3_compare 62 = .ok (.ireturn, 1) := by decide +kernel
set_option maxRecDepth 20000 in
theorem ggX3_compareTo_X3_lengthOf : GoodIn wsX3_compareTo wsX3_lengthOf := goodIn_r _ [9, 10, 11, 17, 18, 19, 20] rfl (by decide +kernel)
set_option maxRecDepth 20000 in
theorem gX3_compareTo_X3_lengthOf : GoodIn wsX3_compareTo (wsV RX3 42 RX3 yX3_lengthOf wsX3_lengthOf) := goodIn_app (goodIn_r _ [5, 6, 7, 8] rfl (by decide +kernel)) ggX3_compareTo_X3_lengthOf
set_option maxRecDepth 20000 in
theorem ggX3_compareTo_X3_byteOf : GoodIn wsX3_compareTo wsX3_byteOf := goodIn_r _ [15, 10, 16, 17, 18, 19, 20] rfl (by decide +kernel)
set_option maxRecDepth 20000 in
theorem gX3_compareTo_X3_byteOf : GoodIn wsX3_compareTo (wsV RX3 52 RX3 yX3_byteOf wsX3_byteOf) := goodIn_app (goodIn_r _ [12, 13, 14, 8] rfl (by decide +kernel)) ggX3_compareTo_X3_byteOf
theorem dX3_compareTo_0 : decode cX3_compareTo 0 = .ok (.aload_n 0, 1) := by decide +kernel
theorem dX3_compareTo_1 : decode cX3_compareTo 1 = .ok (.iload_n 1, 1) := by decide +kernel
theorem dX3_compareTo_2 : decode cX3_compareTo 2 = .ok (.invokevirtual 42, 3) := by decide +kernel
theorem dX3_compareTo_5 : decode cX3_compareTo 5 = .ok (.aload_n 2, 1) := by decide +kernel
theorem dX3_compareTo_6 : decode cX3_compareTo 6 = .ok (.iload_n 3, 1) := by decide +kernel
theorem dX3_compareTo_7 : decode cX3_compareTo 7 = .ok (.invokevirtual 42, 3) := by decide +kernel
theorem dX3_compareTo_10 : decode cX3_compareTo 10 = .ok (.invokestatic 46, 3) := by decide +kernel
theorem dX3_compareTo_13 : decode cX3_compareTo 13 = .ok (.istore 4, 2) := by decide +kernel
theorem dX3_compareTo_15 : decode cX3_compareTo 15 = .ok (.iconst 0, 1) := by decide +kernel
theorem dX3_compareTo_16 : decode cX3_compareTo 16 = .ok (.istore 5, 2) := by decide +kernel
theorem dX3_compareTo_18 : decode cX3_compareTo 18 = .ok (.iload 5, 2) := by decide +kernel
theorem dX3_compareTo_20 : decode cX3_compareTo 20 = .ok (.iload 4, 2) := by decide +kernel
theorem dX3_compareTo_22 : decode cX3_compareTo 22 = .ok (.if_icmp .ge 34, 3) := by decide +kernel
theorem dX3_compareTo_25 : decode cX3_compareTo 25 = .ok (.aload_n 0, 1) := by decide +kernel
theorem dX3_compareTo_26 : decode cX3_compareTo 26 = .ok (.iload_n 1, 1) := by decide +kernel
theorem dX3_compareTo_27 : decode cX3_compareTo 27 = .ok (.iload 5, 2) := by decide +kernel
theorem dX3_compareTo_29 : decode cX3_compareTo 29 = .ok (.invokevirtual 52, 3) := by decide +kernel
theorem dX3_compareTo_32 : decode cX3_compareTo 32 = .ok (.aload_n 2, 1) := by decide +kernel
theorem dX3_compareTo_33 : decode cX3_compareTo 33 = .ok (.iload_n 3, 1) := by decide +kernel
theorem dX3_compareTo_34 : decode cX3_compareTo 34 = .ok (.iload 5, 2) := by decide +kernel
theorem dX3_compareTo_36 : decode cX3_compareTo 36 = .ok (.invokevirtual 52, 3) := by decide +kernel
theorem dX3_compareTo_39 : decode cX3_compareTo 39 = .ok (.isub, 1) := by decide +kernel
theorem dX3_compareTo_40 : decode cX3_compareTo 40 = .ok (.istore 6, 2) := by decide +kernel
theorem dX3_compareTo_42 : decode cX3_compareTo 42 = .ok (.iload 6, 2) := by decide +kernel
theorem dX3_compareTo_44 : decode cX3_compareTo 44 = .ok (.ifCond .eq 6, 3) := by decide +kernel
theorem dX3_compareTo_47 : decode cX3_compareTo 47 = .ok (.iload 6, 2) := by decide +kernel
theorem dX3_compareTo_49 : decode cX3_compareTo 49 = .ok (.ireturn, 1) := by decide +kernel
theorem dX3_compareTo_50 : decode cX3_compareTo 50 = .ok (.iinc 5 1, 3) := by decide +kernel
theorem dX3_compareTo_53 : decode cX3_compareTo 53 = .ok (.goto (-35), 3) := by decide +kernel
theorem dX3_compareTo_56 : decode cX3_compareTo 56 = .ok (.aload_n 0, 1) := by decide +kernel
theorem dX3_compareTo_57 : decode cX3_compareTo 57 = .ok (.iload_n 1, 1) := by decide +kernel
theorem dX3_compareTo_58 : decode cX3_compareTo 58 = .ok (.invokevirtual 42, 3) := by decide +kernel
theorem dX3_compareTo_61 : decode cX3_compareTo 61 = .ok (.aload_n 2, 1) := by decide +kernel
theorem dX3_compareTo_62 : decode cX3_compareTo 62 = .ok (.iload_n 3, 1) := by decide +kernel
theorem dX3_compareTo_63 : decode cX3_compareTo 63 = .ok (.invokevirtual 42, 3) := by decide +kernel
theorem dX3_compareTo_66 : decode cX3_compareTo 66 = .ok (.isub, 1) := by decide +kernel
theorem dX3_compareTo_67 : decode cX3_compareTo 67 = .ok (.ireturn, 1) := by decide +kernel
set_option maxRecDepth 20000 in
theorem ggX3_placeOf_X3_compare : GoodIn wsX3_placeOf wsX3_compare := goodIn_r _ [6, 7, 8, 9, 10, 11, 12, 13, 14, 5, 15, 1, 16, 17, 18, 19, 20, 21, 22, 23, 24, 25, 26, 27, 28, 33, 34, 29, 30, 31, 32] rfl (by decide +kernel)
set_option maxRecDepth 20000 in
theorem gX3_placeOf_X3_compare : GoodIn wsX3_placeOf (wsV RX3 57 RX3 yX3_compare wsX3_compare) := goodIn_app (goodIn_r _ [2, 3, 4, 5] rfl (by decide +kernel)) ggX3_placeOf_X3_compare
theorem dX3_placeOf_0 : decode cX3_placeOf 0 = .ok (.iconst 0, 1) := by decide +kernel
theorem dX3_placeOf_1 : decode cX3_placeOf 1 = .ok (.istore_n 2, 1) := by decide +kernel
theorem dX3_placeOf_2 : decode cX3_placeOf 2 = .ok (.aload_n 0, 1) := by decide +kernel
theorem dX3_placeOf_3 : decode cX3_placeOf 3 = .ok (.getfield 22, 3) := by decide +kernel
theorem dX3_placeOf_6 : decode cX3_placeOf 6 = .ok (.istore_n 3, 1) := by decide +kernel
theorem dX3_placeOf_7 : decode cX3_placeOf 7 = .ok (.iconst 0, 1) := by decide +kernel
theorem dX3_placeOf_8 : decode cX3_placeOf 8 = .ok (.istore 4, 2) := by decide +kernel
theorem dX3_placeOf_10 : decode cX3_placeOf 10 = .ok (.iload 4, 2) := by decide +kernel
theorem dX3_placeOf_12 : decode cX3_placeOf 12 = .ok (.sipush 150, 3) := by decide +kernel
theorem dX3_placeOf_15 : decode cX3_placeOf 15 = .ok (.if_icmp .gt 42, 3) := by decide +kernel
theorem dX3_placeOf_18 : decode cX3_placeOf 18 = .ok (.iload_n 2, 1) := by decide +kernel
theorem dX3_placeOf_19 : decode cX3_placeOf 19 = .ok (.iload_n 3, 1) := by decide +kernel
theorem dX3_placeOf_20 : decode cX3_placeOf 20 = .ok (.if_icmp .ge 37, 3) := by decide +kernel
theorem dX3_placeOf_23 : decode cX3_placeOf 23 = .ok (.iload_n 2, 1) := by decide +kernel
theorem dX3_placeOf_24 : decode cX3_placeOf 24 = .ok (.iload_n 3, 1) := by decide +kernel
theorem dX3_placeOf_25 : decode cX3_placeOf 25 = .ok (.iadd, 1) := by decide +kernel
theorem dX3_placeOf_26 : decode cX3_placeOf 26 = .ok (.iconst 1, 1) := by decide +kernel
theorem dX3_placeOf_27 : decode cX3_placeOf 27 = .ok (.ishr, 1) := by decide +kernel
theorem dX3_placeOf_28 : decode cX3_placeOf 28 = .ok (.istore 5, 2) := by decide +kernel
theorem dX3_placeOf_30 : decode cX3_placeOf 30 = .ok (.aload_n 0, 1) := by decide +kernel
theorem dX3_placeOf_31 : decode cX3_placeOf 31 = .ok (.iload 5, 2) := by decide +kernel
theorem dX3_placeOf_33 : decode cX3_placeOf 33 = .ok (.aload_n 1, 1) := by decide +kernel
theorem dX3_placeOf_34 : decode cX3_placeOf 34 = .ok (.invokevirtual 57, 3) := by decide +kernel
theorem dX3_placeOf_37 : decode cX3_placeOf 37 = .ok (.ifCond .ge 11, 3) := by decide +kernel
theorem dX3_placeOf_40 : decode cX3_placeOf 40 = .ok (.iload 5, 2) := by decide +kernel
theorem dX3_placeOf_42 : decode cX3_placeOf 42 = .ok (.iconst 1, 1) := by decide +kernel
theorem dX3_placeOf_43 : decode cX3_placeOf 43 = .ok (.iadd, 1) := by decide +kernel
theorem dX3_placeOf_44 : decode cX3_placeOf 44 = .ok (.istore_n 2, 1) := by decide +kernel
theorem dX3_placeOf_45 : decode cX3_placeOf 45 = .ok (.goto 6, 3) := by decide +kernel
theorem dX3_placeOf_48 : decode cX3_placeOf 48 = .ok (.iload 5, 2) := by decide +kernel
theorem dX3_placeOf_50 : decode cX3_placeOf 50 = .ok (.istore_n 3, 1) := by decide +kernel
theorem dX3_placeOf_51 : decode cX3_placeOf 51 = .ok (.iinc 4 1, 3) := by decide +kernel
theorem dX3_placeOf_54 : decode cX3_placeOf 54 = .ok (.goto (-44), 3) := by decide +kernel
theorem dX3_placeOf_57 : decode cX3_placeOf 57 = .ok (.iload_n 2, 1) := by decide +kernel
theorem dX3_placeOf_58 : decode cX3_placeOf 58 = .ok (.ireturn, 1) := by decide +kernel
set_option maxRecDepth 20000 in
theorem ggX3_isAt_X3_has : GoodIn wsX3_isAt wsX3_has := goodIn_r _ [5, 6, 33, 34, 35, 36] rfl (by decide +kernel)
set_option maxRecDepth 20000 in
theorem gX3_isAt_X3_has : GoodIn wsX3_isAt (wsV RX3 32 RX3 yX3_has wsX3_has) := goodIn_app (goodIn_r _ [1, 2, 3, 4] rfl (by decide +kernel)) ggX3_isAt_X3_has
set_option maxRecDepth 20000 in
theorem ggX3_isAt_X3_compare : GoodIn wsX3_isAt wsX3_compare := goodIn_r _ [10, 11, 12, 13, 14, 15, 16, 17, 18, 4, 19, 6, 20, 21, 22, 23, 24, 25, 26, 27, 28, 29, 30, 31, 32, 37, 38, 33, 34, 35, 36] rfl (by decide +kernel)
set_option maxRecDepth 20000 in
theorem gX3_isAt_X3_compare : GoodIn wsX3_isAt (wsV RX3 57 RX3 yX3_compare wsX3_compare) := goodIn_app (goodIn_r _ [7, 8, 9, 4] rfl (by decide +kernel)) ggX3_isAt_X3_compare
theorem dX3_isAt_0 : decode cX3_isAt 0 = .ok (.aload_n 0, 1) := by decide +kernel
theorem dX3_isAt_1 : decode cX3_isAt 1 = .ok (.iload_n 1, 1) := by decide +kernel
theorem dX3_isAt_2 : decode cX3_isAt 2 = .ok (.invokevirtual 32, 3) := by decide +kernel
theorem dX3_isAt_5 : decode cX3_isAt 5 = .ok (.ifCond .eq 16, 3) := by decide +kernel
theorem dX3_isAt_8 : decode cX3_isAt 8 = .ok (.aload_n 0, 1) := by decide +kernel
theorem dX3_isAt_9 : decode cX3_isAt 9 = .ok (.iload_n 1, 1) := by decide +kernel
theorem dX3_isAt_10 : decode cX3_isAt 10 = .ok (.aload_n 2, 1) := by decide +kernel
theorem dX3_isAt_11 : decode cX3_isAt 11 = .ok (.invokevirtual 57, 3) := by decide +kernel
theorem dX3_isAt_14 : decode cX3_isAt 14 = .ok (.ifCond .ne 7, 3) := by decide +kernel
theorem dX3_isAt_17 : decode cX3_isAt 17 = .ok (.iconst 1, 1) := by decide +kernel
theorem dX3_isAt_18 : decode cX3_isAt 18 = .ok (.goto 4, 3) := by decide +kernel
theorem dX3_isAt_21 : decode cX3_isAt 21 = .ok (.iconst 0, 1) := by decide +kernel
theorem dX3_isAt_22 : decode cX3_isAt 22 = .ok (.ireturn, 1) := by decide +kernel
set_option maxRecDepth 20000 in
theorem ggX3_find_X3_placeOf : GoodIn wsX3_find wsX3_placeOf := goodIn_r _ [5, 6, 7, 8, 9, 4, 10, 11, 12, 13, 14, 15, 16, 17, 18, 19, 20, 21, 22, 23, 24, 25, 26, 27, 28, 29, 30, 31, 32, 41, 42, 43, 44, 45, 46] rfl (by decide +kernel)
set_option maxRecDepth 20000 in
theorem gX3_find_X3_placeOf : GoodIn wsX3_find (wsV RX3 61 RX3 yX3_placeOf wsX3_placeOf) := goodIn_app (goodIn_r _ [1, 2, 3, 4] rfl (by decide +kernel)) ggX3_find_X3_placeOf
set_option maxRecDepth 20000 in
theorem ggX3_find_X3_isAt : GoodIn wsX3_find wsX3_isAt := goodIn_r _ [36, 37, 38, 39, 4, 40, 6, 7, 8, 9, 10, 11, 12, 13, 14, 15, 16, 17, 18, 19, 20, 21, 22, 23, 24, 25, 26, 27, 28, 29, 30, 31, 32, 41, 42, 43, 44, 45, 46] rfl (by decide +kernel)
set_option maxRecDepth 20000 in
theorem gX3_find_X3_isAt : GoodIn wsX3_find (wsV RX3 65 RX3 yX3_isAt wsX3_isAt) := goodIn_app (goodIn_r _ [33, 34, 35, 4] rfl (by decide +kernel)) ggX3_find_X3_isAt
theorem dX3_find_0 : decode cX3_find 0 = .ok (.aload_n 0, 1) := by decide +kernel
theorem dX3_find_1 : decode cX3_find 1 = .ok (.aload_n 1, 1) := by decide +kernel
theorem dX3_find_2 : decode cX3_find 2 = .ok (.invokevirtual 61, 3) := by decide +kernel
theorem dX3_find_5 : decode cX3_find 5 = .ok (.istore_n 2, 1) := by decide +kernel
theorem dX3_find_6 : decode cX3_find 6 = .ok (.aload_n 0, 1) := by decide +kernel
theorem dX3_find_7 : decode cX3_find 7 = .ok (.iload_n 2, 1) := by decide +kernel
theorem dX3_find_8 : decode cX3_find 8 = .ok (.aload_n 1, 1) := by decide +kernel
theorem dX3_find_9 : decode cX3_find 9 = .ok (.invokevirtual 65, 3) := by decide +kernel
theorem dX3_find_12 : decode cX3_find 12 = .ok (.ifCond .eq 7, 3) := by decide +kernel
theorem dX3_find_15 : decode cX3_find 15 = .ok (.iload_n 2, 1) := by decide +kernel
theorem dX3_find_16 : decode cX3_find 16 = .ok (.goto 5, 3) := by decide +kernel
theorem dX3_find_19 : decode cX3_find 19 = .ok (.bipush (-3), 2) := by decide +kernel
theorem dX3_find_21 : decode cX3_find 21 = .ok (.ireturn, 1) := by decide +kernel
theorem dX3_beside_0 : decode cX3_beside 0 = .ok (.iload_n 3, 1) := by decide +kernel
theorem dX3_beside_1 : decode cX3_beside 1 = .ok (.ifCond .ne 7, 3) := by decide +kernel
theorem dX3_beside_4 : decode cX3_beside 4 = .ok (.iload_n 1, 1) := by decide +kernel
theorem dX3_beside_5 : decode cX3_beside 5 = .ok (.iconst 1, 1) := by decide +kernel
theorem dX3_beside_6 : decode cX3_beside 6 = .ok (.isub, 1) := by decide +kernel
theorem dX3_beside_7 : decode cX3_beside 7 = .ok (.ireturn, 1) := by decide +kernel
theorem dX3_beside_8 : decode cX3_beside 8 = .ok (.iload_n 2, 1) := by decide +kernel
theorem dX3_beside_9 : decode cX3_beside 9 = .ok (.ifCond .eq 9, 3) := by decide +kernel
theorem dX3_beside_12 : decode cX3_beside 12 = .ok (.iload_n 1, 1) := by decide +kernel
theorem dX3_beside_13 : decode cX3_beside 13 = .ok (.iconst 1, 1) := by decide +kernel
theorem dX3_beside_14 : decode cX3_beside 14 = .ok (.iadd, 1) := by decide +kernel
theorem dX3_beside_15 : decode cX3_beside 15 = .ok (.goto 4, 3) := by decide +kernel
theorem dX3_beside_18 : decode cX3_beside 18 = .ok (.iload_n 1, 1) := by decide +kernel
theorem dX3_beside_19 : decode cX3_beside 19 = .ok (.ireturn, 1) := by decide +kernel
set_option maxRecDepth 20000 in
theorem ggX3_beginsWith_X3_lengthOf : GoodIn wsX3_beginsWith wsX3_lengthOf := goodIn_r _ [6, 7, 8, 23, 24, 25, 26] rfl (by decide +kernel)
set_option maxRecDepth 20000 in
theorem gX3_beginsWith_X3_lengthOf : GoodIn wsX3_beginsWith (wsV RX3 42 RX3 yX3_lengthOf wsX3_lengthOf) := goodIn_app (goodIn_r _ [2, 3, 4, 5] rfl (by decide +kernel)) ggX3_beginsWith_X3_lengthOf
set_option maxRecDepth 20000 in
theorem ggX3_beginsWith_X3_byteOf : GoodIn wsX3_beginsWith wsX3_byteOf := goodIn_r _ [12, 7, 13, 23, 24, 25, 26] rfl (by decide +kernel)
set_option maxRecDepth 20000 in
theorem gX3_beginsWith_X3_byteOf : GoodIn wsX3_beginsWith (wsV RX3 52 RX3 yX3_byteOf wsX3_byteOf) := goodIn_app (goodIn_r _ [9, 10, 11, 5] rfl (by decide +kernel)) ggX3_beginsWith_X3_byteOf
set_option maxRecDepth 20000 in
theorem ggX3_beginsWith_X2_byteOf : GoodIn wsX3_beginsWith wsX2_byteOf := goodIn_r _ [18, 19, 20, 21, 22] rfl (by decide +kernel)
set_option maxRecDepth 20000 in
theorem gX3_beginsWith_X2_byteOf : GoodIn wsX3_beginsWith (wsV RX3 55 RX2 yX2_byteOf wsX2_byteOf) := goodIn_app (goodIn_r _ [14, 15, 16, 17] rfl (by decide +kernel)) ggX3_beginsWith_X2_byteOf
theorem dX3_beginsWith_0 : decode cX3_beginsWith 0 = .ok (.aload_n 0, 1) := by decide +kernel
theorem dX3_beginsWith_1 : decode cX3_beginsWith 1 = .ok (.iload_n 1, 1) := by decide +kernel
theorem dX3_beginsWith_2 : decode cX3_beginsWith 2 = .ok (.invokevirtual 42, 3) := by decide +kernel
theorem dX3_beginsWith_5 : decode cX3_beginsWith 5 = .ok (.aload_n 2, 1) := by decide +kernel
theorem dX3_beginsWith_6 : decode cX3_beginsWith 6 = .ok (.getfield 39, 3) := by decide +kernel
theorem dX3_beginsWith_9 : decode cX3_beginsWith 9 = .ok (.if_icmp .ge 5, 3) := by decide +kernel
theorem dX3_beginsWith_12 : decode cX3_beginsWith 12 = .ok (.iconst 0, 1) := by decide +kernel
theorem dX3_beginsWith_13 : decode cX3_beginsWith 13 = .ok (.ireturn, 1) := by decide +kernel
theorem dX3_beginsWith_14 : decode cX3_beginsWith 14 = .ok (.iconst 0, 1) := by decide +kernel
theorem dX3_beginsWith_15 : decode cX3_beginsWith 15 = .ok (.istore_n 3, 1) := by decide +kernel
theorem dX3_beginsWith_16 : decode cX3_beginsWith 16 = .ok (.iload_n 3, 1) := by decide +kernel
theorem dX3_beginsWith_17 : decode cX3_beginsWith 17 = .ok (.aload_n 2, 1) := by decide +kernel
theorem dX3_beginsWith_18 : decode cX3_beginsWith 18 = .ok (.getfield 39, 3) := by decide +kernel
theorem dX3_beginsWith_21 : decode cX3_beginsWith 21 = .ok (.if_icmp .ge 25, 3) := by decide +kernel
theorem dX3_beginsWith_24 : decode cX3_beginsWith 24 = .ok (.aload_n 0, 1) := by decide +kernel
theorem dX3_beginsWith_25 : decode cX3_beginsWith 25 = .ok (.iload_n 1, 1) := by decide +kernel
theorem dX3_beginsWith_26 : decode cX3_beginsWith 26 = .ok (.iload_n 3, 1) := by decide +kernel
theorem dX3_beginsWith_27 : decode cX3_beginsWith 27 = .ok (.invokevirtual 52, 3) := by decide +kernel
theorem dX3_beginsWith_30 : decode cX3_beginsWith 30 = .ok (.aload_n 2, 1) := by decide +kernel
theorem dX3_beginsWith_31 : decode cX3_beginsWith 31 = .ok (.iload_n 3, 1) := by decide +kernel
theorem dX3_beginsWith_32 : decode cX3_beginsWith 32 = .ok (.invokevirtual 55, 3) := by decide +kernel
theorem dX3_beginsWith_35 : decode cX3_beginsWith 35 = .ok (.if_icmp .eq 5, 3) := by decide +kernel
theorem dX3_beginsWith_38 : decode cX3_beginsWith 38 = .ok (.iconst 0, 1) := by decide +kernel
theorem dX3_beginsWith_39 : decode cX3_beginsWith 39 = .ok (.ireturn, 1) := by decide +kernel
theorem dX3_beginsWith_40 : decode cX3_beginsWith 40 = .ok (.iinc 3 1, 3) := by decide +kernel
theorem dX3_beginsWith_43 : decode cX3_beginsWith 43 = .ok (.goto (-27), 3) := by decide +kernel
theorem dX3_beginsWith_46 : decode cX3_beginsWith 46 = .ok (.iconst 1, 1) := by decide +kernel
theorem dX3_beginsWith_47 : decode cX3_beginsWith 47 = .ok (.ireturn, 1) := by decide +kernel
set_option maxRecDepth 20000 in
theorem ggX3_endOfBeginning_X3_beginsWith : GoodIn wsX3_endOfBeginning wsX3_beginsWith := goodIn_r _ [6, 7, 8, 9, 10, 5, 11, 1, 12, 13, 14, 15, 16, 17, 18, 19, 20, 21, 22, 23, 24, 29, 30, 25, 26, 27, 28] rfl (by decide +kernel)
set_option maxRecDepth 20000 in
theorem gX3_endOfBeginning_X3_beginsWith : GoodIn wsX3_endOfBeginning (wsV RX3 69 RX3 yX3_beginsWith wsX3_beginsWith) := goodIn_app (goodIn_r _ [2, 3, 4, 5] rfl (by decide +kernel)) ggX3_endOfBeginning_X3_beginsWith
theorem dX3_endOfBeginning_0 : decode cX3_endOfBeginning 0 = .ok (.iload_n 1, 1) := by decide +kernel
theorem dX3_endOfBeginning_1 : decode cX3_endOfBeginning 1 = .ok (.istore_n 3, 1) := by decide +kernel
theorem dX3_endOfBeginning_2 : decode cX3_endOfBeginning 2 = .ok (.iload_n 3, 1) := by decide +kernel
theorem dX3_endOfBeginning_3 : decode cX3_endOfBeginning 3 = .ok (.aload_n 0, 1) := by decide +kernel
theorem dX3_endOfBeginning_4 : decode cX3_endOfBeginning 4 = .ok (.getfield 22, 3) := by decide +kernel
theorem dX3_endOfBeginning_7 : decode cX3_endOfBeginning 7 = .ok (.if_icmp .ge 18, 3) := by decide +kernel
theorem dX3_endOfBeginning_10 : decode cX3_endOfBeginning 10 = .ok (.aload_n 0, 1) := by decide +kernel
theorem dX3_endOfBeginning_11 : decode cX3_endOfBeginning 11 = .ok (.iload_n 3, 1) := by decide +kernel
theorem dX3_endOfBeginning_12 : decode cX3_endOfBeginning 12 = .ok (.aload_n 2, 1) := by decide +kernel
theorem dX3_endOfBeginning_13 : decode cX3_endOfBeginning 13 = .ok (.invokevirtual 69, 3) := by decide +kernel
theorem dX3_endOfBeginning_16 : decode cX3_endOfBeginning 16 = .ok (.ifCond .eq 9, 3) := by decide +kernel
theorem dX3_endOfBeginning_19 : decode cX3_endOfBeginning 19 = .ok (.iinc 3 1, 3) := by decide +kernel
theorem dX3_endOfBeginning_22 : decode cX3_endOfBeginning 22 = .ok (.goto (-20), 3) := by decide +kernel
theorem dX3_endOfBeginning_25 : decode cX3_endOfBeginning 25 = .ok (.iload_n 3, 1) := by decide +kernel
theorem dX3_endOfBeginning_26 : decode cX3_endOfBeginning 26 = .ok (.ireturn, 1) := by decide +kernel
set_option maxRecDepth 20000 in
theorem ggX3_valuesTogether_X3_valueOf : GoodIn wsX3_valuesTogether wsX3_valueOf := goodIn_r _ [5, 6, 7, 8, 9, 10, 11] rfl (by decide +kernel)
set_option maxRecDepth 20000 in
theorem gX3_valuesTogether_X3_valueOf : GoodIn wsX3_valuesTogether (wsV RX3 72 RX3 yX3_valueOf wsX3_valueOf) := goodIn_app (goodIn_r _ [1, 2, 3, 4] rfl (by decide +kernel)) ggX3_valuesTogether_X3_valueOf
theorem dX3_valuesTogether_0 : decode cX3_valuesTogether 0 = .ok (.iconst 0, 1) := by decide +kernel
theorem dX3_valuesTogether_1 : decode cX3_valuesTogether 1 = .ok (.istore_n 3, 1) := by decide +kernel
theorem dX3_valuesTogether_2 : decode cX3_valuesTogether 2 = .ok (.iload_n 1, 1) := by decide +kernel
theorem dX3_valuesTogether_3 : decode cX3_valuesTogether 3 = .ok (.istore 4, 2) := by decide +kernel
theorem dX3_valuesTogether_5 : decode cX3_valuesTogether 5 = .ok (.iload 4, 2) := by decide +kernel
theorem dX3_valuesTogether_7 : decode cX3_valuesTogether 7 = .ok (.iload_n 2, 1) := by decide +kernel
theorem dX3_valuesTogether_8 : decode cX3_valuesTogether 8 = .ok (.if_icmp .ge 18, 3) := by decide +kernel
theorem dX3_valuesTogether_11 : decode cX3_valuesTogether 11 = .ok (.iload_n 3, 1) := by decide +kernel
theorem dX3_valuesTogether_12 : decode cX3_valuesTogether 12 = .ok (.aload_n 0, 1) := by decide +kernel
theorem dX3_valuesTogether_13 : decode cX3_valuesTogether 13 = .ok (.iload 4, 2) := by decide +kernel
theorem dX3_valuesTogether_15 : decode cX3_valuesTogether 15 = .ok (.invokevirtual 72, 3) := by decide +kernel
theorem dX3_valuesTogether_18 : decode cX3_valuesTogether 18 = .ok (.iadd, 1) := by decide +kernel
theorem dX3_valuesTogether_19 : decode cX3_valuesTogether 19 = .ok (.istore_n 3, 1) := by decide +kernel
theorem dX3_valuesTogether_20 : decode cX3_valuesTogether 20 = .ok (.iinc 4 1, 3) := by decide +kernel
theorem dX3_valuesTogether_23 : decode cX3_valuesTogether 23 = .ok (.goto (-18), 3) := by decide +kernel
theorem dX3_valuesTogether_26 : decode cX3_valuesTogether 26 = .ok (.iload_n 3, 1) := by decide +kernel
theorem dX3_valuesTogether_27 : decode cX3_valuesTogether 27 = .ok (.ireturn, 1) := by decide +kernel
set_option maxRecDepth 20000 in
theorem ggX3_alikeBytes_X3_lengthOf : GoodIn wsX3_alikeBytes wsX3_lengthOf := goodIn_r _ [9, 10, 11, 17, 18, 19, 20] rfl (by decide +kernel)
set_option maxRecDepth 20000 in
theorem gX3_alikeBytes_X3_lengthOf : GoodIn wsX3_alikeBytes (wsV RX3 42 RX3 yX3_lengthOf wsX3_lengthOf) := goodIn_app (goodIn_r _ [5, 6, 7, 8] rfl (by decide +kernel)) ggX3_alikeBytes_X3_lengthOf
set_option maxRecDepth 20000 in
theorem ggX3_alikeBytes_X3_byteOf : GoodIn wsX3_alikeBytes wsX3_byteOf := goodIn_r _ [15, 10, 16, 17, 18, 19, 20] rfl (by decide +kernel)
set_option maxRecDepth 20000 in
theorem gX3_alikeBytes_X3_byteOf : GoodIn wsX3_alikeBytes (wsV RX3 52 RX3 yX3_byteOf wsX3_byteOf) := goodIn_app (goodIn_r _ [12, 13, 14, 8] rfl (by decide +kernel)) ggX3_alikeBytes_X3_byteOf
theorem dX3_alikeBytes_0 : decode cX3_alikeBytes 0 = .ok (.aload_n 0, 1) := by decide +kernel
theorem dX3_alikeBytes_1 : decode cX3_alikeBytes 1 = .ok (.iload_n 1, 1) := by decide +kernel
theorem dX3_alikeBytes_2 : decode cX3_alikeBytes 2 = .ok (.invokevirtual 42, 3) := by decide +kernel
theorem dX3_alikeBytes_5 : decode cX3_alikeBytes 5 = .ok (.aload_n 0, 1) := by decide +kernel
theorem dX3_alikeBytes_6 : decode cX3_alikeBytes 6 = .ok (.iload_n 2, 1) := by decide +kernel
theorem dX3_alikeBytes_7 : decode cX3_alikeBytes 7 = .ok (.invokevirtual 42, 3) := by decide +kernel
theorem dX3_alikeBytes_10 : decode cX3_alikeBytes 10 = .ok (.invokestatic 46, 3) := by decide +kernel
theorem dX3_alikeBytes_13 : decode cX3_alikeBytes 13 = .ok (.istore_n 3, 1) := by decide +kernel
theorem dX3_alikeBytes_14 : decode cX3_alikeBytes 14 = .ok (.iconst 0, 1) := by decide +kernel
theorem dX3_alikeBytes_15 : decode cX3_alikeBytes 15 = .ok (.istore 4, 2) := by decide +kernel
theorem dX3_alikeBytes_17 : decode cX3_alikeBytes 17 = .ok (.iload 4, 2) := by decide +kernel
theorem dX3_alikeBytes_19 : decode cX3_alikeBytes 19 = .ok (.iload_n 3, 1) := by decide +kernel
theorem dX3_alikeBytes_20 : decode cX3_alikeBytes 20 = .ok (.if_icmp .ge 26, 3) := by decide +kernel
theorem dX3_alikeBytes_23 : decode cX3_alikeBytes 23 = .ok (.aload_n 0, 1) := by decide +kernel
theorem dX3_alikeBytes_24 : decode cX3_alikeBytes 24 = .ok (.iload_n 1, 1) := by decide +kernel
theorem dX3_alikeBytes_25 : decode cX3_alikeBytes 25 = .ok (.iload 4, 2) := by decide +kernel
theorem dX3_alikeBytes_27 : decode cX3_alikeBytes 27 = .ok (.invokevirtual 52, 3) := by decide +kernel
theorem dX3_alikeBytes_30 : decode cX3_alikeBytes 30 = .ok (.aload_n 0, 1) := by decide +kernel
theorem dX3_alikeBytes_31 : decode cX3_alikeBytes 31 = .ok (.iload_n 2, 1) := by decide +kernel
theorem dX3_alikeBytes_32 : decode cX3_alikeBytes 32 = .ok (.iload 4, 2) := by decide +kernel
theorem dX3_alikeBytes_34 : decode cX3_alikeBytes 34 = .ok (.invokevirtual 52, 3) := by decide +kernel
theorem dX3_alikeBytes_37 : decode cX3_alikeBytes 37 = .ok (.if_icmp .ne 9, 3) := by decide +kernel
theorem dX3_alikeBytes_40 : decode cX3_alikeBytes 40 = .ok (.iinc 4 1, 3) := by decide +kernel
theorem dX3_alikeBytes_43 : decode cX3_alikeBytes 43 = .ok (.goto (-26), 3) := by decide +kernel
theorem dX3_alikeBytes_46 : decode cX3_alikeBytes 46 = .ok (.iload 4, 2) := by decide +kernel
theorem dX3_alikeBytes_48 : decode cX3_alikeBytes 48 = .ok (.ireturn, 1) := by decide +kernel
set_option maxRecDepth 20000 in
theorem ggX3_closestPair_X3_alikeBytes : GoodIn wsX3_closestPair wsX3_alikeBytes := goodIn_r _ [6, 7, 8, 9, 10, 11, 12, 13, 5, 14, 1, 15, 16, 17, 18, 19, 20, 21, 22, 23, 24] rfl (by decide +kernel)
set_option maxRecDepth 20000 in
theorem gX3_closestPair_X3_alikeBytes : GoodIn wsX3_closestPair (wsV RX3 75 RX3 yX3_alikeBytes wsX3_alikeBytes) := goodIn_app (goodIn_r _ [2, 3, 4, 5] rfl (by decide +kernel)) ggX3_closestPair_X3_alikeBytes
theorem dX3_closestPair_0 : decode cX3_closestPair 0 = .ok (.iconst 0, 1) := by decide +kernel
theorem dX3_closestPair_1 : decode cX3_closestPair 1 = .ok (.istore_n 1, 1) := by decide +kernel
theorem dX3_closestPair_2 : decode cX3_closestPair 2 = .ok (.iconst (-1), 1) := by decide +kernel
theorem dX3_closestPair_3 : decode cX3_closestPair 3 = .ok (.istore_n 2, 1) := by decide +kernel
theorem dX3_closestPair_4 : decode cX3_closestPair 4 = .ok (.iconst 0, 1) := by decide +kernel
theorem dX3_closestPair_5 : decode cX3_closestPair 5 = .ok (.istore_n 3, 1) := by decide +kernel
theorem dX3_closestPair_6 : decode cX3_closestPair 6 = .ok (.iload_n 3, 1) := by decide +kernel
theorem dX3_closestPair_7 : decode cX3_closestPair 7 = .ok (.iconst 1, 1) := by decide +kernel
theorem dX3_closestPair_8 : decode cX3_closestPair 8 = .ok (.iadd, 1) := by decide +kernel
theorem dX3_closestPair_9 : decode cX3_closestPair 9 = .ok (.aload_n 0, 1) := by decide +kernel
theorem dX3_closestPair_10 : decode cX3_closestPair 10 = .ok (.getfield 22, 3) := by decide +kernel
theorem dX3_closestPair_13 : decode cX3_closestPair 13 = .ok (.if_icmp .ge 30, 3) := by decide +kernel
theorem dX3_closestPair_16 : decode cX3_closestPair 16 = .ok (.aload_n 0, 1) := by decide +kernel
theorem dX3_closestPair_17 : decode cX3_closestPair 17 = .ok (.iload_n 3, 1) := by decide +kernel
theorem dX3_closestPair_18 : decode cX3_closestPair 18 = .ok (.iload_n 3, 1) := by decide +kernel
theorem dX3_closestPair_19 : decode cX3_closestPair 19 = .ok (.iconst 1, 1) := by decide +kernel
theorem dX3_closestPair_20 : decode cX3_closestPair 20 = .ok (.iadd, 1) := by decide +kernel
theorem dX3_closestPair_21 : decode cX3_closestPair 21 = .ok (.invokevirtual 75, 3) := by decide +kernel
theorem dX3_closestPair_24 : decode cX3_closestPair 24 = .ok (.istore 4, 2) := by decide +kernel
theorem dX3_closestPair_26 : decode cX3_closestPair 26 = .ok (.iload 4, 2) := by decide +kernel
theorem dX3_closestPair_28 : decode cX3_closestPair 28 = .ok (.iload_n 2, 1) := by decide +kernel
theorem dX3_closestPair_29 : decode cX3_closestPair 29 = .ok (.if_icmp .le 8, 3) := by decide +kernel
theorem dX3_closestPair_32 : decode cX3_closestPair 32 = .ok (.iload 4, 2) := by decide +kernel
theorem dX3_closestPair_34 : decode cX3_closestPair 34 = .ok (.istore_n 2, 1) := by decide +kernel
theorem dX3_closestPair_35 : decode cX3_closestPair 35 = .ok (.iload_n 3, 1) := by decide +kernel
theorem dX3_closestPair_36 : decode cX3_closestPair 36 = .ok (.istore_n 1, 1) := by decide +kernel
theorem dX3_closestPair_37 : decode cX3_closestPair 37 = .ok (.iinc 3 1, 3) := by decide +kernel
theorem dX3_closestPair_40 : decode cX3_closestPair 40 = .ok (.goto (-34), 3) := by decide +kernel
theorem dX3_closestPair_43 : decode cX3_closestPair 43 = .ok (.iload_n 1, 1) := by decide +kernel
theorem dX3_closestPair_44 : decode cX3_closestPair 44 = .ok (.ireturn, 1) := by decide +kernel
set_option maxRecDepth 20000 in
theorem ggX3_missingIn_X3_inBoth : GoodIn wsX3_missingIn wsX3_inBoth := goodIn_r _ [6, 1, 7, 8, 9, 5, 10, 11, 12, 13, 14, 15, 16, 17, 18, 19, 20, 21, 22, 23, 24, 25, 26, 27, 28, 29, 30, 31, 32, 33] rfl (by decide +kernel)
set_option maxRecDepth 20000 in
theorem gX3_missingIn_X3_inBoth : GoodIn wsX3_missingIn (wsV RX3 78 RX3 yX3_inBoth wsX3_inBoth) := goodIn_app (goodIn_r _ [2, 3, 4, 5] rfl (by decide +kernel)) ggX3_missingIn_X3_inBoth
theorem dX3_missingIn_0 : decode cX3_missingIn 0 = .ok (.aload_n 0, 1) := by decide +kernel
theorem dX3_missingIn_1 : decode cX3_missingIn 1 = .ok (.getfield 22, 3) := by decide +kernel
theorem dX3_missingIn_4 : decode cX3_missingIn 4 = .ok (.aload_n 0, 1) := by decide +kernel
theorem dX3_missingIn_5 : decode cX3_missingIn 5 = .ok (.aload_n 1, 1) := by decide +kernel
theorem dX3_missingIn_6 : decode cX3_missingIn 6 = .ok (.iconst 0, 1) := by decide +kernel
theorem dX3_missingIn_7 : decode cX3_missingIn 7 = .ok (.invokevirtual 78, 3) := by decide +kernel
theorem dX3_missingIn_10 : decode cX3_missingIn 10 = .ok (.isub, 1) := by decide +kernel
theorem dX3_missingIn_11 : decode cX3_missingIn 11 = .ok (.ireturn, 1) := by decide +kernel
set_option maxRecDepth 20000 in
theorem ggX3_otherValuesIn_X3_inBoth : GoodIn wsX3_otherValuesIn wsX3_inBoth := goodIn_r _ [5, 6, 7, 8, 9, 4, 10, 11, 12, 13, 14, 15, 16, 17, 18, 19, 20, 21, 22, 23, 24, 25, 26, 27, 28, 29, 30, 31, 32, 33] rfl (by decide +kernel)
set_option maxRecDepth 20000 in
theorem gX3_otherValuesIn_X3_inBoth : GoodIn wsX3_otherValuesIn (wsV RX3 78 RX3 yX3_inBoth wsX3_inBoth) := goodIn_app (goodIn_r _ [1, 2, 3, 4] rfl (by decide +kernel)) ggX3_otherValuesIn_X3_inBoth
theorem dX3_otherValuesIn_0 : decode cX3_otherValuesIn 0 = .ok (.aload_n 0, 1) := by decide +kernel
theorem dX3_otherValuesIn_1 : decode cX3_otherValuesIn 1 = .ok (.aload_n 1, 1) := by decide +kernel
theorem dX3_otherValuesIn_2 : decode cX3_otherValuesIn 2 = .ok (.iconst 1, 1) := by decide +kernel
theorem dX3_otherValuesIn_3 : decode cX3_otherValuesIn 3 = .ok (.invokevirtual 78, 3) := by decide +kernel
theorem dX3_otherValuesIn_6 : decode cX3_otherValuesIn 6 = .ok (.ireturn, 1) := by decide +kernel
set_option maxRecDepth 20000 in
theorem ggX3_inBoth_X3_compareTo : GoodIn wsX3_inBoth wsX3_compareTo := goodIn_r _ [6, 7, 8, 9, 10, 11, 12, 13, 5, 14, 1, 15, 16, 17, 18, 19, 20, 26, 27, 28, 29] rfl (by decide +kernel)
set_option maxRecDepth 20000 in
theorem gX3_inBoth_X3_compareTo : GoodIn wsX3_inBoth (wsV RX3 82 RX3 yX3_compareTo wsX3_compareTo) := goodIn_app (goodIn_r _ [2, 3, 4, 5] rfl (by decide +kernel)) ggX3_inBoth_X3_compareTo
set_option maxRecDepth 20000 in
theorem ggX3_inBoth_X3_valueOf : GoodIn wsX3_inBoth wsX3_valueOf := goodIn_r _ [24, 1, 25, 26, 27, 28, 29] rfl (by decide +kernel)
set_option maxRecDepth 20000 in
theorem gX3_inBoth_X3_valueOf : GoodIn wsX3_inBoth (wsV RX3 72 RX3 yX3_valueOf wsX3_valueOf) := goodIn_app (goodIn_r _ [21, 22, 23, 5] rfl (by decide +kernel)) ggX3_inBoth_X3_valueOf
theorem dX3_inBoth_0 : decode cX3_inBoth 0 = .ok (.iconst 0, 1) := by decide +kernel
theorem dX3_inBoth_1 : decode cX3_inBoth 1 = .ok (.istore_n 3, 1) := by decide +kernel
theorem dX3_inBoth_2 : decode cX3_inBoth 2 = .ok (.iconst 0, 1) := by decide +kernel
theorem dX3_inBoth_3 : decode cX3_inBoth 3 = .ok (.istore 4, 2) := by decide +kernel
theorem dX3_inBoth_5 : decode cX3_inBoth 5 = .ok (.iconst 0, 1) := by decide +kernel
theorem dX3_inBoth_6 : decode cX3_inBoth 6 = .ok (.istore 5, 2) := by decide +kernel
theorem dX3_inBoth_8 : decode cX3_inBoth 8 = .ok (.iload 5, 2) := by decide +kernel
theorem dX3_inBoth_10 : decode cX3_inBoth 10 = .ok (.aload_n 0, 1) := by decide +kernel
theorem dX3_inBoth_11 : decode cX3_inBoth 11 = .ok (.getfield 22, 3) := by decide +kernel
theorem dX3_inBoth_14 : decode cX3_inBoth 14 = .ok (.if_icmp .ge 91, 3) := by decide +kernel
theorem dX3_inBoth_17 : decode cX3_inBoth 17 = .ok (.iload 4, 2) := by decide +kernel
theorem dX3_inBoth_19 : decode cX3_inBoth 19 = .ok (.aload_n 1, 1) := by decide +kernel
theorem dX3_inBoth_20 : decode cX3_inBoth 20 = .ok (.getfield 22, 3) := by decide +kernel
theorem dX3_inBoth_23 : decode cX3_inBoth 23 = .ok (.if_icmp .ge 21, 3) := by decide +kernel
theorem dX3_inBoth_26 : decode cX3_inBoth 26 = .ok (.aload_n 1, 1) := by decide +kernel
theorem dX3_inBoth_27 : decode cX3_inBoth 27 = .ok (.iload 4, 2) := by decide +kernel
theorem dX3_inBoth_29 : decode cX3_inBoth 29 = .ok (.aload_n 0, 1) := by decide +kernel
theorem dX3_inBoth_30 : decode cX3_inBoth 30 = .ok (.iload 5, 2) := by decide +kernel
theorem dX3_inBoth_32 : decode cX3_inBoth 32 = .ok (.invokevirtual 82, 3) := by decide +kernel
theorem dX3_inBoth_35 : decode cX3_inBoth 35 = .ok (.ifCond .ge 9, 3) := by decide +kernel
theorem dX3_inBoth_38 : decode cX3_inBoth 38 = .ok (.iinc 4 1, 3) := by decide +kernel
theorem dX3_inBoth_41 : decode cX3_inBoth 41 = .ok (.goto (-24), 3) := by decide +kernel
theorem dX3_inBoth_44 : decode cX3_inBoth 44 = .ok (.iload 4, 2) := by decide +kernel
theorem dX3_inBoth_46 : decode cX3_inBoth 46 = .ok (.aload_n 1, 1) := by decide +kernel
theorem dX3_inBoth_47 : decode cX3_inBoth 47 = .ok (.getfield 22, 3) := by decide +kernel
theorem dX3_inBoth_50 : decode cX3_inBoth 50 = .ok (.if_icmp .ge 19, 3) := by decide +kernel
theorem dX3_inBoth_53 : decode cX3_inBoth 53 = .ok (.aload_n 1, 1) := by decide +kernel
theorem dX3_inBoth_54 : decode cX3_inBoth 54 = .ok (.iload 4, 2) := by decide +kernel
theorem dX3_inBoth_56 : decode cX3_inBoth 56 = .ok (.aload_n 0, 1) := by decide +kernel
theorem dX3_inBoth_57 : decode cX3_inBoth 57 = .ok (.iload 5, 2) := by decide +kernel
theorem dX3_inBoth_59 : decode cX3_inBoth 59 = .ok (.invokevirtual 82, 3) := by decide +kernel
theorem dX3_inBoth_62 : decode cX3_inBoth 62 = .ok (.ifCond .ne 7, 3) := by decide +kernel
theorem dX3_inBoth_65 : decode cX3_inBoth 65 = .ok (.iconst 1, 1) := by decide +kernel
theorem dX3_inBoth_66 : decode cX3_inBoth 66 = .ok (.goto 4, 3) := by decide +kernel
theorem dX3_inBoth_69 : decode cX3_inBoth 69 = .ok (.iconst 0, 1) := by decide +kernel
theorem dX3_inBoth_70 : decode cX3_inBoth 70 = .ok (.istore 6, 2) := by decide +kernel
theorem dX3_inBoth_72 : decode cX3_inBoth 72 = .ok (.iload 6, 2) := by decide +kernel
theorem dX3_inBoth_74 : decode cX3_inBoth 74 = .ok (.ifCond .eq 25, 3) := by decide +kernel
theorem dX3_inBoth_77 : decode cX3_inBoth 77 = .ok (.iload_n 2, 1) := by decide +kernel
theorem dX3_inBoth_78 : decode cX3_inBoth 78 = .ok (.ifCond .eq 18, 3) := by decide +kernel
theorem dX3_inBoth_81 : decode cX3_inBoth 81 = .ok (.aload_n 1, 1) := by decide +kernel
theorem dX3_inBoth_82 : decode cX3_inBoth 82 = .ok (.iload 4, 2) := by decide +kernel
theorem dX3_inBoth_84 : decode cX3_inBoth 84 = .ok (.invokevirtual 72, 3) := by decide +kernel
theorem dX3_inBoth_87 : decode cX3_inBoth 87 = .ok (.aload_n 0, 1) := by decide +kernel
theorem dX3_inBoth_88 : decode cX3_inBoth 88 = .ok (.iload 5, 2) := by decide +kernel
theorem dX3_inBoth_90 : decode cX3_inBoth 90 = .ok (.invokevirtual 72, 3) := by decide +kernel
theorem dX3_inBoth_93 : decode cX3_inBoth 93 = .ok (.if_icmp .eq 6, 3) := by decide +kernel
theorem dX3_inBoth_96 : decode cX3_inBoth 96 = .ok (.iinc 3 1, 3) := by decide +kernel
theorem dX3_inBoth_99 : decode cX3_inBoth 99 = .ok (.iinc 5 1, 3) := by decide +kernel
theorem dX3_inBoth_102 : decode cX3_inBoth 102 = .ok (.goto (-94), 3) := by decide +kernel
theorem dX3_inBoth_105 : decode cX3_inBoth 105 = .ok (.iload_n 3, 1) := by decide +kernel
theorem dX3_inBoth_106 : decode cX3_inBoth 106 = .ok (.ireturn, 1) := by decide +kernel
theorem dX4_init_0 : decode cX4_init 0 = .ok (.aload_n 0, 1) := by decide +kernel
theorem dX4_init_1 : decode cX4_init 1 = .ok (.invokespecial 3, 3) := by decide +kernel
theorem dX4_init_4 : decode cX4_init 4 = .ok (.aload_n 0, 1) := by decide +kernel
theorem dX4_init_5 : decode cX4_init 5 = .ok (.aload_n 1, 1) := by decide +kernel
theorem dX4_init_6 : decode cX4_init 6 = .ok (.putfield 9, 3) := by decide +kernel
theorem dX4_init_9 : decode cX4_init 9 = .ok (.aload_n 0, 1) := by decide +kernel
theorem dX4_init_10 : decode cX4_init 10 = .ok (.iconst 0, 1) := by decide +kernel
theorem dX4_init_11 : decode cX4_init 11 = .ok (.putfield 15, 3) := by decide +kernel
theorem dX4_init_14 : decode cX4_init 14 = .ok (.aload_n 0, 1) := by decide +kernel
theorem dX4_init_15 : decode cX4_init 15 = .ok (.iconst 0, 1) := by decide +kernel
theorem dX4_init_16 : decode cX4_init 16 = .ok (.putfield 19, 3) := by decide +kernel
theorem dX4_init_19 : decode cX4_init 19 = .ok (.aload_n 0, 1) := by decide +kernel
theorem dX4_init_20 : decode cX4_init 20 = .ok (.iconst 0, 1) := by decide +kernel
theorem dX4_init_21 : decode cX4_init 21 = .ok (.putfield 22, 3) := by decide +kernel
theorem dX4_init_24 : decode cX4_init 24 = .ok (.return_, 1) := by decide +kernel
set_option maxRecDepth 20000 in
theorem ggX4_goTo_X10_depthOf : GoodIn wsX4_goTo wsX10_depthOf := goodIn_r _ [11, 12, 13, 14, 15, 16, 17, 18, 10, 19, 20, 21, 22, 35, 36, 37, 38, 39, 40, 41, 42, 43, 44, 45, 46, 47] rfl (by decide +kernel)
set_option maxRecDepth 20000 in
theorem gX4_goTo_X10_depthOf : GoodIn wsX4_goTo (wsV RX4 36 RX10 yX10_depthOf wsX10_depthOf) := goodIn_app (goodIn_r _ [7, 8, 9, 10] rfl (by decide +kernel)) ggX4_goTo_X10_depthOf
set_option maxRecDepth 20000 in
theorem ggX4_goTo_X10_sharedAt : GoodIn wsX4_goTo wsX10_sharedAt := goodIn_r _ [19, 20, 21, 22, 35, 36, 37, 38, 39, 40, 41, 42, 43, 44, 45, 46, 47] rfl (by decide +kernel)
set_option maxRecDepth 20000 in
theorem gX4_goTo_X10_sharedAt : GoodIn wsX4_goTo (wsV RX4 40 RX10 yX10_sharedAt wsX10_sharedAt) := goodIn_app (goodIn_r _ [23, 17, 18, 10] rfl (by decide +kernel)) ggX4_goTo_X10_sharedAt
set_option maxRecDepth 20000 in
theorem ggX4_goTo_X10_layerEnd : GoodIn wsX4_goTo wsX10_layerEnd := goodIn_r _ [27, 20, 21, 28, 29, 14, 30, 16, 17, 18, 10, 19, 22, 35, 36, 37, 38, 39, 40, 41, 42, 43, 44, 45, 46, 47] rfl (by decide +kernel)
set_option maxRecDepth 20000 in
theorem gX4_goTo_X10_layerEnd : GoodIn wsX4_goTo (wsV RX4 43 RX10 yX10_layerEnd wsX10_layerEnd) := goodIn_app (goodIn_r _ [24, 25, 26, 10] rfl (by decide +kernel)) ggX4_goTo_X10_layerEnd
theorem dX4_goTo_0 : decode cX4_goTo 0 = .ok (.iload_n 1, 1) := by decide +kernel
theorem dX4_goTo_1 : decode cX4_goTo 1 = .ok (.ifCond .ne 7, 3) := by decide +kernel
theorem dX4_goTo_4 : decode cX4_goTo 4 = .ok (.iconst 1, 1) := by decide +kernel
theorem dX4_goTo_5 : decode cX4_goTo 5 = .ok (.goto 4, 3) := by decide +kernel
theorem dX4_goTo_8 : decode cX4_goTo 8 = .ok (.iconst 0, 1) := by decide +kernel
theorem dX4_goTo_9 : decode cX4_goTo 9 = .ok (.istore_n 2, 1) := by decide +kernel
theorem dX4_goTo_10 : decode cX4_goTo 10 = .ok (.iload_n 1, 1) := by decide +kernel
theorem dX4_goTo_11 : decode cX4_goTo 11 = .ok (.istore_n 3, 1) := by decide +kernel
theorem dX4_goTo_12 : decode cX4_goTo 12 = .ok (.aload_n 0, 1) := by decide +kernel
theorem dX4_goTo_13 : decode cX4_goTo 13 = .ok (.iconst 0, 1) := by decide +kernel
theorem dX4_goTo_14 : decode cX4_goTo 14 = .ok (.putfield 15, 3) := by decide +kernel
theorem dX4_goTo_17 : decode cX4_goTo 17 = .ok (.aload_n 0, 1) := by decide +kernel
theorem dX4_goTo_18 : decode cX4_goTo 18 = .ok (.iconst 0, 1) := by decide +kernel
theorem dX4_goTo_19 : decode cX4_goTo 19 = .ok (.putfield 19, 3) := by decide +kernel
theorem dX4_goTo_22 : decode cX4_goTo 22 = .ok (.iconst 0, 1) := by decide +kernel
theorem dX4_goTo_23 : decode cX4_goTo 23 = .ok (.istore 4, 2) := by decide +kernel
theorem dX4_goTo_25 : decode cX4_goTo 25 = .ok (.iload 4, 2) := by decide +kernel
theorem dX4_goTo_27 : decode cX4_goTo 27 = .ok (.aload_n 0, 1) := by decide +kernel
theorem dX4_goTo_28 : decode cX4_goTo 28 = .ok (.getfield 9, 3) := by decide +kernel
theorem dX4_goTo_31 : decode cX4_goTo 31 = .ok (.getfield 25, 3) := by decide +kernel
theorem dX4_goTo_34 : decode cX4_goTo 34 = .ok (.getfield 31, 3) := by decide +kernel
theorem dX4_goTo_37 : decode cX4_goTo 37 = .ok (.if_icmp .ge 68, 3) := by decide +kernel
theorem dX4_goTo_40 : decode cX4_goTo 40 = .ok (.iload_n 3, 1) := by decide +kernel
theorem dX4_goTo_41 : decode cX4_goTo 41 = .ok (.ifCond .le 64, 3) := by decide +kernel
theorem dX4_goTo_44 : decode cX4_goTo 44 = .ok (.aload_n 0, 1) := by decide +kernel
theorem dX4_goTo_45 : decode cX4_goTo 45 = .ok (.getfield 9, 3) := by decide +kernel
theorem dX4_goTo_48 : decode cX4_goTo 48 = .ok (.iload 4, 2) := by decide +kernel
theorem dX4_goTo_50 : decode cX4_goTo 50 = .ok (.invokevirtual 36, 3) := by decide +kernel
theorem dX4_goTo_53 : decode cX4_goTo 53 = .ok (.aload_n 0, 1) := by decide +kernel
theorem dX4_goTo_54 : decode cX4_goTo 54 = .ok (.getfield 9, 3) := by decide +kernel
theorem dX4_goTo_57 : decode cX4_goTo 57 = .ok (.iload 4, 2) := by decide +kernel
theorem dX4_goTo_59 : decode cX4_goTo 59 = .ok (.invokevirtual 40, 3) := by decide +kernel
theorem dX4_goTo_62 : decode cX4_goTo 62 = .ok (.isub, 1) := by decide +kernel
theorem dX4_goTo_63 : decode cX4_goTo 63 = .ok (.istore 5, 2) := by decide +kernel
theorem dX4_goTo_65 : decode cX4_goTo 65 = .ok (.iload_n 3, 1) := by decide +kernel
theorem dX4_goTo_66 : decode cX4_goTo 66 = .ok (.iload 5, 2) := by decide +kernel
theorem dX4_goTo_68 : decode cX4_goTo 68 = .ok (.if_icmp .gt 26, 3) := by decide +kernel
theorem dX4_goTo_71 : decode cX4_goTo 71 = .ok (.aload_n 0, 1) := by decide +kernel
theorem dX4_goTo_72 : decode cX4_goTo 72 = .ok (.iload 4, 2) := by decide +kernel
theorem dX4_goTo_74 : decode cX4_goTo 74 = .ok (.putfield 15, 3) := by decide +kernel
theorem dX4_goTo_77 : decode cX4_goTo 77 = .ok (.aload_n 0, 1) := by decide +kernel
theorem dX4_goTo_78 : decode cX4_goTo 78 = .ok (.aload_n 0, 1) := by decide +kernel
theorem dX4_goTo_79 : decode cX4_goTo 79 = .ok (.getfield 9, 3) := by decide +kernel
theorem dX4_goTo_82 : decode cX4_goTo 82 = .ok (.iload 4, 2) := by decide +kernel
theorem dX4_goTo_84 : decode cX4_goTo 84 = .ok (.invokevirtual 40, 3) := by decide +kernel
theorem dX4_goTo_87 : decode cX4_goTo 87 = .ok (.iload_n 3, 1) := by decide +kernel
theorem dX4_goTo_88 : decode cX4_goTo 88 = .ok (.iadd, 1) := by decide +kernel
theorem dX4_goTo_89 : decode cX4_goTo 89 = .ok (.putfield 19, 3) := by decide +kernel
theorem dX4_goTo_92 : decode cX4_goTo 92 = .ok (.iconst 1, 1) := by decide +kernel
theorem dX4_goTo_93 : decode cX4_goTo 93 = .ok (.istore_n 2, 1) := by decide +kernel
theorem dX4_goTo_94 : decode cX4_goTo 94 = .ok (.iload_n 3, 1) := by decide +kernel
theorem dX4_goTo_95 : decode cX4_goTo 95 = .ok (.iload 5, 2) := by decide +kernel
theorem dX4_goTo_97 : decode cX4_goTo 97 = .ok (.isub, 1) := by decide +kernel
theorem dX4_goTo_98 : decode cX4_goTo 98 = .ok (.istore_n 3, 1) := by decide +kernel
theorem dX4_goTo_99 : decode cX4_goTo 99 = .ok (.iinc 4 1, 3) := by decide +kernel
theorem dX4_goTo_102 : decode cX4_goTo 102 = .ok (.goto (-77), 3) := by decide +kernel
theorem dX4_goTo_105 : decode cX4_goTo 105 = .ok (.aload_n 0, 1) := by decide +kernel
theorem dX4_goTo_106 : decode cX4_goTo 106 = .ok (.aload_n 0, 1) := by decide +kernel
theorem dX4_goTo_107 : decode cX4_goTo 107 = .ok (.getfield 9, 3) := by decide +kernel
theorem dX4_goTo_110 : decode cX4_goTo 110 = .ok (.aload_n 0, 1) := by decide +kernel
theorem dX4_goTo_111 : decode cX4_goTo 111 = .ok (.getfield 15, 3) := by decide +kernel
theorem dX4_goTo_114 : decode cX4_goTo 114 = .ok (.aload_n 0, 1) := by decide +kernel
theorem dX4_goTo_115 : decode cX4_goTo 115 = .ok (.getfield 19, 3) := by decide +kernel
theorem dX4_goTo_118 : decode cX4_goTo 118 = .ok (.invokevirtual 43, 3) := by decide +kernel
theorem dX4_goTo_121 : decode cX4_goTo 121 = .ok (.putfield 22, 3) := by decide +kernel
theorem dX4_goTo_124 : decode cX4_goTo 124 = .ok (.iload_n 2, 1) := by decide +kernel
theorem dX4_goTo_125 : decode cX4_goTo 125 = .ok (.ireturn, 1) := by decide +kernel
theorem dX4_beginningBytes_0 : decode cX4_beginningBytes 0 = .ok (.aload_n 0, 1) := by decide +kernel
theorem dX4_beginningBytes_1 : decode cX4_beginningBytes 1 = .ok (.getfield 19, 3) := by decide +kernel
theorem dX4_beginningBytes_4 : decode cX4_beginningBytes 4 = .ok (.aload_n 0, 1) := by decide +kernel
theorem dX4_beginningBytes_5 : decode cX4_beginningBytes 5 = .ok (.getfield 9, 3) := by decide +kernel
theorem dX4_beginningBytes_8 : decode cX4_beginningBytes 8 = .ok (.getfield 47, 3) := by decide +kernel
theorem dX4_beginningBytes_11 : decode cX4_beginningBytes 11 = .ok (.imul, 1) := by decide +kernel
theorem dX4_beginningBytes_12 : decode cX4_beginningBytes 12 = .ok (.ireturn, 1) := by decide +kernel
theorem dX4_keys_0 : decode cX4_keys 0 = .ok (.aload_n 0, 1) := by decide +kernel
theorem dX4_keys_1 : decode cX4_keys 1 = .ok (.getfield 22, 3) := by decide +kernel
theorem dX4_keys_4 : decode cX4_keys 4 = .ok (.aload_n 0, 1) := by decide +kernel
theorem dX4_keys_5 : decode cX4_keys 5 = .ok (.getfield 15, 3) := by decide +kernel
theorem dX4_keys_8 : decode cX4_keys 8 = .ok (.isub, 1) := by decide +kernel
theorem dX4_keys_9 : decode cX4_keys 9 = .ok (.ireturn, 1) := by decide +kernel
set_option maxRecDepth 20000 in
theorem ggX4_entries_X4_isEntryStart : GoodIn wsX4_entries wsX4_isEntryStart := goodIn_r _ [7, 1, 8, 9, 10, 11, 12, 13, 14, 15, 16, 17, 18, 19, 20, 21, 22, 23, 24, 25, 26, 27, 28, 29, 30, 31, 32, 33, 34] rfl (by decide +kernel)
set_option maxRecDepth 20000 in
theorem gX4_entries_X4_isEntryStart : GoodIn wsX4_entries (wsV RX4 50 RX4 yX4_isEntryStart wsX4_isEntryStart) := goodIn_app (goodIn_r _ [3, 4, 5, 6] rfl (by decide +kernel)) ggX4_entries_X4_isEntryStart
theorem dX4_entries_0 : decode cX4_entries 0 = .ok (.iconst 0, 1) := by decide +kernel
theorem dX4_entries_1 : decode cX4_entries 1 = .ok (.istore_n 1, 1) := by decide +kernel
theorem dX4_entries_2 : decode cX4_entries 2 = .ok (.aload_n 0, 1) := by decide +kernel
theorem dX4_entries_3 : decode cX4_entries 3 = .ok (.getfield 15, 3) := by decide +kernel
theorem dX4_entries_6 : decode cX4_entries 6 = .ok (.istore_n 2, 1) := by decide +kernel
theorem dX4_entries_7 : decode cX4_entries 7 = .ok (.iload_n 2, 1) := by decide +kernel
theorem dX4_entries_8 : decode cX4_entries 8 = .ok (.aload_n 0, 1) := by decide +kernel
theorem dX4_entries_9 : decode cX4_entries 9 = .ok (.getfield 22, 3) := by decide +kernel
theorem dX4_entries_12 : decode cX4_entries 12 = .ok (.if_icmp .ge 25, 3) := by decide +kernel
theorem dX4_entries_15 : decode cX4_entries 15 = .ok (.iload_n 1, 1) := by decide +kernel
theorem dX4_entries_16 : decode cX4_entries 16 = .ok (.aload_n 0, 1) := by decide +kernel
theorem dX4_entries_17 : decode cX4_entries 17 = .ok (.iload_n 2, 1) := by decide +kernel
theorem dX4_entries_18 : decode cX4_entries 18 = .ok (.invokevirtual 50, 3) := by decide +kernel
theorem dX4_entries_21 : decode cX4_entries 21 = .ok (.ifCond .eq 7, 3) := by decide +kernel
theorem dX4_entries_24 : decode cX4_entries 24 = .ok (.iconst 1, 1) := by decide +kernel
theorem dX4_entries_25 : decode cX4_entries 25 = .ok (.goto 4, 3) := by decide +kernel
theorem dX4_entries_28 : decode cX4_entries 28 = .ok (.iconst 0, 1) := by decide +kernel
theorem dX4_entries_29 : decode cX4_entries 29 = .ok (.iadd, 1) := by decide +kernel
theorem dX4_entries_30 : decode cX4_entries 30 = .ok (.istore_n 1, 1) := by decide +kernel
theorem dX4_entries_31 : decode cX4_entries 31 = .ok (.iinc 2 1, 3) := by decide +kernel
theorem dX4_entries_34 : decode cX4_entries 34 = .ok (.goto (-27), 3) := by decide +kernel
theorem dX4_entries_37 : decode cX4_entries 37 = .ok (.iload_n 1, 1) := by decide +kernel
theorem dX4_entries_38 : decode cX4_entries 38 = .ok (.ireturn, 1) := by decide +kernel
set_option maxRecDepth 20000 in
theorem ggX4_isEntryStart_X10_sharedAt : GoodIn wsX4_isEntryStart wsX10_sharedAt := goodIn_r _ [8, 9, 10, 11, 16, 17, 18, 19, 20, 21, 22, 23, 24, 25, 26, 27, 28] rfl (by decide +kernel)
set_option maxRecDepth 20000 in
theorem gX4_isEntryStart_X10_sharedAt : GoodIn wsX4_isEntryStart (wsV RX4 40 RX10 yX10_sharedAt wsX10_sharedAt) := goodIn_app (goodIn_r _ [4, 5, 6, 7] rfl (by decide +kernel)) ggX4_isEntryStart_X10_sharedAt
theorem dX4_isEntryStart_0 : decode cX4_isEntryStart 0 = .ok (.iload_n 1, 1) := by decide +kernel
theorem dX4_isEntryStart_1 : decode cX4_isEntryStart 1 = .ok (.aload_n 0, 1) := by decide +kernel
theorem dX4_isEntryStart_2 : decode cX4_isEntryStart 2 = .ok (.getfield 15, 3) := by decide +kernel
theorem dX4_isEntryStart_5 : decode cX4_isEntryStart 5 = .ok (.if_icmp .eq 18, 3) := by decide +kernel
theorem dX4_isEntryStart_8 : decode cX4_isEntryStart 8 = .ok (.aload_n 0, 1) := by decide +kernel
theorem dX4_isEntryStart_9 : decode cX4_isEntryStart 9 = .ok (.getfield 9, 3) := by decide +kernel
theorem dX4_isEntryStart_12 : decode cX4_isEntryStart 12 = .ok (.iload_n 1, 1) := by decide +kernel
theorem dX4_isEntryStart_13 : decode cX4_isEntryStart 13 = .ok (.invokevirtual 40, 3) := by decide +kernel
theorem dX4_isEntryStart_16 : decode cX4_isEntryStart 16 = .ok (.aload_n 0, 1) := by decide +kernel
theorem dX4_isEntryStart_17 : decode cX4_isEntryStart 17 = .ok (.getfield 19, 3) := by decide +kernel
theorem dX4_isEntryStart_20 : decode cX4_isEntryStart 20 = .ok (.if_icmp .ne 7, 3) := by decide +kernel
theorem dX4_isEntryStart_23 : decode cX4_isEntryStart 23 = .ok (.iconst 1, 1) := by decide +kernel
theorem dX4_isEntryStart_24 : decode cX4_isEntryStart 24 = .ok (.goto 4, 3) := by decide +kernel
theorem dX4_isEntryStart_27 : decode cX4_isEntryStart 27 = .ok (.iconst 0, 1) := by decide +kernel
theorem dX4_isEntryStart_28 : decode cX4_isEntryStart 28 = .ok (.ireturn, 1) := by decide +kernel
set_option maxRecDepth 20000 in
theorem ggX4_isPageStart_X10_sharedAt : GoodIn wsX4_isPageStart wsX10_sharedAt := goodIn_r _ [8, 9, 10, 11, 21, 22, 23, 24, 25, 26, 27, 28, 29, 30, 31, 32, 33] rfl (by decide +kernel)
set_option maxRecDepth 20000 in
theorem gX4_isPageStart_X10_sharedAt : GoodIn wsX4_isPageStart (wsV RX4 40 RX10 yX10_sharedAt wsX10_sharedAt) := goodIn_app (goodIn_r _ [4, 5, 6, 7] rfl (by decide +kernel)) ggX4_isPageStart_X10_sharedAt
set_option maxRecDepth 20000 in
theorem ggX4_isPageStart_X10_opensAt : GoodIn wsX4_isPageStart wsX10_opensAt := goodIn_r _ [15, 9, 10, 16, 21, 22, 23, 24, 25, 26, 27, 28, 29, 30, 31, 32, 33] rfl (by decide +kernel)
set_option maxRecDepth 20000 in
theorem gX4_isPageStart_X10_opensAt : GoodIn wsX4_isPageStart (wsV RX4 54 RX10 yX10_opensAt wsX10_opensAt) := goodIn_app (goodIn_r _ [12, 13, 14, 7] rfl (by decide +kernel)) ggX4_isPageStart_X10_opensAt
theorem dX4_isPageStart_0 : decode cX4_isPageStart 0 = .ok (.iload_n 1, 1) := by decide +kernel
theorem dX4_isPageStart_1 : decode cX4_isPageStart 1 = .ok (.aload_n 0, 1) := by decide +kernel
theorem dX4_isPageStart_2 : decode cX4_isPageStart 2 = .ok (.getfield 15, 3) := by decide +kernel
theorem dX4_isPageStart_5 : decode cX4_isPageStart 5 = .ok (.if_icmp .eq 29, 3) := by decide +kernel
theorem dX4_isPageStart_8 : decode cX4_isPageStart 8 = .ok (.aload_n 0, 1) := by decide +kernel
theorem dX4_isPageStart_9 : decode cX4_isPageStart 9 = .ok (.getfield 9, 3) := by decide +kernel
theorem dX4_isPageStart_12 : decode cX4_isPageStart 12 = .ok (.iload_n 1, 1) := by decide +kernel
theorem dX4_isPageStart_13 : decode cX4_isPageStart 13 = .ok (.invokevirtual 40, 3) := by decide +kernel
theorem dX4_isPageStart_16 : decode cX4_isPageStart 16 = .ok (.aload_n 0, 1) := by decide +kernel
theorem dX4_isPageStart_17 : decode cX4_isPageStart 17 = .ok (.getfield 19, 3) := by decide +kernel
theorem dX4_isPageStart_20 : decode cX4_isPageStart 20 = .ok (.if_icmp .ne 18, 3) := by decide +kernel
theorem dX4_isPageStart_23 : decode cX4_isPageStart 23 = .ok (.aload_n 0, 1) := by decide +kernel
theorem dX4_isPageStart_24 : decode cX4_isPageStart 24 = .ok (.getfield 9, 3) := by decide +kernel
theorem dX4_isPageStart_27 : decode cX4_isPageStart 27 = .ok (.iload_n 1, 1) := by decide +kernel
theorem dX4_isPageStart_28 : decode cX4_isPageStart 28 = .ok (.invokevirtual 54, 3) := by decide +kernel
theorem dX4_isPageStart_31 : decode cX4_isPageStart 31 = .ok (.ifCond .eq 7, 3) := by decide +kernel
theorem dX4_isPageStart_34 : decode cX4_isPageStart 34 = .ok (.iconst 1, 1) := by decide +kernel
theorem dX4_isPageStart_35 : decode cX4_isPageStart 35 = .ok (.goto 4, 3) := by decide +kernel
theorem dX4_isPageStart_38 : decode cX4_isPageStart 38 = .ok (.iconst 0, 1) := by decide +kernel
theorem dX4_isPageStart_39 : decode cX4_isPageStart 39 = .ok (.ireturn, 1) := by decide +kernel
set_option maxRecDepth 20000 in
theorem ggX4_pages_X4_pageOf : GoodIn wsX4_pages wsX4_pageOf := goodIn_r _ [7, 2, 8, 9, 10, 6, 11, 12, 13, 14, 15, 16, 17, 18, 19, 20, 21, 22, 23, 24, 25, 26, 27, 28, 29, 30, 31, 32, 33, 34, 35, 36, 37, 38, 39, 40, 41, 42, 43] rfl (by decide +kernel)
set_option maxRecDepth 20000 in
theorem gX4_pages_X4_pageOf : GoodIn wsX4_pages (wsV RX4 57 RX4 yX4_pageOf wsX4_pageOf) := goodIn_app (goodIn_r _ [3, 4, 5, 6] rfl (by decide +kernel)) ggX4_pages_X4_pageOf
theorem dX4_pages_0 : decode cX4_pages 0 = .ok (.aload_n 0, 1) := by decide +kernel
theorem dX4_pages_1 : decode cX4_pages 1 = .ok (.getfield 22, 3) := by decide +kernel
theorem dX4_pages_4 : decode cX4_pages 4 = .ok (.aload_n 0, 1) := by decide +kernel
theorem dX4_pages_5 : decode cX4_pages 5 = .ok (.getfield 15, 3) := by decide +kernel
theorem dX4_pages_8 : decode cX4_pages 8 = .ok (.if_icmp .le 18, 3) := by decide +kernel
theorem dX4_pages_11 : decode cX4_pages 11 = .ok (.aload_n 0, 1) := by decide +kernel
theorem dX4_pages_12 : decode cX4_pages 12 = .ok (.aload_n 0, 1) := by decide +kernel
theorem dX4_pages_13 : decode cX4_pages 13 = .ok (.getfield 22, 3) := by decide +kernel
theorem dX4_pages_16 : decode cX4_pages 16 = .ok (.iconst 1, 1) := by decide +kernel
theorem dX4_pages_17 : decode cX4_pages 17 = .ok (.isub, 1) := by decide +kernel
theorem dX4_pages_18 : decode cX4_pages 18 = .ok (.invokevirtual 57, 3) := by decide +kernel
theorem dX4_pages_21 : decode cX4_pages 21 = .ok (.iconst 1, 1) := by decide +kernel
theorem dX4_pages_22 : decode cX4_pages 22 = .ok (.iadd, 1) := by decide +kernel
theorem dX4_pages_23 : decode cX4_pages 23 = .ok (.goto 4, 3) := by decide +kernel
theorem dX4_pages_26 : decode cX4_pages 26 = .ok (.iconst 0, 1) := by decide +kernel
theorem dX4_pages_27 : decode cX4_pages 27 = .ok (.ireturn, 1) := by decide +kernel
set_option maxRecDepth 20000 in
theorem ggX4_pageOf_X4_isPageStart : GoodIn wsX4_pageOf wsX4_isPageStart := goodIn_r _ [6, 1, 7, 8, 9, 10, 11, 12, 13, 14, 15, 16, 17, 18, 19, 20, 21, 22, 23, 24, 25, 26, 27, 28, 29, 30, 31, 32, 33, 34, 35, 36, 37, 38] rfl (by decide +kernel)
set_option maxRecDepth 20000 in
theorem gX4_pageOf_X4_isPageStart : GoodIn wsX4_pageOf (wsV RX4 60 RX4 yX4_isPageStart wsX4_isPageStart) := goodIn_app (goodIn_r _ [2, 3, 4, 5] rfl (by decide +kernel)) ggX4_pageOf_X4_isPageStart
theorem dX4_pageOf_0 : decode cX4_pageOf 0 = .ok (.iconst (-1), 1) := by decide +kernel
theorem dX4_pageOf_1 : decode cX4_pageOf 1 = .ok (.istore_n 2, 1) := by decide +kernel
theorem dX4_pageOf_2 : decode cX4_pageOf 2 = .ok (.aload_n 0, 1) := by decide +kernel
theorem dX4_pageOf_3 : decode cX4_pageOf 3 = .ok (.getfield 15, 3) := by decide +kernel
theorem dX4_pageOf_6 : decode cX4_pageOf 6 = .ok (.istore_n 3, 1) := by decide +kernel
theorem dX4_pageOf_7 : decode cX4_pageOf 7 = .ok (.iload_n 3, 1) := by decide +kernel
theorem dX4_pageOf_8 : decode cX4_pageOf 8 = .ok (.iload_n 1, 1) := by decide +kernel
theorem dX4_pageOf_9 : decode cX4_pageOf 9 = .ok (.if_icmp .gt 25, 3) := by decide +kernel
theorem dX4_pageOf_12 : decode cX4_pageOf 12 = .ok (.iload_n 2, 1) := by decide +kernel
theorem dX4_pageOf_13 : decode cX4_pageOf 13 = .ok (.aload_n 0, 1) := by decide +kernel
theorem dX4_pageOf_14 : decode cX4_pageOf 14 = .ok (.iload_n 3, 1) := by decide +kernel
theorem dX4_pageOf_15 : decode cX4_pageOf 15 = .ok (.invokevirtual 60, 3) := by decide +kernel
theorem dX4_pageOf_18 : decode cX4_pageOf 18 = .ok (.ifCond .eq 7, 3) := by decide +kernel
theorem dX4_pageOf_21 : decode cX4_pageOf 21 = .ok (.iconst 1, 1) := by decide +kernel
theorem dX4_pageOf_22 : decode cX4_pageOf 22 = .ok (.goto 4, 3) := by decide +kernel
theorem dX4_pageOf_25 : decode cX4_pageOf 25 = .ok (.iconst 0, 1) := by decide +kernel
theorem dX4_pageOf_26 : decode cX4_pageOf 26 = .ok (.iadd, 1) := by decide +kernel
theorem dX4_pageOf_27 : decode cX4_pageOf 27 = .ok (.istore_n 2, 1) := by decide +kernel
theorem dX4_pageOf_28 : decode cX4_pageOf 28 = .ok (.iinc 3 1, 3) := by decide +kernel
theorem dX4_pageOf_31 : decode cX4_pageOf 31 = .ok (.goto (-24), 3) := by decide +kernel
theorem dX4_pageOf_34 : decode cX4_pageOf 34 = .ok (.iload_n 2, 1) := by decide +kernel
theorem dX4_pageOf_35 : decode cX4_pageOf 35 = .ok (.ireturn, 1) := by decide +kernel
set_option maxRecDepth 20000 in
theorem ggX4_entriesOfPage_X4_isPageStart : GoodIn wsX4_entriesOfPage wsX4_isPageStart := goodIn_r _ [9, 1, 3, 4, 10, 11, 12, 13, 14, 15, 16, 17, 18, 19, 20, 21, 22, 32, 33, 34, 35, 36, 37, 38, 39, 40, 41, 42, 43, 44, 45, 46, 47, 48] rfl (by decide +kernel)
set_option maxRecDepth 20000 in
theorem gX4_entriesOfPage_X4_isPageStart : GoodIn wsX4_entriesOfPage (wsV RX4 60 RX4 yX4_isPageStart wsX4_isPageStart) := goodIn_app (goodIn_r _ [5, 6, 7, 8] rfl (by decide +kernel)) ggX4_entriesOfPage_X4_isPageStart
set_option maxRecDepth 20000 in
theorem ggX4_entriesOfPage_X10_entriesFrom : GoodIn wsX4_entriesOfPage wsX10_entriesFrom := goodIn_r _ [26, 15, 16, 27, 28, 29, 13, 30, 17, 22, 31, 11, 12, 14, 36, 37, 38, 39, 40, 41, 42, 43, 44, 45, 46, 47, 48] rfl (by decide +kernel)
set_option maxRecDepth 20000 in
theorem gX4_entriesOfPage_X10_entriesFrom : GoodIn wsX4_entriesOfPage (wsV RX4 63 RX10 yX10_entriesFrom wsX10_entriesFrom) := goodIn_app (goodIn_r _ [23, 24, 25, 13] rfl (by decide +kernel)) ggX4_entriesOfPage_X10_entriesFrom
theorem dX4_entriesOfPage_0 : decode cX4_entriesOfPage 0 = .ok (.iload_n 1, 1) := by decide +kernel
theorem dX4_entriesOfPage_1 : decode cX4_entriesOfPage 1 = .ok (.istore_n 2, 1) := by decide +kernel
theorem dX4_entriesOfPage_2 : decode cX4_entriesOfPage 2 = .ok (.aload_n 0, 1) := by decide +kernel
theorem dX4_entriesOfPage_3 : decode cX4_entriesOfPage 3 = .ok (.getfield 15, 3) := by decide +kernel
theorem dX4_entriesOfPage_6 : decode cX4_entriesOfPage 6 = .ok (.istore_n 3, 1) := by decide +kernel
theorem dX4_entriesOfPage_7 : decode cX4_entriesOfPage 7 = .ok (.iload_n 3, 1) := by decide +kernel
theorem dX4_entriesOfPage_8 : decode cX4_entriesOfPage 8 = .ok (.aload_n 0, 1) := by decide +kernel
theorem dX4_entriesOfPage_9 : decode cX4_entriesOfPage 9 = .ok (.getfield 22, 3) := by decide +kernel
theorem dX4_entriesOfPage_12 : decode cX4_entriesOfPage 12 = .ok (.if_icmp .ge 37, 3) := by decide +kernel
theorem dX4_entriesOfPage_15 : decode cX4_entriesOfPage 15 = .ok (.aload_n 0, 1) := by decide +kernel
theorem dX4_entriesOfPage_16 : decode cX4_entriesOfPage 16 = .ok (.iload_n 3, 1) := by decide +kernel
theorem dX4_entriesOfPage_17 : decode cX4_entriesOfPage 17 = .ok (.invokevirtual 60, 3) := by decide +kernel
theorem dX4_entriesOfPage_20 : decode cX4_entriesOfPage 20 = .ok (.ifCond .eq 23, 3) := by decide +kernel
theorem dX4_entriesOfPage_23 : decode cX4_entriesOfPage 23 = .ok (.iload_n 2, 1) := by decide +kernel
theorem dX4_entriesOfPage_24 : decode cX4_entriesOfPage 24 = .ok (.ifCond .ne 16, 3) := by decide +kernel
theorem dX4_entriesOfPage_27 : decode cX4_entriesOfPage 27 = .ok (.aload_n 0, 1) := by decide +kernel
theorem dX4_entriesOfPage_28 : decode cX4_entriesOfPage 28 = .ok (.getfield 9, 3) := by decide +kernel
theorem dX4_entriesOfPage_31 : decode cX4_entriesOfPage 31 = .ok (.iload_n 3, 1) := by decide +kernel
theorem dX4_entriesOfPage_32 : decode cX4_entriesOfPage 32 = .ok (.aload_n 0, 1) := by decide +kernel
theorem dX4_entriesOfPage_33 : decode cX4_entriesOfPage 33 = .ok (.getfield 19, 3) := by decide +kernel
theorem dX4_entriesOfPage_36 : decode cX4_entriesOfPage 36 = .ok (.invokevirtual 63, 3) := by decide +kernel
theorem dX4_entriesOfPage_39 : decode cX4_entriesOfPage 39 = .ok (.ireturn, 1) := by decide +kernel
theorem dX4_entriesOfPage_40 : decode cX4_entriesOfPage 40 = .ok (.iinc 2 (-1), 3) := by decide +kernel
theorem dX4_entriesOfPage_43 : decode cX4_entriesOfPage 43 = .ok (.iinc 3 1, 3) := by decide +kernel
theorem dX4_entriesOfPage_46 : decode cX4_entriesOfPage 46 = .ok (.goto (-39), 3) := by decide +kernel
theorem dX4_entriesOfPage_49 : decode cX4_entriesOfPage 49 = .ok (.bipush (-4), 2) := by decide +kernel
theorem dX4_entriesOfPage_51 : decode cX4_entriesOfPage 51 = .ok (.ireturn, 1) := by decide +kernel
set_option maxRecDepth 20000 in
theorem ggX4_entryAt_X4_isEntryStart : GoodIn wsX4_entryAt wsX4_isEntryStart := goodIn_r _ [7, 1, 8, 9, 10, 11, 12, 13, 14, 15, 16, 17, 18, 19, 20, 21, 22, 23, 24, 25, 26, 27, 28, 29, 30, 31, 32, 33, 34] rfl (by decide +kernel)
set_option maxRecDepth 20000 in
theorem gX4_entryAt_X4_isEntryStart : GoodIn wsX4_entryAt (wsV RX4 50 RX4 yX4_isEntryStart wsX4_isEntryStart) := goodIn_app (goodIn_r _ [3, 4, 5, 6] rfl (by decide +kernel)) ggX4_entryAt_X4_isEntryStart
theorem dX4_entryAt_0 : decode cX4_entryAt 0 = .ok (.iload_n 1, 1) := by decide +kernel
theorem dX4_entryAt_1 : decode cX4_entryAt 1 = .ok (.istore_n 2, 1) := by decide +kernel
theorem dX4_entryAt_2 : decode cX4_entryAt 2 = .ok (.aload_n 0, 1) := by decide +kernel
theorem dX4_entryAt_3 : decode cX4_entryAt 3 = .ok (.getfield 15, 3) := by decide +kernel
theorem dX4_entryAt_6 : decode cX4_entryAt 6 = .ok (.istore_n 3, 1) := by decide +kernel
theorem dX4_entryAt_7 : decode cX4_entryAt 7 = .ok (.iload_n 3, 1) := by decide +kernel
theorem dX4_entryAt_8 : decode cX4_entryAt 8 = .ok (.aload_n 0, 1) := by decide +kernel
theorem dX4_entryAt_9 : decode cX4_entryAt 9 = .ok (.getfield 22, 3) := by decide +kernel
theorem dX4_entryAt_12 : decode cX4_entryAt 12 = .ok (.if_icmp .ge 26, 3) := by decide +kernel
theorem dX4_entryAt_15 : decode cX4_entryAt 15 = .ok (.aload_n 0, 1) := by decide +kernel
theorem dX4_entryAt_16 : decode cX4_entryAt 16 = .ok (.iload_n 3, 1) := by decide +kernel
theorem dX4_entryAt_17 : decode cX4_entryAt 17 = .ok (.invokevirtual 50, 3) := by decide +kernel
theorem dX4_entryAt_20 : decode cX4_entryAt 20 = .ok (.ifCond .eq 12, 3) := by decide +kernel
theorem dX4_entryAt_23 : decode cX4_entryAt 23 = .ok (.iload_n 2, 1) := by decide +kernel
theorem dX4_entryAt_24 : decode cX4_entryAt 24 = .ok (.ifCond .ne 5, 3) := by decide +kernel
theorem dX4_entryAt_27 : decode cX4_entryAt 27 = .ok (.iload_n 3, 1) := by decide +kernel
theorem dX4_entryAt_28 : decode cX4_entryAt 28 = .ok (.ireturn, 1) := by decide +kernel
theorem dX4_entryAt_29 : decode cX4_entryAt 29 = .ok (.iinc 2 (-1), 3) := by decide +kernel
theorem dX4_entryAt_32 : decode cX4_entryAt 32 = .ok (.iinc 3 1, 3) := by decide +kernel
theorem dX4_entryAt_35 : decode cX4_entryAt 35 = .ok (.goto (-28), 3) := by decide +kernel
theorem dX4_entryAt_38 : decode cX4_entryAt 38 = .ok (.iconst (-1), 1) := by decide +kernel
theorem dX4_entryAt_39 : decode cX4_entryAt 39 = .ok (.ireturn, 1) := by decide +kernel
set_option maxRecDepth 20000 in
theorem ggX4_entryIs_X4_kindOf : GoodIn wsX4_entryIs wsX4_kindOf := goodIn_r _ [7, 1, 8, 9, 10, 11, 12, 13, 14, 15, 16, 17, 18, 19, 20, 21, 22, 23, 24, 25, 26, 27, 28, 29, 30, 31, 32, 33, 34, 35, 36, 37, 75, 76, 77, 78, 79, 80, 81, 82, 83, 84, 85, 86, 87, 88, 89, 90, 91] rfl (by decide +kernel)
set_option maxRecDepth 20000 in
theorem gX4_entryIs_X4_kindOf : GoodIn wsX4_entryIs (wsV RX4 66 RX4 yX4_kindOf wsX4_kindOf) := goodIn_app (goodIn_r _ [3, 4, 5, 6] rfl (by decide +kernel)) ggX4_entryIs_X4_kindOf
set_option maxRecDepth 20000 in
theorem ggX4_entryIs_X4_partBytes : GoodIn wsX4_entryIs wsX4_partBytes := goodIn_r _ [41, 1, 42, 2, 43, 44, 16, 45, 46, 31, 32, 33, 34, 35, 36, 47, 48, 49, 6, 50, 8, 75, 76, 77, 78, 79, 80, 81, 82, 83, 84, 85, 86, 87, 88, 89, 90, 91] rfl (by decide +kernel)
set_option maxRecDepth 20000 in
theorem gX4_entryIs_X4_partBytes : GoodIn wsX4_entryIs (wsV RX4 69 RX4 yX4_partBytes wsX4_partBytes) := goodIn_app (goodIn_r _ [38, 39, 40, 6] rfl (by decide +kernel)) ggX4_entryIs_X4_partBytes
set_option maxRecDepth 20000 in
theorem ggX4_entryIs_X3_valueOf : GoodIn wsX4_entryIs wsX3_valueOf := goodIn_r _ [54, 35, 55, 88, 89, 90, 91] rfl (by decide +kernel)
set_option maxRecDepth 20000 in
theorem gX4_entryIs_X3_valueOf : GoodIn wsX4_entryIs (wsV RX4 72 RX3 yX3_valueOf wsX3_valueOf) := goodIn_app (goodIn_r _ [51, 52, 53, 33] rfl (by decide +kernel)) ggX4_entryIs_X3_valueOf
set_option maxRecDepth 20000 in
theorem ggX4_entryIs_X4_restBytes : GoodIn wsX4_entryIs wsX4_restBytes := goodIn_r _ [59, 1, 2, 42, 3, 4, 5, 6, 7, 8, 9, 10, 11, 12, 13, 14, 15, 16, 17, 18, 19, 20, 21, 22, 23, 24, 25, 26, 27, 28, 29, 30, 31, 32, 33, 34, 35, 36, 37, 46, 47, 48, 49, 50, 75, 76, 77, 78, 79, 80, 81, 82, 83, 84, 85, 86, 87, 88, 89, 90, 91] rfl (by decide +kernel)
set_option maxRecDepth 20000 in
theorem gX4_entryIs_X4_restBytes : GoodIn wsX4_entryIs (wsV RX4 75 RX4 yX4_restBytes wsX4_restBytes) := goodIn_app (goodIn_r _ [56, 57, 58, 6] rfl (by decide +kernel)) ggX4_entryIs_X4_restBytes
set_option maxRecDepth 20000 in
theorem ggX4_entryIs_X4_pageOf : GoodIn wsX4_entryIs wsX4_pageOf := goodIn_r _ [63, 64, 65, 66, 67, 6, 68, 1, 8, 69, 19, 20, 12, 21, 22, 23, 24, 70, 71, 72, 73, 74, 75, 76, 77, 78, 79, 80, 81, 82, 83, 84, 85, 86, 87, 88, 89, 90, 91] rfl (by decide +kernel)
set_option maxRecDepth 20000 in
theorem gX4_entryIs_X4_pageOf : GoodIn wsX4_entryIs (wsV RX4 57 RX4 yX4_pageOf wsX4_pageOf) := goodIn_app (goodIn_r _ [60, 61, 62, 6] rfl (by decide +kernel)) ggX4_entryIs_X4_pageOf
theorem dX4_entryIs_0 : decode cX4_entryIs 0 = .ok (.aload_n 0, 1) := by decide +kernel
theorem dX4_entryIs_1 : decode cX4_entryIs 1 = .ok (.iload_n 1, 1) := by decide +kernel
theorem dX4_entryIs_2 : decode cX4_entryIs 2 = .ok (.invokevirtual 66, 3) := by decide +kernel
theorem dX4_entryIs_5 : decode cX4_entryIs 5 = .ok (.istore_n 3, 1) := by decide +kernel
theorem dX4_entryIs_6 : decode cX4_entryIs 6 = .ok (.iload_n 2, 1) := by decide +kernel
theorem dX4_entryIs_7 : decode cX4_entryIs 7 = .ok (.tableswitch 65 0 3 #[29, 31, 37, 59], 29) := by decide +kernel
theorem dX4_entryIs_36 : decode cX4_entryIs 36 = .ok (.iload_n 3, 1) := by decide +kernel
theorem dX4_entryIs_37 : decode cX4_entryIs 37 = .ok (.ireturn, 1) := by decide +kernel
theorem dX4_entryIs_38 : decode cX4_entryIs 38 = .ok (.aload_n 0, 1) := by decide +kernel
theorem dX4_entryIs_39 : decode cX4_entryIs 39 = .ok (.iload_n 1, 1) := by decide +kernel
theorem dX4_entryIs_40 : decode cX4_entryIs 40 = .ok (.invokevirtual 69, 3) := by decide +kernel
theorem dX4_entryIs_43 : decode cX4_entryIs 43 = .ok (.ireturn, 1) := by decide +kernel
theorem dX4_entryIs_44 : decode cX4_entryIs 44 = .ok (.iload_n 3, 1) := by decide +kernel
theorem dX4_entryIs_45 : decode cX4_entryIs 45 = .ok (.iconst 2, 1) := by decide +kernel
theorem dX4_entryIs_46 : decode cX4_entryIs 46 = .ok (.if_icmp .ne 8, 3) := by decide +kernel
theorem dX4_entryIs_49 : decode cX4_entryIs 49 = .ok (.bipush (-2), 2) := by decide +kernel
theorem dX4_entryIs_51 : decode cX4_entryIs 51 = .ok (.goto 14, 3) := by decide +kernel
theorem dX4_entryIs_54 : decode cX4_entryIs 54 = .ok (.aload_n 0, 1) := by decide +kernel
theorem dX4_entryIs_55 : decode cX4_entryIs 55 = .ok (.getfield 9, 3) := by decide +kernel
theorem dX4_entryIs_58 : decode cX4_entryIs 58 = .ok (.getfield 25, 3) := by decide +kernel
theorem dX4_entryIs_61 : decode cX4_entryIs 61 = .ok (.iload_n 1, 1) := by decide +kernel
theorem dX4_entryIs_62 : decode cX4_entryIs 62 = .ok (.invokevirtual 72, 3) := by decide +kernel
theorem dX4_entryIs_65 : decode cX4_entryIs 65 = .ok (.ireturn, 1) := by decide +kernel
theorem dX4_entryIs_66 : decode cX4_entryIs 66 = .ok (.aload_n 0, 1) := by decide +kernel
theorem dX4_entryIs_67 : decode cX4_entryIs 67 = .ok (.iload_n 1, 1) := by decide +kernel
theorem dX4_entryIs_68 : decode cX4_entryIs 68 = .ok (.invokevirtual 75, 3) := by decide +kernel
theorem dX4_entryIs_71 : decode cX4_entryIs 71 = .ok (.ireturn, 1) := by decide +kernel
theorem dX4_entryIs_72 : decode cX4_entryIs 72 = .ok (.aload_n 0, 1) := by decide +kernel
theorem dX4_entryIs_73 : decode cX4_entryIs 73 = .ok (.iload_n 1, 1) := by decide +kernel
theorem dX4_entryIs_74 : decode cX4_entryIs 74 = .ok (.invokevirtual 57, 3) := by decide +kernel
theorem dX4_entryIs_77 : decode cX4_entryIs 77 = .ok (.ireturn, 1) := by decide +kernel
set_option maxRecDepth 20000 in
theorem ggX4_kindOf_X10_depthOf : GoodIn wsX4_kindOf wsX10_depthOf := goodIn_r _ [7, 8, 9, 10, 11, 12, 13, 14, 6, 15, 16, 17, 18, 36, 37, 38, 39, 40, 41, 42, 43, 44, 45, 46, 47, 48] rfl (by decide +kernel)
set_option maxRecDepth 20000 in
theorem gX4_kindOf_X10_depthOf : GoodIn wsX4_kindOf (wsV RX4 36 RX10 yX10_depthOf wsX10_depthOf) := goodIn_app (goodIn_r _ [3, 4, 5, 6] rfl (by decide +kernel)) ggX4_kindOf_X10_depthOf
set_option maxRecDepth 20000 in
theorem ggX4_kindOf_X10_isEnd : GoodIn wsX4_kindOf wsX10_isEnd := goodIn_r _ [22, 16, 23, 24, 25, 26, 27, 28, 29, 30, 31, 4, 5, 6, 7, 8, 9, 10, 11, 12, 13, 14, 15, 17, 18, 36, 37, 38, 39, 40, 41, 42, 43, 44, 45, 46, 47, 48] rfl (by decide +kernel)
set_option maxRecDepth 20000 in
theorem gX4_kindOf_X10_isEnd : GoodIn wsX4_kindOf (wsV RX4 78 RX10 yX10_isEnd wsX10_isEnd) := goodIn_app (goodIn_r _ [19, 20, 21, 6] rfl (by decide +kernel)) ggX4_kindOf_X10_isEnd
theorem dX4_kindOf_0 : decode cX4_kindOf 0 = .ok (.aload_n 0, 1) := by decide +kernel
theorem dX4_kindOf_1 : decode cX4_kindOf 1 = .ok (.getfield 9, 3) := by decide +kernel
theorem dX4_kindOf_4 : decode cX4_kindOf 4 = .ok (.iload_n 1, 1) := by decide +kernel
theorem dX4_kindOf_5 : decode cX4_kindOf 5 = .ok (.invokevirtual 36, 3) := by decide +kernel
theorem dX4_kindOf_8 : decode cX4_kindOf 8 = .ok (.aload_n 0, 1) := by decide +kernel
theorem dX4_kindOf_9 : decode cX4_kindOf 9 = .ok (.getfield 19, 3) := by decide +kernel
theorem dX4_kindOf_12 : decode cX4_kindOf 12 = .ok (.if_icmp .le 5, 3) := by decide +kernel
theorem dX4_kindOf_15 : decode cX4_kindOf 15 = .ok (.iconst 2, 1) := by decide +kernel
theorem dX4_kindOf_16 : decode cX4_kindOf 16 = .ok (.ireturn, 1) := by decide +kernel
theorem dX4_kindOf_17 : decode cX4_kindOf 17 = .ok (.aload_n 0, 1) := by decide +kernel
theorem dX4_kindOf_18 : decode cX4_kindOf 18 = .ok (.getfield 9, 3) := by decide +kernel
theorem dX4_kindOf_21 : decode cX4_kindOf 21 = .ok (.iload_n 1, 1) := by decide +kernel
theorem dX4_kindOf_22 : decode cX4_kindOf 22 = .ok (.invokevirtual 78, 3) := by decide +kernel
theorem dX4_kindOf_25 : decode cX4_kindOf 25 = .ok (.ifCond .eq 7, 3) := by decide +kernel
theorem dX4_kindOf_28 : decode cX4_kindOf 28 = .ok (.iconst 0, 1) := by decide +kernel
theorem dX4_kindOf_29 : decode cX4_kindOf 29 = .ok (.goto 4, 3) := by decide +kernel
theorem dX4_kindOf_32 : decode cX4_kindOf 32 = .ok (.iconst 1, 1) := by decide +kernel
theorem dX4_kindOf_33 : decode cX4_kindOf 33 = .ok (.ireturn, 1) := by decide +kernel
set_option maxRecDepth 20000 in
theorem ggX4_partBytes_X3_lengthOf : GoodIn wsX4_partBytes wsX3_lengthOf := goodIn_r _ [12, 13, 14, 34, 35, 36, 37] rfl (by decide +kernel)
set_option maxRecDepth 20000 in
theorem gX4_partBytes_X3_lengthOf : GoodIn wsX4_partBytes (wsV RX4 81 RX3 yX3_lengthOf wsX3_lengthOf) := goodIn_app (goodIn_r _ [8, 9, 10, 11] rfl (by decide +kernel)) ggX4_partBytes_X3_lengthOf
set_option maxRecDepth 20000 in
theorem ggX4_partBytes_X4_beginningBytes : GoodIn wsX4_partBytes wsX4_beginningBytes := goodIn_r _ [19, 20, 1, 2, 21, 22, 23, 24, 25, 26, 27, 28, 29, 30, 31, 32, 33] rfl (by decide +kernel)
set_option maxRecDepth 20000 in
theorem gX4_partBytes_X4_beginningBytes : GoodIn wsX4_partBytes (wsV RX4 84 RX4 yX4_beginningBytes wsX4_beginningBytes) := goodIn_app (goodIn_r _ [15, 16, 17, 18] rfl (by decide +kernel)) ggX4_partBytes_X4_beginningBytes
theorem dX4_partBytes_0 : decode cX4_partBytes 0 = .ok (.aload_n 0, 1) := by decide +kernel
theorem dX4_partBytes_1 : decode cX4_partBytes 1 = .ok (.getfield 9, 3) := by decide +kernel
theorem dX4_partBytes_4 : decode cX4_partBytes 4 = .ok (.getfield 47, 3) := by decide +kernel
theorem dX4_partBytes_7 : decode cX4_partBytes 7 = .ok (.aload_n 0, 1) := by decide +kernel
theorem dX4_partBytes_8 : decode cX4_partBytes 8 = .ok (.getfield 9, 3) := by decide +kernel
theorem dX4_partBytes_11 : decode cX4_partBytes 11 = .ok (.getfield 25, 3) := by decide +kernel
theorem dX4_partBytes_14 : decode cX4_partBytes 14 = .ok (.iload_n 1, 1) := by decide +kernel
theorem dX4_partBytes_15 : decode cX4_partBytes 15 = .ok (.invokevirtual 81, 3) := by decide +kernel
theorem dX4_partBytes_18 : decode cX4_partBytes 18 = .ok (.aload_n 0, 1) := by decide +kernel
theorem dX4_partBytes_19 : decode cX4_partBytes 19 = .ok (.invokevirtual 84, 3) := by decide +kernel
theorem dX4_partBytes_22 : decode cX4_partBytes 22 = .ok (.isub, 1) := by decide +kernel
theorem dX4_partBytes_23 : decode cX4_partBytes 23 = .ok (.invokestatic 88, 3) := by decide +kernel
theorem dX4_partBytes_26 : decode cX4_partBytes 26 = .ok (.ireturn, 1) := by decide +kernel
set_option maxRecDepth 20000 in
theorem ggX4_restBytes_X4_kindOf : GoodIn wsX4_restBytes wsX4_kindOf := goodIn_r _ [8, 1, 9, 10, 11, 12, 13, 14, 15, 16, 17, 18, 19, 20, 21, 22, 23, 24, 25, 26, 27, 28, 29, 30, 31, 32, 33, 34, 35, 36, 37, 38, 44, 45, 46, 47, 48, 49, 50, 51, 52, 53, 54, 55, 56, 57, 58, 59, 60] rfl (by decide +kernel)
set_option maxRecDepth 20000 in
theorem gX4_restBytes_X4_kindOf : GoodIn wsX4_restBytes (wsV RX4 66 RX4 yX4_kindOf wsX4_kindOf) := goodIn_app (goodIn_r _ [4, 5, 6, 7] rfl (by decide +kernel)) ggX4_restBytes_X4_kindOf
set_option maxRecDepth 20000 in
theorem ggX4_restBytes_X3_lengthOf : GoodIn wsX4_restBytes wsX3_lengthOf := goodIn_r _ [35, 36, 37, 57, 58, 59, 60] rfl (by decide +kernel)
set_option maxRecDepth 20000 in
theorem gX4_restBytes_X3_lengthOf : GoodIn wsX4_restBytes (wsV RX4 81 RX3 yX3_lengthOf wsX3_lengthOf) := goodIn_app (goodIn_r _ [39, 32, 33, 34] rfl (by decide +kernel)) ggX4_restBytes_X3_lengthOf
set_option maxRecDepth 20000 in
theorem ggX4_restBytes_X4_beginningBytes : GoodIn wsX4_restBytes wsX4_beginningBytes := goodIn_r _ [43, 9, 1, 3, 44, 45, 46, 47, 48, 49, 50, 51, 52, 53, 54, 55, 56] rfl (by decide +kernel)
set_option maxRecDepth 20000 in
theorem gX4_restBytes_X4_beginningBytes : GoodIn wsX4_restBytes (wsV RX4 84 RX4 yX4_beginningBytes wsX4_beginningBytes) := goodIn_app (goodIn_r _ [40, 41, 42, 7] rfl (by decide +kernel)) ggX4_restBytes_X4_beginningBytes
theorem dX4_restBytes_0 : decode cX4_restBytes 0 = .ok (.aload_n 0, 1) := by decide +kernel
theorem dX4_restBytes_1 : decode cX4_restBytes 1 = .ok (.iload_n 1, 1) := by decide +kernel
theorem dX4_restBytes_2 : decode cX4_restBytes 2 = .ok (.invokevirtual 66, 3) := by decide +kernel
theorem dX4_restBytes_5 : decode cX4_restBytes 5 = .ok (.iconst 1, 1) := by decide +kernel
theorem dX4_restBytes_6 : decode cX4_restBytes 6 = .ok (.if_icmp .ne 30, 3) := by decide +kernel
theorem dX4_restBytes_9 : decode cX4_restBytes 9 = .ok (.aload_n 0, 1) := by decide +kernel
theorem dX4_restBytes_10 : decode cX4_restBytes 10 = .ok (.getfield 9, 3) := by decide +kernel
theorem dX4_restBytes_13 : decode cX4_restBytes 13 = .ok (.getfield 25, 3) := by decide +kernel
theorem dX4_restBytes_16 : decode cX4_restBytes 16 = .ok (.iload_n 1, 1) := by decide +kernel
theorem dX4_restBytes_17 : decode cX4_restBytes 17 = .ok (.invokevirtual 81, 3) := by decide +kernel
theorem dX4_restBytes_20 : decode cX4_restBytes 20 = .ok (.aload_n 0, 1) := by decide +kernel
theorem dX4_restBytes_21 : decode cX4_restBytes 21 = .ok (.invokevirtual 84, 3) := by decide +kernel
theorem dX4_restBytes_24 : decode cX4_restBytes 24 = .ok (.isub, 1) := by decide +kernel
theorem dX4_restBytes_25 : decode cX4_restBytes 25 = .ok (.aload_n 0, 1) := by decide +kernel
theorem dX4_restBytes_26 : decode cX4_restBytes 26 = .ok (.getfield 9, 3) := by decide +kernel
theorem dX4_restBytes_29 : decode cX4_restBytes 29 = .ok (.getfield 47, 3) := by decide +kernel
theorem dX4_restBytes_32 : decode cX4_restBytes 32 = .ok (.isub, 1) := by decide +kernel
theorem dX4_restBytes_33 : decode cX4_restBytes 33 = .ok (.goto 4, 3) := by decide +kernel
theorem dX4_restBytes_36 : decode cX4_restBytes 36 = .ok (.iconst 0, 1) := by decide +kernel
theorem dX4_restBytes_37 : decode cX4_restBytes 37 = .ok (.ireturn, 1) := by decide +kernel
set_option maxRecDepth 20000 in
theorem ggX4_partByte_X4_partBytes : GoodIn wsX4_partByte wsX4_partBytes := goodIn_r _ [7, 1, 8, 2, 9, 10, 11, 12, 13, 14, 15, 16, 17, 18, 19, 20, 21, 22, 6, 23, 24, 30, 31, 32, 33, 34, 35, 36, 37, 38, 39, 40, 41, 42, 43, 44, 45, 46] rfl (by decide +kernel)
set_option maxRecDepth 20000 in
theorem gX4_partByte_X4_partBytes : GoodIn wsX4_partByte (wsV RX4 69 RX4 yX4_partBytes wsX4_partBytes) := goodIn_app (goodIn_r _ [3, 4, 5, 6] rfl (by decide +kernel)) ggX4_partByte_X4_partBytes
set_option maxRecDepth 20000 in
theorem ggX4_partByte_X4_beginningBytes : GoodIn wsX4_partByte wsX4_beginningBytes := goodIn_r _ [23, 24, 1, 8, 30, 31, 32, 33, 34, 35, 36, 37, 38, 39, 40, 41, 42] rfl (by decide +kernel)
set_option maxRecDepth 20000 in
theorem gX4_partByte_X4_beginningBytes : GoodIn wsX4_partByte (wsV RX4 84 RX4 yX4_beginningBytes wsX4_beginningBytes) := goodIn_app (goodIn_r _ [20, 21, 22, 6] rfl (by decide +kernel)) ggX4_partByte_X4_beginningBytes
set_option maxRecDepth 20000 in
theorem ggX4_partByte_X3_byteOf : GoodIn wsX4_partByte wsX3_byteOf := goodIn_r _ [28, 18, 29, 43, 44, 45, 46] rfl (by decide +kernel)
set_option maxRecDepth 20000 in
theorem gX4_partByte_X3_byteOf : GoodIn wsX4_partByte (wsV RX4 93 RX3 yX3_byteOf wsX3_byteOf) := goodIn_app (goodIn_r _ [25, 26, 27, 16] rfl (by decide +kernel)) ggX4_partByte_X3_byteOf
theorem dX4_partByte_0 : decode cX4_partByte 0 = .ok (.iload_n 2, 1) := by decide +kernel
theorem dX4_partByte_1 : decode cX4_partByte 1 = .ok (.aload_n 0, 1) := by decide +kernel
theorem dX4_partByte_2 : decode cX4_partByte 2 = .ok (.iload_n 1, 1) := by decide +kernel
theorem dX4_partByte_3 : decode cX4_partByte 3 = .ok (.invokevirtual 69, 3) := by decide +kernel
theorem dX4_partByte_6 : decode cX4_partByte 6 = .ok (.if_icmp .ge 23, 3) := by decide +kernel
theorem dX4_partByte_9 : decode cX4_partByte 9 = .ok (.aload_n 0, 1) := by decide +kernel
theorem dX4_partByte_10 : decode cX4_partByte 10 = .ok (.getfield 9, 3) := by decide +kernel
theorem dX4_partByte_13 : decode cX4_partByte 13 = .ok (.getfield 25, 3) := by decide +kernel
theorem dX4_partByte_16 : decode cX4_partByte 16 = .ok (.iload_n 1, 1) := by decide +kernel
theorem dX4_partByte_17 : decode cX4_partByte 17 = .ok (.aload_n 0, 1) := by decide +kernel
theorem dX4_partByte_18 : decode cX4_partByte 18 = .ok (.invokevirtual 84, 3) := by decide +kernel
theorem dX4_partByte_21 : decode cX4_partByte 21 = .ok (.iload_n 2, 1) := by decide +kernel
theorem dX4_partByte_22 : decode cX4_partByte 22 = .ok (.iadd, 1) := by decide +kernel
theorem dX4_partByte_23 : decode cX4_partByte 23 = .ok (.invokevirtual 93, 3) := by decide +kernel
theorem dX4_partByte_26 : decode cX4_partByte 26 = .ok (.goto 5, 3) := by decide +kernel
theorem dX4_partByte_29 : decode cX4_partByte 29 = .ok (.bipush (-4), 2) := by decide +kernel
theorem dX4_partByte_31 : decode cX4_partByte 31 = .ok (.ireturn, 1) := by decide +kernel
set_option maxRecDepth 20000 in
theorem ggX4_restByte_X4_restBytes : GoodIn wsX4_restByte wsX4_restBytes := goodIn_r _ [8, 1, 2, 3, 9, 10, 11, 7, 12, 13, 14, 15, 16, 17, 18, 19, 20, 21, 22, 23, 24, 25, 26, 27, 28, 29, 30, 31, 32, 33, 34, 35, 36, 37, 38, 39, 40, 41, 42, 43, 44, 45, 46, 47, 53, 54, 55, 56, 57, 58, 59, 60, 61, 62, 63, 64, 65, 66, 67, 68, 69] rfl (by decide +kernel)
set_option maxRecDepth 20000 in
theorem gX4_restByte_X4_restBytes : GoodIn wsX4_restByte (wsV RX4 75 RX4 yX4_restBytes wsX4_restBytes) := goodIn_app (goodIn_r _ [4, 5, 6, 7] rfl (by decide +kernel)) ggX4_restByte_X4_restBytes
set_option maxRecDepth 20000 in
theorem ggX4_restByte_X4_beginningBytes : GoodIn wsX4_restByte wsX4_beginningBytes := goodIn_r _ [47, 13, 1, 3, 53, 54, 55, 56, 57, 58, 59, 60, 61, 62, 63, 64, 65] rfl (by decide +kernel)
set_option maxRecDepth 20000 in
theorem gX4_restByte_X4_beginningBytes : GoodIn wsX4_restByte (wsV RX4 84 RX4 yX4_beginningBytes wsX4_beginningBytes) := goodIn_app (goodIn_r _ [44, 45, 46, 7] rfl (by decide +kernel)) ggX4_restByte_X4_beginningBytes
set_option maxRecDepth 20000 in
theorem ggX4_restByte_X3_byteOf : GoodIn wsX4_restByte wsX3_byteOf := goodIn_r _ [51, 40, 52, 66, 67, 68, 69] rfl (by decide +kernel)
set_option maxRecDepth 20000 in
theorem gX4_restByte_X3_byteOf : GoodIn wsX4_restByte (wsV RX4 93 RX3 yX3_byteOf wsX3_byteOf) := goodIn_app (goodIn_r _ [48, 49, 50, 38] rfl (by decide +kernel)) ggX4_restByte_X3_byteOf
theorem dX4_restByte_0 : decode cX4_restByte 0 = .ok (.iload_n 2, 1) := by decide +kernel
theorem dX4_restByte_1 : decode cX4_restByte 1 = .ok (.aload_n 0, 1) := by decide +kernel
theorem dX4_restByte_2 : decode cX4_restByte 2 = .ok (.iload_n 1, 1) := by decide +kernel
theorem dX4_restByte_3 : decode cX4_restByte 3 = .ok (.invokevirtual 75, 3) := by decide +kernel
theorem dX4_restByte_6 : decode cX4_restByte 6 = .ok (.if_icmp .ge 31, 3) := by decide +kernel
theorem dX4_restByte_9 : decode cX4_restByte 9 = .ok (.aload_n 0, 1) := by decide +kernel
theorem dX4_restByte_10 : decode cX4_restByte 10 = .ok (.getfield 9, 3) := by decide +kernel
theorem dX4_restByte_13 : decode cX4_restByte 13 = .ok (.getfield 25, 3) := by decide +kernel
theorem dX4_restByte_16 : decode cX4_restByte 16 = .ok (.iload_n 1, 1) := by decide +kernel
theorem dX4_restByte_17 : decode cX4_restByte 17 = .ok (.aload_n 0, 1) := by decide +kernel
theorem dX4_restByte_18 : decode cX4_restByte 18 = .ok (.invokevirtual 84, 3) := by decide +kernel
theorem dX4_restByte_21 : decode cX4_restByte 21 = .ok (.aload_n 0, 1) := by decide +kernel
theorem dX4_restByte_22 : decode cX4_restByte 22 = .ok (.getfield 9, 3) := by decide +kernel
theorem dX4_restByte_25 : decode cX4_restByte 25 = .ok (.getfield 47, 3) := by decide +kernel
theorem dX4_restByte_28 : decode cX4_restByte 28 = .ok (.iadd, 1) := by decide +kernel
theorem dX4_restByte_29 : decode cX4_restByte 29 = .ok (.iload_n 2, 1) := by decide +kernel
theorem dX4_restByte_30 : decode cX4_restByte 30 = .ok (.iadd, 1) := by decide +kernel
theorem dX4_restByte_31 : decode cX4_restByte 31 = .ok (.invokevirtual 93, 3) := by decide +kernel
theorem dX4_restByte_34 : decode cX4_restByte 34 = .ok (.goto 5, 3) := by decide +kernel
theorem dX4_restByte_37 : decode cX4_restByte 37 = .ok (.bipush (-4), 2) := by decide +kernel
theorem dX4_restByte_39 : decode cX4_restByte 39 = .ok (.ireturn, 1) := by decide +kernel
set_option maxRecDepth 20000 in
theorem ggX5_init_X2_init : GoodIn wsX5_init wsX2_init := goodIn_r _ [15, 16, 2, 3, 17, 18, 19, 25, 26] rfl (by decide +kernel)
set_option maxRecDepth 20000 in
theorem gX5_init_X2_init : GoodIn wsX5_init (wsX2_init) := ggX5_init_X2_init
theorem dX5_init_0 : decode cX5_init 0 = .ok (.aload_n 0, 1) := by decide +kernel
theorem dX5_init_1 : decode cX5_init 1 = .ok (.invokespecial 3, 3) := by decide +kernel
theorem dX5_init_4 : decode cX5_init 4 = .ok (.aload_n 0, 1) := by decide +kernel
theorem dX5_init_5 : decode cX5_init 5 = .ok (.bipush 20, 2) := by decide +kernel
theorem dX5_init_7 : decode cX5_init 7 = .ok (.newarray .int, 2) := by decide +kernel
theorem dX5_init_9 : decode cX5_init 9 = .ok (.putfield 9, 3) := by decide +kernel
theorem dX5_init_12 : decode cX5_init 12 = .ok (.aload_n 0, 1) := by decide +kernel
theorem dX5_init_13 : decode cX5_init 13 = .ok (.bipush 20, 2) := by decide +kernel
theorem dX5_init_15 : decode cX5_init 15 = .ok (.newarray .int, 2) := by decide +kernel
theorem dX5_init_17 : decode cX5_init 17 = .ok (.putfield 15, 3) := by decide +kernel
theorem dX5_init_20 : decode cX5_init 20 = .ok (.aload_n 0, 1) := by decide +kernel
theorem dX5_init_21 : decode cX5_init 21 = .ok (.bipush 20, 2) := by decide +kernel
theorem dX5_init_23 : decode cX5_init 23 = .ok (.anewarray 18, 3) := by decide +kernel
theorem dX5_init_26 : decode cX5_init 26 = .ok (.putfield 20, 3) := by decide +kernel
theorem dX5_init_29 : decode cX5_init 29 = .ok (.aload_n 0, 1) := by decide +kernel
theorem dX5_init_30 : decode cX5_init 30 = .ok (.bipush 20, 2) := by decide +kernel
theorem dX5_init_32 : decode cX5_init 32 = .ok (.anewarray 18, 3) := by decide +kernel
theorem dX5_init_35 : decode cX5_init 35 = .ok (.putfield 24, 3) := by decide +kernel
theorem dX5_init_38 : decode cX5_init 38 = .ok (.iconst 0, 1) := by decide +kernel
theorem dX5_init_39 : decode cX5_init 39 = .ok (.istore_n 1, 1) := by decide +kernel
theorem dX5_init_40 : decode cX5_init 40 = .ok (.iload_n 1, 1) := by decide +kernel
theorem dX5_init_41 : decode cX5_init 41 = .ok (.bipush 20, 2) := by decide +kernel
theorem dX5_init_43 : decode cX5_init 43 = .ok (.if_icmp .ge 35, 3) := by decide +kernel
theorem dX5_init_46 : decode cX5_init 46 = .ok (.aload_n 0, 1) := by decide +kernel
theorem dX5_init_47 : decode cX5_init 47 = .ok (.getfield 20, 3) := by decide +kernel
theorem dX5_init_50 : decode cX5_init 50 = .ok (.iload_n 1, 1) := by decide +kernel
theorem dX5_init_51 : decode cX5_init 51 = .ok (.new 18, 3) := by decide +kernel
theorem dX5_init_54 : decode cX5_init 54 = .ok (.dup, 1) := by decide +kernel
theorem dX5_init_55 : decode cX5_init 55 = .ok (.invokespecial 27, 3) := by decide +kernel
theorem dX5_init_58 : decode cX5_init 58 = .ok (.aastore, 1) := by decide +kernel
theorem dX5_init_59 : decode cX5_init 59 = .ok (.aload_n 0, 1) := by decide +kernel
theorem dX5_init_60 : decode cX5_init 60 = .ok (.getfield 24, 3) := by decide +kernel
theorem dX5_init_63 : decode cX5_init 63 = .ok (.iload_n 1, 1) := by decide +kernel
theorem dX5_init_64 : decode cX5_init 64 = .ok (.new 18, 3) := by decide +kernel
theorem dX5_init_67 : decode cX5_init 67 = .ok (.dup, 1) := by decide +kernel
theorem dX5_init_68 : decode cX5_init 68 = .ok (.invokespecial 27, 3) := by decide +kernel
theorem dX5_init_71 : decode cX5_init 71 = .ok (.aastore, 1) := by decide +kernel
theorem dX5_init_72 : decode cX5_init 72 = .ok (.iinc 1 1, 3) := by decide +kernel
theorem dX5_init_75 : decode cX5_init 75 = .ok (.goto (-35), 3) := by decide +kernel
theorem dX5_init_78 : decode cX5_init 78 = .ok (.aload_n 0, 1) := by decide +kernel
theorem dX5_init_79 : decode cX5_init 79 = .ok (.iconst 0, 1) := by decide +kernel
theorem dX5_init_80 : decode cX5_init 80 = .ok (.putfield 28, 3) := by decide +kernel
theorem dX5_init_83 : decode cX5_init 83 = .ok (.return_, 1) := by decide +kernel
set_option maxRecDepth 20000 in
theorem ggX5_readFrom_X5_readItem : GoodIn wsX5_readFrom wsX5_readItem := goodIn_r _ [6, 7, 8, 9, 10, 11, 12, 13, 14, 15, 16, 17, 18, 19, 20, 21, 22, 23, 24, 25, 26, 27, 28, 29, 30, 31, 32, 33, 34, 35, 36, 37, 38, 39, 40, 41, 42, 43, 44, 45, 46, 47, 48, 49, 50, 51, 52, 53, 54, 55, 56, 57, 58, 59, 60, 61, 62, 63, 64, 65, 66, 67, 68, 69, 79, 80, 81, 82, 83, 84, 85, 86, 87, 88, 89, 90, 91] rfl (by decide +kernel)
set_option maxRecDepth 20000 in
theorem gX5_readFrom_X5_readItem : GoodIn wsX5_readFrom (wsV RX5 32 RX5 yX5_readItem wsX5_readItem) := goodIn_app (goodIn_r _ [2, 3, 4, 5] rfl (by decide +kernel)) ggX5_readFrom_X5_readItem
set_option maxRecDepth 20000 in
theorem ggX5_readFrom_X7_readBreak : GoodIn wsX5_readFrom wsX7_readBreak := goodIn_r _ [73, 34, 74, 75, 76, 14, 77, 16, 17, 78, 61, 62, 63, 50, 12, 13, 15, 18, 19, 20, 21, 22, 23, 24, 25, 59, 27, 28, 29, 30, 31, 32, 33, 84, 85, 86, 87, 88, 89] rfl (by decide +kernel)
set_option maxRecDepth 20000 in
theorem gX5_readFrom_X7_readBreak : GoodIn wsX5_readFrom (wsV RX5 36 RX7 yX7_readBreak wsX7_readBreak) := goodIn_app (goodIn_r _ [70, 71, 72, 14] rfl (by decide +kernel)) ggX5_readFrom_X7_readBreak
set_option maxRecDepth 20000 in
theorem ggX5_readFrom_X7_blameHere : GoodIn wsX5_readFrom wsX7_blameHere := goodIn_r _ [29, 16, 30, 31, 32, 14, 33, 34, 84, 85, 86, 87] rfl (by decide +kernel)
set_option maxRecDepth 20000 in
theorem gX5_readFrom_X7_blameHere : GoodIn wsX5_readFrom (wsV RX5 42 RX7 yX7_blameHere wsX7_blameHere) := goodIn_app (goodIn_r _ [26, 27, 28, 14] rfl (by decide +kernel)) ggX5_readFrom_X7_blameHere
theorem dX5_readFrom_0 : decode cX5_readFrom 0 = .ok (.aload_n 0, 1) := by decide +kernel
theorem dX5_readFrom_1 : decode cX5_readFrom 1 = .ok (.iconst 0, 1) := by decide +kernel
theorem dX5_readFrom_2 : decode cX5_readFrom 2 = .ok (.putfield 28, 3) := by decide +kernel
theorem dX5_readFrom_5 : decode cX5_readFrom 5 = .ok (.iconst 1, 1) := by decide +kernel
theorem dX5_readFrom_6 : decode cX5_readFrom 6 = .ok (.istore_n 2, 1) := by decide +kernel
theorem dX5_readFrom_7 : decode cX5_readFrom 7 = .ok (.iconst 0, 1) := by decide +kernel
theorem dX5_readFrom_8 : decode cX5_readFrom 8 = .ok (.istore_n 3, 1) := by decide +kernel
theorem dX5_readFrom_9 : decode cX5_readFrom 9 = .ok (.iload_n 3, 1) := by decide +kernel
theorem dX5_readFrom_10 : decode cX5_readFrom 10 = .ok (.bipush 20, 2) := by decide +kernel
theorem dX5_readFrom_12 : decode cX5_readFrom 12 = .ok (.if_icmp .ge 31, 3) := by decide +kernel
theorem dX5_readFrom_15 : decode cX5_readFrom 15 = .ok (.iload_n 2, 1) := by decide +kernel
theorem dX5_readFrom_16 : decode cX5_readFrom 16 = .ok (.ifCond .eq 27, 3) := by decide +kernel
theorem dX5_readFrom_19 : decode cX5_readFrom 19 = .ok (.aload_n 0, 1) := by decide +kernel
theorem dX5_readFrom_20 : decode cX5_readFrom 20 = .ok (.aload_n 1, 1) := by decide +kernel
theorem dX5_readFrom_21 : decode cX5_readFrom 21 = .ok (.iload_n 3, 1) := by decide +kernel
theorem dX5_readFrom_22 : decode cX5_readFrom 22 = .ok (.invokevirtual 32, 3) := by decide +kernel
theorem dX5_readFrom_25 : decode cX5_readFrom 25 = .ok (.aload_n 0, 1) := by decide +kernel
theorem dX5_readFrom_26 : decode cX5_readFrom 26 = .ok (.iload_n 3, 1) := by decide +kernel
theorem dX5_readFrom_27 : decode cX5_readFrom 27 = .ok (.iconst 1, 1) := by decide +kernel
theorem dX5_readFrom_28 : decode cX5_readFrom 28 = .ok (.iadd, 1) := by decide +kernel
theorem dX5_readFrom_29 : decode cX5_readFrom 29 = .ok (.putfield 28, 3) := by decide +kernel
theorem dX5_readFrom_32 : decode cX5_readFrom 32 = .ok (.aload_n 1, 1) := by decide +kernel
theorem dX5_readFrom_33 : decode cX5_readFrom 33 = .ok (.invokevirtual 36, 3) := by decide +kernel
theorem dX5_readFrom_36 : decode cX5_readFrom 36 = .ok (.istore_n 2, 1) := by decide +kernel
theorem dX5_readFrom_37 : decode cX5_readFrom 37 = .ok (.iinc 3 1, 3) := by decide +kernel
theorem dX5_readFrom_40 : decode cX5_readFrom 40 = .ok (.goto (-31), 3) := by decide +kernel
theorem dX5_readFrom_43 : decode cX5_readFrom 43 = .ok (.iload_n 2, 1) := by decide +kernel
theorem dX5_readFrom_44 : decode cX5_readFrom 44 = .ok (.ifCond .eq 8, 3) := by decide +kernel
theorem dX5_readFrom_47 : decode cX5_readFrom 47 = .ok (.aload_n 1, 1) := by decide +kernel
theorem dX5_readFrom_48 : decode cX5_readFrom 48 = .ok (.iconst 4, 1) := by decide +kernel
theorem dX5_readFrom_49 : decode cX5_readFrom 49 = .ok (.invokevirtual 42, 3) := by decide +kernel
theorem dX5_readFrom_52 : decode cX5_readFrom 52 = .ok (.return_, 1) := by decide +kernel
set_option maxRecDepth 20000 in
theorem ggX5_readItem_X7_sign : GoodIn wsX5_readItem wsX7_sign := goodIn_r _ [9, 10, 11, 12, 13, 14, 15, 16, 17, 18, 19, 69, 70, 71, 72, 73, 74] rfl (by decide +kernel)
set_option maxRecDepth 20000 in
theorem gX5_readItem_X7_sign : GoodIn wsX5_readItem (wsV RX5 46 RX7 yX7_sign wsX7_sign) := goodIn_app (goodIn_r _ [5, 6, 7, 8] rfl (by decide +kernel)) ggX5_readItem_X7_sign
set_option maxRecDepth 20000 in
theorem ggX5_readItem_X7_blameHere : GoodIn wsX5_readItem wsX7_blameHere := goodIn_r _ [23, 10, 24, 25, 26, 8, 27, 28, 69, 70, 71, 72] rfl (by decide +kernel)
set_option maxRecDepth 20000 in
theorem gX5_readItem_X7_blameHere : GoodIn wsX5_readItem (wsV RX5 42 RX7 yX7_blameHere wsX7_blameHere) := goodIn_app (goodIn_r _ [20, 21, 22, 8] rfl (by decide +kernel)) ggX5_readItem_X7_blameHere
set_option maxRecDepth 20000 in
theorem ggX5_readItem_X7_goOn : GoodIn wsX5_readItem wsX7_goOn := goodIn_r _ [32, 10, 69, 70, 71, 72] rfl (by decide +kernel)
set_option maxRecDepth 20000 in
theorem gX5_readItem_X7_goOn : GoodIn wsX5_readItem (wsV RX5 50 RX7 yX7_goOn wsX7_goOn) := goodIn_app (goodIn_r _ [29, 30, 31, 8] rfl (by decide +kernel)) ggX5_readItem_X7_goOn
set_option maxRecDepth 20000 in
theorem ggX5_readItem_X7_readKey : GoodIn wsX5_readItem wsX7_readKey := goodIn_r _ [36, 28, 10, 37, 38, 39, 40, 41, 42, 43, 44, 6, 7, 8, 9, 11, 12, 13, 14, 15, 16, 17, 18, 19, 45, 46, 47, 48, 49, 50, 51, 52, 53, 21, 22, 23, 24, 25, 26, 27, 69, 70, 71, 72, 75, 76, 73, 74] rfl (by decide +kernel)
set_option maxRecDepth 20000 in
theorem gX5_readItem_X7_readKey : GoodIn wsX5_readItem (wsV RX5 53 RX7 yX7_readKey wsX7_readKey) := goodIn_app (goodIn_r _ [33, 34, 35, 8] rfl (by decide +kernel)) ggX5_readItem_X7_readKey
set_option maxRecDepth 20000 in
theorem ggX5_readItem_X7_readSign : GoodIn wsX5_readItem wsX7_readSign := goodIn_r _ [57, 28, 10, 44, 6, 7, 8, 9, 11, 12, 13, 14, 15, 16, 17, 18, 19, 53, 21, 22, 23, 24, 25, 26, 27, 69, 70, 71, 72, 73, 74] rfl (by decide +kernel)
set_option maxRecDepth 20000 in
theorem gX5_readItem_X7_readSign : GoodIn wsX5_readItem (wsV RX5 57 RX7 yX7_readSign wsX7_readSign) := goodIn_app (goodIn_r _ [54, 55, 56, 8] rfl (by decide +kernel)) ggX5_readItem_X7_readSign
set_option maxRecDepth 20000 in
theorem ggX5_readItem_X7_readNumber : GoodIn wsX5_readItem wsX7_readNumber := goodIn_r _ [61, 10, 28, 44, 6, 7, 8, 9, 11, 12, 13, 14, 15, 16, 17, 18, 19, 62, 46, 63, 53, 21, 22, 23, 24, 25, 26, 27, 69, 70, 71, 72, 73, 74] rfl (by decide +kernel)
set_option maxRecDepth 20000 in
theorem gX5_readItem_X7_readNumber : GoodIn wsX5_readItem (wsV RX5 60 RX7 yX7_readNumber wsX7_readNumber) := goodIn_app (goodIn_r _ [58, 59, 60, 8] rfl (by decide +kernel)) ggX5_readItem_X7_readNumber
theorem dX5_readItem_0 : decode cX5_readItem 0 = .ok (.aload_n 1, 1) := by decide +kernel
theorem dX5_readItem_1 : decode cX5_readItem 1 = .ok (.invokevirtual 46, 3) := by decide +kernel
theorem dX5_readItem_4 : decode cX5_readItem 4 = .ok (.istore_n 3, 1) := by decide +kernel
theorem dX5_readItem_5 : decode cX5_readItem 5 = .ok (.iload_n 3, 1) := by decide +kernel
theorem dX5_readItem_6 : decode cX5_readItem 6 = .ok (.bipush 43, 2) := by decide +kernel
theorem dX5_readItem_8 : decode cX5_readItem 8 = .ok (.if_icmp .eq 21, 3) := by decide +kernel
theorem dX5_readItem_11 : decode cX5_readItem 11 = .ok (.iload_n 3, 1) := by decide +kernel
theorem dX5_readItem_12 : decode cX5_readItem 12 = .ok (.bipush 45, 2) := by decide +kernel
theorem dX5_readItem_14 : decode cX5_readItem 14 = .ok (.if_icmp .eq 15, 3) := by decide +kernel
theorem dX5_readItem_17 : decode cX5_readItem 17 = .ok (.iload_n 3, 1) := by decide +kernel
theorem dX5_readItem_18 : decode cX5_readItem 18 = .ok (.bipush 126, 2) := by decide +kernel
theorem dX5_readItem_20 : decode cX5_readItem 20 = .ok (.if_icmp .eq 9, 3) := by decide +kernel
theorem dX5_readItem_23 : decode cX5_readItem 23 = .ok (.aload_n 1, 1) := by decide +kernel
theorem dX5_readItem_24 : decode cX5_readItem 24 = .ok (.iconst 1, 1) := by decide +kernel
theorem dX5_readItem_25 : decode cX5_readItem 25 = .ok (.invokevirtual 42, 3) := by decide +kernel
theorem dX5_readItem_28 : decode cX5_readItem 28 = .ok (.return_, 1) := by decide +kernel
theorem dX5_readItem_29 : decode cX5_readItem 29 = .ok (.aload_n 1, 1) := by decide +kernel
theorem dX5_readItem_30 : decode cX5_readItem 30 = .ok (.invokevirtual 50, 3) := by decide +kernel
theorem dX5_readItem_33 : decode cX5_readItem 33 = .ok (.aload_n 0, 1) := by decide +kernel
theorem dX5_readItem_34 : decode cX5_readItem 34 = .ok (.getfield 9, 3) := by decide +kernel
theorem dX5_readItem_37 : decode cX5_readItem 37 = .ok (.iload_n 2, 1) := by decide +kernel
theorem dX5_readItem_38 : decode cX5_readItem 38 = .ok (.iload_n 3, 1) := by decide +kernel
theorem dX5_readItem_39 : decode cX5_readItem 39 = .ok (.iastore, 1) := by decide +kernel
theorem dX5_readItem_40 : decode cX5_readItem 40 = .ok (.aload_n 1, 1) := by decide +kernel
theorem dX5_readItem_41 : decode cX5_readItem 41 = .ok (.aload_n 0, 1) := by decide +kernel
theorem dX5_readItem_42 : decode cX5_readItem 42 = .ok (.getfield 20, 3) := by decide +kernel
theorem dX5_readItem_45 : decode cX5_readItem 45 = .ok (.iload_n 2, 1) := by decide +kernel
theorem dX5_readItem_46 : decode cX5_readItem 46 = .ok (.aaload, 1) := by decide +kernel
theorem dX5_readItem_47 : decode cX5_readItem 47 = .ok (.invokevirtual 53, 3) := by decide +kernel
theorem dX5_readItem_50 : decode cX5_readItem 50 = .ok (.iload_n 3, 1) := by decide +kernel
theorem dX5_readItem_51 : decode cX5_readItem 51 = .ok (.bipush 43, 2) := by decide +kernel
theorem dX5_readItem_53 : decode cX5_readItem 53 = .ok (.if_icmp .ne 22, 3) := by decide +kernel
theorem dX5_readItem_56 : decode cX5_readItem 56 = .ok (.aload_n 1, 1) := by decide +kernel
theorem dX5_readItem_57 : decode cX5_readItem 57 = .ok (.bipush 61, 2) := by decide +kernel
theorem dX5_readItem_59 : decode cX5_readItem 59 = .ok (.invokevirtual 57, 3) := by decide +kernel
theorem dX5_readItem_62 : decode cX5_readItem 62 = .ok (.aload_n 0, 1) := by decide +kernel
theorem dX5_readItem_63 : decode cX5_readItem 63 = .ok (.getfield 15, 3) := by decide +kernel
theorem dX5_readItem_66 : decode cX5_readItem 66 = .ok (.iload_n 2, 1) := by decide +kernel
theorem dX5_readItem_67 : decode cX5_readItem 67 = .ok (.aload_n 1, 1) := by decide +kernel
theorem dX5_readItem_68 : decode cX5_readItem 68 = .ok (.invokevirtual 60, 3) := by decide +kernel
theorem dX5_readItem_71 : decode cX5_readItem 71 = .ok (.iastore, 1) := by decide +kernel
theorem dX5_readItem_72 : decode cX5_readItem 72 = .ok (.goto 25, 3) := by decide +kernel
theorem dX5_readItem_75 : decode cX5_readItem 75 = .ok (.iload_n 3, 1) := by decide +kernel
theorem dX5_readItem_76 : decode cX5_readItem 76 = .ok (.bipush 126, 2) := by decide +kernel
theorem dX5_readItem_78 : decode cX5_readItem 78 = .ok (.if_icmp .ne 19, 3) := by decide +kernel
theorem dX5_readItem_81 : decode cX5_readItem 81 = .ok (.aload_n 1, 1) := by decide +kernel
theorem dX5_readItem_82 : decode cX5_readItem 82 = .ok (.bipush 44, 2) := by decide +kernel
theorem dX5_readItem_84 : decode cX5_readItem 84 = .ok (.invokevirtual 57, 3) := by decide +kernel
theorem dX5_readItem_87 : decode cX5_readItem 87 = .ok (.aload_n 1, 1) := by decide +kernel
theorem dX5_readItem_88 : decode cX5_readItem 88 = .ok (.aload_n 0, 1) := by decide +kernel
theorem dX5_readItem_89 : decode cX5_readItem 89 = .ok (.getfield 24, 3) := by decide +kernel
theorem dX5_readItem_92 : decode cX5_readItem 92 = .ok (.iload_n 2, 1) := by decide +kernel
theorem dX5_readItem_93 : decode cX5_readItem 93 = .ok (.aaload, 1) := by decide +kernel
theorem dX5_readItem_94 : decode cX5_readItem 94 = .ok (.invokevirtual 53, 3) := by decide +kernel
theorem dX5_readItem_97 : decode cX5_readItem 97 = .ok (.return_, 1) := by decide +kernel
set_option maxRecDepth 20000 in
theorem ggX5_doOn_X10_insertKey : GoodIn wsX5_doOn wsX10_insertKey := goodIn_r _ [10, 11, 12, 13, 14, 15, 16, 17, 18, 19, 20, 21, 22, 23, 24, 25, 26, 27, 28, 29, 30, 31, 32, 33, 34, 35, 36, 37, 38, 39, 40, 41, 42, 43, 44, 45, 46, 47, 48, 49, 50, 51, 52, 53, 54, 55, 56, 57, 58, 59, 60, 61, 62, 63, 64, 65, 66, 67, 68, 69, 70, 71, 72, 73, 74, 75, 76, 9, 77, 78, 79, 80, 81, 82, 83, 84, 85, 86, 87, 88, 89, 90, 91, 92, 93, 94, 95, 96, 97, 98, 99, 100, 101, 102, 103, 104, 105, 106, 107, 108, 109, 110, 111, 112, 113, 114, 115, 116, 117, 118, 119, 120, 121, 122, 123, 124, 125, 126, 127, 128, 129, 130, 131, 181, 182, 183, 184, 185, 186, 187, 188, 189, 190, 191, 192, 193, 194, 195] rfl (by decide +kernel)
set_option maxRecDepth 20000 in
theorem gX5_doOn_X10_insertKey : GoodIn wsX5_doOn (wsV RX5 63 RX10 yX10_insertKey wsX10_insertKey) := goodIn_app (goodIn_r _ [6, 7, 8, 9] rfl (by decide +kernel)) ggX5_doOn_X10_insertKey
set_option maxRecDepth 20000 in
theorem ggX5_doOn_X10_removeKey : GoodIn wsX5_doOn wsX10_removeKey := goodIn_r _ [135, 11, 136, 137, 138, 22, 139, 140, 20, 21, 23, 24, 25, 26, 27, 28, 29, 30, 31, 32, 33, 34, 35, 36, 37, 38, 39, 40, 41, 42, 43, 44, 45, 46, 47, 48, 49, 50, 141, 52, 53, 54, 55, 56, 57, 58, 59, 60, 61, 62, 63, 142, 143, 144, 9, 145, 12, 13, 14, 15, 16, 17, 18, 97, 98, 99, 100, 101, 79, 80, 81, 102, 103, 104, 105, 110, 111, 112, 113, 146, 147, 148, 149, 150, 151, 152, 153, 154, 155, 156, 157, 72, 106, 107, 108, 109, 158, 159, 160, 161, 118, 162, 120, 121, 122, 123, 163, 164, 165, 166, 83, 84, 85, 86, 128, 129, 130, 131, 167, 168, 169, 170, 171, 181, 182, 183, 184, 185, 186, 187, 188, 189, 190, 191, 192, 193, 194, 195] rfl (by decide +kernel)
set_option maxRecDepth 20000 in
theorem gX5_doOn_X10_removeKey : GoodIn wsX5_doOn (wsV RX5 69 RX10 yX10_removeKey wsX10_removeKey) := goodIn_app (goodIn_r _ [132, 133, 134, 9] rfl (by decide +kernel)) ggX5_doOn_X10_removeKey
set_option maxRecDepth 20000 in
theorem ggX5_doOn_X10_removeFromTo : GoodIn wsX5_doOn wsX10_removeFromTo := goodIn_r _ [175, 11, 79, 80, 32, 81, 19, 20, 21, 22, 23, 24, 25, 26, 27, 28, 29, 30, 31, 33, 34, 35, 36, 37, 38, 39, 40, 41, 42, 43, 44, 45, 46, 47, 48, 49, 50, 51, 52, 53, 54, 55, 56, 57, 58, 142, 143, 144, 9, 145, 12, 13, 14, 15, 16, 17, 18, 97, 98, 99, 100, 101, 102, 103, 104, 105, 110, 111, 112, 113, 146, 147, 148, 149, 150, 151, 152, 153, 154, 155, 156, 157, 72, 63, 106, 107, 108, 109, 158, 159, 160, 161, 118, 162, 120, 121, 122, 123, 163, 164, 165, 166, 83, 84, 85, 86, 128, 129, 130, 131, 167, 168, 169, 170, 171, 181, 182, 183, 184, 185, 186, 187, 188, 189, 190, 191, 192, 193, 194, 195] rfl (by decide +kernel)
set_option maxRecDepth 20000 in
theorem gX5_doOn_X10_removeFromTo : GoodIn wsX5_doOn (wsV RX5 73 RX10 yX10_removeFromTo wsX10_removeFromTo) := goodIn_app (goodIn_r _ [172, 173, 174, 9] rfl (by decide +kernel)) ggX5_doOn_X10_removeFromTo
theorem dX5_doOn_0 : decode cX5_doOn 0 = .ok (.iconst 0, 1) := by decide +kernel
theorem dX5_doOn_1 : decode cX5_doOn 1 = .ok (.istore_n 2, 1) := by decide +kernel
theorem dX5_doOn_2 : decode cX5_doOn 2 = .ok (.iload_n 2, 1) := by decide +kernel
theorem dX5_doOn_3 : decode cX5_doOn 3 = .ok (.aload_n 0, 1) := by decide +kernel
theorem dX5_doOn_4 : decode cX5_doOn 4 = .ok (.getfield 28, 3) := by decide +kernel
theorem dX5_doOn_7 : decode cX5_doOn 7 = .ok (.if_icmp .ge 122, 3) := by decide +kernel
theorem dX5_doOn_10 : decode cX5_doOn 10 = .ok (.iload_n 2, 1) := by decide +kernel
theorem dX5_doOn_11 : decode cX5_doOn 11 = .ok (.bipush 20, 2) := by decide +kernel
theorem dX5_doOn_13 : decode cX5_doOn 13 = .ok (.if_icmp .ge 116, 3) := by decide +kernel
theorem dX5_doOn_16 : decode cX5_doOn 16 = .ok (.aload_n 0, 1) := by decide +kernel
theorem dX5_doOn_17 : decode cX5_doOn 17 = .ok (.getfield 9, 3) := by decide +kernel
theorem dX5_doOn_20 : decode cX5_doOn 20 = .ok (.iload_n 2, 1) := by decide +kernel
theorem dX5_doOn_21 : decode cX5_doOn 21 = .ok (.iaload, 1) := by decide +kernel
theorem dX5_doOn_22 : decode cX5_doOn 22 = .ok (.bipush 43, 2) := by decide +kernel
theorem dX5_doOn_24 : decode cX5_doOn 24 = .ok (.if_icmp .ne 33, 3) := by decide +kernel
theorem dX5_doOn_27 : decode cX5_doOn 27 = .ok (.aload_n 1, 1) := by decide +kernel
theorem dX5_doOn_28 : decode cX5_doOn 28 = .ok (.aload_n 0, 1) := by decide +kernel
theorem dX5_doOn_29 : decode cX5_doOn 29 = .ok (.getfield 20, 3) := by decide +kernel
theorem dX5_doOn_32 : decode cX5_doOn 32 = .ok (.iload_n 2, 1) := by decide +kernel
theorem dX5_doOn_33 : decode cX5_doOn 33 = .ok (.aaload, 1) := by decide +kernel
theorem dX5_doOn_34 : decode cX5_doOn 34 = .ok (.aload_n 0, 1) := by decide +kernel
theorem dX5_doOn_35 : decode cX5_doOn 35 = .ok (.getfield 15, 3) := by decide +kernel
theorem dX5_doOn_38 : decode cX5_doOn 38 = .ok (.iload_n 2, 1) := by decide +kernel
theorem dX5_doOn_39 : decode cX5_doOn 39 = .ok (.iaload, 1) := by decide +kernel
theorem dX5_doOn_40 : decode cX5_doOn 40 = .ok (.invokevirtual 63, 3) := by decide +kernel
theorem dX5_doOn_43 : decode cX5_doOn 43 = .ok (.bipush (-4), 2) := by decide +kernel
theorem dX5_doOn_45 : decode cX5_doOn 45 = .ok (.if_icmp .eq 7, 3) := by decide +kernel
theorem dX5_doOn_48 : decode cX5_doOn 48 = .ok (.iconst 1, 1) := by decide +kernel
theorem dX5_doOn_49 : decode cX5_doOn 49 = .ok (.goto 4, 3) := by decide +kernel
theorem dX5_doOn_52 : decode cX5_doOn 52 = .ok (.iconst 0, 1) := by decide +kernel
theorem dX5_doOn_53 : decode cX5_doOn 53 = .ok (.istore_n 3, 1) := by decide +kernel
theorem dX5_doOn_54 : decode cX5_doOn 54 = .ok (.goto 63, 3) := by decide +kernel
theorem dX5_doOn_57 : decode cX5_doOn 57 = .ok (.aload_n 0, 1) := by decide +kernel
theorem dX5_doOn_58 : decode cX5_doOn 58 = .ok (.getfield 9, 3) := by decide +kernel
theorem dX5_doOn_61 : decode cX5_doOn 61 = .ok (.iload_n 2, 1) := by decide +kernel
theorem dX5_doOn_62 : decode cX5_doOn 62 = .ok (.iaload, 1) := by decide +kernel
theorem dX5_doOn_63 : decode cX5_doOn 63 = .ok (.bipush 45, 2) := by decide +kernel
theorem dX5_doOn_65 : decode cX5_doOn 65 = .ok (.if_icmp .ne 27, 3) := by decide +kernel
theorem dX5_doOn_68 : decode cX5_doOn 68 = .ok (.aload_n 1, 1) := by decide +kernel
theorem dX5_doOn_69 : decode cX5_doOn 69 = .ok (.aload_n 0, 1) := by decide +kernel
theorem dX5_doOn_70 : decode cX5_doOn 70 = .ok (.getfield 20, 3) := by decide +kernel
theorem dX5_doOn_73 : decode cX5_doOn 73 = .ok (.iload_n 2, 1) := by decide +kernel
theorem dX5_doOn_74 : decode cX5_doOn 74 = .ok (.aaload, 1) := by decide +kernel
theorem dX5_doOn_75 : decode cX5_doOn 75 = .ok (.invokevirtual 69, 3) := by decide +kernel
theorem dX5_doOn_78 : decode cX5_doOn 78 = .ok (.bipush (-3), 2) := by decide +kernel
theorem dX5_doOn_80 : decode cX5_doOn 80 = .ok (.if_icmp .eq 7, 3) := by decide +kernel
theorem dX5_doOn_83 : decode cX5_doOn 83 = .ok (.iconst 1, 1) := by decide +kernel
theorem dX5_doOn_84 : decode cX5_doOn 84 = .ok (.goto 4, 3) := by decide +kernel
theorem dX5_doOn_87 : decode cX5_doOn 87 = .ok (.iconst 0, 1) := by decide +kernel
theorem dX5_doOn_88 : decode cX5_doOn 88 = .ok (.istore_n 3, 1) := by decide +kernel
theorem dX5_doOn_89 : decode cX5_doOn 89 = .ok (.goto 28, 3) := by decide +kernel
theorem dX5_doOn_92 : decode cX5_doOn 92 = .ok (.aload_n 1, 1) := by decide +kernel
theorem dX5_doOn_93 : decode cX5_doOn 93 = .ok (.aload_n 0, 1) := by decide +kernel
theorem dX5_doOn_94 : decode cX5_doOn 94 = .ok (.getfield 20, 3) := by decide +kernel
theorem dX5_doOn_97 : decode cX5_doOn 97 = .ok (.iload_n 2, 1) := by decide +kernel
theorem dX5_doOn_98 : decode cX5_doOn 98 = .ok (.aaload, 1) := by decide +kernel
theorem dX5_doOn_99 : decode cX5_doOn 99 = .ok (.aload_n 0, 1) := by decide +kernel
theorem dX5_doOn_100 : decode cX5_doOn 100 = .ok (.getfield 24, 3) := by decide +kernel
theorem dX5_doOn_103 : decode cX5_doOn 103 = .ok (.iload_n 2, 1) := by decide +kernel
theorem dX5_doOn_104 : decode cX5_doOn 104 = .ok (.aaload, 1) := by decide +kernel
theorem dX5_doOn_105 : decode cX5_doOn 105 = .ok (.invokevirtual 73, 3) := by decide +kernel
theorem dX5_doOn_108 : decode cX5_doOn 108 = .ok (.ifCond .le 7, 3) := by decide +kernel
theorem dX5_doOn_111 : decode cX5_doOn 111 = .ok (.iconst 1, 1) := by decide +kernel
theorem dX5_doOn_112 : decode cX5_doOn 112 = .ok (.goto 4, 3) := by decide +kernel
theorem dX5_doOn_115 : decode cX5_doOn 115 = .ok (.iconst 0, 1) := by decide +kernel
theorem dX5_doOn_116 : decode cX5_doOn 116 = .ok (.istore_n 3, 1) := by decide +kernel
theorem dX5_doOn_117 : decode cX5_doOn 117 = .ok (.iload_n 3, 1) := by decide +kernel
theorem dX5_doOn_118 : decode cX5_doOn 118 = .ok (.ifCond .ne 5, 3) := by decide +kernel
theorem dX5_doOn_121 : decode cX5_doOn 121 = .ok (.iload_n 2, 1) := by decide +kernel
theorem dX5_doOn_122 : decode cX5_doOn 122 = .ok (.ireturn, 1) := by decide +kernel
theorem dX5_doOn_123 : decode cX5_doOn 123 = .ok (.iinc 2 1, 3) := by decide +kernel
theorem dX5_doOn_126 : decode cX5_doOn 126 = .ok (.goto (-124), 3) := by decide +kernel
theorem dX5_doOn_129 : decode cX5_doOn 129 = .ok (.aload_n 0, 1) := by decide +kernel
theorem dX5_doOn_130 : decode cX5_doOn 130 = .ok (.getfield 28, 3) := by decide +kernel
theorem dX5_doOn_133 : decode cX5_doOn 133 = .ok (.ireturn, 1) := by decide +kernel
set_option maxRecDepth 20000 in
theorem ggX6_init_X2_init : GoodIn wsX6_init wsX2_init := goodIn_r _ [14, 15, 2, 3, 16, 17, 18, 23, 24] rfl (by decide +kernel)
set_option maxRecDepth 20000 in
theorem gX6_init_X2_init : GoodIn wsX6_init (wsX2_init) := ggX6_init_X2_init
theorem dX6_init_0 : decode cX6_init 0 = .ok (.aload_n 0, 1) := by decide +kernel
theorem dX6_init_1 : decode cX6_init 1 = .ok (.invokespecial 3, 3) := by decide +kernel
theorem dX6_init_4 : decode cX6_init 4 = .ok (.aload_n 0, 1) := by decide +kernel
theorem dX6_init_5 : decode cX6_init 5 = .ok (.bipush 8, 2) := by decide +kernel
theorem dX6_init_7 : decode cX6_init 7 = .ok (.newarray .int, 2) := by decide +kernel
theorem dX6_init_9 : decode cX6_init 9 = .ok (.putfield 9, 3) := by decide +kernel
theorem dX6_init_12 : decode cX6_init 12 = .ok (.aload_n 0, 1) := by decide +kernel
theorem dX6_init_13 : decode cX6_init 13 = .ok (.bipush 8, 2) := by decide +kernel
theorem dX6_init_15 : decode cX6_init 15 = .ok (.newarray .int, 2) := by decide +kernel
theorem dX6_init_17 : decode cX6_init 17 = .ok (.putfield 15, 3) := by decide +kernel
theorem dX6_init_20 : decode cX6_init 20 = .ok (.aload_n 0, 1) := by decide +kernel
theorem dX6_init_21 : decode cX6_init 21 = .ok (.bipush 8, 2) := by decide +kernel
theorem dX6_init_23 : decode cX6_init 23 = .ok (.anewarray 18, 3) := by decide +kernel
theorem dX6_init_26 : decode cX6_init 26 = .ok (.putfield 20, 3) := by decide +kernel
theorem dX6_init_29 : decode cX6_init 29 = .ok (.iconst 0, 1) := by decide +kernel
theorem dX6_init_30 : decode cX6_init 30 = .ok (.istore_n 1, 1) := by decide +kernel
theorem dX6_init_31 : decode cX6_init 31 = .ok (.iload_n 1, 1) := by decide +kernel
theorem dX6_init_32 : decode cX6_init 32 = .ok (.bipush 8, 2) := by decide +kernel
theorem dX6_init_34 : decode cX6_init 34 = .ok (.if_icmp .ge 22, 3) := by decide +kernel
theorem dX6_init_37 : decode cX6_init 37 = .ok (.aload_n 0, 1) := by decide +kernel
theorem dX6_init_38 : decode cX6_init 38 = .ok (.getfield 20, 3) := by decide +kernel
theorem dX6_init_41 : decode cX6_init 41 = .ok (.iload_n 1, 1) := by decide +kernel
theorem dX6_init_42 : decode cX6_init 42 = .ok (.new 18, 3) := by decide +kernel
theorem dX6_init_45 : decode cX6_init 45 = .ok (.dup, 1) := by decide +kernel
theorem dX6_init_46 : decode cX6_init 46 = .ok (.invokespecial 24, 3) := by decide +kernel
theorem dX6_init_49 : decode cX6_init 49 = .ok (.aastore, 1) := by decide +kernel
theorem dX6_init_50 : decode cX6_init 50 = .ok (.iinc 1 1, 3) := by decide +kernel
theorem dX6_init_53 : decode cX6_init 53 = .ok (.goto (-22), 3) := by decide +kernel
theorem dX6_init_56 : decode cX6_init 56 = .ok (.aload_n 0, 1) := by decide +kernel
theorem dX6_init_57 : decode cX6_init 57 = .ok (.iconst 0, 1) := by decide +kernel
theorem dX6_init_58 : decode cX6_init 58 = .ok (.putfield 25, 3) := by decide +kernel
theorem dX6_init_61 : decode cX6_init 61 = .ok (.return_, 1) := by decide +kernel
set_option maxRecDepth 20000 in
theorem ggX6_copyFrom_X2_copyFrom : GoodIn wsX6_copyFrom wsX2_copyFrom := goodIn_r _ [13, 14, 15, 3, 4, 5, 16, 21, 22] rfl (by decide +kernel)
set_option maxRecDepth 20000 in
theorem gX6_copyFrom_X2_copyFrom : GoodIn wsX6_copyFrom (wsV RX6 35 RX2 yX2_copyFrom wsX2_copyFrom) := goodIn_app (goodIn_r _ [9, 10, 11, 12] rfl (by decide +kernel)) ggX6_copyFrom_X2_copyFrom
theorem dX6_copyFrom_0 : decode cX6_copyFrom 0 = .ok (.aload_n 1, 1) := by decide +kernel
theorem dX6_copyFrom_1 : decode cX6_copyFrom 1 = .ok (.getfield 9, 3) := by decide +kernel
theorem dX6_copyFrom_4 : decode cX6_copyFrom 4 = .ok (.iconst 0, 1) := by decide +kernel
theorem dX6_copyFrom_5 : decode cX6_copyFrom 5 = .ok (.aload_n 0, 1) := by decide +kernel
theorem dX6_copyFrom_6 : decode cX6_copyFrom 6 = .ok (.getfield 9, 3) := by decide +kernel
theorem dX6_copyFrom_9 : decode cX6_copyFrom 9 = .ok (.iconst 0, 1) := by decide +kernel
theorem dX6_copyFrom_10 : decode cX6_copyFrom 10 = .ok (.bipush 8, 2) := by decide +kernel
theorem dX6_copyFrom_12 : decode cX6_copyFrom 12 = .ok (.invokestatic 29, 3) := by decide +kernel
theorem dX6_copyFrom_15 : decode cX6_copyFrom 15 = .ok (.aload_n 1, 1) := by decide +kernel
theorem dX6_copyFrom_16 : decode cX6_copyFrom 16 = .ok (.getfield 15, 3) := by decide +kernel
theorem dX6_copyFrom_19 : decode cX6_copyFrom 19 = .ok (.iconst 0, 1) := by decide +kernel
theorem dX6_copyFrom_20 : decode cX6_copyFrom 20 = .ok (.aload_n 0, 1) := by decide +kernel
theorem dX6_copyFrom_21 : decode cX6_copyFrom 21 = .ok (.getfield 15, 3) := by decide +kernel
theorem dX6_copyFrom_24 : decode cX6_copyFrom 24 = .ok (.iconst 0, 1) := by decide +kernel
theorem dX6_copyFrom_25 : decode cX6_copyFrom 25 = .ok (.bipush 8, 2) := by decide +kernel
theorem dX6_copyFrom_27 : decode cX6_copyFrom 27 = .ok (.invokestatic 29, 3) := by decide +kernel
theorem dX6_copyFrom_30 : decode cX6_copyFrom 30 = .ok (.iconst 0, 1) := by decide +kernel
theorem dX6_copyFrom_31 : decode cX6_copyFrom 31 = .ok (.istore_n 2, 1) := by decide +kernel
theorem dX6_copyFrom_32 : decode cX6_copyFrom 32 = .ok (.iload_n 2, 1) := by decide +kernel
theorem dX6_copyFrom_33 : decode cX6_copyFrom 33 = .ok (.bipush 8, 2) := by decide +kernel
theorem dX6_copyFrom_35 : decode cX6_copyFrom 35 = .ok (.if_icmp .ge 24, 3) := by decide +kernel
theorem dX6_copyFrom_38 : decode cX6_copyFrom 38 = .ok (.aload_n 0, 1) := by decide +kernel
theorem dX6_copyFrom_39 : decode cX6_copyFrom 39 = .ok (.getfield 20, 3) := by decide +kernel
theorem dX6_copyFrom_42 : decode cX6_copyFrom 42 = .ok (.iload_n 2, 1) := by decide +kernel
theorem dX6_copyFrom_43 : decode cX6_copyFrom 43 = .ok (.aaload, 1) := by decide +kernel
theorem dX6_copyFrom_44 : decode cX6_copyFrom 44 = .ok (.aload_n 1, 1) := by decide +kernel
theorem dX6_copyFrom_45 : decode cX6_copyFrom 45 = .ok (.getfield 20, 3) := by decide +kernel
theorem dX6_copyFrom_48 : decode cX6_copyFrom 48 = .ok (.iload_n 2, 1) := by decide +kernel
theorem dX6_copyFrom_49 : decode cX6_copyFrom 49 = .ok (.aaload, 1) := by decide +kernel
theorem dX6_copyFrom_50 : decode cX6_copyFrom 50 = .ok (.invokevirtual 35, 3) := by decide +kernel
theorem dX6_copyFrom_53 : decode cX6_copyFrom 53 = .ok (.iinc 2 1, 3) := by decide +kernel
theorem dX6_copyFrom_56 : decode cX6_copyFrom 56 = .ok (.goto (-24), 3) := by decide +kernel
theorem dX6_copyFrom_59 : decode cX6_copyFrom 59 = .ok (.aload_n 0, 1) := by decide +kernel
theorem dX6_copyFrom_60 : decode cX6_copyFrom 60 = .ok (.aload_n 1, 1) := by decide +kernel
theorem dX6_copyFrom_61 : decode cX6_copyFrom 61 = .ok (.getfield 25, 3) := by decide +kernel
theorem dX6_copyFrom_64 : decode cX6_copyFrom 64 = .ok (.putfield 25, 3) := by decide +kernel
theorem dX6_copyFrom_67 : decode cX6_copyFrom 67 = .ok (.return_, 1) := by decide +kernel
set_option maxRecDepth 20000 in
theorem ggX6_readFrom_X7_isAtEnd : GoodIn wsX6_readFrom wsX7_isAtEnd := goodIn_r _ [6, 7, 8, 87, 88, 89, 90] rfl (by decide +kernel)
set_option maxRecDepth 20000 in
theorem gX6_readFrom_X7_isAtEnd : GoodIn wsX6_readFrom (wsV RX6 39 RX7 yX7_isAtEnd wsX7_isAtEnd) := goodIn_app (goodIn_r _ [2, 3, 4, 5] rfl (by decide +kernel)) ggX6_readFrom_X7_isAtEnd
set_option maxRecDepth 20000 in
theorem ggX6_readFrom_X6_readStep : GoodIn wsX6_readFrom wsX6_readStep := goodIn_r _ [13, 14, 15, 16, 17, 18, 19, 5, 20, 7, 8, 21, 22, 23, 24, 25, 26, 27, 28, 29, 30, 31, 32, 33, 34, 35, 36, 37, 38, 39, 40, 41, 42, 43, 44, 45, 46, 47, 48, 49, 50, 51, 52, 53, 54, 55, 56, 57, 58, 59, 60, 61, 62, 63, 64, 65, 66, 67, 68, 69, 70, 71, 72, 73, 83, 84, 85, 86, 87, 88, 89, 90, 91, 92, 93, 94] rfl (by decide +kernel)
set_option maxRecDepth 20000 in
theorem gX6_readFrom_X6_readStep : GoodIn wsX6_readFrom (wsV RX6 45 RX6 yX6_readStep wsX6_readStep) := goodIn_app (goodIn_r _ [9, 10, 11, 12] rfl (by decide +kernel)) ggX6_readFrom_X6_readStep
set_option maxRecDepth 20000 in
theorem ggX6_readFrom_X7_readBreak : GoodIn wsX6_readFrom wsX7_readBreak := goodIn_r _ [77, 37, 78, 3, 4, 5, 6, 7, 8, 79, 80, 81, 82, 45, 18, 19, 20, 21, 22, 23, 24, 25, 26, 27, 28, 54, 55, 56, 57, 58, 59, 60, 61, 87, 88, 89, 90, 91, 92] rfl (by decide +kernel)
set_option maxRecDepth 20000 in
theorem gX6_readFrom_X7_readBreak : GoodIn wsX6_readFrom (wsV RX6 49 RX7 yX7_readBreak wsX7_readBreak) := goodIn_app (goodIn_r _ [74, 75, 76, 5] rfl (by decide +kernel)) ggX6_readFrom_X7_readBreak
set_option maxRecDepth 20000 in
theorem ggX6_readFrom_X7_blameHere : GoodIn wsX6_readFrom wsX7_blameHere := goodIn_r _ [57, 7, 58, 59, 60, 5, 61, 37, 87, 88, 89, 90] rfl (by decide +kernel)
set_option maxRecDepth 20000 in
theorem gX6_readFrom_X7_blameHere : GoodIn wsX6_readFrom (wsV RX6 52 RX7 yX7_blameHere wsX7_blameHere) := goodIn_app (goodIn_r _ [73, 55, 56, 5] rfl (by decide +kernel)) ggX6_readFrom_X7_blameHere
theorem dX6_readFrom_0 : decode cX6_readFrom 0 = .ok (.aload_n 0, 1) := by decide +kernel
theorem dX6_readFrom_1 : decode cX6_readFrom 1 = .ok (.iconst 0, 1) := by decide +kernel
theorem dX6_readFrom_2 : decode cX6_readFrom 2 = .ok (.putfield 25, 3) := by decide +kernel
theorem dX6_readFrom_5 : decode cX6_readFrom 5 = .ok (.aload_n 1, 1) := by decide +kernel
theorem dX6_readFrom_6 : decode cX6_readFrom 6 = .ok (.invokevirtual 39, 3) := by decide +kernel
theorem dX6_readFrom_9 : decode cX6_readFrom 9 = .ok (.ifCond .ne 7, 3) := by decide +kernel
theorem dX6_readFrom_12 : decode cX6_readFrom 12 = .ok (.iconst 1, 1) := by decide +kernel
theorem dX6_readFrom_13 : decode cX6_readFrom 13 = .ok (.goto 4, 3) := by decide +kernel
theorem dX6_readFrom_16 : decode cX6_readFrom 16 = .ok (.iconst 0, 1) := by decide +kernel
theorem dX6_readFrom_17 : decode cX6_readFrom 17 = .ok (.istore_n 2, 1) := by decide +kernel
theorem dX6_readFrom_18 : decode cX6_readFrom 18 = .ok (.iconst 0, 1) := by decide +kernel
theorem dX6_readFrom_19 : decode cX6_readFrom 19 = .ok (.istore_n 3, 1) := by decide +kernel
theorem dX6_readFrom_20 : decode cX6_readFrom 20 = .ok (.iload_n 3, 1) := by decide +kernel
theorem dX6_readFrom_21 : decode cX6_readFrom 21 = .ok (.bipush 8, 2) := by decide +kernel
theorem dX6_readFrom_23 : decode cX6_readFrom 23 = .ok (.if_icmp .ge 31, 3) := by decide +kernel
theorem dX6_readFrom_26 : decode cX6_readFrom 26 = .ok (.iload_n 2, 1) := by decide +kernel
theorem dX6_readFrom_27 : decode cX6_readFrom 27 = .ok (.ifCond .eq 27, 3) := by decide +kernel
theorem dX6_readFrom_30 : decode cX6_readFrom 30 = .ok (.aload_n 0, 1) := by decide +kernel
theorem dX6_readFrom_31 : decode cX6_readFrom 31 = .ok (.aload_n 1, 1) := by decide +kernel
theorem dX6_readFrom_32 : decode cX6_readFrom 32 = .ok (.iload_n 3, 1) := by decide +kernel
theorem dX6_readFrom_33 : decode cX6_readFrom 33 = .ok (.invokevirtual 45, 3) := by decide +kernel
theorem dX6_readFrom_36 : decode cX6_readFrom 36 = .ok (.aload_n 0, 1) := by decide +kernel
theorem dX6_readFrom_37 : decode cX6_readFrom 37 = .ok (.iload_n 3, 1) := by decide +kernel
theorem dX6_readFrom_38 : decode cX6_readFrom 38 = .ok (.iconst 1, 1) := by decide +kernel
theorem dX6_readFrom_39 : decode cX6_readFrom 39 = .ok (.iadd, 1) := by decide +kernel
theorem dX6_readFrom_40 : decode cX6_readFrom 40 = .ok (.putfield 25, 3) := by decide +kernel
theorem dX6_readFrom_43 : decode cX6_readFrom 43 = .ok (.aload_n 1, 1) := by decide +kernel
theorem dX6_readFrom_44 : decode cX6_readFrom 44 = .ok (.invokevirtual 49, 3) := by decide +kernel
theorem dX6_readFrom_47 : decode cX6_readFrom 47 = .ok (.istore_n 2, 1) := by decide +kernel
theorem dX6_readFrom_48 : decode cX6_readFrom 48 = .ok (.iinc 3 1, 3) := by decide +kernel
theorem dX6_readFrom_51 : decode cX6_readFrom 51 = .ok (.goto (-31), 3) := by decide +kernel
theorem dX6_readFrom_54 : decode cX6_readFrom 54 = .ok (.iload_n 2, 1) := by decide +kernel
theorem dX6_readFrom_55 : decode cX6_readFrom 55 = .ok (.ifCond .eq 8, 3) := by decide +kernel
theorem dX6_readFrom_58 : decode cX6_readFrom 58 = .ok (.aload_n 1, 1) := by decide +kernel
theorem dX6_readFrom_59 : decode cX6_readFrom 59 = .ok (.iconst 4, 1) := by decide +kernel
theorem dX6_readFrom_60 : decode cX6_readFrom 60 = .ok (.invokevirtual 52, 3) := by decide +kernel
theorem dX6_readFrom_63 : decode cX6_readFrom 63 = .ok (.return_, 1) := by decide +kernel
set_option maxRecDepth 20000 in
theorem ggX6_readStep_X7_sign : GoodIn wsX6_readStep wsX7_sign := goodIn_r _ [8, 9, 10, 11, 12, 13, 14, 15, 16, 17, 18, 68, 69, 70, 71, 72, 73] rfl (by decide +kernel)
set_option maxRecDepth 20000 in
theorem gX6_readStep_X7_sign : GoodIn wsX6_readStep (wsV RX6 56 RX7 yX7_sign wsX7_sign) := goodIn_app (goodIn_r _ [4, 5, 6, 7] rfl (by decide +kernel)) ggX6_readStep_X7_sign
set_option maxRecDepth 20000 in
theorem ggX6_readStep_X7_goOn : GoodIn wsX6_readStep wsX7_goOn := goodIn_r _ [22, 9, 68, 69, 70, 71] rfl (by decide +kernel)
set_option maxRecDepth 20000 in
theorem gX6_readStep_X7_goOn : GoodIn wsX6_readStep (wsV RX6 60 RX7 yX7_goOn wsX7_goOn) := goodIn_app (goodIn_r _ [19, 20, 21, 7] rfl (by decide +kernel)) ggX6_readStep_X7_goOn
set_option maxRecDepth 20000 in
theorem ggX6_readStep_X7_readKey : GoodIn wsX6_readStep wsX7_readKey := goodIn_r _ [26, 27, 9, 28, 29, 30, 31, 32, 33, 34, 35, 5, 6, 7, 8, 10, 11, 12, 13, 14, 15, 16, 17, 18, 36, 37, 38, 39, 40, 41, 42, 43, 44, 45, 46, 47, 48, 49, 50, 51, 68, 69, 70, 71, 74, 75, 72, 73] rfl (by decide +kernel)
set_option maxRecDepth 20000 in
theorem gX6_readStep_X7_readKey : GoodIn wsX6_readStep (wsV RX6 63 RX7 yX7_readKey wsX7_readKey) := goodIn_app (goodIn_r _ [23, 24, 25, 7] rfl (by decide +kernel)) ggX6_readStep_X7_readKey
set_option maxRecDepth 20000 in
theorem ggX6_readStep_X7_readNumberAboveZero : GoodIn wsX6_readStep wsX7_readNumberAboveZero := goodIn_r _ [55, 9, 56, 57, 58, 7, 59, 27, 35, 5, 6, 8, 10, 11, 12, 13, 14, 15, 16, 17, 18, 60, 37, 61, 44, 45, 46, 47, 48, 49, 50, 51, 68, 69, 70, 71, 72, 73] rfl (by decide +kernel)
set_option maxRecDepth 20000 in
theorem gX6_readStep_X7_readNumberAboveZero : GoodIn wsX6_readStep (wsV RX6 66 RX7 yX7_readNumberAboveZero wsX7_readNumberAboveZero) := goodIn_app (goodIn_r _ [52, 53, 54, 7] rfl (by decide +kernel)) ggX6_readStep_X7_readNumberAboveZero
set_option maxRecDepth 20000 in
theorem ggX6_readStep_X7_readNumber : GoodIn wsX6_readStep wsX7_readNumber := goodIn_r _ [59, 9, 27, 35, 5, 6, 7, 8, 10, 11, 12, 13, 14, 15, 16, 17, 18, 60, 37, 61, 44, 45, 46, 47, 48, 49, 50, 51, 68, 69, 70, 71, 72, 73] rfl (by decide +kernel)
set_option maxRecDepth 20000 in
theorem gX6_readStep_X7_readNumber : GoodIn wsX6_readStep (wsV RX6 69 RX7 yX7_readNumber wsX7_readNumber) := goodIn_app (goodIn_r _ [62, 57, 58, 7] rfl (by decide +kernel)) ggX6_readStep_X7_readNumber
set_option maxRecDepth 20000 in
theorem ggX6_readStep_X7_blameHere : GoodIn wsX6_readStep wsX7_blameHere := goodIn_r _ [47, 9, 48, 49, 50, 7, 51, 27, 68, 69, 70, 71] rfl (by decide +kernel)
set_option maxRecDepth 20000 in
theorem gX6_readStep_X7_blameHere : GoodIn wsX6_readStep (wsV RX6 52 RX7 yX7_blameHere wsX7_blameHere) := goodIn_app (goodIn_r _ [63, 45, 46, 7] rfl (by decide +kernel)) ggX6_readStep_X7_blameHere
theorem dX6_readStep_0 : decode cX6_readStep 0 = .ok (.aload_n 1, 1) := by decide +kernel
theorem dX6_readStep_1 : decode cX6_readStep 1 = .ok (.invokevirtual 56, 3) := by decide +kernel
theorem dX6_readStep_4 : decode cX6_readStep 4 = .ok (.istore_n 3, 1) := by decide +kernel
theorem dX6_readStep_5 : decode cX6_readStep 5 = .ok (.aload_n 0, 1) := by decide +kernel
theorem dX6_readStep_6 : decode cX6_readStep 6 = .ok (.getfield 9, 3) := by decide +kernel
theorem dX6_readStep_9 : decode cX6_readStep 9 = .ok (.iload_n 2, 1) := by decide +kernel
theorem dX6_readStep_10 : decode cX6_readStep 10 = .ok (.iload_n 3, 1) := by decide +kernel
theorem dX6_readStep_11 : decode cX6_readStep 11 = .ok (.iastore, 1) := by decide +kernel
theorem dX6_readStep_12 : decode cX6_readStep 12 = .ok (.iload_n 3, 1) := by decide +kernel
theorem dX6_readStep_13 : decode cX6_readStep 13 = .ok (.lookupswitch 149 #[(60, 132), (62, 132), (100, 132), (101, 91), (107, 115), (108, 132), (111, 91), (112, 98), (114, 91), (116, 132)], 91) := by decide +kernel
theorem dX6_readStep_104 : decode cX6_readStep 104 = .ok (.aload_n 1, 1) := by decide +kernel
theorem dX6_readStep_105 : decode cX6_readStep 105 = .ok (.invokevirtual 60, 3) := by decide +kernel
theorem dX6_readStep_108 : decode cX6_readStep 108 = .ok (.goto 59, 3) := by decide +kernel
theorem dX6_readStep_111 : decode cX6_readStep 111 = .ok (.aload_n 1, 1) := by decide +kernel
theorem dX6_readStep_112 : decode cX6_readStep 112 = .ok (.invokevirtual 60, 3) := by decide +kernel
theorem dX6_readStep_115 : decode cX6_readStep 115 = .ok (.aload_n 1, 1) := by decide +kernel
theorem dX6_readStep_116 : decode cX6_readStep 116 = .ok (.aload_n 0, 1) := by decide +kernel
theorem dX6_readStep_117 : decode cX6_readStep 117 = .ok (.getfield 20, 3) := by decide +kernel
theorem dX6_readStep_120 : decode cX6_readStep 120 = .ok (.iload_n 2, 1) := by decide +kernel
theorem dX6_readStep_121 : decode cX6_readStep 121 = .ok (.aaload, 1) := by decide +kernel
theorem dX6_readStep_122 : decode cX6_readStep 122 = .ok (.invokevirtual 63, 3) := by decide +kernel
theorem dX6_readStep_125 : decode cX6_readStep 125 = .ok (.goto 42, 3) := by decide +kernel
theorem dX6_readStep_128 : decode cX6_readStep 128 = .ok (.aload_n 1, 1) := by decide +kernel
theorem dX6_readStep_129 : decode cX6_readStep 129 = .ok (.invokevirtual 60, 3) := by decide +kernel
theorem dX6_readStep_132 : decode cX6_readStep 132 = .ok (.aload_n 0, 1) := by decide +kernel
theorem dX6_readStep_133 : decode cX6_readStep 133 = .ok (.getfield 15, 3) := by decide +kernel
theorem dX6_readStep_136 : decode cX6_readStep 136 = .ok (.iload_n 2, 1) := by decide +kernel
theorem dX6_readStep_137 : decode cX6_readStep 137 = .ok (.aload_n 1, 1) := by decide +kernel
theorem dX6_readStep_138 : decode cX6_readStep 138 = .ok (.invokevirtual 66, 3) := by decide +kernel
theorem dX6_readStep_141 : decode cX6_readStep 141 = .ok (.iastore, 1) := by decide +kernel
theorem dX6_readStep_142 : decode cX6_readStep 142 = .ok (.goto 25, 3) := by decide +kernel
theorem dX6_readStep_145 : decode cX6_readStep 145 = .ok (.aload_n 1, 1) := by decide +kernel
theorem dX6_readStep_146 : decode cX6_readStep 146 = .ok (.invokevirtual 60, 3) := by decide +kernel
theorem dX6_readStep_149 : decode cX6_readStep 149 = .ok (.aload_n 0, 1) := by decide +kernel
theorem dX6_readStep_150 : decode cX6_readStep 150 = .ok (.getfield 15, 3) := by decide +kernel
theorem dX6_readStep_153 : decode cX6_readStep 153 = .ok (.iload_n 2, 1) := by decide +kernel
theorem dX6_readStep_154 : decode cX6_readStep 154 = .ok (.aload_n 1, 1) := by decide +kernel
theorem dX6_readStep_155 : decode cX6_readStep 155 = .ok (.invokevirtual 69, 3) := by decide +kernel
theorem dX6_readStep_158 : decode cX6_readStep 158 = .ok (.iastore, 1) := by decide +kernel
theorem dX6_readStep_159 : decode cX6_readStep 159 = .ok (.goto 8, 3) := by decide +kernel
theorem dX6_readStep_162 : decode cX6_readStep 162 = .ok (.aload_n 1, 1) := by decide +kernel
theorem dX6_readStep_163 : decode cX6_readStep 163 = .ok (.iconst 1, 1) := by decide +kernel
theorem dX6_readStep_164 : decode cX6_readStep 164 = .ok (.invokevirtual 52, 3) := by decide +kernel
theorem dX6_readStep_167 : decode cX6_readStep 167 = .ok (.return_, 1) := by decide +kernel
theorem dX6_turnsRound_0 : decode cX6_turnsRound 0 = .ok (.iload_n 1, 1) := by decide +kernel
theorem dX6_turnsRound_1 : decode cX6_turnsRound 1 = .ok (.ifCond .lt 32, 3) := by decide +kernel
theorem dX6_turnsRound_4 : decode cX6_turnsRound 4 = .ok (.iload_n 1, 1) := by decide +kernel
theorem dX6_turnsRound_5 : decode cX6_turnsRound 5 = .ok (.aload_n 0, 1) := by decide +kernel
theorem dX6_turnsRound_6 : decode cX6_turnsRound 6 = .ok (.getfield 25, 3) := by decide +kernel
theorem dX6_turnsRound_9 : decode cX6_turnsRound 9 = .ok (.if_icmp .ge 24, 3) := by decide +kernel
theorem dX6_turnsRound_12 : decode cX6_turnsRound 12 = .ok (.iload_n 1, 1) := by decide +kernel
theorem dX6_turnsRound_13 : decode cX6_turnsRound 13 = .ok (.bipush 8, 2) := by decide +kernel
theorem dX6_turnsRound_15 : decode cX6_turnsRound 15 = .ok (.if_icmp .ge 18, 3) := by decide +kernel
theorem dX6_turnsRound_18 : decode cX6_turnsRound 18 = .ok (.aload_n 0, 1) := by decide +kernel
theorem dX6_turnsRound_19 : decode cX6_turnsRound 19 = .ok (.getfield 9, 3) := by decide +kernel
theorem dX6_turnsRound_22 : decode cX6_turnsRound 22 = .ok (.iload_n 1, 1) := by decide +kernel
theorem dX6_turnsRound_23 : decode cX6_turnsRound 23 = .ok (.iaload, 1) := by decide +kernel
theorem dX6_turnsRound_24 : decode cX6_turnsRound 24 = .ok (.bipush 114, 2) := by decide +kernel
theorem dX6_turnsRound_26 : decode cX6_turnsRound 26 = .ok (.if_icmp .ne 7, 3) := by decide +kernel
theorem dX6_turnsRound_29 : decode cX6_turnsRound 29 = .ok (.iconst 1, 1) := by decide +kernel
theorem dX6_turnsRound_30 : decode cX6_turnsRound 30 = .ok (.goto 4, 3) := by decide +kernel
theorem dX6_turnsRound_33 : decode cX6_turnsRound 33 = .ok (.iconst 0, 1) := by decide +kernel
theorem dX6_turnsRound_34 : decode cX6_turnsRound 34 = .ok (.ireturn, 1) := by decide +kernel
set_option maxRecDepth 20000 in
theorem ggX6_leaves_X3_beginsWith : GoodIn wsX6_leaves wsX3_beginsWith := goodIn_r _ [9, 10, 11, 12, 13, 8, 14, 15, 16, 17, 18, 19, 20, 21, 22, 23, 24, 25, 26, 27, 28, 39, 40, 41, 42, 43, 44] rfl (by decide +kernel)
set_option maxRecDepth 20000 in
theorem gX6_leaves_X3_beginsWith : GoodIn wsX6_leaves (wsV RX6 72 RX3 yX3_beginsWith wsX3_beginsWith) := goodIn_app (goodIn_r _ [5, 6, 7, 8] rfl (by decide +kernel)) ggX6_leaves_X3_beginsWith
set_option maxRecDepth 20000 in
theorem ggX6_leaves_X3_valueOf : GoodIn wsX6_leaves wsX3_valueOf := goodIn_r _ [32, 15, 33, 41, 42, 43, 44] rfl (by decide +kernel)
set_option maxRecDepth 20000 in
theorem gX6_leaves_X3_valueOf : GoodIn wsX6_leaves (wsV RX6 78 RX3 yX3_valueOf wsX3_valueOf) := goodIn_app (goodIn_r _ [29, 30, 31, 8] rfl (by decide +kernel)) ggX6_leaves_X3_valueOf
set_option maxRecDepth 20000 in
theorem ggX6_leaves_X3_lengthOf : GoodIn wsX6_leaves wsX3_lengthOf := goodIn_r _ [14, 15, 16, 41, 42, 43, 44] rfl (by decide +kernel)
set_option maxRecDepth 20000 in
theorem gX6_leaves_X3_lengthOf : GoodIn wsX6_leaves (wsV RX6 82 RX3 yX3_lengthOf wsX3_lengthOf) := goodIn_app (goodIn_r _ [34, 12, 13, 8] rfl (by decide +kernel)) ggX6_leaves_X3_lengthOf
theorem dX6_leaves_0 : decode cX6_leaves 0 = .ok (.iload_n 1, 1) := by decide +kernel
theorem dX6_leaves_1 : decode cX6_leaves 1 = .ok (.ifCond .lt 17, 3) := by decide +kernel
theorem dX6_leaves_4 : decode cX6_leaves 4 = .ok (.iload_n 1, 1) := by decide +kernel
theorem dX6_leaves_5 : decode cX6_leaves 5 = .ok (.aload_n 0, 1) := by decide +kernel
theorem dX6_leaves_6 : decode cX6_leaves 6 = .ok (.getfield 25, 3) := by decide +kernel
theorem dX6_leaves_9 : decode cX6_leaves 9 = .ok (.if_icmp .ge 9, 3) := by decide +kernel
theorem dX6_leaves_12 : decode cX6_leaves 12 = .ok (.iload_n 1, 1) := by decide +kernel
theorem dX6_leaves_13 : decode cX6_leaves 13 = .ok (.bipush 8, 2) := by decide +kernel
theorem dX6_leaves_15 : decode cX6_leaves 15 = .ok (.if_icmp .lt 5, 3) := by decide +kernel
theorem dX6_leaves_18 : decode cX6_leaves 18 = .ok (.iconst 1, 1) := by decide +kernel
theorem dX6_leaves_19 : decode cX6_leaves 19 = .ok (.ireturn, 1) := by decide +kernel
theorem dX6_leaves_20 : decode cX6_leaves 20 = .ok (.aload_n 0, 1) := by decide +kernel
theorem dX6_leaves_21 : decode cX6_leaves 21 = .ok (.getfield 15, 3) := by decide +kernel
theorem dX6_leaves_24 : decode cX6_leaves 24 = .ok (.iload_n 1, 1) := by decide +kernel
theorem dX6_leaves_25 : decode cX6_leaves 25 = .ok (.iaload, 1) := by decide +kernel
theorem dX6_leaves_26 : decode cX6_leaves 26 = .ok (.istore 5, 2) := by decide +kernel
theorem dX6_leaves_28 : decode cX6_leaves 28 = .ok (.aload_n 0, 1) := by decide +kernel
theorem dX6_leaves_29 : decode cX6_leaves 29 = .ok (.getfield 9, 3) := by decide +kernel
theorem dX6_leaves_32 : decode cX6_leaves 32 = .ok (.iload_n 1, 1) := by decide +kernel
theorem dX6_leaves_33 : decode cX6_leaves 33 = .ok (.iaload, 1) := by decide +kernel
theorem dX6_leaves_34 : decode cX6_leaves 34 = .ok (.lookupswitch 220 #[(60, 110), (62, 94), (100, 194), (101, 142), (107, 175), (108, 126), (111, 158), (112, 82), (116, 207)], 82) := by decide +kernel
theorem dX6_leaves_116 : decode cX6_leaves 116 = .ok (.aload_n 2, 1) := by decide +kernel
theorem dX6_leaves_117 : decode cX6_leaves 117 = .ok (.iload_n 3, 1) := by decide +kernel
theorem dX6_leaves_118 : decode cX6_leaves 118 = .ok (.aload_n 0, 1) := by decide +kernel
theorem dX6_leaves_119 : decode cX6_leaves 119 = .ok (.getfield 20, 3) := by decide +kernel
theorem dX6_leaves_122 : decode cX6_leaves 122 = .ok (.iload_n 1, 1) := by decide +kernel
theorem dX6_leaves_123 : decode cX6_leaves 123 = .ok (.aaload, 1) := by decide +kernel
theorem dX6_leaves_124 : decode cX6_leaves 124 = .ok (.invokevirtual 72, 3) := by decide +kernel
theorem dX6_leaves_127 : decode cX6_leaves 127 = .ok (.ireturn, 1) := by decide +kernel
theorem dX6_leaves_128 : decode cX6_leaves 128 = .ok (.aload_n 2, 1) := by decide +kernel
theorem dX6_leaves_129 : decode cX6_leaves 129 = .ok (.iload_n 3, 1) := by decide +kernel
theorem dX6_leaves_130 : decode cX6_leaves 130 = .ok (.invokevirtual 78, 3) := by decide +kernel
theorem dX6_leaves_133 : decode cX6_leaves 133 = .ok (.iload 5, 2) := by decide +kernel
theorem dX6_leaves_135 : decode cX6_leaves 135 = .ok (.if_icmp .le 7, 3) := by decide +kernel
theorem dX6_leaves_138 : decode cX6_leaves 138 = .ok (.iconst 1, 1) := by decide +kernel
theorem dX6_leaves_139 : decode cX6_leaves 139 = .ok (.goto 4, 3) := by decide +kernel
theorem dX6_leaves_142 : decode cX6_leaves 142 = .ok (.iconst 0, 1) := by decide +kernel
theorem dX6_leaves_143 : decode cX6_leaves 143 = .ok (.ireturn, 1) := by decide +kernel
theorem dX6_leaves_144 : decode cX6_leaves 144 = .ok (.aload_n 2, 1) := by decide +kernel
theorem dX6_leaves_145 : decode cX6_leaves 145 = .ok (.iload_n 3, 1) := by decide +kernel
theorem dX6_leaves_146 : decode cX6_leaves 146 = .ok (.invokevirtual 78, 3) := by decide +kernel
theorem dX6_leaves_149 : decode cX6_leaves 149 = .ok (.iload 5, 2) := by decide +kernel
theorem dX6_leaves_151 : decode cX6_leaves 151 = .ok (.if_icmp .ge 7, 3) := by decide +kernel
theorem dX6_leaves_154 : decode cX6_leaves 154 = .ok (.iconst 1, 1) := by decide +kernel
theorem dX6_leaves_155 : decode cX6_leaves 155 = .ok (.goto 4, 3) := by decide +kernel
theorem dX6_leaves_158 : decode cX6_leaves 158 = .ok (.iconst 0, 1) := by decide +kernel
theorem dX6_leaves_159 : decode cX6_leaves 159 = .ok (.ireturn, 1) := by decide +kernel
theorem dX6_leaves_160 : decode cX6_leaves 160 = .ok (.aload_n 2, 1) := by decide +kernel
theorem dX6_leaves_161 : decode cX6_leaves 161 = .ok (.iload_n 3, 1) := by decide +kernel
theorem dX6_leaves_162 : decode cX6_leaves 162 = .ok (.invokevirtual 82, 3) := by decide +kernel
theorem dX6_leaves_165 : decode cX6_leaves 165 = .ok (.iload 5, 2) := by decide +kernel
theorem dX6_leaves_167 : decode cX6_leaves 167 = .ok (.if_icmp .lt 7, 3) := by decide +kernel
theorem dX6_leaves_170 : decode cX6_leaves 170 = .ok (.iconst 1, 1) := by decide +kernel
theorem dX6_leaves_171 : decode cX6_leaves 171 = .ok (.goto 4, 3) := by decide +kernel
theorem dX6_leaves_174 : decode cX6_leaves 174 = .ok (.iconst 0, 1) := by decide +kernel
theorem dX6_leaves_175 : decode cX6_leaves 175 = .ok (.ireturn, 1) := by decide +kernel
theorem dX6_leaves_176 : decode cX6_leaves 176 = .ok (.aload_n 2, 1) := by decide +kernel
theorem dX6_leaves_177 : decode cX6_leaves 177 = .ok (.iload_n 3, 1) := by decide +kernel
theorem dX6_leaves_178 : decode cX6_leaves 178 = .ok (.invokevirtual 78, 3) := by decide +kernel
theorem dX6_leaves_181 : decode cX6_leaves 181 = .ok (.iconst 1, 1) := by decide +kernel
theorem dX6_leaves_182 : decode cX6_leaves 182 = .ok (.iand, 1) := by decide +kernel
theorem dX6_leaves_183 : decode cX6_leaves 183 = .ok (.ifCond .ne 7, 3) := by decide +kernel
theorem dX6_leaves_186 : decode cX6_leaves 186 = .ok (.iconst 1, 1) := by decide +kernel
theorem dX6_leaves_187 : decode cX6_leaves 187 = .ok (.goto 4, 3) := by decide +kernel
theorem dX6_leaves_190 : decode cX6_leaves 190 = .ok (.iconst 0, 1) := by decide +kernel
theorem dX6_leaves_191 : decode cX6_leaves 191 = .ok (.ireturn, 1) := by decide +kernel
theorem dX6_leaves_192 : decode cX6_leaves 192 = .ok (.aload_n 2, 1) := by decide +kernel
theorem dX6_leaves_193 : decode cX6_leaves 193 = .ok (.iload_n 3, 1) := by decide +kernel
theorem dX6_leaves_194 : decode cX6_leaves 194 = .ok (.invokevirtual 78, 3) := by decide +kernel
theorem dX6_leaves_197 : decode cX6_leaves 197 = .ok (.iconst 1, 1) := by decide +kernel
theorem dX6_leaves_198 : decode cX6_leaves 198 = .ok (.iand, 1) := by decide +kernel
theorem dX6_leaves_199 : decode cX6_leaves 199 = .ok (.iconst 1, 1) := by decide +kernel
theorem dX6_leaves_200 : decode cX6_leaves 200 = .ok (.if_icmp .ne 7, 3) := by decide +kernel
theorem dX6_leaves_203 : decode cX6_leaves 203 = .ok (.iconst 1, 1) := by decide +kernel
theorem dX6_leaves_204 : decode cX6_leaves 204 = .ok (.goto 4, 3) := by decide +kernel
theorem dX6_leaves_207 : decode cX6_leaves 207 = .ok (.iconst 0, 1) := by decide +kernel
theorem dX6_leaves_208 : decode cX6_leaves 208 = .ok (.ireturn, 1) := by decide +kernel
theorem dX6_leaves_209 : decode cX6_leaves 209 = .ok (.iload 5, 2) := by decide +kernel
theorem dX6_leaves_211 : decode cX6_leaves 211 = .ok (.ifCond .le 15, 3) := by decide +kernel
theorem dX6_leaves_214 : decode cX6_leaves 214 = .ok (.iload 4, 2) := by decide +kernel
theorem dX6_leaves_216 : decode cX6_leaves 216 = .ok (.iload 5, 2) := by decide +kernel
theorem dX6_leaves_218 : decode cX6_leaves 218 = .ok (.irem, 1) := by decide +kernel
theorem dX6_leaves_219 : decode cX6_leaves 219 = .ok (.ifCond .ne 7, 3) := by decide +kernel
theorem dX6_leaves_222 : decode cX6_leaves 222 = .ok (.iconst 1, 1) := by decide +kernel
theorem dX6_leaves_223 : decode cX6_leaves 223 = .ok (.goto 4, 3) := by decide +kernel
theorem dX6_leaves_226 : decode cX6_leaves 226 = .ok (.iconst 0, 1) := by decide +kernel
theorem dX6_leaves_227 : decode cX6_leaves 227 = .ok (.ireturn, 1) := by decide +kernel
theorem dX6_leaves_228 : decode cX6_leaves 228 = .ok (.iload 4, 2) := by decide +kernel
theorem dX6_leaves_230 : decode cX6_leaves 230 = .ok (.iload 5, 2) := by decide +kernel
theorem dX6_leaves_232 : decode cX6_leaves 232 = .ok (.if_icmp .lt 7, 3) := by decide +kernel
theorem dX6_leaves_235 : decode cX6_leaves 235 = .ok (.iconst 1, 1) := by decide +kernel
theorem dX6_leaves_236 : decode cX6_leaves 236 = .ok (.goto 4, 3) := by decide +kernel
theorem dX6_leaves_239 : decode cX6_leaves 239 = .ok (.iconst 0, 1) := by decide +kernel
theorem dX6_leaves_240 : decode cX6_leaves 240 = .ok (.ireturn, 1) := by decide +kernel
theorem dX6_leaves_241 : decode cX6_leaves 241 = .ok (.iload 4, 2) := by decide +kernel
theorem dX6_leaves_243 : decode cX6_leaves 243 = .ok (.iload 5, 2) := by decide +kernel
theorem dX6_leaves_245 : decode cX6_leaves 245 = .ok (.if_icmp .ge 7, 3) := by decide +kernel
theorem dX6_leaves_248 : decode cX6_leaves 248 = .ok (.iconst 1, 1) := by decide +kernel
theorem dX6_leaves_249 : decode cX6_leaves 249 = .ok (.goto 4, 3) := by decide +kernel
theorem dX6_leaves_252 : decode cX6_leaves 252 = .ok (.iconst 0, 1) := by decide +kernel
theorem dX6_leaves_253 : decode cX6_leaves 253 = .ok (.ireturn, 1) := by decide +kernel
theorem dX6_leaves_254 : decode cX6_leaves 254 = .ok (.iconst 1, 1) := by decide +kernel
theorem dX6_leaves_255 : decode cX6_leaves 255 = .ok (.ireturn, 1) := by decide +kernel
theorem dX7_init_0 : decode cX7_init 0 = .ok (.aload_n 0, 1) := by decide +kernel
theorem dX7_init_1 : decode cX7_init 1 = .ok (.invokespecial 3, 3) := by decide +kernel
theorem dX7_init_4 : decode cX7_init 4 = .ok (.aload_n 0, 1) := by decide +kernel
theorem dX7_init_5 : decode cX7_init 5 = .ok (.aload_n 1, 1) := by decide +kernel
theorem dX7_init_6 : decode cX7_init 6 = .ok (.putfield 9, 3) := by decide +kernel
theorem dX7_init_9 : decode cX7_init 9 = .ok (.aload_n 0, 1) := by decide +kernel
theorem dX7_init_10 : decode cX7_init 10 = .ok (.iconst 0, 1) := by decide +kernel
theorem dX7_init_11 : decode cX7_init 11 = .ok (.putfield 15, 3) := by decide +kernel
theorem dX7_init_14 : decode cX7_init 14 = .ok (.aload_n 0, 1) := by decide +kernel
theorem dX7_init_15 : decode cX7_init 15 = .ok (.iconst 0, 1) := by decide +kernel
theorem dX7_init_16 : decode cX7_init 16 = .ok (.putfield 19, 3) := by decide +kernel
theorem dX7_init_19 : decode cX7_init 19 = .ok (.aload_n 0, 1) := by decide +kernel
theorem dX7_init_20 : decode cX7_init 20 = .ok (.iconst 0, 1) := by decide +kernel
theorem dX7_init_21 : decode cX7_init 21 = .ok (.putfield 22, 3) := by decide +kernel
theorem dX7_init_24 : decode cX7_init 24 = .ok (.return_, 1) := by decide +kernel
theorem dX7_open_0 : decode cX7_open 0 = .ok (.aload_n 0, 1) := by decide +kernel
theorem dX7_open_1 : decode cX7_open 1 = .ok (.iconst 0, 1) := by decide +kernel
theorem dX7_open_2 : decode cX7_open 2 = .ok (.putfield 15, 3) := by decide +kernel
theorem dX7_open_5 : decode cX7_open 5 = .ok (.aload_n 0, 1) := by decide +kernel
theorem dX7_open_6 : decode cX7_open 6 = .ok (.iload_n 1, 1) := by decide +kernel
theorem dX7_open_7 : decode cX7_open 7 = .ok (.putfield 19, 3) := by decide +kernel
theorem dX7_open_10 : decode cX7_open 10 = .ok (.aload_n 0, 1) := by decide +kernel
theorem dX7_open_11 : decode cX7_open 11 = .ok (.iconst 0, 1) := by decide +kernel
theorem dX7_open_12 : decode cX7_open 12 = .ok (.putfield 22, 3) := by decide +kernel
theorem dX7_open_15 : decode cX7_open 15 = .ok (.return_, 1) := by decide +kernel
theorem dX7_isAtEnd_0 : decode cX7_isAtEnd 0 = .ok (.aload_n 0, 1) := by decide +kernel
theorem dX7_isAtEnd_1 : decode cX7_isAtEnd 1 = .ok (.getfield 15, 3) := by decide +kernel
theorem dX7_isAtEnd_4 : decode cX7_isAtEnd 4 = .ok (.aload_n 0, 1) := by decide +kernel
theorem dX7_isAtEnd_5 : decode cX7_isAtEnd 5 = .ok (.getfield 19, 3) := by decide +kernel
theorem dX7_isAtEnd_8 : decode cX7_isAtEnd 8 = .ok (.if_icmp .lt 7, 3) := by decide +kernel
theorem dX7_isAtEnd_11 : decode cX7_isAtEnd 11 = .ok (.iconst 1, 1) := by decide +kernel
theorem dX7_isAtEnd_12 : decode cX7_isAtEnd 12 = .ok (.goto 4, 3) := by decide +kernel
theorem dX7_isAtEnd_15 : decode cX7_isAtEnd 15 = .ok (.iconst 0, 1) := by decide +kernel
theorem dX7_isAtEnd_16 : decode cX7_isAtEnd 16 = .ok (.ireturn, 1) := by decide +kernel
set_option maxRecDepth 20000 in
theorem ggX7_sign_X9_byteAt : GoodIn wsX7_sign wsX9_byteAt := goodIn_r _ [8, 9, 10, 15, 16] rfl (by decide +kernel)
set_option maxRecDepth 20000 in
theorem gX7_sign_X9_byteAt : GoodIn wsX7_sign (wsV RX7 25 RX9 yX9_byteAt wsX9_byteAt) := goodIn_app (goodIn_r _ [4, 5, 6, 7] rfl (by decide +kernel)) ggX7_sign_X9_byteAt
theorem dX7_sign_0 : decode cX7_sign 0 = .ok (.aload_n 0, 1) := by decide +kernel
theorem dX7_sign_1 : decode cX7_sign 1 = .ok (.getfield 15, 3) := by decide +kernel
theorem dX7_sign_4 : decode cX7_sign 4 = .ok (.aload_n 0, 1) := by decide +kernel
theorem dX7_sign_5 : decode cX7_sign 5 = .ok (.getfield 19, 3) := by decide +kernel
theorem dX7_sign_8 : decode cX7_sign 8 = .ok (.if_icmp .ge 17, 3) := by decide +kernel
theorem dX7_sign_11 : decode cX7_sign 11 = .ok (.aload_n 0, 1) := by decide +kernel
theorem dX7_sign_12 : decode cX7_sign 12 = .ok (.getfield 9, 3) := by decide +kernel
theorem dX7_sign_15 : decode cX7_sign 15 = .ok (.aload_n 0, 1) := by decide +kernel
theorem dX7_sign_16 : decode cX7_sign 16 = .ok (.getfield 15, 3) := by decide +kernel
theorem dX7_sign_19 : decode cX7_sign 19 = .ok (.invokevirtual 25, 3) := by decide +kernel
theorem dX7_sign_22 : decode cX7_sign 22 = .ok (.goto 4, 3) := by decide +kernel
theorem dX7_sign_25 : decode cX7_sign 25 = .ok (.iconst (-1), 1) := by decide +kernel
theorem dX7_sign_26 : decode cX7_sign 26 = .ok (.ireturn, 1) := by decide +kernel
theorem dX7_blame_0 : decode cX7_blame 0 = .ok (.aload_n 0, 1) := by decide +kernel
theorem dX7_blame_1 : decode cX7_blame 1 = .ok (.getfield 22, 3) := by decide +kernel
theorem dX7_blame_4 : decode cX7_blame 4 = .ok (.ifCond .ne 14, 3) := by decide +kernel
theorem dX7_blame_7 : decode cX7_blame 7 = .ok (.aload_n 0, 1) := by decide +kernel
theorem dX7_blame_8 : decode cX7_blame 8 = .ok (.sipush (-1000), 3) := by decide +kernel
theorem dX7_blame_11 : decode cX7_blame 11 = .ok (.iload_n 1, 1) := by decide +kernel
theorem dX7_blame_12 : decode cX7_blame 12 = .ok (.imul, 1) := by decide +kernel
theorem dX7_blame_13 : decode cX7_blame 13 = .ok (.iload_n 2, 1) := by decide +kernel
theorem dX7_blame_14 : decode cX7_blame 14 = .ok (.isub, 1) := by decide +kernel
theorem dX7_blame_15 : decode cX7_blame 15 = .ok (.putfield 22, 3) := by decide +kernel
theorem dX7_blame_18 : decode cX7_blame 18 = .ok (.return_, 1) := by decide +kernel
set_option maxRecDepth 20000 in
theorem ggX7_blameHere_X7_blame : GoodIn wsX7_blameHere wsX7_blame := goodIn_r _ [6, 7, 8, 9, 10, 11] rfl (by decide +kernel)
set_option maxRecDepth 20000 in
theorem gX7_blameHere_X7_blame : GoodIn wsX7_blameHere (wsV RX7 31 RX7 yX7_blame wsX7_blame) := goodIn_app (goodIn_r _ [2, 3, 4, 5] rfl (by decide +kernel)) ggX7_blameHere_X7_blame
theorem dX7_blameHere_0 : decode cX7_blameHere 0 = .ok (.aload_n 0, 1) := by decide +kernel
theorem dX7_blameHere_1 : decode cX7_blameHere 1 = .ok (.iload_n 1, 1) := by decide +kernel
theorem dX7_blameHere_2 : decode cX7_blameHere 2 = .ok (.aload_n 0, 1) := by decide +kernel
theorem dX7_blameHere_3 : decode cX7_blameHere 3 = .ok (.getfield 15, 3) := by decide +kernel
theorem dX7_blameHere_6 : decode cX7_blameHere 6 = .ok (.invokevirtual 31, 3) := by decide +kernel
theorem dX7_blameHere_9 : decode cX7_blameHere 9 = .ok (.return_, 1) := by decide +kernel
theorem dX7_goOn_0 : decode cX7_goOn 0 = .ok (.aload_n 0, 1) := by decide +kernel
theorem dX7_goOn_1 : decode cX7_goOn 1 = .ok (.dup, 1) := by decide +kernel
theorem dX7_goOn_2 : decode cX7_goOn 2 = .ok (.getfield 15, 3) := by decide +kernel
theorem dX7_goOn_5 : decode cX7_goOn 5 = .ok (.iconst 1, 1) := by decide +kernel
theorem dX7_goOn_6 : decode cX7_goOn 6 = .ok (.iadd, 1) := by decide +kernel
theorem dX7_goOn_7 : decode cX7_goOn 7 = .ok (.putfield 15, 3) := by decide +kernel
theorem dX7_goOn_10 : decode cX7_goOn 10 = .ok (.return_, 1) := by decide +kernel
set_option maxRecDepth 20000 in
theorem ggX7_readSign_X7_sign : GoodIn wsX7_readSign wsX7_sign := goodIn_r _ [7, 2, 8, 9, 10, 11, 12, 13, 14, 15, 16, 25, 26, 27, 28, 29, 30] rfl (by decide +kernel)
set_option maxRecDepth 20000 in
theorem gX7_readSign_X7_sign : GoodIn wsX7_readSign (wsV RX7 35 RX7 yX7_sign wsX7_sign) := goodIn_app (goodIn_r _ [3, 4, 5, 6] rfl (by decide +kernel)) ggX7_readSign_X7_sign
set_option maxRecDepth 20000 in
theorem ggX7_readSign_X7_blameHere : GoodIn wsX7_readSign wsX7_blameHere := goodIn_r _ [20, 2, 21, 22, 23, 6, 24, 1, 25, 26, 27, 28] rfl (by decide +kernel)
set_option maxRecDepth 20000 in
theorem gX7_readSign_X7_blameHere : GoodIn wsX7_readSign (wsV RX7 39 RX7 yX7_blameHere wsX7_blameHere) := goodIn_app (goodIn_r _ [17, 18, 19, 6] rfl (by decide +kernel)) ggX7_readSign_X7_blameHere
theorem dX7_readSign_0 : decode cX7_readSign 0 = .ok (.aload_n 0, 1) := by decide +kernel
theorem dX7_readSign_1 : decode cX7_readSign 1 = .ok (.getfield 22, 3) := by decide +kernel
theorem dX7_readSign_4 : decode cX7_readSign 4 = .ok (.ifCond .eq 4, 3) := by decide +kernel
theorem dX7_readSign_7 : decode cX7_readSign 7 = .ok (.return_, 1) := by decide +kernel
theorem dX7_readSign_8 : decode cX7_readSign 8 = .ok (.aload_n 0, 1) := by decide +kernel
theorem dX7_readSign_9 : decode cX7_readSign 9 = .ok (.invokevirtual 35, 3) := by decide +kernel
theorem dX7_readSign_12 : decode cX7_readSign 12 = .ok (.iload_n 1, 1) := by decide +kernel
theorem dX7_readSign_13 : decode cX7_readSign 13 = .ok (.if_icmp .ne 16, 3) := by decide +kernel
theorem dX7_readSign_16 : decode cX7_readSign 16 = .ok (.aload_n 0, 1) := by decide +kernel
theorem dX7_readSign_17 : decode cX7_readSign 17 = .ok (.dup, 1) := by decide +kernel
theorem dX7_readSign_18 : decode cX7_readSign 18 = .ok (.getfield 15, 3) := by decide +kernel
theorem dX7_readSign_21 : decode cX7_readSign 21 = .ok (.iconst 1, 1) := by decide +kernel
theorem dX7_readSign_22 : decode cX7_readSign 22 = .ok (.iadd, 1) := by decide +kernel
theorem dX7_readSign_23 : decode cX7_readSign 23 = .ok (.putfield 15, 3) := by decide +kernel
theorem dX7_readSign_26 : decode cX7_readSign 26 = .ok (.goto 8, 3) := by decide +kernel
theorem dX7_readSign_29 : decode cX7_readSign 29 = .ok (.aload_n 0, 1) := by decide +kernel
theorem dX7_readSign_30 : decode cX7_readSign 30 = .ok (.iconst 1, 1) := by decide +kernel
theorem dX7_readSign_31 : decode cX7_readSign 31 = .ok (.invokevirtual 39, 3) := by decide +kernel
