theorem dX11_rank_11 : decode cX11_rank 11 = .ok (.iload_n 1, 1) := by decide +kernel
theorem dX11_rank_12 : decode cX11_rank 12 = .ok (.invokevirtual 125, 3) := by decide +kernel
theorem dX11_rank_15 : decode cX11_rank 15 = .ok (.ifCond .eq 23, 3) := by decide +kernel
theorem dX11_rank_18 : decode cX11_rank 18 = .ok (.aload_n 0, 1) := by decide +kernel
theorem dX11_rank_19 : decode cX11_rank 19 = .ok (.getfield 35, 3) := by decide +kernel
theorem dX11_rank_22 : decode cX11_rank 22 = .ok (.getfield 58, 3) := by decide +kernel
theorem dX11_rank_25 : decode cX11_rank 25 = .ok (.getfield 84, 3) := by decide +kernel
theorem dX11_rank_28 : decode cX11_rank 28 = .ok (.aload_n 0, 1) := by decide +kernel
theorem dX11_rank_29 : decode cX11_rank 29 = .ok (.getfield 28, 3) := by decide +kernel
theorem dX11_rank_32 : decode cX11_rank 32 = .ok (.invokevirtual 168, 3) := by decide +kernel
theorem dX11_rank_35 : decode cX11_rank 35 = .ok (.goto 5, 3) := by decide +kernel
theorem dX11_rank_38 : decode cX11_rank 38 = .ok (.bipush (-2), 2) := by decide +kernel
theorem dX11_rank_40 : decode cX11_rank 40 = .ok (.ireturn, 1) := by decide +kernel
set_option maxRecDepth 20000 in
theorem ggX11_key_X3_has : GoodIn wsX11_key wsX3_has := goodIn_r _ [8, 9, 74, 75, 76, 77] rfl (by decide +kernel)
set_option maxRecDepth 20000 in
theorem gX11_key_X3_has : GoodIn wsX11_key (wsV RX11 171 RX3 yX3_has wsX3_has) := goodIn_app (goodIn_r _ [4, 5, 6, 7] rfl (by decide +kernel)) ggX11_key_X3_has
set_option maxRecDepth 20000 in
theorem ggX11_key_X3_lengthOf : GoodIn wsX11_key wsX3_lengthOf := goodIn_r _ [13, 9, 14, 74, 75, 76, 77] rfl (by decide +kernel)
set_option maxRecDepth 20000 in
theorem gX11_key_X3_lengthOf : GoodIn wsX11_key (wsV RX11 174 RX3 yX3_lengthOf wsX3_lengthOf) := goodIn_app (goodIn_r _ [10, 11, 12, 7] rfl (by decide +kernel)) ggX11_key_X3_lengthOf
set_option maxRecDepth 20000 in
theorem ggX11_key_X3_valueOf : GoodIn wsX11_key wsX3_valueOf := goodIn_r _ [18, 9, 19, 74, 75, 76, 77] rfl (by decide +kernel)
set_option maxRecDepth 20000 in
theorem gX11_key_X3_valueOf : GoodIn wsX11_key (wsV RX11 165 RX3 yX3_valueOf wsX3_valueOf) := goodIn_app (goodIn_r _ [15, 16, 17, 7] rfl (by decide +kernel)) ggX11_key_X3_valueOf
set_option maxRecDepth 20000 in
theorem ggX11_key_X10_away : GoodIn wsX11_key wsX10_away := goodIn_r _ [24, 25, 26, 27, 23, 28, 29, 30, 31, 32, 33, 34, 35, 36, 37, 38, 39, 40, 41, 42, 43, 44, 65, 66, 67, 68, 69, 70, 71, 72, 73, 74, 75, 76, 77] rfl (by decide +kernel)
set_option maxRecDepth 20000 in
theorem gX11_key_X10_away : GoodIn wsX11_key (wsV RX11 177 RX10 yX10_away wsX10_away) := goodIn_app (goodIn_r _ [20, 21, 22, 23] rfl (by decide +kernel)) ggX11_key_X10_away
set_option maxRecDepth 20000 in
theorem ggX11_key_X3_byteOf : GoodIn wsX11_key wsX3_byteOf := goodIn_r _ [48, 9, 49, 74, 75, 76, 77] rfl (by decide +kernel)
set_option maxRecDepth 20000 in
theorem gX11_key_X3_byteOf : GoodIn wsX11_key (wsV RX11 180 RX3 yX3_byteOf wsX3_byteOf) := goodIn_app (goodIn_r _ [45, 46, 47, 7] rfl (by decide +kernel)) ggX11_key_X3_byteOf
theorem dX11_key_0 : decode cX11_key 0 = .ok (.aload_n 0, 1) := by decide +kernel
theorem dX11_key_1 : decode cX11_key 1 = .ok (.getfield 35, 3) := by decide +kernel
theorem dX11_key_4 : decode cX11_key 4 = .ok (.getfield 58, 3) := by decide +kernel
theorem dX11_key_7 : decode cX11_key 7 = .ok (.getfield 84, 3) := by decide +kernel
theorem dX11_key_10 : decode cX11_key 10 = .ok (.astore_n 3, 1) := by decide +kernel
theorem dX11_key_11 : decode cX11_key 11 = .ok (.aload_n 3, 1) := by decide +kernel
theorem dX11_key_12 : decode cX11_key 12 = .ok (.iload_n 1, 1) := by decide +kernel
theorem dX11_key_13 : decode cX11_key 13 = .ok (.invokevirtual 171, 3) := by decide +kernel
theorem dX11_key_16 : decode cX11_key 16 = .ok (.ifCond .eq 9, 3) := by decide +kernel
theorem dX11_key_19 : decode cX11_key 19 = .ok (.iload_n 2, 1) := by decide +kernel
theorem dX11_key_20 : decode cX11_key 20 = .ok (.bipush (-3), 2) := by decide +kernel
theorem dX11_key_22 : decode cX11_key 22 = .ok (.if_icmp .ge 5, 3) := by decide +kernel
theorem dX11_key_25 : decode cX11_key 25 = .ok (.iconst (-1), 1) := by decide +kernel
theorem dX11_key_26 : decode cX11_key 26 = .ok (.ireturn, 1) := by decide +kernel
theorem dX11_key_27 : decode cX11_key 27 = .ok (.iload_n 2, 1) := by decide +kernel
theorem dX11_key_28 : decode cX11_key 28 = .ok (.tableswitch 52 (-3) (-1) #[40, 34, 28], 28) := by decide +kernel
theorem dX11_key_56 : decode cX11_key 56 = .ok (.aload_n 3, 1) := by decide +kernel
theorem dX11_key_57 : decode cX11_key 57 = .ok (.iload_n 1, 1) := by decide +kernel
theorem dX11_key_58 : decode cX11_key 58 = .ok (.invokevirtual 174, 3) := by decide +kernel
theorem dX11_key_61 : decode cX11_key 61 = .ok (.ireturn, 1) := by decide +kernel
theorem dX11_key_62 : decode cX11_key 62 = .ok (.aload_n 3, 1) := by decide +kernel
theorem dX11_key_63 : decode cX11_key 63 = .ok (.iload_n 1, 1) := by decide +kernel
theorem dX11_key_64 : decode cX11_key 64 = .ok (.invokevirtual 165, 3) := by decide +kernel
theorem dX11_key_67 : decode cX11_key 67 = .ok (.ireturn, 1) := by decide +kernel
theorem dX11_key_68 : decode cX11_key 68 = .ok (.aload_n 0, 1) := by decide +kernel
theorem dX11_key_69 : decode cX11_key 69 = .ok (.getfield 35, 3) := by decide +kernel
theorem dX11_key_72 : decode cX11_key 72 = .ok (.getfield 58, 3) := by decide +kernel
theorem dX11_key_75 : decode cX11_key 75 = .ok (.iload_n 1, 1) := by decide +kernel
theorem dX11_key_76 : decode cX11_key 76 = .ok (.invokevirtual 177, 3) := by decide +kernel
theorem dX11_key_79 : decode cX11_key 79 = .ok (.ireturn, 1) := by decide +kernel
theorem dX11_key_80 : decode cX11_key 80 = .ok (.iload_n 2, 1) := by decide +kernel
theorem dX11_key_81 : decode cX11_key 81 = .ok (.aload_n 3, 1) := by decide +kernel
theorem dX11_key_82 : decode cX11_key 82 = .ok (.iload_n 1, 1) := by decide +kernel
theorem dX11_key_83 : decode cX11_key 83 = .ok (.invokevirtual 174, 3) := by decide +kernel
theorem dX11_key_86 : decode cX11_key 86 = .ok (.if_icmp .ge 12, 3) := by decide +kernel
theorem dX11_key_89 : decode cX11_key 89 = .ok (.aload_n 3, 1) := by decide +kernel
theorem dX11_key_90 : decode cX11_key 90 = .ok (.iload_n 1, 1) := by decide +kernel
theorem dX11_key_91 : decode cX11_key 91 = .ok (.iload_n 2, 1) := by decide +kernel
theorem dX11_key_92 : decode cX11_key 92 = .ok (.invokevirtual 180, 3) := by decide +kernel
theorem dX11_key_95 : decode cX11_key 95 = .ok (.goto 5, 3) := by decide +kernel
theorem dX11_key_98 : decode cX11_key 98 = .ok (.bipush (-4), 2) := by decide +kernel
theorem dX11_key_100 : decode cX11_key 100 = .ok (.ireturn, 1) := by decide +kernel
set_option maxRecDepth 20000 in
theorem ggX11_near_X11_isKeyTold : GoodIn wsX11_near wsX11_isKeyTold := goodIn_r _ [9, 10, 11, 12, 8, 13, 14, 15, 87, 88, 89, 90, 91, 92, 93, 94, 95, 96, 97, 98, 111, 112] rfl (by decide +kernel)
set_option maxRecDepth 20000 in
theorem gX11_near_X11_isKeyTold : GoodIn wsX11_near (wsV RX11 122 RX11 yX11_isKeyTold wsX11_isKeyTold) := goodIn_app (goodIn_r _ [5, 6, 7, 8] rfl (by decide +kernel)) ggX11_near_X11_isKeyTold
set_option maxRecDepth 20000 in
theorem ggX11_near_X11_readTold : GoodIn wsX11_near wsX11_readTold := goodIn_r _ [19, 4, 14, 20, 21, 22, 23, 24, 25, 26, 27, 28, 29, 30, 31, 32, 33, 34, 8, 35, 36, 37, 38, 39, 40, 41, 42, 43, 44, 87, 88, 89, 90, 91, 92, 93, 94, 95, 96, 97, 98, 113, 114, 111, 112] rfl (by decide +kernel)
set_option maxRecDepth 20000 in
theorem gX11_near_X11_readTold : GoodIn wsX11_near (wsV RX11 125 RX11 yX11_readTold wsX11_readTold) := goodIn_app (goodIn_r _ [16, 17, 18, 8] rfl (by decide +kernel)) ggX11_near_X11_readTold
set_option maxRecDepth 20000 in
theorem ggX11_near_X3_placeOf : GoodIn wsX11_near wsX3_placeOf := goodIn_r _ [49, 50, 51, 52, 53, 48, 54, 55, 56, 57, 58, 59, 60, 61, 62, 63, 64, 65, 66, 67, 68, 69, 70, 71, 72, 23, 73, 25, 40, 115, 116, 117, 118, 113, 114] rfl (by decide +kernel)
set_option maxRecDepth 20000 in
theorem gX11_near_X3_placeOf : GoodIn wsX11_near (wsV RX11 168 RX3 yX3_placeOf wsX3_placeOf) := goodIn_app (goodIn_r _ [45, 46, 47, 48] rfl (by decide +kernel)) ggX11_near_X3_placeOf
set_option maxRecDepth 20000 in
theorem ggX11_near_X3_isAt : GoodIn wsX11_near wsX3_isAt := goodIn_r _ [77, 78, 79, 80, 48, 81, 50, 51, 52, 53, 54, 55, 56, 57, 58, 59, 60, 61, 62, 63, 64, 65, 66, 67, 68, 69, 70, 71, 72, 23, 73, 25, 40, 115, 116, 117, 118, 113, 114] rfl (by decide +kernel)
set_option maxRecDepth 20000 in
theorem gX11_near_X3_isAt : GoodIn wsX11_near (wsV RX11 184 RX3 yX3_isAt wsX3_isAt) := goodIn_app (goodIn_r _ [74, 75, 76, 48] rfl (by decide +kernel)) ggX11_near_X3_isAt
set_option maxRecDepth 20000 in
theorem ggX11_near_X3_beside : GoodIn wsX11_near wsX3_beside := goodIn_r _ [85] rfl (by decide +kernel)
set_option maxRecDepth 20000 in
theorem gX11_near_X3_beside : GoodIn wsX11_near (wsV RX11 188 RX3 yX3_beside wsX3_beside) := goodIn_app (goodIn_r _ [82, 83, 84, 48] rfl (by decide +kernel)) ggX11_near_X3_beside
set_option maxRecDepth 20000 in
theorem ggX11_near_X3_has : GoodIn wsX11_near wsX3_has := goodIn_r _ [81, 50, 115, 116, 117, 118] rfl (by decide +kernel)
set_option maxRecDepth 20000 in
theorem gX11_near_X3_has : GoodIn wsX11_near (wsV RX11 171 RX3 yX3_has wsX3_has) := goodIn_app (goodIn_r _ [86, 79, 80, 48] rfl (by decide +kernel)) ggX11_near_X3_has
theorem dX11_near_0 : decode cX11_near 0 = .ok (.iload_n 2, 1) := by decide +kernel
theorem dX11_near_1 : decode cX11_near 1 = .ok (.ifCond .lt 16, 3) := by decide +kernel
theorem dX11_near_4 : decode cX11_near 4 = .ok (.iload_n 2, 1) := by decide +kernel
theorem dX11_near_5 : decode cX11_near 5 = .ok (.iconst 3, 1) := by decide +kernel
theorem dX11_near_6 : decode cX11_near 6 = .ok (.if_icmp .gt 11, 3) := by decide +kernel
theorem dX11_near_9 : decode cX11_near 9 = .ok (.aload_n 0, 1) := by decide +kernel
theorem dX11_near_10 : decode cX11_near 10 = .ok (.iload_n 1, 1) := by decide +kernel
theorem dX11_near_11 : decode cX11_near 11 = .ok (.invokevirtual 122, 3) := by decide +kernel
theorem dX11_near_14 : decode cX11_near 14 = .ok (.ifCond .ne 5, 3) := by decide +kernel
theorem dX11_near_17 : decode cX11_near 17 = .ok (.iconst (-1), 1) := by decide +kernel
theorem dX11_near_18 : decode cX11_near 18 = .ok (.ireturn, 1) := by decide +kernel
theorem dX11_near_19 : decode cX11_near 19 = .ok (.aload_n 0, 1) := by decide +kernel
theorem dX11_near_20 : decode cX11_near 20 = .ok (.iload_n 1, 1) := by decide +kernel
theorem dX11_near_21 : decode cX11_near 21 = .ok (.invokevirtual 125, 3) := by decide +kernel
theorem dX11_near_24 : decode cX11_near 24 = .ok (.ifCond .ne 6, 3) := by decide +kernel
theorem dX11_near_27 : decode cX11_near 27 = .ok (.bipush (-2), 2) := by decide +kernel
theorem dX11_near_29 : decode cX11_near 29 = .ok (.ireturn, 1) := by decide +kernel
theorem dX11_near_30 : decode cX11_near 30 = .ok (.aload_n 0, 1) := by decide +kernel
theorem dX11_near_31 : decode cX11_near 31 = .ok (.getfield 35, 3) := by decide +kernel
theorem dX11_near_34 : decode cX11_near 34 = .ok (.getfield 58, 3) := by decide +kernel
theorem dX11_near_37 : decode cX11_near 37 = .ok (.getfield 84, 3) := by decide +kernel
theorem dX11_near_40 : decode cX11_near 40 = .ok (.astore_n 3, 1) := by decide +kernel
theorem dX11_near_41 : decode cX11_near 41 = .ok (.aload_n 3, 1) := by decide +kernel
theorem dX11_near_42 : decode cX11_near 42 = .ok (.aload_n 0, 1) := by decide +kernel
theorem dX11_near_43 : decode cX11_near 43 = .ok (.getfield 28, 3) := by decide +kernel
theorem dX11_near_46 : decode cX11_near 46 = .ok (.invokevirtual 168, 3) := by decide +kernel
theorem dX11_near_49 : decode cX11_near 49 = .ok (.istore 4, 2) := by decide +kernel
theorem dX11_near_51 : decode cX11_near 51 = .ok (.aload_n 3, 1) := by decide +kernel
theorem dX11_near_52 : decode cX11_near 52 = .ok (.iload 4, 2) := by decide +kernel
theorem dX11_near_54 : decode cX11_near 54 = .ok (.aload_n 0, 1) := by decide +kernel
theorem dX11_near_55 : decode cX11_near 55 = .ok (.getfield 28, 3) := by decide +kernel
theorem dX11_near_58 : decode cX11_near 58 = .ok (.invokevirtual 184, 3) := by decide +kernel
theorem dX11_near_61 : decode cX11_near 61 = .ok (.istore 5, 2) := by decide +kernel
theorem dX11_near_63 : decode cX11_near 63 = .ok (.iload_n 2, 1) := by decide +kernel
theorem dX11_near_64 : decode cX11_near 64 = .ok (.iconst 1, 1) := by decide +kernel
theorem dX11_near_65 : decode cX11_near 65 = .ok (.if_icmp .eq 8, 3) := by decide +kernel
theorem dX11_near_68 : decode cX11_near 68 = .ok (.iload_n 2, 1) := by decide +kernel
theorem dX11_near_69 : decode cX11_near 69 = .ok (.iconst 3, 1) := by decide +kernel
theorem dX11_near_70 : decode cX11_near 70 = .ok (.if_icmp .ne 7, 3) := by decide +kernel
theorem dX11_near_73 : decode cX11_near 73 = .ok (.iconst 1, 1) := by decide +kernel
theorem dX11_near_74 : decode cX11_near 74 = .ok (.goto 4, 3) := by decide +kernel
theorem dX11_near_77 : decode cX11_near 77 = .ok (.iconst 0, 1) := by decide +kernel
theorem dX11_near_78 : decode cX11_near 78 = .ok (.istore 6, 2) := by decide +kernel
theorem dX11_near_80 : decode cX11_near 80 = .ok (.iload_n 2, 1) := by decide +kernel
theorem dX11_near_81 : decode cX11_near 81 = .ok (.ifCond .eq 8, 3) := by decide +kernel
theorem dX11_near_84 : decode cX11_near 84 = .ok (.iload_n 2, 1) := by decide +kernel
theorem dX11_near_85 : decode cX11_near 85 = .ok (.iconst 1, 1) := by decide +kernel
theorem dX11_near_86 : decode cX11_near 86 = .ok (.if_icmp .ne 7, 3) := by decide +kernel
theorem dX11_near_89 : decode cX11_near 89 = .ok (.iconst 1, 1) := by decide +kernel
theorem dX11_near_90 : decode cX11_near 90 = .ok (.goto 4, 3) := by decide +kernel
theorem dX11_near_93 : decode cX11_near 93 = .ok (.iconst 0, 1) := by decide +kernel
theorem dX11_near_94 : decode cX11_near 94 = .ok (.istore 7, 2) := by decide +kernel
theorem dX11_near_96 : decode cX11_near 96 = .ok (.iload 7, 2) := by decide +kernel
theorem dX11_near_98 : decode cX11_near 98 = .ok (.ifCond .eq 13, 3) := by decide +kernel
theorem dX11_near_101 : decode cX11_near 101 = .ok (.iload 5, 2) := by decide +kernel
theorem dX11_near_103 : decode cX11_near 103 = .ok (.ifCond .eq 8, 3) := by decide +kernel
theorem dX11_near_106 : decode cX11_near 106 = .ok (.iload 4, 2) := by decide +kernel
theorem dX11_near_108 : decode cX11_near 108 = .ok (.goto 13, 3) := by decide +kernel
theorem dX11_near_111 : decode cX11_near 111 = .ok (.aload_n 3, 1) := by decide +kernel
theorem dX11_near_112 : decode cX11_near 112 = .ok (.iload 4, 2) := by decide +kernel
theorem dX11_near_114 : decode cX11_near 114 = .ok (.iload 5, 2) := by decide +kernel
theorem dX11_near_116 : decode cX11_near 116 = .ok (.iload 6, 2) := by decide +kernel
theorem dX11_near_118 : decode cX11_near 118 = .ok (.invokevirtual 188, 3) := by decide +kernel
theorem dX11_near_121 : decode cX11_near 121 = .ok (.istore 8, 2) := by decide +kernel
theorem dX11_near_123 : decode cX11_near 123 = .ok (.aload_n 3, 1) := by decide +kernel
theorem dX11_near_124 : decode cX11_near 124 = .ok (.iload 8, 2) := by decide +kernel
theorem dX11_near_126 : decode cX11_near 126 = .ok (.invokevirtual 171, 3) := by decide +kernel
theorem dX11_near_129 : decode cX11_near 129 = .ok (.ifCond .eq 8, 3) := by decide +kernel
theorem dX11_near_132 : decode cX11_near 132 = .ok (.iload 8, 2) := by decide +kernel
theorem dX11_near_134 : decode cX11_near 134 = .ok (.goto 5, 3) := by decide +kernel
theorem dX11_near_137 : decode cX11_near 137 = .ok (.bipush (-3), 2) := by decide +kernel
theorem dX11_near_139 : decode cX11_near 139 = .ok (.ireturn, 1) := by decide +kernel
set_option maxRecDepth 20000 in
theorem ggX11_begins_X11_isKeyTold : GoodIn wsX11_begins wsX11_isKeyTold := goodIn_r _ [9, 10, 11, 12, 8, 13, 14, 15, 91, 92, 93, 94, 95, 96, 97, 98, 99, 100, 101, 102, 115, 116] rfl (by decide +kernel)
set_option maxRecDepth 20000 in
theorem gX11_begins_X11_isKeyTold : GoodIn wsX11_begins (wsV RX11 122 RX11 yX11_isKeyTold wsX11_isKeyTold) := goodIn_app (goodIn_r _ [5, 6, 7, 8] rfl (by decide +kernel)) ggX11_begins_X11_isKeyTold
set_option maxRecDepth 20000 in
theorem ggX11_begins_X11_readTold : GoodIn wsX11_begins wsX11_readTold := goodIn_r _ [19, 4, 14, 20, 21, 22, 23, 24, 25, 26, 27, 28, 29, 30, 31, 32, 33, 34, 8, 35, 36, 37, 38, 39, 40, 41, 42, 43, 44, 91, 92, 93, 94, 95, 96, 97, 98, 99, 100, 101, 102, 117, 118, 115, 116] rfl (by decide +kernel)
set_option maxRecDepth 20000 in
theorem gX11_begins_X11_readTold : GoodIn wsX11_begins (wsV RX11 125 RX11 yX11_readTold wsX11_readTold) := goodIn_app (goodIn_r _ [16, 17, 18, 8] rfl (by decide +kernel)) ggX11_begins_X11_readTold
set_option maxRecDepth 20000 in
theorem ggX11_begins_X3_placeOf : GoodIn wsX11_begins wsX3_placeOf := goodIn_r _ [49, 50, 51, 52, 53, 48, 54, 55, 56, 57, 58, 59, 60, 61, 62, 63, 64, 65, 66, 67, 68, 69, 70, 71, 72, 23, 73, 25, 40, 119, 120, 121, 122, 117, 118] rfl (by decide +kernel)
set_option maxRecDepth 20000 in
theorem gX11_begins_X3_placeOf : GoodIn wsX11_begins (wsV RX11 168 RX3 yX3_placeOf wsX3_placeOf) := goodIn_app (goodIn_r _ [45, 46, 47, 48] rfl (by decide +kernel)) ggX11_begins_X3_placeOf
set_option maxRecDepth 20000 in
theorem ggX11_begins_X3_endOfBeginning : GoodIn wsX11_begins wsX3_endOfBeginning := goodIn_r _ [77, 50, 78, 79, 80, 48, 81, 55, 60, 61, 62, 63, 64, 65, 66, 67, 68, 69, 70, 71, 72, 23, 73, 25, 40, 119, 120, 121, 122, 117, 118] rfl (by decide +kernel)
set_option maxRecDepth 20000 in
theorem gX11_begins_X3_endOfBeginning : GoodIn wsX11_begins (wsV RX11 192 RX3 yX3_endOfBeginning wsX3_endOfBeginning) := goodIn_app (goodIn_r _ [74, 75, 76, 48] rfl (by decide +kernel)) ggX11_begins_X3_endOfBeginning
set_option maxRecDepth 20000 in
theorem ggX11_begins_X3_valuesTogether : GoodIn wsX11_begins wsX3_valuesTogether := goodIn_r _ [85, 86, 87, 88, 48, 89, 50, 90, 119, 120, 121, 122] rfl (by decide +kernel)
set_option maxRecDepth 20000 in
theorem gX11_begins_X3_valuesTogether : GoodIn wsX11_begins (wsV RX11 196 RX3 yX3_valuesTogether wsX3_valuesTogether) := goodIn_app (goodIn_r _ [82, 83, 84, 48] rfl (by decide +kernel)) ggX11_begins_X3_valuesTogether
theorem dX11_begins_0 : decode cX11_begins 0 = .ok (.iload_n 2, 1) := by decide +kernel
theorem dX11_begins_1 : decode cX11_begins 1 = .ok (.ifCond .lt 16, 3) := by decide +kernel
theorem dX11_begins_4 : decode cX11_begins 4 = .ok (.iload_n 2, 1) := by decide +kernel
theorem dX11_begins_5 : decode cX11_begins 5 = .ok (.iconst 2, 1) := by decide +kernel
theorem dX11_begins_6 : decode cX11_begins 6 = .ok (.if_icmp .gt 11, 3) := by decide +kernel
theorem dX11_begins_9 : decode cX11_begins 9 = .ok (.aload_n 0, 1) := by decide +kernel
theorem dX11_begins_10 : decode cX11_begins 10 = .ok (.iload_n 1, 1) := by decide +kernel
theorem dX11_begins_11 : decode cX11_begins 11 = .ok (.invokevirtual 122, 3) := by decide +kernel
theorem dX11_begins_14 : decode cX11_begins 14 = .ok (.ifCond .ne 5, 3) := by decide +kernel
theorem dX11_begins_17 : decode cX11_begins 17 = .ok (.iconst (-1), 1) := by decide +kernel
theorem dX11_begins_18 : decode cX11_begins 18 = .ok (.ireturn, 1) := by decide +kernel
theorem dX11_begins_19 : decode cX11_begins 19 = .ok (.aload_n 0, 1) := by decide +kernel
theorem dX11_begins_20 : decode cX11_begins 20 = .ok (.iload_n 1, 1) := by decide +kernel
theorem dX11_begins_21 : decode cX11_begins 21 = .ok (.invokevirtual 125, 3) := by decide +kernel
theorem dX11_begins_24 : decode cX11_begins 24 = .ok (.ifCond .ne 6, 3) := by decide +kernel
theorem dX11_begins_27 : decode cX11_begins 27 = .ok (.bipush (-2), 2) := by decide +kernel
theorem dX11_begins_29 : decode cX11_begins 29 = .ok (.ireturn, 1) := by decide +kernel
theorem dX11_begins_30 : decode cX11_begins 30 = .ok (.aload_n 0, 1) := by decide +kernel
theorem dX11_begins_31 : decode cX11_begins 31 = .ok (.getfield 35, 3) := by decide +kernel
theorem dX11_begins_34 : decode cX11_begins 34 = .ok (.getfield 58, 3) := by decide +kernel
theorem dX11_begins_37 : decode cX11_begins 37 = .ok (.getfield 84, 3) := by decide +kernel
theorem dX11_begins_40 : decode cX11_begins 40 = .ok (.astore_n 3, 1) := by decide +kernel
theorem dX11_begins_41 : decode cX11_begins 41 = .ok (.aload_n 3, 1) := by decide +kernel
theorem dX11_begins_42 : decode cX11_begins 42 = .ok (.aload_n 0, 1) := by decide +kernel
theorem dX11_begins_43 : decode cX11_begins 43 = .ok (.getfield 28, 3) := by decide +kernel
theorem dX11_begins_46 : decode cX11_begins 46 = .ok (.invokevirtual 168, 3) := by decide +kernel
theorem dX11_begins_49 : decode cX11_begins 49 = .ok (.istore 4, 2) := by decide +kernel
theorem dX11_begins_51 : decode cX11_begins 51 = .ok (.aload_n 3, 1) := by decide +kernel
theorem dX11_begins_52 : decode cX11_begins 52 = .ok (.iload 4, 2) := by decide +kernel
theorem dX11_begins_54 : decode cX11_begins 54 = .ok (.aload_n 0, 1) := by decide +kernel
theorem dX11_begins_55 : decode cX11_begins 55 = .ok (.getfield 28, 3) := by decide +kernel
theorem dX11_begins_58 : decode cX11_begins 58 = .ok (.invokevirtual 192, 3) := by decide +kernel
theorem dX11_begins_61 : decode cX11_begins 61 = .ok (.istore 5, 2) := by decide +kernel
theorem dX11_begins_63 : decode cX11_begins 63 = .ok (.iload_n 2, 1) := by decide +kernel
theorem dX11_begins_64 : decode cX11_begins 64 = .ok (.lookupswitch 49 #[(0, 28), (1, 34)], 28) := by decide +kernel
theorem dX11_begins_92 : decode cX11_begins 92 = .ok (.iload 5, 2) := by decide +kernel
theorem dX11_begins_94 : decode cX11_begins 94 = .ok (.iload 4, 2) := by decide +kernel
theorem dX11_begins_96 : decode cX11_begins 96 = .ok (.isub, 1) := by decide +kernel
theorem dX11_begins_97 : decode cX11_begins 97 = .ok (.ireturn, 1) := by decide +kernel
theorem dX11_begins_98 : decode cX11_begins 98 = .ok (.iload 5, 2) := by decide +kernel
theorem dX11_begins_100 : decode cX11_begins 100 = .ok (.iload 4, 2) := by decide +kernel
theorem dX11_begins_102 : decode cX11_begins 102 = .ok (.if_icmp .le 8, 3) := by decide +kernel
theorem dX11_begins_105 : decode cX11_begins 105 = .ok (.iload 4, 2) := by decide +kernel
theorem dX11_begins_107 : decode cX11_begins 107 = .ok (.goto 5, 3) := by decide +kernel
theorem dX11_begins_110 : decode cX11_begins 110 = .ok (.bipush (-3), 2) := by decide +kernel
theorem dX11_begins_112 : decode cX11_begins 112 = .ok (.ireturn, 1) := by decide +kernel
theorem dX11_begins_113 : decode cX11_begins 113 = .ok (.aload_n 3, 1) := by decide +kernel
theorem dX11_begins_114 : decode cX11_begins 114 = .ok (.iload 4, 2) := by decide +kernel
theorem dX11_begins_116 : decode cX11_begins 116 = .ok (.iload 5, 2) := by decide +kernel
theorem dX11_begins_118 : decode cX11_begins 118 = .ok (.invokevirtual 196, 3) := by decide +kernel
theorem dX11_begins_121 : decode cX11_begins 121 = .ok (.ireturn, 1) := by decide +kernel
set_option maxRecDepth 20000 in
theorem ggX11_alike_X3_has : GoodIn wsX11_alike wsX3_has := goodIn_r _ [8, 9, 52, 53, 54, 55] rfl (by decide +kernel)
set_option maxRecDepth 20000 in
theorem gX11_alike_X3_has : GoodIn wsX11_alike (wsV RX11 171 RX3 yX3_has wsX3_has) := goodIn_app (goodIn_r _ [4, 5, 6, 7] rfl (by decide +kernel)) ggX11_alike_X3_has
set_option maxRecDepth 20000 in
theorem ggX11_alike_X3_alikeBytes : GoodIn wsX11_alike wsX3_alikeBytes := goodIn_r _ [13, 14, 15, 16, 17, 18, 19, 20, 7, 21, 9, 22, 23, 24, 25, 26, 27, 52, 53, 54, 55] rfl (by decide +kernel)
set_option maxRecDepth 20000 in
theorem gX11_alike_X3_alikeBytes : GoodIn wsX11_alike (wsV RX11 199 RX3 yX3_alikeBytes wsX3_alikeBytes) := goodIn_app (goodIn_r _ [10, 11, 12, 7] rfl (by decide +kernel)) ggX11_alike_X3_alikeBytes
theorem dX11_alike_0 : decode cX11_alike 0 = .ok (.aload_n 0, 1) := by decide +kernel
theorem dX11_alike_1 : decode cX11_alike 1 = .ok (.getfield 35, 3) := by decide +kernel
theorem dX11_alike_4 : decode cX11_alike 4 = .ok (.getfield 58, 3) := by decide +kernel
theorem dX11_alike_7 : decode cX11_alike 7 = .ok (.getfield 84, 3) := by decide +kernel
theorem dX11_alike_10 : decode cX11_alike 10 = .ok (.astore_n 3, 1) := by decide +kernel
theorem dX11_alike_11 : decode cX11_alike 11 = .ok (.aload_n 3, 1) := by decide +kernel
theorem dX11_alike_12 : decode cX11_alike 12 = .ok (.iload_n 1, 1) := by decide +kernel
theorem dX11_alike_13 : decode cX11_alike 13 = .ok (.invokevirtual 171, 3) := by decide +kernel
theorem dX11_alike_16 : decode cX11_alike 16 = .ok (.ifCond .eq 20, 3) := by decide +kernel
theorem dX11_alike_19 : decode cX11_alike 19 = .ok (.aload_n 3, 1) := by decide +kernel
theorem dX11_alike_20 : decode cX11_alike 20 = .ok (.iload_n 2, 1) := by decide +kernel
theorem dX11_alike_21 : decode cX11_alike 21 = .ok (.invokevirtual 171, 3) := by decide +kernel
theorem dX11_alike_24 : decode cX11_alike 24 = .ok (.ifCond .eq 12, 3) := by decide +kernel
theorem dX11_alike_27 : decode cX11_alike 27 = .ok (.aload_n 3, 1) := by decide +kernel
theorem dX11_alike_28 : decode cX11_alike 28 = .ok (.iload_n 1, 1) := by decide +kernel
theorem dX11_alike_29 : decode cX11_alike 29 = .ok (.iload_n 2, 1) := by decide +kernel
theorem dX11_alike_30 : decode cX11_alike 30 = .ok (.invokevirtual 199, 3) := by decide +kernel
theorem dX11_alike_33 : decode cX11_alike 33 = .ok (.goto 4, 3) := by decide +kernel
theorem dX11_alike_36 : decode cX11_alike 36 = .ok (.iconst (-1), 1) := by decide +kernel
theorem dX11_alike_37 : decode cX11_alike 37 = .ok (.ireturn, 1) := by decide +kernel
set_option maxRecDepth 20000 in
theorem ggX11_cursor_X11_isCursor : GoodIn wsX11_cursor wsX11_isCursor := goodIn_r _ [7] rfl (by decide +kernel)
set_option maxRecDepth 20000 in
theorem gX11_cursor_X11_isCursor : GoodIn wsX11_cursor (va_wsS RX11 202 yX11_isCursor wsX11_isCursor) := goodIn_app (goodIn_r _ [4, 5, 6] rfl (by decide +kernel)) ggX11_cursor_X11_isCursor
set_option maxRecDepth 20000 in
theorem ggX11_cursor_X11_isKeyTold : GoodIn wsX11_cursor wsX11_isKeyTold := goodIn_r _ [11, 12, 13, 14, 6, 15, 16, 17, 65, 66, 67, 68, 69, 70, 71, 72, 73, 74, 75, 76, 80, 81] rfl (by decide +kernel)
set_option maxRecDepth 20000 in
theorem gX11_cursor_X11_isKeyTold : GoodIn wsX11_cursor (wsV RX11 122 RX11 yX11_isKeyTold wsX11_isKeyTold) := goodIn_app (goodIn_r _ [8, 9, 10, 6] rfl (by decide +kernel)) ggX11_cursor_X11_isKeyTold
set_option maxRecDepth 20000 in
theorem ggX11_cursor_X11_readTold : GoodIn wsX11_cursor wsX11_readTold := goodIn_r _ [21, 3, 16, 22, 23, 24, 25, 26, 27, 28, 29, 30, 31, 32, 33, 34, 35, 36, 6, 37, 38, 39, 40, 41, 42, 43, 44, 45, 46, 65, 66, 67, 68, 69, 70, 71, 72, 73, 74, 75, 76, 82, 83, 80, 81] rfl (by decide +kernel)
set_option maxRecDepth 20000 in
theorem gX11_cursor_X11_readTold : GoodIn wsX11_cursor (wsV RX11 125 RX11 yX11_readTold wsX11_readTold) := goodIn_app (goodIn_r _ [18, 19, 20, 6] rfl (by decide +kernel)) ggX11_cursor_X11_readTold
set_option maxRecDepth 20000 in
theorem ggX11_cursor_X0_tell : GoodIn wsX11_cursor wsX0_tell := goodIn_r _ [51, 52, 53, 54, 55, 56, 57, 58, 59, 25, 60, 42, 61, 62, 63, 64, 27, 84, 85, 86, 87, 88, 82, 83] rfl (by decide +kernel)
set_option maxRecDepth 20000 in
theorem gX11_cursor_X0_tell : GoodIn wsX11_cursor (wsV RX11 209 RX0 yX0_tell wsX0_tell) := goodIn_app (goodIn_r _ [47, 48, 49, 50] rfl (by decide +kernel)) ggX11_cursor_X0_tell
theorem dX11_cursor_0 : decode cX11_cursor 0 = .ok (.iload_n 1, 1) := by decide +kernel
theorem dX11_cursor_1 : decode cX11_cursor 1 = .ok (.invokestatic 202, 3) := by decide +kernel
theorem dX11_cursor_4 : decode cX11_cursor 4 = .ok (.ifCond .eq 11, 3) := by decide +kernel
theorem dX11_cursor_7 : decode cX11_cursor 7 = .ok (.aload_n 0, 1) := by decide +kernel
theorem dX11_cursor_8 : decode cX11_cursor 8 = .ok (.iload_n 2, 1) := by decide +kernel
theorem dX11_cursor_9 : decode cX11_cursor 9 = .ok (.invokevirtual 122, 3) := by decide +kernel
theorem dX11_cursor_12 : decode cX11_cursor 12 = .ok (.ifCond .ne 5, 3) := by decide +kernel
theorem dX11_cursor_15 : decode cX11_cursor 15 = .ok (.iconst (-1), 1) := by decide +kernel
theorem dX11_cursor_16 : decode cX11_cursor 16 = .ok (.ireturn, 1) := by decide +kernel
theorem dX11_cursor_17 : decode cX11_cursor 17 = .ok (.aload_n 0, 1) := by decide +kernel
theorem dX11_cursor_18 : decode cX11_cursor 18 = .ok (.iload_n 2, 1) := by decide +kernel
theorem dX11_cursor_19 : decode cX11_cursor 19 = .ok (.invokevirtual 125, 3) := by decide +kernel
theorem dX11_cursor_22 : decode cX11_cursor 22 = .ok (.ifCond .ne 6, 3) := by decide +kernel
theorem dX11_cursor_25 : decode cX11_cursor 25 = .ok (.bipush (-2), 2) := by decide +kernel
theorem dX11_cursor_27 : decode cX11_cursor 27 = .ok (.ireturn, 1) := by decide +kernel
theorem dX11_cursor_28 : decode cX11_cursor 28 = .ok (.aload_n 0, 1) := by decide +kernel
theorem dX11_cursor_29 : decode cX11_cursor 29 = .ok (.getfield 35, 3) := by decide +kernel
theorem dX11_cursor_32 : decode cX11_cursor 32 = .ok (.getfield 205, 3) := by decide +kernel
theorem dX11_cursor_35 : decode cX11_cursor 35 = .ok (.iload_n 1, 1) := by decide +kernel
theorem dX11_cursor_36 : decode cX11_cursor 36 = .ok (.aaload, 1) := by decide +kernel
theorem dX11_cursor_37 : decode cX11_cursor 37 = .ok (.aload_n 0, 1) := by decide +kernel
theorem dX11_cursor_38 : decode cX11_cursor 38 = .ok (.getfield 28, 3) := by decide +kernel
theorem dX11_cursor_41 : decode cX11_cursor 41 = .ok (.invokevirtual 209, 3) := by decide +kernel
theorem dX11_cursor_44 : decode cX11_cursor 44 = .ok (.iconst 0, 1) := by decide +kernel
theorem dX11_cursor_45 : decode cX11_cursor 45 = .ok (.ireturn, 1) := by decide +kernel
set_option maxRecDepth 20000 in
theorem ggX11_step_X11_isCursor : GoodIn wsX11_step wsX11_isCursor := goodIn_r _ [8] rfl (by decide +kernel)
set_option maxRecDepth 20000 in
theorem gX11_step_X11_isCursor : GoodIn wsX11_step (va_wsS RX11 202 yX11_isCursor wsX11_isCursor) := goodIn_app (goodIn_r _ [5, 6, 7] rfl (by decide +kernel)) ggX11_step_X11_isCursor
set_option maxRecDepth 20000 in
theorem ggX11_step_X0_go : GoodIn wsX11_step wsX0_go := goodIn_r _ [13, 14, 15, 16, 17, 18, 19, 20, 21, 22, 23, 24, 25, 26, 27, 28, 29, 30, 31, 32, 33, 34, 35, 36, 37, 38, 39, 40, 41, 42, 43, 44, 45, 46, 47, 48, 49, 50, 51, 52, 53, 54, 55, 56, 57, 58, 59, 60, 61, 62, 63, 64, 65, 66, 67, 68, 69, 70, 71, 72, 73, 74, 75, 76, 77, 78, 79, 80, 81, 82, 83, 84, 85, 86, 87, 88, 89, 90, 91, 92, 93, 94, 95, 96, 97, 118, 119, 120, 121, 122, 123, 124, 125, 126, 113, 114, 115, 116, 117, 127, 128, 129, 130, 131, 132] rfl (by decide +kernel)
set_option maxRecDepth 20000 in
theorem gX11_step_X0_go : GoodIn wsX11_step (wsV RX11 218 RX0 yX0_go wsX0_go) := goodIn_app (goodIn_r _ [9, 10, 11, 12] rfl (by decide +kernel)) ggX11_step_X0_go
theorem dX11_step_0 : decode cX11_step 0 = .ok (.iload_n 1, 1) := by decide +kernel
theorem dX11_step_1 : decode cX11_step 1 = .ok (.invokestatic 202, 3) := by decide +kernel
theorem dX11_step_4 : decode cX11_step 4 = .ok (.ifCond .ne 5, 3) := by decide +kernel
theorem dX11_step_7 : decode cX11_step 7 = .ok (.iconst (-1), 1) := by decide +kernel
theorem dX11_step_8 : decode cX11_step 8 = .ok (.ireturn, 1) := by decide +kernel
theorem dX11_step_9 : decode cX11_step 9 = .ok (.aload_n 0, 1) := by decide +kernel
theorem dX11_step_10 : decode cX11_step 10 = .ok (.getfield 35, 3) := by decide +kernel
theorem dX11_step_13 : decode cX11_step 13 = .ok (.getfield 205, 3) := by decide +kernel
theorem dX11_step_16 : decode cX11_step 16 = .ok (.iload_n 1, 1) := by decide +kernel
theorem dX11_step_17 : decode cX11_step 17 = .ok (.aaload, 1) := by decide +kernel
theorem dX11_step_18 : decode cX11_step 18 = .ok (.astore_n 3, 1) := by decide +kernel
theorem dX11_step_19 : decode cX11_step 19 = .ok (.aload_n 3, 1) := by decide +kernel
theorem dX11_step_20 : decode cX11_step 20 = .ok (.getfield 215, 3) := by decide +kernel
theorem dX11_step_23 : decode cX11_step 23 = .ok (.ifCond .eq 18, 3) := by decide +kernel
theorem dX11_step_26 : decode cX11_step 26 = .ok (.aload_n 3, 1) := by decide +kernel
theorem dX11_step_27 : decode cX11_step 27 = .ok (.aload_n 0, 1) := by decide +kernel
theorem dX11_step_28 : decode cX11_step 28 = .ok (.getfield 35, 3) := by decide +kernel
theorem dX11_step_31 : decode cX11_step 31 = .ok (.getfield 58, 3) := by decide +kernel
theorem dX11_step_34 : decode cX11_step 34 = .ok (.iload_n 2, 1) := by decide +kernel
theorem dX11_step_35 : decode cX11_step 35 = .ok (.invokevirtual 218, 3) := by decide +kernel
theorem dX11_step_38 : decode cX11_step 38 = .ok (.goto 5, 3) := by decide +kernel
theorem dX11_step_41 : decode cX11_step 41 = .ok (.bipush (-4), 2) := by decide +kernel
theorem dX11_step_43 : decode cX11_step 43 = .ok (.ireturn, 1) := by decide +kernel
set_option maxRecDepth 20000 in
theorem ggX11_cursorIs_X11_isCursor : GoodIn wsX11_cursorIs wsX11_isCursor := goodIn_r _ [14] rfl (by decide +kernel)
set_option maxRecDepth 20000 in
theorem gX11_cursorIs_X11_isCursor : GoodIn wsX11_cursorIs (va_wsS RX11 202 yX11_isCursor wsX11_isCursor) := goodIn_app (goodIn_r _ [11, 12, 13] rfl (by decide +kernel)) ggX11_cursorIs_X11_isCursor
set_option maxRecDepth 20000 in
theorem ggX11_cursorIs_X3_find : GoodIn wsX11_cursorIs wsX3_find := goodIn_r _ [19, 20, 21, 22, 18, 23, 24, 25, 26, 27, 28, 29, 30, 31, 32, 33, 34, 35, 36, 37, 38, 39, 40, 41, 42, 43, 44, 45, 46, 47, 48, 49, 50, 51, 52, 53, 54, 55, 56, 57, 58, 91, 92, 93, 94, 89, 90] rfl (by decide +kernel)
set_option maxRecDepth 20000 in
theorem gX11_cursorIs_X3_find : GoodIn wsX11_cursorIs (wsV RX11 160 RX3 yX3_find wsX3_find) := goodIn_app (goodIn_r _ [15, 16, 17, 18] rfl (by decide +kernel)) ggX11_cursorIs_X3_find
set_option maxRecDepth 20000 in
theorem ggX11_cursorIs_X2_byteOf : GoodIn wsX11_cursorIs wsX2_byteOf := goodIn_r _ [48, 49, 50, 89, 90] rfl (by decide +kernel)
set_option maxRecDepth 20000 in
theorem gX11_cursorIs_X2_byteOf : GoodIn wsX11_cursorIs (wsV RX11 235 RX2 yX2_byteOf wsX2_byteOf) := goodIn_app (goodIn_r _ [59, 45, 46, 47] rfl (by decide +kernel)) ggX11_cursorIs_X2_byteOf
theorem dX11_cursorIs_0 : decode cX11_cursorIs 0 = .ok (.iload_n 1, 1) := by decide +kernel
theorem dX11_cursorIs_1 : decode cX11_cursorIs 1 = .ok (.invokestatic 202, 3) := by decide +kernel
theorem dX11_cursorIs_4 : decode cX11_cursorIs 4 = .ok (.ifCond .eq 18, 3) := by decide +kernel
theorem dX11_cursorIs_7 : decode cX11_cursorIs 7 = .ok (.aload_n 0, 1) := by decide +kernel
theorem dX11_cursorIs_8 : decode cX11_cursorIs 8 = .ok (.getfield 35, 3) := by decide +kernel
theorem dX11_cursorIs_11 : decode cX11_cursorIs 11 = .ok (.getfield 205, 3) := by decide +kernel
theorem dX11_cursorIs_14 : decode cX11_cursorIs 14 = .ok (.iload_n 1, 1) := by decide +kernel
theorem dX11_cursorIs_15 : decode cX11_cursorIs 15 = .ok (.aaload, 1) := by decide +kernel
theorem dX11_cursorIs_16 : decode cX11_cursorIs 16 = .ok (.getfield 215, 3) := by decide +kernel
theorem dX11_cursorIs_19 : decode cX11_cursorIs 19 = .ok (.ifCond .ne 5, 3) := by decide +kernel
theorem dX11_cursorIs_22 : decode cX11_cursorIs 22 = .ok (.iconst (-1), 1) := by decide +kernel
theorem dX11_cursorIs_23 : decode cX11_cursorIs 23 = .ok (.ireturn, 1) := by decide +kernel
theorem dX11_cursorIs_24 : decode cX11_cursorIs 24 = .ok (.aload_n 0, 1) := by decide +kernel
theorem dX11_cursorIs_25 : decode cX11_cursorIs 25 = .ok (.getfield 35, 3) := by decide +kernel
theorem dX11_cursorIs_28 : decode cX11_cursorIs 28 = .ok (.getfield 205, 3) := by decide +kernel
theorem dX11_cursorIs_31 : decode cX11_cursorIs 31 = .ok (.iload_n 1, 1) := by decide +kernel
theorem dX11_cursorIs_32 : decode cX11_cursorIs 32 = .ok (.aaload, 1) := by decide +kernel
theorem dX11_cursorIs_33 : decode cX11_cursorIs 33 = .ok (.astore_n 3, 1) := by decide +kernel
theorem dX11_cursorIs_34 : decode cX11_cursorIs 34 = .ok (.iload_n 2, 1) := by decide +kernel
theorem dX11_cursorIs_35 : decode cX11_cursorIs 35 = .ok (.tableswitch 62 0 3 #[29, 47, 52, 57], 29) := by decide +kernel
theorem dX11_cursorIs_64 : decode cX11_cursorIs 64 = .ok (.aload_n 0, 1) := by decide +kernel
theorem dX11_cursorIs_65 : decode cX11_cursorIs 65 = .ok (.getfield 35, 3) := by decide +kernel
theorem dX11_cursorIs_68 : decode cX11_cursorIs 68 = .ok (.getfield 58, 3) := by decide +kernel
theorem dX11_cursorIs_71 : decode cX11_cursorIs 71 = .ok (.getfield 84, 3) := by decide +kernel
theorem dX11_cursorIs_74 : decode cX11_cursorIs 74 = .ok (.aload_n 3, 1) := by decide +kernel
theorem dX11_cursorIs_75 : decode cX11_cursorIs 75 = .ok (.getfield 222, 3) := by decide +kernel
theorem dX11_cursorIs_78 : decode cX11_cursorIs 78 = .ok (.invokevirtual 160, 3) := by decide +kernel
theorem dX11_cursorIs_81 : decode cX11_cursorIs 81 = .ok (.ireturn, 1) := by decide +kernel
theorem dX11_cursorIs_82 : decode cX11_cursorIs 82 = .ok (.aload_n 3, 1) := by decide +kernel
theorem dX11_cursorIs_83 : decode cX11_cursorIs 83 = .ok (.getfield 225, 3) := by decide +kernel
theorem dX11_cursorIs_86 : decode cX11_cursorIs 86 = .ok (.ireturn, 1) := by decide +kernel
theorem dX11_cursorIs_87 : decode cX11_cursorIs 87 = .ok (.aload_n 3, 1) := by decide +kernel
theorem dX11_cursorIs_88 : decode cX11_cursorIs 88 = .ok (.getfield 228, 3) := by decide +kernel
theorem dX11_cursorIs_91 : decode cX11_cursorIs 91 = .ok (.ireturn, 1) := by decide +kernel
theorem dX11_cursorIs_92 : decode cX11_cursorIs 92 = .ok (.aload_n 3, 1) := by decide +kernel
theorem dX11_cursorIs_93 : decode cX11_cursorIs 93 = .ok (.getfield 231, 3) := by decide +kernel
theorem dX11_cursorIs_96 : decode cX11_cursorIs 96 = .ok (.ireturn, 1) := by decide +kernel
theorem dX11_cursorIs_97 : decode cX11_cursorIs 97 = .ok (.iload_n 2, 1) := by decide +kernel
theorem dX11_cursorIs_98 : decode cX11_cursorIs 98 = .ok (.bipush 10, 2) := by decide +kernel
theorem dX11_cursorIs_100 : decode cX11_cursorIs 100 = .ok (.if_icmp .lt 9, 3) := by decide +kernel
theorem dX11_cursorIs_103 : decode cX11_cursorIs 103 = .ok (.iload_n 2, 1) := by decide +kernel
theorem dX11_cursorIs_104 : decode cX11_cursorIs 104 = .ok (.bipush 34, 2) := by decide +kernel
theorem dX11_cursorIs_106 : decode cX11_cursorIs 106 = .ok (.if_icmp .lt 5, 3) := by decide +kernel
theorem dX11_cursorIs_109 : decode cX11_cursorIs 109 = .ok (.iconst (-1), 1) := by decide +kernel
theorem dX11_cursorIs_110 : decode cX11_cursorIs 110 = .ok (.ireturn, 1) := by decide +kernel
theorem dX11_cursorIs_111 : decode cX11_cursorIs 111 = .ok (.iload_n 2, 1) := by decide +kernel
theorem dX11_cursorIs_112 : decode cX11_cursorIs 112 = .ok (.bipush 10, 2) := by decide +kernel
theorem dX11_cursorIs_114 : decode cX11_cursorIs 114 = .ok (.isub, 1) := by decide +kernel
theorem dX11_cursorIs_115 : decode cX11_cursorIs 115 = .ok (.aload_n 3, 1) := by decide +kernel
theorem dX11_cursorIs_116 : decode cX11_cursorIs 116 = .ok (.getfield 222, 3) := by decide +kernel
theorem dX11_cursorIs_119 : decode cX11_cursorIs 119 = .ok (.getfield 234, 3) := by decide +kernel
theorem dX11_cursorIs_122 : decode cX11_cursorIs 122 = .ok (.if_icmp .ge 17, 3) := by decide +kernel
theorem dX11_cursorIs_125 : decode cX11_cursorIs 125 = .ok (.aload_n 3, 1) := by decide +kernel
theorem dX11_cursorIs_126 : decode cX11_cursorIs 126 = .ok (.getfield 222, 3) := by decide +kernel
theorem dX11_cursorIs_129 : decode cX11_cursorIs 129 = .ok (.iload_n 2, 1) := by decide +kernel
theorem dX11_cursorIs_130 : decode cX11_cursorIs 130 = .ok (.bipush 10, 2) := by decide +kernel
theorem dX11_cursorIs_132 : decode cX11_cursorIs 132 = .ok (.isub, 1) := by decide +kernel
theorem dX11_cursorIs_133 : decode cX11_cursorIs 133 = .ok (.invokevirtual 235, 3) := by decide +kernel
theorem dX11_cursorIs_136 : decode cX11_cursorIs 136 = .ok (.goto 5, 3) := by decide +kernel
theorem dX11_cursorIs_139 : decode cX11_cursorIs 139 = .ok (.bipush (-4), 2) := by decide +kernel
theorem dX11_cursorIs_141 : decode cX11_cursorIs 141 = .ok (.ireturn, 1) := by decide +kernel
set_option maxRecDepth 20000 in
theorem ggX11_full_X10_pagesWith : GoodIn wsX11_full wsX10_pagesWith := goodIn_r _ [7, 8, 9, 10, 11, 12, 6, 13, 14, 15, 16, 17, 18, 19, 20, 21, 22, 23, 24, 25, 26, 27, 28, 29, 30, 31, 32, 33, 34, 35, 51, 52, 53, 54, 55, 56, 57, 58, 59, 60, 61, 62, 63] rfl (by decide +kernel)
set_option maxRecDepth 20000 in
theorem gX11_full_X10_pagesWith : GoodIn wsX11_full (wsV RX11 237 RX10 yX10_pagesWith wsX10_pagesWith) := goodIn_app (goodIn_r _ [3, 4, 5, 6] rfl (by decide +kernel)) ggX11_full_X10_pagesWith
theorem dX11_full_0 : decode cX11_full 0 = .ok (.iload_n 1, 1) := by decide +kernel
theorem dX11_full_1 : decode cX11_full 1 = .ok (.iconst 1, 1) := by decide +kernel
theorem dX11_full_2 : decode cX11_full 2 = .ok (.if_icmp .lt 9, 3) := by decide +kernel
theorem dX11_full_5 : decode cX11_full 5 = .ok (.iload_n 1, 1) := by decide +kernel
theorem dX11_full_6 : decode cX11_full 6 = .ok (.bipush 8, 2) := by decide +kernel
theorem dX11_full_8 : decode cX11_full 8 = .ok (.if_icmp .le 7, 3) := by decide +kernel
theorem dX11_full_11 : decode cX11_full 11 = .ok (.iconst (-1), 1) := by decide +kernel
theorem dX11_full_12 : decode cX11_full 12 = .ok (.goto 14, 3) := by decide +kernel
theorem dX11_full_15 : decode cX11_full 15 = .ok (.aload_n 0, 1) := by decide +kernel
theorem dX11_full_16 : decode cX11_full 16 = .ok (.getfield 35, 3) := by decide +kernel
theorem dX11_full_19 : decode cX11_full 19 = .ok (.getfield 58, 3) := by decide +kernel
theorem dX11_full_22 : decode cX11_full 22 = .ok (.iload_n 1, 1) := by decide +kernel
theorem dX11_full_23 : decode cX11_full 23 = .ok (.invokevirtual 237, 3) := by decide +kernel
theorem dX11_full_26 : decode cX11_full 26 = .ok (.ireturn, 1) := by decide +kernel
set_option maxRecDepth 20000 in
theorem ggX11_closest_X3_closestPair : GoodIn wsX11_closest wsX3_closestPair := goodIn_r _ [9, 10, 11, 12, 13, 8, 14, 15, 16, 17, 18, 19, 20, 21, 22, 23, 24, 25, 26, 27, 28, 54, 55, 56, 57] rfl (by decide +kernel)
set_option maxRecDepth 20000 in
theorem gX11_closest_X3_closestPair : GoodIn wsX11_closest (wsV RX11 241 RX3 yX3_closestPair wsX3_closestPair) := goodIn_app (goodIn_r _ [5, 6, 7, 8] rfl (by decide +kernel)) ggX11_closest_X3_closestPair
set_option maxRecDepth 20000 in
theorem ggX11_closest_X3_alikeBytes : GoodIn wsX11_closest wsX3_alikeBytes := goodIn_r _ [14, 15, 16, 17, 18, 19, 20, 21, 8, 22, 10, 23, 24, 25, 26, 27, 28, 54, 55, 56, 57] rfl (by decide +kernel)
set_option maxRecDepth 20000 in
theorem gX11_closest_X3_alikeBytes : GoodIn wsX11_closest (wsV RX11 199 RX3 yX3_alikeBytes wsX3_alikeBytes) := goodIn_app (goodIn_r _ [29, 12, 13, 8] rfl (by decide +kernel)) ggX11_closest_X3_alikeBytes
theorem dX11_closest_0 : decode cX11_closest 0 = .ok (.iload_n 1, 1) := by decide +kernel
theorem dX11_closest_1 : decode cX11_closest 1 = .ok (.ifCond .lt 8, 3) := by decide +kernel
theorem dX11_closest_4 : decode cX11_closest 4 = .ok (.iload_n 1, 1) := by decide +kernel
theorem dX11_closest_5 : decode cX11_closest 5 = .ok (.iconst 1, 1) := by decide +kernel
theorem dX11_closest_6 : decode cX11_closest 6 = .ok (.if_icmp .le 5, 3) := by decide +kernel
theorem dX11_closest_9 : decode cX11_closest 9 = .ok (.iconst (-1), 1) := by decide +kernel
theorem dX11_closest_10 : decode cX11_closest 10 = .ok (.ireturn, 1) := by decide +kernel
theorem dX11_closest_11 : decode cX11_closest 11 = .ok (.aload_n 0, 1) := by decide +kernel
theorem dX11_closest_12 : decode cX11_closest 12 = .ok (.getfield 35, 3) := by decide +kernel
theorem dX11_closest_15 : decode cX11_closest 15 = .ok (.getfield 58, 3) := by decide +kernel
theorem dX11_closest_18 : decode cX11_closest 18 = .ok (.getfield 84, 3) := by decide +kernel
theorem dX11_closest_21 : decode cX11_closest 21 = .ok (.astore_n 2, 1) := by decide +kernel
theorem dX11_closest_22 : decode cX11_closest 22 = .ok (.aload_n 2, 1) := by decide +kernel
theorem dX11_closest_23 : decode cX11_closest 23 = .ok (.getfield 240, 3) := by decide +kernel
theorem dX11_closest_26 : decode cX11_closest 26 = .ok (.iconst 2, 1) := by decide +kernel
theorem dX11_closest_27 : decode cX11_closest 27 = .ok (.if_icmp .ge 6, 3) := by decide +kernel
theorem dX11_closest_30 : decode cX11_closest 30 = .ok (.bipush (-2), 2) := by decide +kernel
theorem dX11_closest_32 : decode cX11_closest 32 = .ok (.ireturn, 1) := by decide +kernel
theorem dX11_closest_33 : decode cX11_closest 33 = .ok (.aload_n 2, 1) := by decide +kernel
theorem dX11_closest_34 : decode cX11_closest 34 = .ok (.invokevirtual 241, 3) := by decide +kernel
theorem dX11_closest_37 : decode cX11_closest 37 = .ok (.istore_n 3, 1) := by decide +kernel
theorem dX11_closest_38 : decode cX11_closest 38 = .ok (.iload_n 1, 1) := by decide +kernel
theorem dX11_closest_39 : decode cX11_closest 39 = .ok (.ifCond .ne 14, 3) := by decide +kernel
theorem dX11_closest_42 : decode cX11_closest 42 = .ok (.aload_n 2, 1) := by decide +kernel
theorem dX11_closest_43 : decode cX11_closest 43 = .ok (.iload_n 3, 1) := by decide +kernel
theorem dX11_closest_44 : decode cX11_closest 44 = .ok (.iload_n 3, 1) := by decide +kernel
theorem dX11_closest_45 : decode cX11_closest 45 = .ok (.iconst 1, 1) := by decide +kernel
theorem dX11_closest_46 : decode cX11_closest 46 = .ok (.iadd, 1) := by decide +kernel
theorem dX11_closest_47 : decode cX11_closest 47 = .ok (.invokevirtual 199, 3) := by decide +kernel
theorem dX11_closest_50 : decode cX11_closest 50 = .ok (.goto 4, 3) := by decide +kernel
theorem dX11_closest_53 : decode cX11_closest 53 = .ok (.iload_n 3, 1) := by decide +kernel
theorem dX11_closest_54 : decode cX11_closest 54 = .ok (.ireturn, 1) := by decide +kernel
set_option maxRecDepth 20000 in
theorem ggX11_layer_X4_goTo : GoodIn wsX11_layer wsX4_goTo := goodIn_r _ [6, 7, 8, 9, 10, 11, 12, 13, 14, 15, 16, 17, 18, 19, 20, 21, 22, 23, 24, 25, 26, 27, 28, 29, 30, 31, 32, 33, 34, 35, 36, 95, 96, 97, 98, 99, 100, 101, 102, 103, 104, 105, 106, 107, 108, 109, 110, 111] rfl (by decide +kernel)
set_option maxRecDepth 20000 in
theorem gX11_layer_X4_goTo : GoodIn wsX11_layer (wsV RX11 245 RX4 yX4_goTo wsX4_goTo) := goodIn_app (goodIn_r _ [2, 3, 4, 5] rfl (by decide +kernel)) ggX11_layer_X4_goTo
set_option maxRecDepth 20000 in
theorem ggX11_layer_X4_beginningBytes : GoodIn wsX11_layer wsX4_beginningBytes := goodIn_r _ [40, 8, 9, 41, 95, 96, 97, 98, 99, 100, 101, 102, 103, 104, 105, 106, 107] rfl (by decide +kernel)
set_option maxRecDepth 20000 in
theorem gX11_layer_X4_beginningBytes : GoodIn wsX11_layer (wsV RX11 248 RX4 yX4_beginningBytes wsX4_beginningBytes) := goodIn_app (goodIn_r _ [37, 38, 39, 5] rfl (by decide +kernel)) ggX11_layer_X4_beginningBytes
set_option maxRecDepth 20000 in
theorem ggX11_layer_X4_entries : GoodIn wsX11_layer wsX4_entries := goodIn_r _ [45, 7, 12, 46, 47, 48, 5, 49, 9, 8, 29, 23, 24, 16, 25, 26, 27, 28, 95, 96, 97, 98, 99, 100, 101, 102, 103, 104, 105, 106, 107, 108, 109, 110, 111] rfl (by decide +kernel)
set_option maxRecDepth 20000 in
theorem gX11_layer_X4_entries : GoodIn wsX11_layer (wsV RX11 251 RX4 yX4_entries wsX4_entries) := goodIn_app (goodIn_r _ [42, 43, 44, 5] rfl (by decide +kernel)) ggX11_layer_X4_entries
set_option maxRecDepth 20000 in
theorem ggX11_layer_X4_pages : GoodIn wsX11_layer wsX4_pages := goodIn_r _ [53, 12, 7, 54, 55, 56, 5, 57, 58, 59, 60, 61, 9, 8, 29, 23, 24, 16, 25, 26, 27, 28, 62, 63, 64, 65, 66, 95, 96, 97, 98, 99, 100, 101, 102, 103, 104, 105, 106, 107, 108, 109, 110, 111] rfl (by decide +kernel)
set_option maxRecDepth 20000 in
theorem gX11_layer_X4_pages : GoodIn wsX11_layer (wsV RX11 254 RX4 yX4_pages wsX4_pages) := goodIn_app (goodIn_r _ [50, 51, 52, 5] rfl (by decide +kernel)) ggX11_layer_X4_pages
set_option maxRecDepth 20000 in
theorem ggX11_layer_X4_keys : GoodIn wsX11_layer wsX4_keys := goodIn_r _ [70, 12, 7, 95, 96, 97, 98] rfl (by decide +kernel)
set_option maxRecDepth 20000 in
theorem gX11_layer_X4_keys : GoodIn wsX11_layer (wsV RX11 257 RX4 yX4_keys wsX4_keys) := goodIn_app (goodIn_r _ [67, 68, 69, 5] rfl (by decide +kernel)) ggX11_layer_X4_keys
set_option maxRecDepth 20000 in
theorem ggX11_layer_X4_entriesOfPage : GoodIn wsX11_layer wsX4_entriesOfPage := goodIn_r _ [74, 7, 12, 9, 8, 58, 59, 60, 5, 61, 29, 23, 24, 16, 25, 26, 27, 28, 62, 63, 64, 65, 66, 75, 76, 77, 78, 79, 80, 81, 82, 22, 95, 96, 97, 98, 99, 100, 101, 102, 103, 104, 105, 106, 107, 108, 109, 110, 111] rfl (by decide +kernel)
set_option maxRecDepth 20000 in
theorem gX11_layer_X4_entriesOfPage : GoodIn wsX11_layer (wsV RX11 259 RX4 yX4_entriesOfPage wsX4_entriesOfPage) := goodIn_app (goodIn_r _ [71, 72, 73, 5] rfl (by decide +kernel)) ggX11_layer_X4_entriesOfPage
theorem dX11_layer_0 : decode cX11_layer 0 = .ok (.iload_n 2, 1) := by decide +kernel
theorem dX11_layer_1 : decode cX11_layer 1 = .ok (.ifCond .lt 25, 3) := by decide +kernel
theorem dX11_layer_4 : decode cX11_layer 4 = .ok (.iload_n 2, 1) := by decide +kernel
theorem dX11_layer_5 : decode cX11_layer 5 = .ok (.iconst 3, 1) := by decide +kernel
theorem dX11_layer_6 : decode cX11_layer 6 = .ok (.if_icmp .le 9, 3) := by decide +kernel
theorem dX11_layer_9 : decode cX11_layer 9 = .ok (.iload_n 2, 1) := by decide +kernel
theorem dX11_layer_10 : decode cX11_layer 10 = .ok (.bipush 10, 2) := by decide +kernel
theorem dX11_layer_12 : decode cX11_layer 12 = .ok (.if_icmp .lt 14, 3) := by decide +kernel
theorem dX11_layer_15 : decode cX11_layer 15 = .ok (.aload_n 0, 1) := by decide +kernel
theorem dX11_layer_16 : decode cX11_layer 16 = .ok (.getfield 64, 3) := by decide +kernel
theorem dX11_layer_19 : decode cX11_layer 19 = .ok (.iload_n 1, 1) := by decide +kernel
theorem dX11_layer_20 : decode cX11_layer 20 = .ok (.invokevirtual 245, 3) := by decide +kernel
theorem dX11_layer_23 : decode cX11_layer 23 = .ok (.ifCond .ne 5, 3) := by decide +kernel
theorem dX11_layer_26 : decode cX11_layer 26 = .ok (.iconst (-1), 1) := by decide +kernel
theorem dX11_layer_27 : decode cX11_layer 27 = .ok (.ireturn, 1) := by decide +kernel
theorem dX11_layer_28 : decode cX11_layer 28 = .ok (.iload_n 2, 1) := by decide +kernel
theorem dX11_layer_29 : decode cX11_layer 29 = .ok (.tableswitch 63 0 3 #[31, 39, 47, 55], 31) := by decide +kernel
theorem dX11_layer_60 : decode cX11_layer 60 = .ok (.aload_n 0, 1) := by decide +kernel
theorem dX11_layer_61 : decode cX11_layer 61 = .ok (.getfield 64, 3) := by decide +kernel
theorem dX11_layer_64 : decode cX11_layer 64 = .ok (.invokevirtual 248, 3) := by decide +kernel
theorem dX11_layer_67 : decode cX11_layer 67 = .ok (.ireturn, 1) := by decide +kernel
theorem dX11_layer_68 : decode cX11_layer 68 = .ok (.aload_n 0, 1) := by decide +kernel
theorem dX11_layer_69 : decode cX11_layer 69 = .ok (.getfield 64, 3) := by decide +kernel
theorem dX11_layer_72 : decode cX11_layer 72 = .ok (.invokevirtual 251, 3) := by decide +kernel
theorem dX11_layer_75 : decode cX11_layer 75 = .ok (.ireturn, 1) := by decide +kernel
theorem dX11_layer_76 : decode cX11_layer 76 = .ok (.aload_n 0, 1) := by decide +kernel
theorem dX11_layer_77 : decode cX11_layer 77 = .ok (.getfield 64, 3) := by decide +kernel
theorem dX11_layer_80 : decode cX11_layer 80 = .ok (.invokevirtual 254, 3) := by decide +kernel
theorem dX11_layer_83 : decode cX11_layer 83 = .ok (.ireturn, 1) := by decide +kernel
theorem dX11_layer_84 : decode cX11_layer 84 = .ok (.aload_n 0, 1) := by decide +kernel
theorem dX11_layer_85 : decode cX11_layer 85 = .ok (.getfield 64, 3) := by decide +kernel
theorem dX11_layer_88 : decode cX11_layer 88 = .ok (.invokevirtual 257, 3) := by decide +kernel
theorem dX11_layer_91 : decode cX11_layer 91 = .ok (.ireturn, 1) := by decide +kernel
theorem dX11_layer_92 : decode cX11_layer 92 = .ok (.aload_n 0, 1) := by decide +kernel
theorem dX11_layer_93 : decode cX11_layer 93 = .ok (.getfield 64, 3) := by decide +kernel
theorem dX11_layer_96 : decode cX11_layer 96 = .ok (.iload_n 2, 1) := by decide +kernel
theorem dX11_layer_97 : decode cX11_layer 97 = .ok (.bipush 10, 2) := by decide +kernel
theorem dX11_layer_99 : decode cX11_layer 99 = .ok (.isub, 1) := by decide +kernel
theorem dX11_layer_100 : decode cX11_layer 100 = .ok (.invokevirtual 259, 3) := by decide +kernel
theorem dX11_layer_103 : decode cX11_layer 103 = .ok (.ireturn, 1) := by decide +kernel
set_option maxRecDepth 20000 in
theorem ggX11_entry_X11_isEntryWhat : GoodIn wsX11_entry wsX11_isEntryWhat := goodIn_r _ [5] rfl (by decide +kernel)
set_option maxRecDepth 20000 in
theorem gX11_entry_X11_isEntryWhat : GoodIn wsX11_entry (va_wsS RX11 262 yX11_isEntryWhat wsX11_isEntryWhat) := goodIn_app (goodIn_r _ [2, 3, 4] rfl (by decide +kernel)) ggX11_entry_X11_isEntryWhat
set_option maxRecDepth 20000 in
theorem ggX11_entry_X4_goTo : GoodIn wsX11_entry wsX4_goTo := goodIn_r _ [10, 11, 12, 13, 14, 15, 16, 17, 18, 19, 20, 21, 22, 23, 24, 25, 26, 27, 28, 29, 30, 31, 32, 33, 34, 35, 36, 37, 38, 39, 40, 128, 129, 130, 131, 132, 133, 134, 135, 136, 137, 138, 139, 140, 141, 142, 143, 144] rfl (by decide +kernel)
set_option maxRecDepth 20000 in
theorem gX11_entry_X4_goTo : GoodIn wsX11_entry (wsV RX11 245 RX4 yX4_goTo wsX4_goTo) := goodIn_app (goodIn_r _ [6, 7, 8, 9] rfl (by decide +kernel)) ggX11_entry_X4_goTo
set_option maxRecDepth 20000 in
theorem ggX11_entry_X4_entryAt : GoodIn wsX11_entry wsX4_entryAt := goodIn_r _ [44, 11, 16, 45, 46, 47, 9, 48, 13, 12, 33, 27, 28, 20, 29, 30, 31, 32, 128, 129, 130, 131, 132, 133, 134, 135, 136, 137, 138, 139, 140, 141, 142, 143, 144] rfl (by decide +kernel)
set_option maxRecDepth 20000 in
theorem gX11_entry_X4_entryAt : GoodIn wsX11_entry (wsV RX11 265 RX4 yX4_entryAt wsX4_entryAt) := goodIn_app (goodIn_r _ [41, 42, 43, 9] rfl (by decide +kernel)) ggX11_entry_X4_entryAt
set_option maxRecDepth 20000 in
theorem ggX11_entry_X4_entryIs : GoodIn wsX11_entry wsX4_entryIs := goodIn_r _ [52, 13, 14, 53, 54, 55, 9, 56, 12, 17, 18, 19, 20, 21, 22, 23, 24, 25, 26, 27, 28, 29, 30, 31, 32, 57, 58, 59, 60, 61, 62, 63, 64, 65, 66, 67, 68, 69, 70, 71, 72, 73, 74, 75, 39, 40, 76, 77, 78, 79, 80, 81, 82, 83, 84, 85, 86, 87, 88, 89, 90, 91, 92, 93, 11, 94, 95, 96, 97, 33, 98, 99, 100, 101, 102, 128, 129, 130, 131, 132, 133, 134, 135, 136, 137, 138, 139, 140, 141, 142, 143, 144] rfl (by decide +kernel)
set_option maxRecDepth 20000 in
theorem gX11_entry_X4_entryIs : GoodIn wsX11_entry (wsV RX11 268 RX4 yX4_entryIs wsX4_entryIs) := goodIn_app (goodIn_r _ [49, 50, 51, 9] rfl (by decide +kernel)) ggX11_entry_X4_entryIs
set_option maxRecDepth 20000 in
theorem ggX11_entry_X4_partByte : GoodIn wsX11_entry wsX4_partByte := goodIn_r _ [106, 13, 14, 70, 71, 72, 9, 73, 74, 75, 39, 24, 40, 76, 63, 64, 65, 66, 67, 68, 77, 78, 79, 80, 12, 107, 108, 109, 110, 111, 128, 129, 130, 131, 132, 133, 134, 135, 136, 137, 138, 139, 140, 141, 142, 143, 144] rfl (by decide +kernel)
set_option maxRecDepth 20000 in
theorem gX11_entry_X4_partByte : GoodIn wsX11_entry (wsV RX11 271 RX4 yX4_partByte wsX4_partByte) := goodIn_app (goodIn_r _ [103, 104, 105, 9] rfl (by decide +kernel)) ggX11_entry_X4_partByte
set_option maxRecDepth 20000 in
theorem ggX11_entry_X4_restByte : GoodIn wsX11_entry wsX4_restByte := goodIn_r _ [115, 13, 14, 74, 86, 87, 88, 9, 89, 53, 54, 55, 56, 12, 17, 18, 19, 20, 21, 22, 23, 24, 25, 26, 27, 28, 29, 30, 31, 32, 57, 58, 59, 60, 61, 62, 63, 64, 65, 66, 67, 68, 69, 76, 77, 78, 79, 80, 107, 108, 109, 110, 111, 128, 129, 130, 131, 132, 133, 134, 135, 136, 137, 138, 139, 140, 141, 142, 143, 144] rfl (by decide +kernel)
set_option maxRecDepth 20000 in
theorem gX11_entry_X4_restByte : GoodIn wsX11_entry (wsV RX11 274 RX4 yX4_restByte wsX4_restByte) := goodIn_app (goodIn_r _ [112, 113, 114, 9] rfl (by decide +kernel)) ggX11_entry_X4_restByte
theorem dX11_entry_0 : decode cX11_entry 0 = .ok (.iload_n 3, 1) := by decide +kernel
theorem dX11_entry_1 : decode cX11_entry 1 = .ok (.invokestatic 262, 3) := by decide +kernel
theorem dX11_entry_4 : decode cX11_entry 4 = .ok (.ifCond .eq 18, 3) := by decide +kernel
theorem dX11_entry_7 : decode cX11_entry 7 = .ok (.iload_n 2, 1) := by decide +kernel
theorem dX11_entry_8 : decode cX11_entry 8 = .ok (.ifCond .lt 14, 3) := by decide +kernel
theorem dX11_entry_11 : decode cX11_entry 11 = .ok (.aload_n 0, 1) := by decide +kernel
theorem dX11_entry_12 : decode cX11_entry 12 = .ok (.getfield 64, 3) := by decide +kernel
theorem dX11_entry_15 : decode cX11_entry 15 = .ok (.iload_n 1, 1) := by decide +kernel
theorem dX11_entry_16 : decode cX11_entry 16 = .ok (.invokevirtual 245, 3) := by decide +kernel
theorem dX11_entry_19 : decode cX11_entry 19 = .ok (.ifCond .ne 5, 3) := by decide +kernel
theorem dX11_entry_22 : decode cX11_entry 22 = .ok (.iconst (-1), 1) := by decide +kernel
theorem dX11_entry_23 : decode cX11_entry 23 = .ok (.ireturn, 1) := by decide +kernel
theorem dX11_entry_24 : decode cX11_entry 24 = .ok (.aload_n 0, 1) := by decide +kernel
theorem dX11_entry_25 : decode cX11_entry 25 = .ok (.getfield 64, 3) := by decide +kernel
theorem dX11_entry_28 : decode cX11_entry 28 = .ok (.iload_n 2, 1) := by decide +kernel
theorem dX11_entry_29 : decode cX11_entry 29 = .ok (.invokevirtual 265, 3) := by decide +kernel
theorem dX11_entry_32 : decode cX11_entry 32 = .ok (.istore 4, 2) := by decide +kernel
theorem dX11_entry_34 : decode cX11_entry 34 = .ok (.iload 4, 2) := by decide +kernel
theorem dX11_entry_36 : decode cX11_entry 36 = .ok (.ifCond .ge 5, 3) := by decide +kernel
theorem dX11_entry_39 : decode cX11_entry 39 = .ok (.iconst (-1), 1) := by decide +kernel
theorem dX11_entry_40 : decode cX11_entry 40 = .ok (.ireturn, 1) := by decide +kernel
theorem dX11_entry_41 : decode cX11_entry 41 = .ok (.iload_n 3, 1) := by decide +kernel
theorem dX11_entry_42 : decode cX11_entry 42 = .ok (.bipush 10, 2) := by decide +kernel
theorem dX11_entry_44 : decode cX11_entry 44 = .ok (.if_icmp .ge 14, 3) := by decide +kernel
theorem dX11_entry_47 : decode cX11_entry 47 = .ok (.aload_n 0, 1) := by decide +kernel
theorem dX11_entry_48 : decode cX11_entry 48 = .ok (.getfield 64, 3) := by decide +kernel
theorem dX11_entry_51 : decode cX11_entry 51 = .ok (.iload 4, 2) := by decide +kernel
theorem dX11_entry_53 : decode cX11_entry 53 = .ok (.iload_n 3, 1) := by decide +kernel
theorem dX11_entry_54 : decode cX11_entry 54 = .ok (.invokevirtual 268, 3) := by decide +kernel
theorem dX11_entry_57 : decode cX11_entry 57 = .ok (.ireturn, 1) := by decide +kernel
theorem dX11_entry_58 : decode cX11_entry 58 = .ok (.iload_n 3, 1) := by decide +kernel
theorem dX11_entry_59 : decode cX11_entry 59 = .ok (.bipush 20, 2) := by decide +kernel
theorem dX11_entry_61 : decode cX11_entry 61 = .ok (.if_icmp .ge 19, 3) := by decide +kernel
theorem dX11_entry_64 : decode cX11_entry 64 = .ok (.aload_n 0, 1) := by decide +kernel
theorem dX11_entry_65 : decode cX11_entry 65 = .ok (.getfield 64, 3) := by decide +kernel
theorem dX11_entry_68 : decode cX11_entry 68 = .ok (.iload 4, 2) := by decide +kernel
theorem dX11_entry_70 : decode cX11_entry 70 = .ok (.iload_n 3, 1) := by decide +kernel
theorem dX11_entry_71 : decode cX11_entry 71 = .ok (.bipush 10, 2) := by decide +kernel
theorem dX11_entry_73 : decode cX11_entry 73 = .ok (.isub, 1) := by decide +kernel
theorem dX11_entry_74 : decode cX11_entry 74 = .ok (.invokevirtual 271, 3) := by decide +kernel
theorem dX11_entry_77 : decode cX11_entry 77 = .ok (.goto 16, 3) := by decide +kernel
theorem dX11_entry_80 : decode cX11_entry 80 = .ok (.aload_n 0, 1) := by decide +kernel
theorem dX11_entry_81 : decode cX11_entry 81 = .ok (.getfield 64, 3) := by decide +kernel
theorem dX11_entry_84 : decode cX11_entry 84 = .ok (.iload 4, 2) := by decide +kernel
theorem dX11_entry_86 : decode cX11_entry 86 = .ok (.iload_n 3, 1) := by decide +kernel
theorem dX11_entry_87 : decode cX11_entry 87 = .ok (.bipush 20, 2) := by decide +kernel
theorem dX11_entry_89 : decode cX11_entry 89 = .ok (.isub, 1) := by decide +kernel
theorem dX11_entry_90 : decode cX11_entry 90 = .ok (.invokevirtual 274, 3) := by decide +kernel
theorem dX11_entry_93 : decode cX11_entry 93 = .ok (.ireturn, 1) := by decide +kernel
set_option maxRecDepth 20000 in
theorem ggX11_query_X11_isTextTold : GoodIn wsX11_query wsX11_isTextTold := goodIn_r _ [13, 3, 14, 174, 175, 176, 177, 178, 179, 180, 181, 182, 183, 184, 185, 196, 197] rfl (by decide +kernel)
set_option maxRecDepth 20000 in
theorem gX11_query_X11_isTextTold : GoodIn wsX11_query (wsV RX11 136 RX11 yX11_isTextTold wsX11_isTextTold) := goodIn_app (goodIn_r _ [9, 10, 11, 12] rfl (by decide +kernel)) ggX11_query_X11_isTextTold
set_option maxRecDepth 20000 in
theorem ggX11_query_X7_open : GoodIn wsX11_query wsX7_open := goodIn_r _ [19, 20, 21, 22, 186, 187, 188, 189] rfl (by decide +kernel)
set_option maxRecDepth 20000 in
theorem gX11_query_X7_open : GoodIn wsX11_query (wsV RX11 277 RX7 yX7_open wsX7_open) := goodIn_app (goodIn_r _ [15, 16, 17, 18] rfl (by decide +kernel)) ggX11_query_X7_open
set_option maxRecDepth 20000 in
theorem ggX11_query_X6_readFrom : GoodIn wsX11_query wsX6_readFrom := goodIn_r _ [27, 28, 29, 30, 31, 18, 32, 20, 21, 33, 34, 35, 26, 36, 37, 38, 39, 40, 41, 42, 43, 44, 45, 46, 47, 48, 49, 50, 51, 52, 53, 54, 55, 56, 57, 58, 59, 22, 60, 61, 62, 63, 64, 65, 66, 67, 68, 12, 69, 70, 71, 72, 73, 74, 75, 76, 77, 78, 79, 80, 81, 82, 83, 84, 85, 86, 87, 88, 89, 90, 91, 92, 93, 94, 95, 96, 97, 98, 99, 100, 101, 102, 103, 198, 199, 200, 201, 186, 187, 188, 189, 196, 197, 202, 203] rfl (by decide +kernel)
set_option maxRecDepth 20000 in
theorem gX11_query_X6_readFrom : GoodIn wsX11_query (wsV RX11 280 RX6 yX6_readFrom wsX6_readFrom) := goodIn_app (goodIn_r _ [23, 24, 25, 26] rfl (by decide +kernel)) ggX11_query_X6_readFrom
set_option maxRecDepth 20000 in
theorem ggX11_query_X9_clear : GoodIn wsX11_query wsX9_clear := goodIn_r _ [107, 50, 196, 197] rfl (by decide +kernel)
set_option maxRecDepth 20000 in
theorem gX11_query_X9_clear : GoodIn wsX11_query (wsV RX11 117 RX9 yX9_clear wsX9_clear) := goodIn_app (goodIn_r _ [104, 105, 106, 48] rfl (by decide +kernel)) ggX11_query_X9_clear
set_option maxRecDepth 20000 in
theorem ggX11_query_X6_copyFrom : GoodIn wsX11_query wsX6_copyFrom := goodIn_r _ [111, 37, 112, 113, 114, 115, 39, 38, 28, 116, 117, 118, 64, 119, 74, 120, 66, 198, 199, 200, 201, 202, 203] rfl (by decide +kernel)
set_option maxRecDepth 20000 in
theorem gX11_query_X6_copyFrom : GoodIn wsX11_query (wsV RX11 287 RX6 yX6_copyFrom wsX6_copyFrom) := goodIn_app (goodIn_r _ [108, 109, 110, 26] rfl (by decide +kernel)) ggX11_query_X6_copyFrom
set_option maxRecDepth 20000 in
theorem ggX11_query_X1_goThrough : GoodIn wsX11_query wsX1_goThrough := goodIn_r _ [125, 126, 127, 128, 129, 130, 131, 132, 133, 26, 134, 28, 37, 135, 136, 137, 124, 138, 139, 140, 141, 142, 143, 144, 145, 146, 39, 38, 147, 148, 149, 150, 151, 152, 153, 154, 155, 156, 157, 158, 159, 160, 161, 162, 163, 164, 165, 166, 64, 167, 66, 74, 168, 169, 170, 171, 172, 173, 193, 194, 195, 204, 205, 206, 207, 198, 199, 200, 201, 202, 203] rfl (by decide +kernel)
set_option maxRecDepth 20000 in
theorem gX11_query_X1_goThrough : GoodIn wsX11_query (wsV RX11 290 RX1 yX1_goThrough wsX1_goThrough) := goodIn_app (goodIn_r _ [121, 122, 123, 124] rfl (by decide +kernel)) ggX11_query_X1_goThrough
theorem dX11_query_0 : decode cX11_query 0 = .ok (.aload_n 0, 1) := by decide +kernel
theorem dX11_query_1 : decode cX11_query 1 = .ok (.iload_n 1, 1) := by decide +kernel
theorem dX11_query_2 : decode cX11_query 2 = .ok (.iconst 0, 1) := by decide +kernel
theorem dX11_query_3 : decode cX11_query 3 = .ok (.bipush 60, 2) := by decide +kernel
theorem dX11_query_5 : decode cX11_query 5 = .ok (.invokevirtual 136, 3) := by decide +kernel
theorem dX11_query_8 : decode cX11_query 8 = .ok (.ifCond .ne 5, 3) := by decide +kernel
theorem dX11_query_11 : decode cX11_query 11 = .ok (.iconst (-1), 1) := by decide +kernel
theorem dX11_query_12 : decode cX11_query 12 = .ok (.ireturn, 1) := by decide +kernel
theorem dX11_query_13 : decode cX11_query 13 = .ok (.aload_n 0, 1) := by decide +kernel
theorem dX11_query_14 : decode cX11_query 14 = .ok (.getfield 21, 3) := by decide +kernel
theorem dX11_query_17 : decode cX11_query 17 = .ok (.iload_n 1, 1) := by decide +kernel
theorem dX11_query_18 : decode cX11_query 18 = .ok (.invokevirtual 277, 3) := by decide +kernel
theorem dX11_query_21 : decode cX11_query 21 = .ok (.aload_n 0, 1) := by decide +kernel
theorem dX11_query_22 : decode cX11_query 22 = .ok (.getfield 78, 3) := by decide +kernel
theorem dX11_query_25 : decode cX11_query 25 = .ok (.aload_n 0, 1) := by decide +kernel
theorem dX11_query_26 : decode cX11_query 26 = .ok (.getfield 21, 3) := by decide +kernel
theorem dX11_query_29 : decode cX11_query 29 = .ok (.invokevirtual 280, 3) := by decide +kernel
theorem dX11_query_32 : decode cX11_query 32 = .ok (.aload_n 0, 1) := by decide +kernel
theorem dX11_query_33 : decode cX11_query 33 = .ok (.getfield 10, 3) := by decide +kernel
theorem dX11_query_36 : decode cX11_query 36 = .ok (.invokevirtual 117, 3) := by decide +kernel
theorem dX11_query_39 : decode cX11_query 39 = .ok (.aload_n 0, 1) := by decide +kernel
theorem dX11_query_40 : decode cX11_query 40 = .ok (.getfield 21, 3) := by decide +kernel
theorem dX11_query_43 : decode cX11_query 43 = .ok (.getfield 147, 3) := by decide +kernel
theorem dX11_query_46 : decode cX11_query 46 = .ok (.ifCond .eq 11, 3) := by decide +kernel
theorem dX11_query_49 : decode cX11_query 49 = .ok (.aload_n 0, 1) := by decide +kernel
theorem dX11_query_50 : decode cX11_query 50 = .ok (.getfield 21, 3) := by decide +kernel
theorem dX11_query_53 : decode cX11_query 53 = .ok (.getfield 147, 3) := by decide +kernel
theorem dX11_query_56 : decode cX11_query 56 = .ok (.ireturn, 1) := by decide +kernel
theorem dX11_query_57 : decode cX11_query 57 = .ok (.aload_n 0, 1) := by decide +kernel
theorem dX11_query_58 : decode cX11_query 58 = .ok (.getfield 35, 3) := by decide +kernel
theorem dX11_query_61 : decode cX11_query 61 = .ok (.getfield 284, 3) := by decide +kernel
theorem dX11_query_64 : decode cX11_query 64 = .ok (.aload_n 0, 1) := by decide +kernel
theorem dX11_query_65 : decode cX11_query 65 = .ok (.getfield 78, 3) := by decide +kernel
theorem dX11_query_68 : decode cX11_query 68 = .ok (.invokevirtual 287, 3) := by decide +kernel
theorem dX11_query_71 : decode cX11_query 71 = .ok (.aload_n 0, 1) := by decide +kernel
theorem dX11_query_72 : decode cX11_query 72 = .ok (.getfield 91, 3) := by decide +kernel
theorem dX11_query_75 : decode cX11_query 75 = .ok (.aload_n 0, 1) := by decide +kernel
theorem dX11_query_76 : decode cX11_query 76 = .ok (.getfield 35, 3) := by decide +kernel
theorem dX11_query_79 : decode cX11_query 79 = .ok (.getfield 284, 3) := by decide +kernel
theorem dX11_query_82 : decode cX11_query 82 = .ok (.invokevirtual 290, 3) := by decide +kernel
theorem dX11_query_85 : decode cX11_query 85 = .ok (.aload_n 0, 1) := by decide +kernel
theorem dX11_query_86 : decode cX11_query 86 = .ok (.getfield 91, 3) := by decide +kernel
theorem dX11_query_89 : decode cX11_query 89 = .ok (.getfield 293, 3) := by decide +kernel
theorem dX11_query_92 : decode cX11_query 92 = .ok (.ireturn, 1) := by decide +kernel
set_option maxRecDepth 20000 in
theorem ggX11_found_X1_goThrough : GoodIn wsX11_found wsX1_goThrough := goodIn_r _ [9, 10, 11, 12, 13, 14, 15, 16, 17, 18, 19, 20, 21, 22, 23, 24, 8, 25, 26, 27, 28, 29, 30, 31, 32, 33, 34, 35, 36, 37, 38, 39, 40, 41, 42, 43, 44, 45, 46, 47, 48, 49, 50, 51, 52, 53, 54, 55, 56, 57, 58, 59, 60, 61, 62, 63, 64, 65, 115, 116, 117, 118, 119, 120, 121, 122, 123, 124, 125, 126, 127] rfl (by decide +kernel)
set_option maxRecDepth 20000 in
theorem gX11_found_X1_goThrough : GoodIn wsX11_found (wsV RX11 290 RX1 yX1_goThrough wsX1_goThrough) := goodIn_app (goodIn_r _ [5, 6, 7, 8] rfl (by decide +kernel)) ggX11_found_X1_goThrough
set_option maxRecDepth 20000 in
theorem ggX11_found_X1_valuesTogether : GoodIn wsX11_found wsX1_valuesTogether := goodIn_r _ [69, 12, 10, 13, 70, 61, 62, 39, 63, 46, 64, 115, 116, 117, 118, 119, 120, 121] rfl (by decide +kernel)
set_option maxRecDepth 20000 in
theorem gX11_found_X1_valuesTogether : GoodIn wsX11_found (wsV RX11 294 RX1 yX1_valuesTogether wsX1_valuesTogether) := goodIn_app (goodIn_r _ [66, 67, 68, 8] rfl (by decide +kernel)) ggX11_found_X1_valuesTogether
set_option maxRecDepth 20000 in
theorem ggX11_found_X1_greatest : GoodIn wsX11_found wsX1_greatest := goodIn_r _ [74, 12, 10, 13, 75, 76, 77, 78, 70, 61, 62, 39, 63, 46, 64, 115, 116, 117, 118, 119, 120, 121] rfl (by decide +kernel)
set_option maxRecDepth 20000 in
theorem gX11_found_X1_greatest : GoodIn wsX11_found (wsV RX11 296 RX1 yX1_greatest wsX1_greatest) := goodIn_app (goodIn_r _ [71, 72, 73, 8] rfl (by decide +kernel)) ggX11_found_X1_greatest
set_option maxRecDepth 20000 in
theorem ggX11_found_X1_least : GoodIn wsX11_found wsX1_least := goodIn_r _ [82, 83, 12, 10, 13, 84, 85, 77, 86, 70, 61, 62, 39, 63, 46, 64, 115, 116, 117, 118, 119, 120, 121] rfl (by decide +kernel)
set_option maxRecDepth 20000 in
theorem gX11_found_X1_least : GoodIn wsX11_found (wsV RX11 299 RX1 yX1_least wsX1_least) := goodIn_app (goodIn_r _ [79, 80, 81, 8] rfl (by decide +kernel)) ggX11_found_X1_least
set_option maxRecDepth 20000 in
theorem ggX11_found_X1_bytesTogether : GoodIn wsX11_found wsX1_bytesTogether := goodIn_r _ [90, 12, 10, 13, 91, 43, 44, 39, 45, 46, 47, 115, 116, 117, 118, 119, 120, 121] rfl (by decide +kernel)
set_option maxRecDepth 20000 in
theorem gX11_found_X1_bytesTogether : GoodIn wsX11_found (wsV RX11 302 RX1 yX1_bytesTogether wsX1_bytesTogether) := goodIn_app (goodIn_r _ [87, 88, 89, 8] rfl (by decide +kernel)) ggX11_found_X1_bytesTogether
set_option maxRecDepth 20000 in
theorem ggX11_found_X1_unlikeValues : GoodIn wsX11_found wsX1_unlikeValues := goodIn_r _ [95, 12, 96, 97, 98, 8, 99, 10, 13, 70, 61, 62, 39, 63, 46, 64, 115, 116, 117, 118, 119, 120, 121] rfl (by decide +kernel)
set_option maxRecDepth 20000 in
theorem gX11_found_X1_unlikeValues : GoodIn wsX11_found (wsV RX11 305 RX1 yX1_unlikeValues wsX1_unlikeValues) := goodIn_app (goodIn_r _ [92, 93, 94, 8] rfl (by decide +kernel)) ggX11_found_X1_unlikeValues
theorem dX11_found_0 : decode cX11_found 0 = .ok (.iload_n 1, 1) := by decide +kernel
theorem dX11_found_1 : decode cX11_found 1 = .ok (.ifCond .lt 8, 3) := by decide +kernel
theorem dX11_found_4 : decode cX11_found 4 = .ok (.iload_n 1, 1) := by decide +kernel
theorem dX11_found_5 : decode cX11_found 5 = .ok (.iconst 5, 1) := by decide +kernel
theorem dX11_found_6 : decode cX11_found 6 = .ok (.if_icmp .le 5, 3) := by decide +kernel
theorem dX11_found_9 : decode cX11_found 9 = .ok (.iconst (-1), 1) := by decide +kernel
theorem dX11_found_10 : decode cX11_found 10 = .ok (.ireturn, 1) := by decide +kernel
theorem dX11_found_11 : decode cX11_found 11 = .ok (.aload_n 0, 1) := by decide +kernel
theorem dX11_found_12 : decode cX11_found 12 = .ok (.getfield 91, 3) := by decide +kernel
theorem dX11_found_15 : decode cX11_found 15 = .ok (.aload_n 0, 1) := by decide +kernel
theorem dX11_found_16 : decode cX11_found 16 = .ok (.getfield 35, 3) := by decide +kernel
theorem dX11_found_19 : decode cX11_found 19 = .ok (.getfield 284, 3) := by decide +kernel
theorem dX11_found_22 : decode cX11_found 22 = .ok (.invokevirtual 290, 3) := by decide +kernel
theorem dX11_found_25 : decode cX11_found 25 = .ok (.iload_n 1, 1) := by decide +kernel
theorem dX11_found_26 : decode cX11_found 26 = .ok (.tableswitch 74 0 4 #[34, 42, 50, 58, 66], 34) := by decide +kernel
theorem dX11_found_60 : decode cX11_found 60 = .ok (.aload_n 0, 1) := by decide +kernel
theorem dX11_found_61 : decode cX11_found 61 = .ok (.getfield 91, 3) := by decide +kernel
theorem dX11_found_64 : decode cX11_found 64 = .ok (.getfield 293, 3) := by decide +kernel
theorem dX11_found_67 : decode cX11_found 67 = .ok (.ireturn, 1) := by decide +kernel
theorem dX11_found_68 : decode cX11_found 68 = .ok (.aload_n 0, 1) := by decide +kernel
theorem dX11_found_69 : decode cX11_found 69 = .ok (.getfield 91, 3) := by decide +kernel
theorem dX11_found_72 : decode cX11_found 72 = .ok (.invokevirtual 294, 3) := by decide +kernel
theorem dX11_found_75 : decode cX11_found 75 = .ok (.ireturn, 1) := by decide +kernel
theorem dX11_found_76 : decode cX11_found 76 = .ok (.aload_n 0, 1) := by decide +kernel
theorem dX11_found_77 : decode cX11_found 77 = .ok (.getfield 91, 3) := by decide +kernel
theorem dX11_found_80 : decode cX11_found 80 = .ok (.invokevirtual 296, 3) := by decide +kernel
theorem dX11_found_83 : decode cX11_found 83 = .ok (.ireturn, 1) := by decide +kernel
theorem dX11_found_84 : decode cX11_found 84 = .ok (.aload_n 0, 1) := by decide +kernel
theorem dX11_found_85 : decode cX11_found 85 = .ok (.getfield 91, 3) := by decide +kernel
theorem dX11_found_88 : decode cX11_found 88 = .ok (.invokevirtual 299, 3) := by decide +kernel
theorem dX11_found_91 : decode cX11_found 91 = .ok (.ireturn, 1) := by decide +kernel
theorem dX11_found_92 : decode cX11_found 92 = .ok (.aload_n 0, 1) := by decide +kernel
theorem dX11_found_93 : decode cX11_found 93 = .ok (.getfield 91, 3) := by decide +kernel
theorem dX11_found_96 : decode cX11_found 96 = .ok (.invokevirtual 302, 3) := by decide +kernel
theorem dX11_found_99 : decode cX11_found 99 = .ok (.ireturn, 1) := by decide +kernel
theorem dX11_found_100 : decode cX11_found 100 = .ok (.aload_n 0, 1) := by decide +kernel
theorem dX11_found_101 : decode cX11_found 101 = .ok (.getfield 91, 3) := by decide +kernel
theorem dX11_found_104 : decode cX11_found 104 = .ok (.invokevirtual 305, 3) := by decide +kernel
theorem dX11_found_107 : decode cX11_found 107 = .ok (.ireturn, 1) := by decide +kernel
set_option maxRecDepth 20000 in
theorem ggX11_foundAt_X1_goThrough : GoodIn wsX11_foundAt wsX1_goThrough := goodIn_r _ [9, 10, 11, 12, 13, 14, 15, 16, 17, 18, 19, 20, 21, 22, 23, 24, 8, 25, 26, 27, 28, 29, 30, 31, 32, 33, 34, 35, 36, 37, 38, 39, 40, 41, 42, 43, 44, 45, 46, 47, 48, 49, 50, 51, 52, 53, 54, 55, 56, 57, 58, 59, 60, 61, 62, 63, 64, 65, 85, 86, 87, 88, 89, 90, 91, 92, 93, 94, 95, 96, 97] rfl (by decide +kernel)
set_option maxRecDepth 20000 in
theorem gX11_foundAt_X1_goThrough : GoodIn wsX11_foundAt (wsV RX11 290 RX1 yX1_goThrough wsX1_goThrough) := goodIn_app (goodIn_r _ [5, 6, 7, 8] rfl (by decide +kernel)) ggX11_foundAt_X1_goThrough
set_option maxRecDepth 20000 in
theorem ggX11_foundAt_X1_numberAt : GoodIn wsX11_foundAt wsX1_numberAt := goodIn_r _ [69, 12, 13, 85, 86, 87] rfl (by decide +kernel)
set_option maxRecDepth 20000 in
theorem gX11_foundAt_X1_numberAt : GoodIn wsX11_foundAt (wsV RX11 308 RX1 yX1_numberAt wsX1_numberAt) := goodIn_app (goodIn_r _ [66, 67, 68, 8] rfl (by decide +kernel)) ggX11_foundAt_X1_numberAt
theorem dX11_foundAt_0 : decode cX11_foundAt 0 = .ok (.iload_n 1, 1) := by decide +kernel
theorem dX11_foundAt_1 : decode cX11_foundAt 1 = .ok (.ifCond .ge 5, 3) := by decide +kernel
theorem dX11_foundAt_4 : decode cX11_foundAt 4 = .ok (.iconst (-1), 1) := by decide +kernel
theorem dX11_foundAt_5 : decode cX11_foundAt 5 = .ok (.ireturn, 1) := by decide +kernel
theorem dX11_foundAt_6 : decode cX11_foundAt 6 = .ok (.aload_n 0, 1) := by decide +kernel
theorem dX11_foundAt_7 : decode cX11_foundAt 7 = .ok (.getfield 91, 3) := by decide +kernel
theorem dX11_foundAt_10 : decode cX11_foundAt 10 = .ok (.aload_n 0, 1) := by decide +kernel
theorem dX11_foundAt_11 : decode cX11_foundAt 11 = .ok (.getfield 35, 3) := by decide +kernel
theorem dX11_foundAt_14 : decode cX11_foundAt 14 = .ok (.getfield 284, 3) := by decide +kernel
theorem dX11_foundAt_17 : decode cX11_foundAt 17 = .ok (.invokevirtual 290, 3) := by decide +kernel
theorem dX11_foundAt_20 : decode cX11_foundAt 20 = .ok (.iload_n 1, 1) := by decide +kernel
theorem dX11_foundAt_21 : decode cX11_foundAt 21 = .ok (.aload_n 0, 1) := by decide +kernel
theorem dX11_foundAt_22 : decode cX11_foundAt 22 = .ok (.getfield 91, 3) := by decide +kernel
theorem dX11_foundAt_25 : decode cX11_foundAt 25 = .ok (.getfield 293, 3) := by decide +kernel
theorem dX11_foundAt_28 : decode cX11_foundAt 28 = .ok (.if_icmp .ge 14, 3) := by decide +kernel
theorem dX11_foundAt_31 : decode cX11_foundAt 31 = .ok (.aload_n 0, 1) := by decide +kernel
theorem dX11_foundAt_32 : decode cX11_foundAt 32 = .ok (.getfield 91, 3) := by decide +kernel
theorem dX11_foundAt_35 : decode cX11_foundAt 35 = .ok (.iload_n 1, 1) := by decide +kernel
theorem dX11_foundAt_36 : decode cX11_foundAt 36 = .ok (.invokevirtual 308, 3) := by decide +kernel
theorem dX11_foundAt_39 : decode cX11_foundAt 39 = .ok (.goto 5, 3) := by decide +kernel
theorem dX11_foundAt_42 : decode cX11_foundAt 42 = .ok (.bipush (-4), 2) := by decide +kernel
theorem dX11_foundAt_44 : decode cX11_foundAt 44 = .ok (.ireturn, 1) := by decide +kernel
set_option maxRecDepth 20000 in
theorem ggX11_takeFound_X1_goThrough : GoodIn wsX11_takeFound wsX1_goThrough := goodIn_r _ [10, 11, 12, 13, 14, 15, 16, 17, 18, 19, 20, 21, 22, 23, 24, 25, 9, 26, 27, 28, 29, 30, 31, 32, 33, 34, 35, 36, 37, 38, 39, 40, 41, 42, 43, 44, 45, 46, 47, 48, 49, 50, 51, 52, 53, 54, 55, 56, 57, 58, 59, 60, 61, 62, 63, 64, 65, 66, 168, 169, 170, 171, 172, 173, 174, 175, 176, 177, 178, 179, 180] rfl (by decide +kernel)
set_option maxRecDepth 20000 in
theorem gX11_takeFound_X1_goThrough : GoodIn wsX11_takeFound (wsV RX11 290 RX1 yX1_goThrough wsX1_goThrough) := goodIn_app (goodIn_r _ [6, 7, 8, 9] rfl (by decide +kernel)) ggX11_takeFound_X1_goThrough
set_option maxRecDepth 20000 in
theorem ggX11_takeFound_X1_numberAt : GoodIn wsX11_takeFound wsX1_numberAt := goodIn_r _ [70, 13, 14, 168, 169, 170] rfl (by decide +kernel)
set_option maxRecDepth 20000 in
theorem gX11_takeFound_X1_numberAt : GoodIn wsX11_takeFound (wsV RX11 308 RX1 yX1_numberAt wsX1_numberAt) := goodIn_app (goodIn_r _ [67, 68, 69, 9] rfl (by decide +kernel)) ggX11_takeFound_X1_numberAt
set_option maxRecDepth 20000 in
theorem ggX11_takeFound_X10_removeAt : GoodIn wsX11_takeFound wsX10_removeAt := goodIn_r _ [75, 76, 77, 78, 79, 80, 81, 82, 83, 84, 85, 86, 40, 87, 47, 88, 89, 90, 74, 91, 92, 93, 94, 95, 96, 97, 98, 99, 100, 101, 102, 103, 104, 105, 106, 107, 108, 109, 110, 111, 112, 113, 114, 115, 53, 116, 48, 65, 117, 118, 119, 120, 121, 122, 123, 124, 125, 126, 127, 128, 129, 130, 131, 132, 133, 134, 135, 136, 137, 138, 139, 140, 141, 142, 143, 144, 145, 146, 147, 148, 181, 182, 183, 184, 185, 186, 187, 188, 189, 171, 172, 173, 174] rfl (by decide +kernel)
set_option maxRecDepth 20000 in
theorem gX11_takeFound_X10_removeAt : GoodIn wsX11_takeFound (wsV RX11 311 RX10 yX10_removeAt wsX10_removeAt) := goodIn_app (goodIn_r _ [71, 72, 73, 74] rfl (by decide +kernel)) ggX11_takeFound_X10_removeAt
set_option maxRecDepth 20000 in
theorem ggX11_takeFound_X1_closeGap : GoodIn wsX11_takeFound wsX1_closeGap := goodIn_r _ [152, 13, 14, 168, 169, 170] rfl (by decide +kernel)
set_option maxRecDepth 20000 in
theorem gX11_takeFound_X1_closeGap : GoodIn wsX11_takeFound (wsV RX11 314 RX1 yX1_closeGap wsX1_closeGap) := goodIn_app (goodIn_r _ [149, 150, 151, 9] rfl (by decide +kernel)) ggX11_takeFound_X1_closeGap
theorem dX11_takeFound_0 : decode cX11_takeFound 0 = .ok (.aload_n 0, 1) := by decide +kernel
theorem dX11_takeFound_1 : decode cX11_takeFound 1 = .ok (.getfield 91, 3) := by decide +kernel
theorem dX11_takeFound_4 : decode cX11_takeFound 4 = .ok (.aload_n 0, 1) := by decide +kernel
theorem dX11_takeFound_5 : decode cX11_takeFound 5 = .ok (.getfield 35, 3) := by decide +kernel
theorem dX11_takeFound_8 : decode cX11_takeFound 8 = .ok (.getfield 284, 3) := by decide +kernel
theorem dX11_takeFound_11 : decode cX11_takeFound 11 = .ok (.invokevirtual 290, 3) := by decide +kernel
theorem dX11_takeFound_14 : decode cX11_takeFound 14 = .ok (.aload_n 0, 1) := by decide +kernel
theorem dX11_takeFound_15 : decode cX11_takeFound 15 = .ok (.getfield 91, 3) := by decide +kernel
theorem dX11_takeFound_18 : decode cX11_takeFound 18 = .ok (.getfield 293, 3) := by decide +kernel
theorem dX11_takeFound_21 : decode cX11_takeFound 21 = .ok (.istore_n 1, 1) := by decide +kernel
theorem dX11_takeFound_22 : decode cX11_takeFound 22 = .ok (.iconst 0, 1) := by decide +kernel
theorem dX11_takeFound_23 : decode cX11_takeFound 23 = .ok (.istore_n 2, 1) := by decide +kernel
theorem dX11_takeFound_24 : decode cX11_takeFound 24 = .ok (.iload_n 2, 1) := by decide +kernel
theorem dX11_takeFound_25 : decode cX11_takeFound 25 = .ok (.iload_n 1, 1) := by decide +kernel
theorem dX11_takeFound_26 : decode cX11_takeFound 26 = .ok (.if_icmp .ge 40, 3) := by decide +kernel
theorem dX11_takeFound_29 : decode cX11_takeFound 29 = .ok (.aload_n 0, 1) := by decide +kernel
theorem dX11_takeFound_30 : decode cX11_takeFound 30 = .ok (.getfield 91, 3) := by decide +kernel
theorem dX11_takeFound_33 : decode cX11_takeFound 33 = .ok (.iload_n 2, 1) := by decide +kernel
theorem dX11_takeFound_34 : decode cX11_takeFound 34 = .ok (.invokevirtual 308, 3) := by decide +kernel
theorem dX11_takeFound_37 : decode cX11_takeFound 37 = .ok (.istore_n 3, 1) := by decide +kernel
theorem dX11_takeFound_38 : decode cX11_takeFound 38 = .ok (.aload_n 0, 1) := by decide +kernel
theorem dX11_takeFound_39 : decode cX11_takeFound 39 = .ok (.getfield 35, 3) := by decide +kernel
theorem dX11_takeFound_42 : decode cX11_takeFound 42 = .ok (.getfield 58, 3) := by decide +kernel
theorem dX11_takeFound_45 : decode cX11_takeFound 45 = .ok (.iload_n 3, 1) := by decide +kernel
theorem dX11_takeFound_46 : decode cX11_takeFound 46 = .ok (.invokevirtual 311, 3) := by decide +kernel
theorem dX11_takeFound_49 : decode cX11_takeFound 49 = .ok (.aload_n 0, 1) := by decide +kernel
theorem dX11_takeFound_50 : decode cX11_takeFound 50 = .ok (.getfield 91, 3) := by decide +kernel
theorem dX11_takeFound_53 : decode cX11_takeFound 53 = .ok (.iload_n 2, 1) := by decide +kernel
theorem dX11_takeFound_54 : decode cX11_takeFound 54 = .ok (.iconst 1, 1) := by decide +kernel
theorem dX11_takeFound_55 : decode cX11_takeFound 55 = .ok (.iadd, 1) := by decide +kernel
theorem dX11_takeFound_56 : decode cX11_takeFound 56 = .ok (.iload_n 3, 1) := by decide +kernel
theorem dX11_takeFound_57 : decode cX11_takeFound 57 = .ok (.invokevirtual 314, 3) := by decide +kernel
theorem dX11_takeFound_60 : decode cX11_takeFound 60 = .ok (.iinc 2 1, 3) := by decide +kernel
theorem dX11_takeFound_63 : decode cX11_takeFound 63 = .ok (.goto (-39), 3) := by decide +kernel
theorem dX11_takeFound_66 : decode cX11_takeFound 66 = .ok (.iload_n 1, 1) := by decide +kernel
theorem dX11_takeFound_67 : decode cX11_takeFound 67 = .ok (.ireturn, 1) := by decide +kernel
set_option maxRecDepth 20000 in
theorem ggX11_change_X11_isValue : GoodIn wsX11_change wsX11_isValue := goodIn_r _ [10, 11] rfl (by decide +kernel)
set_option maxRecDepth 20000 in
theorem gX11_change_X11_isValue : GoodIn wsX11_change (va_wsS RX11 119 yX11_isValue wsX11_isValue) := goodIn_app (goodIn_r _ [7, 8, 9] rfl (by decide +kernel)) ggX11_change_X11_isValue
set_option maxRecDepth 20000 in
theorem ggX11_change_X1_goThrough : GoodIn wsX11_change wsX1_goThrough := goodIn_r _ [16, 17, 18, 19, 20, 21, 22, 23, 24, 25, 26, 27, 28, 29, 30, 31, 15, 32, 33, 34, 35, 36, 37, 38, 39, 40, 41, 42, 43, 44, 45, 46, 47, 48, 49, 50, 51, 52, 53, 54, 55, 56, 57, 58, 59, 60, 61, 62, 63, 64, 65, 66, 67, 68, 69, 70, 71, 72, 112, 113, 114, 124, 125, 126, 127, 128, 129, 130, 131, 132, 133] rfl (by decide +kernel)
set_option maxRecDepth 20000 in
theorem gX11_change_X1_goThrough : GoodIn wsX11_change (wsV RX11 290 RX1 yX1_goThrough wsX1_goThrough) := goodIn_app (goodIn_r _ [12, 13, 14, 15] rfl (by decide +kernel)) ggX11_change_X1_goThrough
set_option maxRecDepth 20000 in
theorem ggX11_change_X1_numberAt : GoodIn wsX11_change wsX1_numberAt := goodIn_r _ [76, 19, 20, 112, 113, 114] rfl (by decide +kernel)
set_option maxRecDepth 20000 in
theorem gX11_change_X1_numberAt : GoodIn wsX11_change (wsV RX11 308 RX1 yX1_numberAt wsX1_numberAt) := goodIn_app (goodIn_r _ [73, 74, 75, 15] rfl (by decide +kernel)) ggX11_change_X1_numberAt
set_option maxRecDepth 20000 in
theorem ggX11_change_X3_valueOf : GoodIn wsX11_change wsX3_valueOf := goodIn_r _ [70, 53, 71, 124, 125, 126, 127] rfl (by decide +kernel)
set_option maxRecDepth 20000 in
theorem gX11_change_X3_valueOf : GoodIn wsX11_change (wsV RX11 165 RX3 yX3_valueOf wsX3_valueOf) := goodIn_app (goodIn_r _ [77, 68, 69, 46] rfl (by decide +kernel)) ggX11_change_X3_valueOf
set_option maxRecDepth 20000 in
theorem ggX11_change_X11_changed : GoodIn wsX11_change wsX11_changed := goodIn_r _ [80, 81, 82, 83, 84, 85, 86, 87, 88] rfl (by decide +kernel)
set_option maxRecDepth 20000 in
theorem gX11_change_X11_changed : GoodIn wsX11_change (va_wsS RX11 317 yX11_changed wsX11_changed) := goodIn_app (goodIn_r _ [78, 79, 9] rfl (by decide +kernel)) ggX11_change_X11_changed
set_option maxRecDepth 20000 in
theorem ggX11_change_X3_setValue : GoodIn wsX11_change wsX3_setValue := goodIn_r _ [92, 71, 93, 94, 95, 46, 96, 53, 124, 125, 126, 127] rfl (by decide +kernel)
set_option maxRecDepth 20000 in
theorem gX11_change_X3_setValue : GoodIn wsX11_change (wsV RX11 321 RX3 yX3_setValue wsX3_setValue) := goodIn_app (goodIn_r _ [89, 90, 91, 46] rfl (by decide +kernel)) ggX11_change_X3_setValue
theorem dX11_change_0 : decode cX11_change 0 = .ok (.iload_n 1, 1) := by decide +kernel
theorem dX11_change_1 : decode cX11_change 1 = .ok (.ifCond .lt 15, 3) := by decide +kernel
theorem dX11_change_4 : decode cX11_change 4 = .ok (.iload_n 1, 1) := by decide +kernel
theorem dX11_change_5 : decode cX11_change 5 = .ok (.iconst 2, 1) := by decide +kernel
theorem dX11_change_6 : decode cX11_change 6 = .ok (.if_icmp .gt 10, 3) := by decide +kernel
theorem dX11_change_9 : decode cX11_change 9 = .ok (.iload_n 2, 1) := by decide +kernel
theorem dX11_change_10 : decode cX11_change 10 = .ok (.invokestatic 119, 3) := by decide +kernel
theorem dX11_change_13 : decode cX11_change 13 = .ok (.ifCond .ne 5, 3) := by decide +kernel
theorem dX11_change_16 : decode cX11_change 16 = .ok (.iconst (-1), 1) := by decide +kernel
theorem dX11_change_17 : decode cX11_change 17 = .ok (.ireturn, 1) := by decide +kernel
theorem dX11_change_18 : decode cX11_change 18 = .ok (.aload_n 0, 1) := by decide +kernel
theorem dX11_change_19 : decode cX11_change 19 = .ok (.getfield 91, 3) := by decide +kernel
theorem dX11_change_22 : decode cX11_change 22 = .ok (.aload_n 0, 1) := by decide +kernel
theorem dX11_change_23 : decode cX11_change 23 = .ok (.getfield 35, 3) := by decide +kernel
theorem dX11_change_26 : decode cX11_change 26 = .ok (.getfield 284, 3) := by decide +kernel
theorem dX11_change_29 : decode cX11_change 29 = .ok (.invokevirtual 290, 3) := by decide +kernel
theorem dX11_change_32 : decode cX11_change 32 = .ok (.iconst 0, 1) := by decide +kernel
theorem dX11_change_33 : decode cX11_change 33 = .ok (.istore_n 3, 1) := by decide +kernel
theorem dX11_change_34 : decode cX11_change 34 = .ok (.iload_n 3, 1) := by decide +kernel
theorem dX11_change_35 : decode cX11_change 35 = .ok (.aload_n 0, 1) := by decide +kernel
theorem dX11_change_36 : decode cX11_change 36 = .ok (.getfield 91, 3) := by decide +kernel
theorem dX11_change_39 : decode cX11_change 39 = .ok (.getfield 293, 3) := by decide +kernel
theorem dX11_change_42 : decode cX11_change 42 = .ok (.if_icmp .ge 54, 3) := by decide +kernel
theorem dX11_change_45 : decode cX11_change 45 = .ok (.aload_n 0, 1) := by decide +kernel
theorem dX11_change_46 : decode cX11_change 46 = .ok (.getfield 91, 3) := by decide +kernel
theorem dX11_change_49 : decode cX11_change 49 = .ok (.iload_n 3, 1) := by decide +kernel
theorem dX11_change_50 : decode cX11_change 50 = .ok (.invokevirtual 308, 3) := by decide +kernel
theorem dX11_change_53 : decode cX11_change 53 = .ok (.istore 4, 2) := by decide +kernel
theorem dX11_change_55 : decode cX11_change 55 = .ok (.aload_n 0, 1) := by decide +kernel
theorem dX11_change_56 : decode cX11_change 56 = .ok (.getfield 35, 3) := by decide +kernel
theorem dX11_change_59 : decode cX11_change 59 = .ok (.getfield 58, 3) := by decide +kernel
theorem dX11_change_62 : decode cX11_change 62 = .ok (.getfield 84, 3) := by decide +kernel
theorem dX11_change_65 : decode cX11_change 65 = .ok (.iload 4, 2) := by decide +kernel
theorem dX11_change_67 : decode cX11_change 67 = .ok (.iload_n 1, 1) := by decide +kernel
theorem dX11_change_68 : decode cX11_change 68 = .ok (.aload_n 0, 1) := by decide +kernel
theorem dX11_change_69 : decode cX11_change 69 = .ok (.getfield 35, 3) := by decide +kernel
theorem dX11_change_72 : decode cX11_change 72 = .ok (.getfield 58, 3) := by decide +kernel
theorem dX11_change_75 : decode cX11_change 75 = .ok (.getfield 84, 3) := by decide +kernel
theorem dX11_change_78 : decode cX11_change 78 = .ok (.iload 4, 2) := by decide +kernel
theorem dX11_change_80 : decode cX11_change 80 = .ok (.invokevirtual 165, 3) := by decide +kernel
theorem dX11_change_83 : decode cX11_change 83 = .ok (.iload_n 2, 1) := by decide +kernel
theorem dX11_change_84 : decode cX11_change 84 = .ok (.invokestatic 317, 3) := by decide +kernel
theorem dX11_change_87 : decode cX11_change 87 = .ok (.invokevirtual 321, 3) := by decide +kernel
theorem dX11_change_90 : decode cX11_change 90 = .ok (.iinc 3 1, 3) := by decide +kernel
theorem dX11_change_93 : decode cX11_change 93 = .ok (.goto (-59), 3) := by decide +kernel
theorem dX11_change_96 : decode cX11_change 96 = .ok (.aload_n 0, 1) := by decide +kernel
theorem dX11_change_97 : decode cX11_change 97 = .ok (.getfield 91, 3) := by decide +kernel
theorem dX11_change_100 : decode cX11_change 100 = .ok (.getfield 293, 3) := by decide +kernel
theorem dX11_change_103 : decode cX11_change 103 = .ok (.ireturn, 1) := by decide +kernel
set_option maxRecDepth 20000 in
theorem ggX11_tried_X11_isWidth : GoodIn wsX11_tried wsX11_isWidth := goodIn_r _ [8] rfl (by decide +kernel)
set_option maxRecDepth 20000 in
theorem gX11_tried_X11_isWidth : GoodIn wsX11_tried (va_wsS RX11 103 yX11_isWidth wsX11_isWidth) := goodIn_app (goodIn_r _ [5, 6, 7] rfl (by decide +kernel)) ggX11_tried_X11_isWidth
set_option maxRecDepth 20000 in
theorem ggX11_tried_X11_isRoom : GoodIn wsX11_tried wsX11_isRoom := goodIn_r _ [11] rfl (by decide +kernel)
set_option maxRecDepth 20000 in
theorem gX11_tried_X11_isRoom : GoodIn wsX11_tried (va_wsS RX11 107 yX11_isRoom wsX11_isRoom) := goodIn_app (goodIn_r _ [9, 10, 7] rfl (by decide +kernel)) ggX11_tried_X11_isRoom
set_option maxRecDepth 20000 in
theorem ggX11_tried_X10_putAllOf : GoodIn wsX11_tried wsX10_putAllOf := goodIn_r _ [16, 17, 18, 19, 20, 21, 15, 22, 23, 24, 25, 26, 27, 28, 29, 30, 31, 32, 33, 34, 35, 36, 37, 38, 39, 40, 41, 42, 43, 44, 45, 46, 47, 48, 49, 50, 51, 52, 53, 54, 55, 56, 57, 58, 59, 60, 61, 62, 63, 64, 65, 66, 67, 68, 69, 70, 71, 72, 73, 74, 75, 76, 77, 78, 79, 80, 81, 82, 83, 84, 85, 86, 87, 88, 89, 90, 91, 92, 93, 94, 95, 96, 97, 98, 99, 100, 101, 102, 103, 104, 105, 106, 107, 108, 109, 110, 111, 112, 113, 174, 175, 176, 177, 165, 166, 167, 168, 169, 170, 171, 172, 173] rfl (by decide +kernel)
set_option maxRecDepth 20000 in
theorem gX11_tried_X10_putAllOf : GoodIn wsX11_tried (wsV RX11 324 RX10 yX10_putAllOf wsX10_putAllOf) := goodIn_app (goodIn_r _ [12, 13, 14, 15] rfl (by decide +kernel)) ggX11_tried_X10_putAllOf
set_option maxRecDepth 20000 in
theorem ggX11_tried_X10_measure : GoodIn wsX11_tried wsX10_measure := goodIn_r _ [117, 18, 17, 23, 24, 25, 26, 27, 28, 118, 119, 120, 15, 121, 82, 83, 84, 85, 56, 57, 54, 58, 86, 87, 88, 89, 50, 122, 123, 124, 125, 59, 60, 61, 62, 51, 126, 127, 128, 129, 130, 131, 132, 133, 80, 73, 74, 32, 75, 34, 40, 134, 135, 136, 137, 138, 139, 140, 141, 142, 143, 144, 145, 146, 147, 148, 149, 41, 165, 166, 167, 168, 169, 170, 171, 172, 173, 174, 175, 176, 177] rfl (by decide +kernel)
set_option maxRecDepth 20000 in
theorem gX11_tried_X10_measure : GoodIn wsX11_tried (wsV RX11 156 RX10 yX10_measure wsX10_measure) := goodIn_app (goodIn_r _ [114, 115, 116, 15] rfl (by decide +kernel)) ggX11_tried_X10_measure
theorem dX11_tried_0 : decode cX11_tried 0 = .ok (.iload_n 1, 1) := by decide +kernel
theorem dX11_tried_1 : decode cX11_tried 1 = .ok (.invokestatic 103, 3) := by decide +kernel
theorem dX11_tried_4 : decode cX11_tried 4 = .ok (.ifCond .eq 21, 3) := by decide +kernel
theorem dX11_tried_7 : decode cX11_tried 7 = .ok (.iload_n 2, 1) := by decide +kernel
theorem dX11_tried_8 : decode cX11_tried 8 = .ok (.invokestatic 107, 3) := by decide +kernel
theorem dX11_tried_11 : decode cX11_tried 11 = .ok (.ifCond .eq 14, 3) := by decide +kernel
theorem dX11_tried_14 : decode cX11_tried 14 = .ok (.iload_n 3, 1) := by decide +kernel
theorem dX11_tried_15 : decode cX11_tried 15 = .ok (.iconst 3, 1) := by decide +kernel
theorem dX11_tried_16 : decode cX11_tried 16 = .ok (.if_icmp .lt 9, 3) := by decide +kernel
theorem dX11_tried_19 : decode cX11_tried 19 = .ok (.iload_n 3, 1) := by decide +kernel
theorem dX11_tried_20 : decode cX11_tried 20 = .ok (.bipush 13, 2) := by decide +kernel
theorem dX11_tried_22 : decode cX11_tried 22 = .ok (.if_icmp .le 5, 3) := by decide +kernel
theorem dX11_tried_25 : decode cX11_tried 25 = .ok (.iconst (-1), 1) := by decide +kernel
theorem dX11_tried_26 : decode cX11_tried 26 = .ok (.ireturn, 1) := by decide +kernel
theorem dX11_tried_27 : decode cX11_tried 27 = .ok (.aload_n 0, 1) := by decide +kernel
theorem dX11_tried_28 : decode cX11_tried 28 = .ok (.getfield 53, 3) := by decide +kernel
theorem dX11_tried_31 : decode cX11_tried 31 = .ok (.aload_n 0, 1) := by decide +kernel
theorem dX11_tried_32 : decode cX11_tried 32 = .ok (.getfield 35, 3) := by decide +kernel
theorem dX11_tried_35 : decode cX11_tried 35 = .ok (.getfield 58, 3) := by decide +kernel
theorem dX11_tried_38 : decode cX11_tried 38 = .ok (.getfield 84, 3) := by decide +kernel
theorem dX11_tried_41 : decode cX11_tried 41 = .ok (.iload_n 1, 1) := by decide +kernel
theorem dX11_tried_42 : decode cX11_tried 42 = .ok (.iload_n 2, 1) := by decide +kernel
theorem dX11_tried_43 : decode cX11_tried 43 = .ok (.invokevirtual 324, 3) := by decide +kernel
theorem dX11_tried_46 : decode cX11_tried 46 = .ok (.aload_n 0, 1) := by decide +kernel
theorem dX11_tried_47 : decode cX11_tried 47 = .ok (.getfield 53, 3) := by decide +kernel
theorem dX11_tried_50 : decode cX11_tried 50 = .ok (.iload_n 3, 1) := by decide +kernel
theorem dX11_tried_51 : decode cX11_tried 51 = .ok (.invokevirtual 156, 3) := by decide +kernel
theorem dX11_tried_54 : decode cX11_tried 54 = .ok (.ireturn, 1) := by decide +kernel
set_option maxRecDepth 20000 in
theorem ggX11_best_X10_putAllOf : GoodIn wsX11_best wsX10_putAllOf := goodIn_r _ [10, 11, 12, 13, 14, 15, 9, 16, 17, 18, 19, 20, 21, 22, 23, 24, 25, 26, 27, 28, 29, 30, 31, 32, 33, 34, 35, 36, 37, 38, 39, 40, 41, 42, 43, 44, 45, 46, 47, 48, 49, 50, 51, 52, 53, 54, 55, 56, 57, 58, 59, 60, 61, 62, 63, 64, 65, 66, 67, 68, 69, 70, 71, 72, 73, 74, 75, 76, 77, 78, 79, 80, 81, 82, 83, 84, 85, 86, 87, 88, 89, 90, 91, 92, 93, 94, 95, 96, 97, 98, 99, 100, 101, 102, 103, 104, 105, 106, 107, 144, 145, 146, 147, 135, 136, 137, 138, 139, 140, 141, 142, 143] rfl (by decide +kernel)
set_option maxRecDepth 20000 in
theorem gX11_best_X10_putAllOf : GoodIn wsX11_best (wsV RX11 324 RX10 yX10_putAllOf wsX10_putAllOf) := goodIn_app (goodIn_r _ [6, 7, 8, 9] rfl (by decide +kernel)) ggX11_best_X10_putAllOf
set_option maxRecDepth 20000 in
theorem ggX11_best_X10_weight : GoodIn wsX11_best wsX10_weight := goodIn_r _ [111, 17, 12, 11, 112, 113, 114, 9, 115, 76, 77, 78, 79, 50, 51, 48, 52, 80, 81, 82, 83, 44, 74, 67, 68, 26, 69, 28, 34, 116, 117, 118, 119, 53, 54, 55, 56, 45, 135, 136, 137, 138, 139, 140, 141, 142, 143, 144, 145, 146, 147] rfl (by decide +kernel)
set_option maxRecDepth 20000 in
theorem gX11_best_X10_weight : GoodIn wsX11_best (wsV RX11 331 RX10 yX10_weight wsX10_weight) := goodIn_app (goodIn_r _ [108, 109, 110, 9] rfl (by decide +kernel)) ggX11_best_X10_weight
theorem dX11_best_0 : decode cX11_best 0 = .ok (.iload_n 1, 1) := by decide +kernel
theorem dX11_best_1 : decode cX11_best 1 = .ok (.ifCond .lt 8, 3) := by decide +kernel
theorem dX11_best_4 : decode cX11_best 4 = .ok (.iload_n 1, 1) := by decide +kernel
theorem dX11_best_5 : decode cX11_best 5 = .ok (.iconst 1, 1) := by decide +kernel
theorem dX11_best_6 : decode cX11_best 6 = .ok (.if_icmp .le 5, 3) := by decide +kernel
theorem dX11_best_9 : decode cX11_best 9 = .ok (.iconst (-1), 1) := by decide +kernel
theorem dX11_best_10 : decode cX11_best 10 = .ok (.ireturn, 1) := by decide +kernel
theorem dX11_best_11 : decode cX11_best 11 = .ok (.iconst 1, 1) := by decide +kernel
theorem dX11_best_12 : decode cX11_best 12 = .ok (.istore_n 2, 1) := by decide +kernel
theorem dX11_best_13 : decode cX11_best 13 = .ok (.iconst (-1), 1) := by decide +kernel
theorem dX11_best_14 : decode cX11_best 14 = .ok (.istore_n 3, 1) := by decide +kernel
theorem dX11_best_15 : decode cX11_best 15 = .ok (.iconst 1, 1) := by decide +kernel
theorem dX11_best_16 : decode cX11_best 16 = .ok (.istore 4, 2) := by decide +kernel
theorem dX11_best_18 : decode cX11_best 18 = .ok (.iload 4, 2) := by decide +kernel
theorem dX11_best_20 : decode cX11_best 20 = .ok (.bipush 8, 2) := by decide +kernel
theorem dX11_best_22 : decode cX11_best 22 = .ok (.if_icmp .gt 64, 3) := by decide +kernel
theorem dX11_best_25 : decode cX11_best 25 = .ok (.aload_n 0, 1) := by decide +kernel
theorem dX11_best_26 : decode cX11_best 26 = .ok (.getfield 53, 3) := by decide +kernel
theorem dX11_best_29 : decode cX11_best 29 = .ok (.aload_n 0, 1) := by decide +kernel
theorem dX11_best_30 : decode cX11_best 30 = .ok (.getfield 35, 3) := by decide +kernel
theorem dX11_best_33 : decode cX11_best 33 = .ok (.getfield 58, 3) := by decide +kernel
theorem dX11_best_36 : decode cX11_best 36 = .ok (.getfield 84, 3) := by decide +kernel
theorem dX11_best_39 : decode cX11_best 39 = .ok (.iload 4, 2) := by decide +kernel
theorem dX11_best_41 : decode cX11_best 41 = .ok (.aload_n 0, 1) := by decide +kernel
theorem dX11_best_42 : decode cX11_best 42 = .ok (.getfield 35, 3) := by decide +kernel
theorem dX11_best_45 : decode cX11_best 45 = .ok (.getfield 58, 3) := by decide +kernel
theorem dX11_best_48 : decode cX11_best 48 = .ok (.getfield 328, 3) := by decide +kernel
theorem dX11_best_51 : decode cX11_best 51 = .ok (.invokevirtual 324, 3) := by decide +kernel
theorem dX11_best_54 : decode cX11_best 54 = .ok (.aload_n 0, 1) := by decide +kernel
theorem dX11_best_55 : decode cX11_best 55 = .ok (.getfield 53, 3) := by decide +kernel
theorem dX11_best_58 : decode cX11_best 58 = .ok (.invokevirtual 331, 3) := by decide +kernel
theorem dX11_best_61 : decode cX11_best 61 = .ok (.istore 5, 2) := by decide +kernel
theorem dX11_best_63 : decode cX11_best 63 = .ok (.iload_n 3, 1) := by decide +kernel
theorem dX11_best_64 : decode cX11_best 64 = .ok (.iconst (-1), 1) := by decide +kernel
theorem dX11_best_65 : decode cX11_best 65 = .ok (.if_icmp .eq 9, 3) := by decide +kernel
theorem dX11_best_68 : decode cX11_best 68 = .ok (.iload 5, 2) := by decide +kernel
theorem dX11_best_70 : decode cX11_best 70 = .ok (.iload_n 3, 1) := by decide +kernel
theorem dX11_best_71 : decode cX11_best 71 = .ok (.if_icmp .ge 9, 3) := by decide +kernel
theorem dX11_best_74 : decode cX11_best 74 = .ok (.iload 5, 2) := by decide +kernel
theorem dX11_best_76 : decode cX11_best 76 = .ok (.istore_n 3, 1) := by decide +kernel
theorem dX11_best_77 : decode cX11_best 77 = .ok (.iload 4, 2) := by decide +kernel
theorem dX11_best_79 : decode cX11_best 79 = .ok (.istore_n 2, 1) := by decide +kernel
theorem dX11_best_80 : decode cX11_best 80 = .ok (.iinc 4 1, 3) := by decide +kernel
theorem dX11_best_83 : decode cX11_best 83 = .ok (.goto (-65), 3) := by decide +kernel
theorem dX11_best_86 : decode cX11_best 86 = .ok (.iload_n 1, 1) := by decide +kernel
theorem dX11_best_87 : decode cX11_best 87 = .ok (.ifCond .ne 7, 3) := by decide +kernel
theorem dX11_best_90 : decode cX11_best 90 = .ok (.iload_n 2, 1) := by decide +kernel
theorem dX11_best_91 : decode cX11_best 91 = .ok (.goto 4, 3) := by decide +kernel
theorem dX11_best_94 : decode cX11_best 94 = .ok (.iload_n 3, 1) := by decide +kernel
theorem dX11_best_95 : decode cX11_best 95 = .ok (.ireturn, 1) := by decide +kernel
set_option maxRecDepth 20000 in
theorem ggX11_keep_X8_copyFrom : GoodIn wsX11_keep wsX8_copyFrom := goodIn_r _ [11, 12, 13, 14, 15, 16, 17, 18, 19, 20, 21, 22, 23, 24, 25, 26, 27, 28, 29, 30, 31, 32, 33, 34, 35, 36, 37, 38, 39, 40, 41, 42, 43, 44, 45, 46, 47, 48, 49, 50, 51, 52, 53, 54, 55, 56, 57, 58, 59, 60, 61, 62, 63, 64, 65, 66, 67, 68, 69, 70, 71, 84, 85, 86, 87, 88, 89, 90, 91, 92, 93, 94, 95, 96, 97, 98, 99, 100, 101, 102, 103, 104, 105, 106, 107, 108, 109, 110] rfl (by decide +kernel)
set_option maxRecDepth 20000 in
theorem gX11_keep_X8_copyFrom : GoodIn wsX11_keep (wsV RX11 334 RX8 yX8_copyFrom wsX8_copyFrom) := goodIn_app (goodIn_r _ [7, 8, 9, 10] rfl (by decide +kernel)) ggX11_keep_X8_copyFrom
theorem dX11_keep_0 : decode cX11_keep 0 = .ok (.aload_n 0, 1) := by decide +kernel
theorem dX11_keep_1 : decode cX11_keep 1 = .ok (.getfield 39, 3) := by decide +kernel
theorem dX11_keep_4 : decode cX11_keep 4 = .ok (.aload_n 0, 1) := by decide +kernel
theorem dX11_keep_5 : decode cX11_keep 5 = .ok (.getfield 35, 3) := by decide +kernel
theorem dX11_keep_8 : decode cX11_keep 8 = .ok (.invokevirtual 334, 3) := by decide +kernel
theorem dX11_keep_11 : decode cX11_keep 11 = .ok (.aload_n 0, 1) := by decide +kernel
theorem dX11_keep_12 : decode cX11_keep 12 = .ok (.iconst 1, 1) := by decide +kernel
theorem dX11_keep_13 : decode cX11_keep 13 = .ok (.putfield 42, 3) := by decide +kernel
theorem dX11_keep_16 : decode cX11_keep 16 = .ok (.aload_n 0, 1) := by decide +kernel
theorem dX11_keep_17 : decode cX11_keep 17 = .ok (.getfield 35, 3) := by decide +kernel
theorem dX11_keep_20 : decode cX11_keep 20 = .ok (.getfield 58, 3) := by decide +kernel
theorem dX11_keep_23 : decode cX11_keep 23 = .ok (.getfield 84, 3) := by decide +kernel
theorem dX11_keep_26 : decode cX11_keep 26 = .ok (.getfield 240, 3) := by decide +kernel
theorem dX11_keep_29 : decode cX11_keep 29 = .ok (.ireturn, 1) := by decide +kernel
set_option maxRecDepth 20000 in
theorem ggX11_undo_X8_copyFrom : GoodIn wsX11_undo wsX8_copyFrom := goodIn_r _ [8, 9, 10, 11, 12, 13, 14, 15, 16, 17, 18, 19, 20, 21, 22, 23, 24, 25, 26, 27, 28, 29, 30, 31, 32, 33, 34, 35, 36, 37, 38, 39, 40, 41, 42, 43, 44, 45, 46, 47, 48, 49, 50, 51, 52, 53, 54, 55, 56, 57, 58, 59, 60, 61, 62, 63, 64, 65, 66, 67, 68, 81, 82, 83, 84, 85, 86, 87, 88, 89, 90, 91, 92, 93, 94, 95, 96, 97, 98, 99, 100, 101, 102, 103, 104, 105, 106, 107] rfl (by decide +kernel)
set_option maxRecDepth 20000 in
theorem gX11_undo_X8_copyFrom : GoodIn wsX11_undo (wsV RX11 334 RX8 yX8_copyFrom wsX8_copyFrom) := goodIn_app (goodIn_r _ [4, 5, 6, 7] rfl (by decide +kernel)) ggX11_undo_X8_copyFrom
theorem dX11_undo_0 : decode cX11_undo 0 = .ok (.aload_n 0, 1) := by decide +kernel
theorem dX11_undo_1 : decode cX11_undo 1 = .ok (.getfield 42, 3) := by decide +kernel
theorem dX11_undo_4 : decode cX11_undo 4 = .ok (.ifCond .ne 5, 3) := by decide +kernel
theorem dX11_undo_7 : decode cX11_undo 7 = .ok (.iconst 0, 1) := by decide +kernel
theorem dX11_undo_8 : decode cX11_undo 8 = .ok (.ireturn, 1) := by decide +kernel
theorem dX11_undo_9 : decode cX11_undo 9 = .ok (.aload_n 0, 1) := by decide +kernel
theorem dX11_undo_10 : decode cX11_undo 10 = .ok (.getfield 35, 3) := by decide +kernel
theorem dX11_undo_13 : decode cX11_undo 13 = .ok (.aload_n 0, 1) := by decide +kernel
theorem dX11_undo_14 : decode cX11_undo 14 = .ok (.getfield 39, 3) := by decide +kernel
theorem dX11_undo_17 : decode cX11_undo 17 = .ok (.invokevirtual 334, 3) := by decide +kernel
theorem dX11_undo_20 : decode cX11_undo 20 = .ok (.iconst 1, 1) := by decide +kernel
theorem dX11_undo_21 : decode cX11_undo 21 = .ok (.ireturn, 1) := by decide +kernel
set_option maxRecDepth 20000 in
theorem ggX11_unlike_X3_missingIn : GoodIn wsX11_unlike wsX3_missingIn := goodIn_r _ [10, 11, 12, 13, 14, 9, 15, 16, 17, 18, 19, 20, 21, 22, 23, 24, 25, 26, 27, 28, 29, 30, 31, 32, 33, 34, 35, 36, 37, 38, 67, 68, 69, 70] rfl (by decide +kernel)
set_option maxRecDepth 20000 in
theorem gX11_unlike_X3_missingIn : GoodIn wsX11_unlike (wsV RX11 337 RX3 yX3_missingIn wsX3_missingIn) := goodIn_app (goodIn_r _ [6, 7, 8, 9] rfl (by decide +kernel)) ggX11_unlike_X3_missingIn
set_option maxRecDepth 20000 in
theorem ggX11_unlike_X3_otherValuesIn : GoodIn wsX11_unlike wsX3_otherValuesIn := goodIn_r _ [42, 12, 13, 14, 9, 15, 11, 16, 17, 18, 19, 20, 21, 22, 23, 24, 25, 26, 27, 28, 29, 30, 31, 32, 33, 34, 35, 36, 37, 38, 67, 68, 69, 70] rfl (by decide +kernel)
set_option maxRecDepth 20000 in
theorem gX11_unlike_X3_otherValuesIn : GoodIn wsX11_unlike (wsV RX11 341 RX3 yX3_otherValuesIn wsX3_otherValuesIn) := goodIn_app (goodIn_r _ [39, 40, 41, 9] rfl (by decide +kernel)) ggX11_unlike_X3_otherValuesIn
theorem dX11_unlike_0 : decode cX11_unlike 0 = .ok (.iload_n 1, 1) := by decide +kernel
theorem dX11_unlike_1 : decode cX11_unlike 1 = .ok (.ifCond .lt 8, 3) := by decide +kernel
theorem dX11_unlike_4 : decode cX11_unlike 4 = .ok (.iload_n 1, 1) := by decide +kernel
theorem dX11_unlike_5 : decode cX11_unlike 5 = .ok (.iconst 2, 1) := by decide +kernel
theorem dX11_unlike_6 : decode cX11_unlike 6 = .ok (.if_icmp .le 5, 3) := by decide +kernel
theorem dX11_unlike_9 : decode cX11_unlike 9 = .ok (.iconst (-1), 1) := by decide +kernel
theorem dX11_unlike_10 : decode cX11_unlike 10 = .ok (.ireturn, 1) := by decide +kernel
theorem dX11_unlike_11 : decode cX11_unlike 11 = .ok (.aload_n 0, 1) := by decide +kernel
theorem dX11_unlike_12 : decode cX11_unlike 12 = .ok (.getfield 42, 3) := by decide +kernel
theorem dX11_unlike_15 : decode cX11_unlike 15 = .ok (.ifCond .ne 6, 3) := by decide +kernel
theorem dX11_unlike_18 : decode cX11_unlike 18 = .ok (.bipush (-2), 2) := by decide +kernel
theorem dX11_unlike_20 : decode cX11_unlike 20 = .ok (.ireturn, 1) := by decide +kernel
theorem dX11_unlike_21 : decode cX11_unlike 21 = .ok (.aload_n 0, 1) := by decide +kernel
theorem dX11_unlike_22 : decode cX11_unlike 22 = .ok (.getfield 39, 3) := by decide +kernel
theorem dX11_unlike_25 : decode cX11_unlike 25 = .ok (.getfield 58, 3) := by decide +kernel
theorem dX11_unlike_28 : decode cX11_unlike 28 = .ok (.getfield 84, 3) := by decide +kernel
theorem dX11_unlike_31 : decode cX11_unlike 31 = .ok (.astore_n 2, 1) := by decide +kernel
theorem dX11_unlike_32 : decode cX11_unlike 32 = .ok (.aload_n 0, 1) := by decide +kernel
theorem dX11_unlike_33 : decode cX11_unlike 33 = .ok (.getfield 35, 3) := by decide +kernel
theorem dX11_unlike_36 : decode cX11_unlike 36 = .ok (.getfield 58, 3) := by decide +kernel
theorem dX11_unlike_39 : decode cX11_unlike 39 = .ok (.getfield 84, 3) := by decide +kernel
theorem dX11_unlike_42 : decode cX11_unlike 42 = .ok (.astore_n 3, 1) := by decide +kernel
theorem dX11_unlike_43 : decode cX11_unlike 43 = .ok (.iload_n 1, 1) := by decide +kernel
theorem dX11_unlike_44 : decode cX11_unlike 44 = .ok (.lookupswitch 40 #[(0, 28), (1, 34)], 28) := by decide +kernel
theorem dX11_unlike_72 : decode cX11_unlike 72 = .ok (.aload_n 3, 1) := by decide +kernel
theorem dX11_unlike_73 : decode cX11_unlike 73 = .ok (.aload_n 2, 1) := by decide +kernel
theorem dX11_unlike_74 : decode cX11_unlike 74 = .ok (.invokevirtual 337, 3) := by decide +kernel
theorem dX11_unlike_77 : decode cX11_unlike 77 = .ok (.ireturn, 1) := by decide +kernel
theorem dX11_unlike_78 : decode cX11_unlike 78 = .ok (.aload_n 2, 1) := by decide +kernel
theorem dX11_unlike_79 : decode cX11_unlike 79 = .ok (.aload_n 3, 1) := by decide +kernel
theorem dX11_unlike_80 : decode cX11_unlike 80 = .ok (.invokevirtual 337, 3) := by decide +kernel
theorem dX11_unlike_83 : decode cX11_unlike 83 = .ok (.ireturn, 1) := by decide +kernel
theorem dX11_unlike_84 : decode cX11_unlike 84 = .ok (.aload_n 3, 1) := by decide +kernel
theorem dX11_unlike_85 : decode cX11_unlike 85 = .ok (.aload_n 2, 1) := by decide +kernel
theorem dX11_unlike_86 : decode cX11_unlike 86 = .ok (.invokevirtual 341, 3) := by decide +kernel
theorem dX11_unlike_89 : decode cX11_unlike 89 = .ok (.ireturn, 1) := by decide +kernel
set_option maxRecDepth 20000 in
theorem ggX11_check_X11_isTextTold : GoodIn wsX11_check wsX11_isTextTold := goodIn_r _ [9, 4, 10, 34, 35, 36, 37, 38, 39, 40, 41, 42, 43, 44, 45, 58, 59] rfl (by decide +kernel)
set_option maxRecDepth 20000 in
theorem gX11_check_X11_isTextTold : GoodIn wsX11_check (wsV RX11 136 RX11 yX11_isTextTold wsX11_isTextTold) := goodIn_app (goodIn_r _ [5, 6, 7, 8] rfl (by decide +kernel)) ggX11_check_X11_isTextTold
set_option maxRecDepth 20000 in
theorem ggX11_check_X3_lengthOf : GoodIn wsX11_check wsX3_lengthOf := goodIn_r _ [15, 16, 17, 60, 61, 62, 63] rfl (by decide +kernel)
set_option maxRecDepth 20000 in
theorem gX11_check_X3_lengthOf : GoodIn wsX11_check (wsV RX11 174 RX3 yX3_lengthOf wsX3_lengthOf) := goodIn_app (goodIn_r _ [11, 12, 13, 14] rfl (by decide +kernel)) ggX11_check_X3_lengthOf
set_option maxRecDepth 20000 in
theorem ggX11_check_X3_byteOf : GoodIn wsX11_check wsX3_byteOf := goodIn_r _ [21, 16, 22, 60, 61, 62, 63] rfl (by decide +kernel)
set_option maxRecDepth 20000 in
theorem gX11_check_X3_byteOf : GoodIn wsX11_check (wsV RX11 180 RX3 yX3_byteOf wsX3_byteOf) := goodIn_app (goodIn_r _ [18, 19, 20, 14] rfl (by decide +kernel)) ggX11_check_X3_byteOf
set_option maxRecDepth 20000 in
theorem ggX11_check_X9_byteAt : GoodIn wsX11_check wsX9_byteAt := goodIn_r _ [27, 28, 29, 58, 59] rfl (by decide +kernel)
set_option maxRecDepth 20000 in
theorem gX11_check_X9_byteAt : GoodIn wsX11_check (wsV RX11 344 RX9 yX9_byteAt wsX9_byteAt) := goodIn_app (goodIn_r _ [23, 24, 25, 26] rfl (by decide +kernel)) ggX11_check_X9_byteAt
set_option maxRecDepth 20000 in
theorem ggX11_check_X9_clear : GoodIn wsX11_check wsX9_clear := goodIn_r _ [33, 28, 58, 59] rfl (by decide +kernel)
set_option maxRecDepth 20000 in
theorem gX11_check_X9_clear : GoodIn wsX11_check (wsV RX11 117 RX9 yX9_clear wsX9_clear) := goodIn_app (goodIn_r _ [30, 31, 32, 26] rfl (by decide +kernel)) ggX11_check_X9_clear
theorem dX11_check_0 : decode cX11_check 0 = .ok (.aload_n 0, 1) := by decide +kernel
theorem dX11_check_1 : decode cX11_check 1 = .ok (.iload_n 1, 1) := by decide +kernel
theorem dX11_check_2 : decode cX11_check 2 = .ok (.iconst 0, 1) := by decide +kernel
theorem dX11_check_3 : decode cX11_check 3 = .ok (.bipush 24, 2) := by decide +kernel
theorem dX11_check_5 : decode cX11_check 5 = .ok (.invokevirtual 136, 3) := by decide +kernel
theorem dX11_check_8 : decode cX11_check 8 = .ok (.ifCond .ne 6, 3) := by decide +kernel
theorem dX11_check_11 : decode cX11_check 11 = .ok (.bipush (-2), 2) := by decide +kernel
theorem dX11_check_13 : decode cX11_check 13 = .ok (.ireturn, 1) := by decide +kernel
theorem dX11_check_14 : decode cX11_check 14 = .ok (.aload_n 0, 1) := by decide +kernel
theorem dX11_check_15 : decode cX11_check 15 = .ok (.getfield 35, 3) := by decide +kernel
theorem dX11_check_18 : decode cX11_check 18 = .ok (.getfield 58, 3) := by decide +kernel
theorem dX11_check_21 : decode cX11_check 21 = .ok (.getfield 84, 3) := by decide +kernel
theorem dX11_check_24 : decode cX11_check 24 = .ok (.astore_n 2, 1) := by decide +kernel
theorem dX11_check_25 : decode cX11_check 25 = .ok (.iconst 0, 1) := by decide +kernel
theorem dX11_check_26 : decode cX11_check 26 = .ok (.istore_n 3, 1) := by decide +kernel
theorem dX11_check_27 : decode cX11_check 27 = .ok (.iload_n 3, 1) := by decide +kernel
theorem dX11_check_28 : decode cX11_check 28 = .ok (.iload_n 1, 1) := by decide +kernel
theorem dX11_check_29 : decode cX11_check 29 = .ok (.if_icmp .ge 44, 3) := by decide +kernel
theorem dX11_check_32 : decode cX11_check 32 = .ok (.iload_n 3, 1) := by decide +kernel
theorem dX11_check_33 : decode cX11_check 33 = .ok (.aload_n 2, 1) := by decide +kernel
theorem dX11_check_34 : decode cX11_check 34 = .ok (.iconst 0, 1) := by decide +kernel
theorem dX11_check_35 : decode cX11_check 35 = .ok (.invokevirtual 174, 3) := by decide +kernel
theorem dX11_check_38 : decode cX11_check 38 = .ok (.if_icmp .ge 20, 3) := by decide +kernel
theorem dX11_check_41 : decode cX11_check 41 = .ok (.aload_n 2, 1) := by decide +kernel
theorem dX11_check_42 : decode cX11_check 42 = .ok (.iconst 0, 1) := by decide +kernel
theorem dX11_check_43 : decode cX11_check 43 = .ok (.iload_n 3, 1) := by decide +kernel
theorem dX11_check_44 : decode cX11_check 44 = .ok (.invokevirtual 180, 3) := by decide +kernel
theorem dX11_check_47 : decode cX11_check 47 = .ok (.aload_n 0, 1) := by decide +kernel
theorem dX11_check_48 : decode cX11_check 48 = .ok (.getfield 10, 3) := by decide +kernel
theorem dX11_check_51 : decode cX11_check 51 = .ok (.iload_n 3, 1) := by decide +kernel
theorem dX11_check_52 : decode cX11_check 52 = .ok (.invokevirtual 344, 3) := by decide +kernel
theorem dX11_check_55 : decode cX11_check 55 = .ok (.if_icmp .eq 12, 3) := by decide +kernel
theorem dX11_check_58 : decode cX11_check 58 = .ok (.aload_n 0, 1) := by decide +kernel
theorem dX11_check_59 : decode cX11_check 59 = .ok (.getfield 10, 3) := by decide +kernel
theorem dX11_check_62 : decode cX11_check 62 = .ok (.invokevirtual 117, 3) := by decide +kernel
theorem dX11_check_65 : decode cX11_check 65 = .ok (.iload_n 3, 1) := by decide +kernel
theorem dX11_check_66 : decode cX11_check 66 = .ok (.ireturn, 1) := by decide +kernel
theorem dX11_check_67 : decode cX11_check 67 = .ok (.iinc 3 1, 3) := by decide +kernel
theorem dX11_check_70 : decode cX11_check 70 = .ok (.goto (-43), 3) := by decide +kernel
theorem dX11_check_73 : decode cX11_check 73 = .ok (.iconst (-1), 1) := by decide +kernel
theorem dX11_check_74 : decode cX11_check 74 = .ok (.ireturn, 1) := by decide +kernel
theorem dX11_isWidth_0 : decode cX11_isWidth 0 = .ok (.iload_n 0, 1) := by decide +kernel
theorem dX11_isWidth_1 : decode cX11_isWidth 1 = .ok (.iconst 1, 1) := by decide +kernel
theorem dX11_isWidth_2 : decode cX11_isWidth 2 = .ok (.if_icmp .lt 13, 3) := by decide +kernel
theorem dX11_isWidth_5 : decode cX11_isWidth 5 = .ok (.iload_n 0, 1) := by decide +kernel
theorem dX11_isWidth_6 : decode cX11_isWidth 6 = .ok (.bipush 8, 2) := by decide +kernel
theorem dX11_isWidth_8 : decode cX11_isWidth 8 = .ok (.if_icmp .gt 7, 3) := by decide +kernel
theorem dX11_isWidth_11 : decode cX11_isWidth 11 = .ok (.iconst 1, 1) := by decide +kernel
theorem dX11_isWidth_12 : decode cX11_isWidth 12 = .ok (.goto 4, 3) := by decide +kernel
theorem dX11_isWidth_15 : decode cX11_isWidth 15 = .ok (.iconst 0, 1) := by decide +kernel
theorem dX11_isWidth_16 : decode cX11_isWidth 16 = .ok (.ireturn, 1) := by decide +kernel
theorem dX11_isRoom_0 : decode cX11_isRoom 0 = .ok (.iload_n 0, 1) := by decide +kernel
theorem dX11_isRoom_1 : decode cX11_isRoom 1 = .ok (.iconst 2, 1) := by decide +kernel
theorem dX11_isRoom_2 : decode cX11_isRoom 2 = .ok (.if_icmp .lt 13, 3) := by decide +kernel
theorem dX11_isRoom_5 : decode cX11_isRoom 5 = .ok (.iload_n 0, 1) := by decide +kernel
theorem dX11_isRoom_6 : decode cX11_isRoom 6 = .ok (.bipush 8, 2) := by decide +kernel
theorem dX11_isRoom_8 : decode cX11_isRoom 8 = .ok (.if_icmp .gt 7, 3) := by decide +kernel
theorem dX11_isRoom_11 : decode cX11_isRoom 11 = .ok (.iconst 1, 1) := by decide +kernel
theorem dX11_isRoom_12 : decode cX11_isRoom 12 = .ok (.goto 4, 3) := by decide +kernel
theorem dX11_isRoom_15 : decode cX11_isRoom 15 = .ok (.iconst 0, 1) := by decide +kernel
theorem dX11_isRoom_16 : decode cX11_isRoom 16 = .ok (.ireturn, 1) := by decide +kernel
theorem dX11_isValue_0 : decode cX11_isValue 0 = .ok (.iload_n 0, 1) := by decide +kernel
theorem dX11_isValue_1 : decode cX11_isValue 1 = .ok (.ifCond .lt 14, 3) := by decide +kernel
theorem dX11_isValue_4 : decode cX11_isValue 4 = .ok (.iload_n 0, 1) := by decide +kernel
theorem dX11_isValue_5 : decode cX11_isValue 5 = .ok (.ldc_w 347, 3) := by decide +kernel
theorem dX11_isValue_8 : decode cX11_isValue 8 = .ok (.if_icmp .gt 7, 3) := by decide +kernel
theorem dX11_isValue_11 : decode cX11_isValue 11 = .ok (.iconst 1, 1) := by decide +kernel
theorem dX11_isValue_12 : decode cX11_isValue 12 = .ok (.goto 4, 3) := by decide +kernel
theorem dX11_isValue_15 : decode cX11_isValue 15 = .ok (.iconst 0, 1) := by decide +kernel
theorem dX11_isValue_16 : decode cX11_isValue 16 = .ok (.ireturn, 1) := by decide +kernel
theorem dX11_isCursor_0 : decode cX11_isCursor 0 = .ok (.iload_n 0, 1) := by decide +kernel
theorem dX11_isCursor_1 : decode cX11_isCursor 1 = .ok (.ifCond .lt 12, 3) := by decide +kernel
theorem dX11_isCursor_4 : decode cX11_isCursor 4 = .ok (.iload_n 0, 1) := by decide +kernel
theorem dX11_isCursor_5 : decode cX11_isCursor 5 = .ok (.iconst 4, 1) := by decide +kernel
theorem dX11_isCursor_6 : decode cX11_isCursor 6 = .ok (.if_icmp .ge 7, 3) := by decide +kernel
theorem dX11_isCursor_9 : decode cX11_isCursor 9 = .ok (.iconst 1, 1) := by decide +kernel
theorem dX11_isCursor_10 : decode cX11_isCursor 10 = .ok (.goto 4, 3) := by decide +kernel
theorem dX11_isCursor_13 : decode cX11_isCursor 13 = .ok (.iconst 0, 1) := by decide +kernel
theorem dX11_isCursor_14 : decode cX11_isCursor 14 = .ok (.ireturn, 1) := by decide +kernel
theorem dX11_isEntryWhat_0 : decode cX11_isEntryWhat 0 = .ok (.iload_n 0, 1) := by decide +kernel
theorem dX11_isEntryWhat_1 : decode cX11_isEntryWhat 1 = .ok (.bipush 10, 2) := by decide +kernel
theorem dX11_isEntryWhat_3 : decode cX11_isEntryWhat 3 = .ok (.if_icmp .lt 13, 3) := by decide +kernel
theorem dX11_isEntryWhat_6 : decode cX11_isEntryWhat 6 = .ok (.iload_n 0, 1) := by decide +kernel
theorem dX11_isEntryWhat_7 : decode cX11_isEntryWhat 7 = .ok (.bipush 18, 2) := by decide +kernel
theorem dX11_isEntryWhat_9 : decode cX11_isEntryWhat 9 = .ok (.if_icmp .ge 7, 3) := by decide +kernel
theorem dX11_isEntryWhat_12 : decode cX11_isEntryWhat 12 = .ok (.iconst 1, 1) := by decide +kernel
theorem dX11_isEntryWhat_13 : decode cX11_isEntryWhat 13 = .ok (.goto 4, 3) := by decide +kernel
theorem dX11_isEntryWhat_16 : decode cX11_isEntryWhat 16 = .ok (.iconst 0, 1) := by decide +kernel
theorem dX11_isEntryWhat_17 : decode cX11_isEntryWhat 17 = .ok (.istore_n 1, 1) := by decide +kernel
theorem dX11_isEntryWhat_18 : decode cX11_isEntryWhat 18 = .ok (.iload_n 0, 1) := by decide +kernel
theorem dX11_isEntryWhat_19 : decode cX11_isEntryWhat 19 = .ok (.bipush 20, 2) := by decide +kernel
theorem dX11_isEntryWhat_21 : decode cX11_isEntryWhat 21 = .ok (.if_icmp .lt 13, 3) := by decide +kernel
theorem dX11_isEntryWhat_24 : decode cX11_isEntryWhat 24 = .ok (.iload_n 0, 1) := by decide +kernel
theorem dX11_isEntryWhat_25 : decode cX11_isEntryWhat 25 = .ok (.bipush 43, 2) := by decide +kernel
theorem dX11_isEntryWhat_27 : decode cX11_isEntryWhat 27 = .ok (.if_icmp .ge 7, 3) := by decide +kernel
theorem dX11_isEntryWhat_30 : decode cX11_isEntryWhat 30 = .ok (.iconst 1, 1) := by decide +kernel
theorem dX11_isEntryWhat_31 : decode cX11_isEntryWhat 31 = .ok (.goto 4, 3) := by decide +kernel
theorem dX11_isEntryWhat_34 : decode cX11_isEntryWhat 34 = .ok (.iconst 0, 1) := by decide +kernel
theorem dX11_isEntryWhat_35 : decode cX11_isEntryWhat 35 = .ok (.istore_n 2, 1) := by decide +kernel
theorem dX11_isEntryWhat_36 : decode cX11_isEntryWhat 36 = .ok (.iload_n 0, 1) := by decide +kernel
theorem dX11_isEntryWhat_37 : decode cX11_isEntryWhat 37 = .ok (.ifCond .lt 8, 3) := by decide +kernel
theorem dX11_isEntryWhat_40 : decode cX11_isEntryWhat 40 = .ok (.iload_n 0, 1) := by decide +kernel
theorem dX11_isEntryWhat_41 : decode cX11_isEntryWhat 41 = .ok (.iconst 4, 1) := by decide +kernel
theorem dX11_isEntryWhat_42 : decode cX11_isEntryWhat 42 = .ok (.if_icmp .le 11, 3) := by decide +kernel
theorem dX11_isEntryWhat_45 : decode cX11_isEntryWhat 45 = .ok (.iload_n 1, 1) := by decide +kernel
theorem dX11_isEntryWhat_46 : decode cX11_isEntryWhat 46 = .ok (.ifCond .ne 7, 3) := by decide +kernel
theorem dX11_isEntryWhat_49 : decode cX11_isEntryWhat 49 = .ok (.iload_n 2, 1) := by decide +kernel
theorem dX11_isEntryWhat_50 : decode cX11_isEntryWhat 50 = .ok (.ifCond .eq 7, 3) := by decide +kernel
theorem dX11_isEntryWhat_53 : decode cX11_isEntryWhat 53 = .ok (.iconst 1, 1) := by decide +kernel
theorem dX11_isEntryWhat_54 : decode cX11_isEntryWhat 54 = .ok (.goto 4, 3) := by decide +kernel
theorem dX11_isEntryWhat_57 : decode cX11_isEntryWhat 57 = .ok (.iconst 0, 1) := by decide +kernel
theorem dX11_isEntryWhat_58 : decode cX11_isEntryWhat 58 = .ok (.ireturn, 1) := by decide +kernel
theorem dX11_changed_0 : decode cX11_changed 0 = .ok (.iload_n 0, 1) := by decide +kernel
theorem dX11_changed_1 : decode cX11_changed 1 = .ok (.lookupswitch 45 #[(0, 27), (1, 36)], 27) := by decide +kernel
theorem dX11_changed_28 : decode cX11_changed 28 = .ok (.iload_n 1, 1) := by decide +kernel
theorem dX11_changed_29 : decode cX11_changed 29 = .ok (.i2l, 1) := by decide +kernel
theorem dX11_changed_30 : decode cX11_changed 30 = .ok (.iload_n 2, 1) := by decide +kernel
theorem dX11_changed_31 : decode cX11_changed 31 = .ok (.i2l, 1) := by decide +kernel
theorem dX11_changed_32 : decode cX11_changed 32 = .ok (.ladd, 1) := by decide +kernel
theorem dX11_changed_33 : decode cX11_changed 33 = .ok (.lstore_n 3, 1) := by decide +kernel
theorem dX11_changed_34 : decode cX11_changed 34 = .ok (.goto 15, 3) := by decide +kernel
theorem dX11_changed_37 : decode cX11_changed 37 = .ok (.iload_n 1, 1) := by decide +kernel
theorem dX11_changed_38 : decode cX11_changed 38 = .ok (.i2l, 1) := by decide +kernel
theorem dX11_changed_39 : decode cX11_changed 39 = .ok (.iload_n 2, 1) := by decide +kernel
theorem dX11_changed_40 : decode cX11_changed 40 = .ok (.i2l, 1) := by decide +kernel
theorem dX11_changed_41 : decode cX11_changed 41 = .ok (.lmul, 1) := by decide +kernel
theorem dX11_changed_42 : decode cX11_changed 42 = .ok (.lstore_n 3, 1) := by decide +kernel
theorem dX11_changed_43 : decode cX11_changed 43 = .ok (.goto 6, 3) := by decide +kernel
theorem dX11_changed_46 : decode cX11_changed 46 = .ok (.iload_n 2, 1) := by decide +kernel
theorem dX11_changed_47 : decode cX11_changed 47 = .ok (.i2l, 1) := by decide +kernel
theorem dX11_changed_48 : decode cX11_changed 48 = .ok (.lstore_n 3, 1) := by decide +kernel
theorem dX11_changed_49 : decode cX11_changed 49 = .ok (.lconst 0, 1) := by decide +kernel
theorem dX11_changed_50 : decode cX11_changed 50 = .ok (.lload_n 3, 1) := by decide +kernel
theorem dX11_changed_51 : decode cX11_changed 51 = .ok (.ldc2_w 348, 3) := by decide +kernel
theorem dX11_changed_54 : decode cX11_changed 54 = .ok (.invokestatic 350, 3) := by decide +kernel
theorem dX11_changed_57 : decode cX11_changed 57 = .ok (.invokestatic 356, 3) := by decide +kernel
theorem dX11_changed_60 : decode cX11_changed 60 = .ok (.l2i, 1) := by decide +kernel
theorem dX11_changed_61 : decode cX11_changed 61 = .ok (.ireturn, 1) := by decide +kernel
theorem dX11_isTextTold_0 : decode cX11_isTextTold 0 = .ok (.iload_n 1, 1) := by decide +kernel
theorem dX11_isTextTold_1 : decode cX11_isTextTold 1 = .ok (.iload_n 2, 1) := by decide +kernel
theorem dX11_isTextTold_2 : decode cX11_isTextTold 2 = .ok (.if_icmp .lt 23, 3) := by decide +kernel
theorem dX11_isTextTold_5 : decode cX11_isTextTold 5 = .ok (.iload_n 1, 1) := by decide +kernel
theorem dX11_isTextTold_6 : decode cX11_isTextTold 6 = .ok (.iload_n 3, 1) := by decide +kernel
theorem dX11_isTextTold_7 : decode cX11_isTextTold 7 = .ok (.if_icmp .gt 18, 3) := by decide +kernel
theorem dX11_isTextTold_10 : decode cX11_isTextTold 10 = .ok (.iload_n 1, 1) := by decide +kernel
theorem dX11_isTextTold_11 : decode cX11_isTextTold 11 = .ok (.aload_n 0, 1) := by decide +kernel
theorem dX11_isTextTold_12 : decode cX11_isTextTold 12 = .ok (.getfield 10, 3) := by decide +kernel
theorem dX11_isTextTold_15 : decode cX11_isTextTold 15 = .ok (.getfield 95, 3) := by decide +kernel
theorem dX11_isTextTold_18 : decode cX11_isTextTold 18 = .ok (.if_icmp .gt 7, 3) := by decide +kernel
theorem dX11_isTextTold_21 : decode cX11_isTextTold 21 = .ok (.iconst 1, 1) := by decide +kernel
theorem dX11_isTextTold_22 : decode cX11_isTextTold 22 = .ok (.goto 4, 3) := by decide +kernel
theorem dX11_isTextTold_25 : decode cX11_isTextTold 25 = .ok (.iconst 0, 1) := by decide +kernel
theorem dX11_isTextTold_26 : decode cX11_isTextTold 26 = .ok (.ireturn, 1) := by decide +kernel
set_option maxRecDepth 20000 in
theorem ggX11_isKeyTold_X11_isTextTold : GoodIn wsX11_isKeyTold wsX11_isTextTold := goodIn_r _ [5, 6, 7, 8, 9, 10, 11, 12, 13, 14, 15, 16, 17, 18, 19, 20, 21] rfl (by decide +kernel)
set_option maxRecDepth 20000 in
theorem gX11_isKeyTold_X11_isTextTold : GoodIn wsX11_isKeyTold (wsV RX11 136 RX11 yX11_isTextTold wsX11_isTextTold) := goodIn_app (goodIn_r _ [1, 2, 3, 4] rfl (by decide +kernel)) ggX11_isKeyTold_X11_isTextTold
theorem dX11_isKeyTold_0 : decode cX11_isKeyTold 0 = .ok (.aload_n 0, 1) := by decide +kernel
theorem dX11_isKeyTold_1 : decode cX11_isKeyTold 1 = .ok (.iload_n 1, 1) := by decide +kernel
theorem dX11_isKeyTold_2 : decode cX11_isKeyTold 2 = .ok (.iconst 1, 1) := by decide +kernel
theorem dX11_isKeyTold_3 : decode cX11_isKeyTold 3 = .ok (.bipush 24, 2) := by decide +kernel
theorem dX11_isKeyTold_5 : decode cX11_isKeyTold 5 = .ok (.invokevirtual 136, 3) := by decide +kernel
theorem dX11_isKeyTold_8 : decode cX11_isKeyTold 8 = .ok (.ireturn, 1) := by decide +kernel
set_option maxRecDepth 20000 in
theorem ggX11_readTold_X2_clear : GoodIn wsX11_readTold wsX2_clear := goodIn_r _ [7, 8, 41, 42] rfl (by decide +kernel)
set_option maxRecDepth 20000 in
theorem gX11_readTold_X2_clear : GoodIn wsX11_readTold (wsV RX11 359 RX2 yX2_clear wsX2_clear) := goodIn_app (goodIn_r _ [3, 4, 5, 6] rfl (by decide +kernel)) ggX11_readTold_X2_clear
set_option maxRecDepth 20000 in
theorem ggX11_readTold_X9_byteAt : GoodIn wsX11_readTold wsX9_byteAt := goodIn_r _ [13, 14, 15, 43, 44] rfl (by decide +kernel)
set_option maxRecDepth 20000 in
theorem gX11_readTold_X9_byteAt : GoodIn wsX11_readTold (wsV RX11 344 RX9 yX9_byteAt wsX9_byteAt) := goodIn_app (goodIn_r _ [9, 10, 11, 12] rfl (by decide +kernel)) ggX11_readTold_X9_byteAt
set_option maxRecDepth 20000 in
theorem ggX11_readTold_X11_isKeyByte : GoodIn wsX11_readTold wsX11_isKeyByte := goodIn_r _ [19] rfl (by decide +kernel)
set_option maxRecDepth 20000 in
theorem gX11_readTold_X11_isKeyByte : GoodIn wsX11_readTold (va_wsS RX11 360 yX11_isKeyByte wsX11_isKeyByte) := goodIn_app (goodIn_r _ [16, 17, 18] rfl (by decide +kernel)) ggX11_readTold_X11_isKeyByte
set_option maxRecDepth 20000 in
theorem ggX11_readTold_X2_add : GoodIn wsX11_readTold wsX2_add := goodIn_r _ [23, 8, 24, 41, 42] rfl (by decide +kernel)
set_option maxRecDepth 20000 in
theorem gX11_readTold_X2_add : GoodIn wsX11_readTold (wsV RX11 363 RX2 yX2_add wsX2_add) := goodIn_app (goodIn_r _ [20, 21, 22, 6] rfl (by decide +kernel)) ggX11_readTold_X2_add
set_option maxRecDepth 20000 in
theorem ggX11_readTold_X9_clear : GoodIn wsX11_readTold wsX9_clear := goodIn_r _ [28, 14, 43, 44] rfl (by decide +kernel)
set_option maxRecDepth 20000 in
theorem gX11_readTold_X9_clear : GoodIn wsX11_readTold (wsV RX11 117 RX9 yX9_clear wsX9_clear) := goodIn_app (goodIn_r _ [25, 26, 27, 12] rfl (by decide +kernel)) ggX11_readTold_X9_clear
theorem dX11_readTold_0 : decode cX11_readTold 0 = .ok (.iconst 1, 1) := by decide +kernel
theorem dX11_readTold_1 : decode cX11_readTold 1 = .ok (.istore_n 2, 1) := by decide +kernel
theorem dX11_readTold_2 : decode cX11_readTold 2 = .ok (.aload_n 0, 1) := by decide +kernel
theorem dX11_readTold_3 : decode cX11_readTold 3 = .ok (.getfield 28, 3) := by decide +kernel
theorem dX11_readTold_6 : decode cX11_readTold 6 = .ok (.invokevirtual 359, 3) := by decide +kernel
theorem dX11_readTold_9 : decode cX11_readTold 9 = .ok (.iconst 0, 1) := by decide +kernel
theorem dX11_readTold_10 : decode cX11_readTold 10 = .ok (.istore_n 3, 1) := by decide +kernel
theorem dX11_readTold_11 : decode cX11_readTold 11 = .ok (.iload_n 3, 1) := by decide +kernel
theorem dX11_readTold_12 : decode cX11_readTold 12 = .ok (.iload_n 1, 1) := by decide +kernel
theorem dX11_readTold_13 : decode cX11_readTold 13 = .ok (.if_icmp .ge 49, 3) := by decide +kernel
theorem dX11_readTold_16 : decode cX11_readTold 16 = .ok (.aload_n 0, 1) := by decide +kernel
theorem dX11_readTold_17 : decode cX11_readTold 17 = .ok (.getfield 10, 3) := by decide +kernel
theorem dX11_readTold_20 : decode cX11_readTold 20 = .ok (.iload_n 3, 1) := by decide +kernel
theorem dX11_readTold_21 : decode cX11_readTold 21 = .ok (.invokevirtual 344, 3) := by decide +kernel
theorem dX11_readTold_24 : decode cX11_readTold 24 = .ok (.istore 4, 2) := by decide +kernel
theorem dX11_readTold_26 : decode cX11_readTold 26 = .ok (.iload_n 2, 1) := by decide +kernel
theorem dX11_readTold_27 : decode cX11_readTold 27 = .ok (.ifCond .eq 27, 3) := by decide +kernel
theorem dX11_readTold_30 : decode cX11_readTold 30 = .ok (.iload 4, 2) := by decide +kernel
theorem dX11_readTold_32 : decode cX11_readTold 32 = .ok (.invokestatic 360, 3) := by decide +kernel
theorem dX11_readTold_35 : decode cX11_readTold 35 = .ok (.ifCond .eq 19, 3) := by decide +kernel
theorem dX11_readTold_38 : decode cX11_readTold 38 = .ok (.aload_n 0, 1) := by decide +kernel
theorem dX11_readTold_39 : decode cX11_readTold 39 = .ok (.getfield 28, 3) := by decide +kernel
theorem dX11_readTold_42 : decode cX11_readTold 42 = .ok (.iload 4, 2) := by decide +kernel
theorem dX11_readTold_44 : decode cX11_readTold 44 = .ok (.invokevirtual 363, 3) := by decide +kernel
theorem dX11_readTold_47 : decode cX11_readTold 47 = .ok (.ifCond .eq 7, 3) := by decide +kernel
theorem dX11_readTold_50 : decode cX11_readTold 50 = .ok (.iconst 1, 1) := by decide +kernel
theorem dX11_readTold_51 : decode cX11_readTold 51 = .ok (.goto 4, 3) := by decide +kernel
theorem dX11_readTold_54 : decode cX11_readTold 54 = .ok (.iconst 0, 1) := by decide +kernel
theorem dX11_readTold_55 : decode cX11_readTold 55 = .ok (.istore_n 2, 1) := by decide +kernel
theorem dX11_readTold_56 : decode cX11_readTold 56 = .ok (.iinc 3 1, 3) := by decide +kernel
theorem dX11_readTold_59 : decode cX11_readTold 59 = .ok (.goto (-48), 3) := by decide +kernel
theorem dX11_readTold_62 : decode cX11_readTold 62 = .ok (.aload_n 0, 1) := by decide +kernel
theorem dX11_readTold_63 : decode cX11_readTold 63 = .ok (.getfield 10, 3) := by decide +kernel
theorem dX11_readTold_66 : decode cX11_readTold 66 = .ok (.invokevirtual 117, 3) := by decide +kernel
theorem dX11_readTold_69 : decode cX11_readTold 69 = .ok (.iload_n 2, 1) := by decide +kernel
theorem dX11_readTold_70 : decode cX11_readTold 70 = .ok (.ireturn, 1) := by decide +kernel
set_option maxRecDepth 20000 in
theorem ggX11_readItems_X7_open : GoodIn wsX11_readItems wsX7_open := goodIn_r _ [9, 10, 11, 12, 107, 108, 109, 110] rfl (by decide +kernel)
set_option maxRecDepth 20000 in
theorem gX11_readItems_X7_open : GoodIn wsX11_readItems (wsV RX11 277 RX7 yX7_open wsX7_open) := goodIn_app (goodIn_r _ [5, 6, 7, 8] rfl (by decide +kernel)) ggX11_readItems_X7_open
set_option maxRecDepth 20000 in
theorem ggX11_readItems_X5_readFrom : GoodIn wsX11_readItems wsX5_readFrom := goodIn_r _ [17, 18, 19, 20, 21, 16, 22, 23, 24, 25, 26, 27, 28, 29, 8, 30, 10, 11, 31, 32, 33, 34, 35, 36, 37, 38, 39, 40, 41, 42, 43, 44, 45, 46, 12, 47, 48, 49, 50, 51, 52, 53, 54, 55, 56, 57, 58, 59, 60, 61, 62, 63, 64, 65, 66, 67, 68, 69, 70, 71, 72, 73, 74, 75, 76, 77, 78, 79, 80, 81, 82, 83, 84, 85, 86, 87, 88, 89, 90, 111, 112, 113, 114, 115, 107, 108, 109, 110, 116, 117, 118, 119] rfl (by decide +kernel)
set_option maxRecDepth 20000 in
theorem gX11_readItems_X5_readFrom : GoodIn wsX11_readItems (wsV RX11 366 RX5 yX5_readFrom wsX5_readFrom) := goodIn_app (goodIn_r _ [13, 14, 15, 16] rfl (by decide +kernel)) ggX11_readItems_X5_readFrom
set_option maxRecDepth 20000 in
theorem ggX11_readItems_X9_clear : GoodIn wsX11_readItems wsX9_clear := goodIn_r _ [94, 37, 116, 117] rfl (by decide +kernel)
set_option maxRecDepth 20000 in
theorem gX11_readItems_X9_clear : GoodIn wsX11_readItems (wsV RX11 117 RX9 yX9_clear wsX9_clear) := goodIn_app (goodIn_r _ [91, 92, 93, 35] rfl (by decide +kernel)) ggX11_readItems_X9_clear
theorem dX11_readItems_0 : decode cX11_readItems 0 = .ok (.aload_n 0, 1) := by decide +kernel
theorem dX11_readItems_1 : decode cX11_readItems 1 = .ok (.getfield 21, 3) := by decide +kernel
theorem dX11_readItems_4 : decode cX11_readItems 4 = .ok (.iload_n 1, 1) := by decide +kernel
theorem dX11_readItems_5 : decode cX11_readItems 5 = .ok (.invokevirtual 277, 3) := by decide +kernel
theorem dX11_readItems_8 : decode cX11_readItems 8 = .ok (.aload_n 0, 1) := by decide +kernel
theorem dX11_readItems_9 : decode cX11_readItems 9 = .ok (.getfield 71, 3) := by decide +kernel
theorem dX11_readItems_12 : decode cX11_readItems 12 = .ok (.aload_n 0, 1) := by decide +kernel
theorem dX11_readItems_13 : decode cX11_readItems 13 = .ok (.getfield 21, 3) := by decide +kernel
theorem dX11_readItems_16 : decode cX11_readItems 16 = .ok (.invokevirtual 366, 3) := by decide +kernel
theorem dX11_readItems_19 : decode cX11_readItems 19 = .ok (.aload_n 0, 1) := by decide +kernel
theorem dX11_readItems_20 : decode cX11_readItems 20 = .ok (.getfield 10, 3) := by decide +kernel
theorem dX11_readItems_23 : decode cX11_readItems 23 = .ok (.invokevirtual 117, 3) := by decide +kernel
theorem dX11_readItems_26 : decode cX11_readItems 26 = .ok (.aload_n 0, 1) := by decide +kernel
theorem dX11_readItems_27 : decode cX11_readItems 27 = .ok (.getfield 21, 3) := by decide +kernel
theorem dX11_readItems_30 : decode cX11_readItems 30 = .ok (.getfield 147, 3) := by decide +kernel
theorem dX11_readItems_33 : decode cX11_readItems 33 = .ok (.ifCond .ne 7, 3) := by decide +kernel
theorem dX11_readItems_36 : decode cX11_readItems 36 = .ok (.iconst 1, 1) := by decide +kernel
theorem dX11_readItems_37 : decode cX11_readItems 37 = .ok (.goto 4, 3) := by decide +kernel
theorem dX11_readItems_40 : decode cX11_readItems 40 = .ok (.iconst 0, 1) := by decide +kernel
theorem dX11_readItems_41 : decode cX11_readItems 41 = .ok (.ireturn, 1) := by decide +kernel
theorem dX11_isKeyByte_0 : decode cX11_isKeyByte 0 = .ok (.iload_n 0, 1) := by decide +kernel
theorem dX11_isKeyByte_1 : decode cX11_isKeyByte 1 = .ok (.bipush 59, 2) := by decide +kernel
theorem dX11_isKeyByte_3 : decode cX11_isKeyByte 3 = .ok (.if_icmp .eq 21, 3) := by decide +kernel
theorem dX11_isKeyByte_6 : decode cX11_isKeyByte 6 = .ok (.iload_n 0, 1) := by decide +kernel
theorem dX11_isKeyByte_7 : decode cX11_isKeyByte 7 = .ok (.bipush 61, 2) := by decide +kernel
theorem dX11_isKeyByte_9 : decode cX11_isKeyByte 9 = .ok (.if_icmp .eq 15, 3) := by decide +kernel
theorem dX11_isKeyByte_12 : decode cX11_isKeyByte 12 = .ok (.iload_n 0, 1) := by decide +kernel
theorem dX11_isKeyByte_13 : decode cX11_isKeyByte 13 = .ok (.bipush 44, 2) := by decide +kernel
theorem dX11_isKeyByte_15 : decode cX11_isKeyByte 15 = .ok (.if_icmp .eq 9, 3) := by decide +kernel
theorem dX11_isKeyByte_18 : decode cX11_isKeyByte 18 = .ok (.iload_n 0, 1) := by decide +kernel
theorem dX11_isKeyByte_19 : decode cX11_isKeyByte 19 = .ok (.bipush 126, 2) := by decide +kernel
theorem dX11_isKeyByte_21 : decode cX11_isKeyByte 21 = .ok (.if_icmp .ne 7, 3) := by decide +kernel
theorem dX11_isKeyByte_24 : decode cX11_isKeyByte 24 = .ok (.iconst 1, 1) := by decide +kernel
theorem dX11_isKeyByte_25 : decode cX11_isKeyByte 25 = .ok (.goto 4, 3) := by decide +kernel
theorem dX11_isKeyByte_28 : decode cX11_isKeyByte 28 = .ok (.iconst 0, 1) := by decide +kernel
theorem dX11_isKeyByte_29 : decode cX11_isKeyByte 29 = .ok (.istore_n 1, 1) := by decide +kernel
theorem dX11_isKeyByte_30 : decode cX11_isKeyByte 30 = .ok (.iload_n 0, 1) := by decide +kernel
theorem dX11_isKeyByte_31 : decode cX11_isKeyByte 31 = .ok (.bipush 33, 2) := by decide +kernel
theorem dX11_isKeyByte_33 : decode cX11_isKeyByte 33 = .ok (.if_icmp .lt 17, 3) := by decide +kernel
theorem dX11_isKeyByte_36 : decode cX11_isKeyByte 36 = .ok (.iload_n 0, 1) := by decide +kernel
theorem dX11_isKeyByte_37 : decode cX11_isKeyByte 37 = .ok (.bipush 126, 2) := by decide +kernel
theorem dX11_isKeyByte_39 : decode cX11_isKeyByte 39 = .ok (.if_icmp .gt 11, 3) := by decide +kernel
theorem dX11_isKeyByte_42 : decode cX11_isKeyByte 42 = .ok (.iload_n 1, 1) := by decide +kernel
theorem dX11_isKeyByte_43 : decode cX11_isKeyByte 43 = .ok (.ifCond .ne 7, 3) := by decide +kernel
theorem dX11_isKeyByte_46 : decode cX11_isKeyByte 46 = .ok (.iconst 1, 1) := by decide +kernel
theorem dX11_isKeyByte_47 : decode cX11_isKeyByte 47 = .ok (.goto 4, 3) := by decide +kernel
theorem dX11_isKeyByte_50 : decode cX11_isKeyByte 50 = .ok (.iconst 0, 1) := by decide +kernel
theorem dX11_isKeyByte_51 : decode cX11_isKeyByte 51 = .ok (.ireturn, 1) := by decide +kernel
theorem dX11_isDigit_0 : decode cX11_isDigit 0 = .ok (.iload_n 0, 1) := by decide +kernel
theorem dX11_isDigit_1 : decode cX11_isDigit 1 = .ok (.bipush 48, 2) := by decide +kernel
theorem dX11_isDigit_3 : decode cX11_isDigit 3 = .ok (.if_icmp .lt 13, 3) := by decide +kernel
theorem dX11_isDigit_6 : decode cX11_isDigit 6 = .ok (.iload_n 0, 1) := by decide +kernel
theorem dX11_isDigit_7 : decode cX11_isDigit 7 = .ok (.bipush 57, 2) := by decide +kernel
theorem dX11_isDigit_9 : decode cX11_isDigit 9 = .ok (.if_icmp .gt 7, 3) := by decide +kernel
theorem dX11_isDigit_12 : decode cX11_isDigit 12 = .ok (.iconst 1, 1) := by decide +kernel
theorem dX11_isDigit_13 : decode cX11_isDigit 13 = .ok (.goto 4, 3) := by decide +kernel
theorem dX11_isDigit_16 : decode cX11_isDigit 16 = .ok (.iconst 0, 1) := by decide +kernel
theorem dX11_isDigit_17 : decode cX11_isDigit 17 = .ok (.ireturn, 1) := by decide +kernel
theorem dX12_init_0 : decode cX12_init 0 = .ok (.aload_n 0, 1) := by decide +kernel
theorem dX12_init_1 : decode cX12_init 1 = .ok (.invokespecial 1, 3) := by decide +kernel
theorem dX12_init_4 : decode cX12_init 4 = .ok (.aload_n 0, 1) := by decide +kernel
theorem dX12_init_5 : decode cX12_init 5 = .ok (.sipush 17624, 3) := by decide +kernel
theorem dX12_init_8 : decode cX12_init 8 = .ok (.newarray .int, 2) := by decide +kernel
theorem dX12_init_10 : decode cX12_init 10 = .ok (.putfield 7, 3) := by decide +kernel
theorem dX12_init_13 : decode cX12_init 13 = .ok (.aload_n 0, 1) := by decide +kernel
theorem dX12_init_14 : decode cX12_init 14 = .ok (.bipush 24, 2) := by decide +kernel
theorem dX12_init_16 : decode cX12_init 16 = .ok (.newarray .int, 2) := by decide +kernel
theorem dX12_init_18 : decode cX12_init 18 = .ok (.putfield 13, 3) := by decide +kernel
theorem dX12_init_21 : decode cX12_init 21 = .ok (.aload_n 0, 1) := by decide +kernel
theorem dX12_init_22 : decode cX12_init 22 = .ok (.sipush 151, 3) := by decide +kernel
theorem dX12_init_25 : decode cX12_init 25 = .ok (.newarray .int, 2) := by decide +kernel
theorem dX12_init_27 : decode cX12_init 27 = .ok (.putfield 16, 3) := by decide +kernel
theorem dX12_init_30 : decode cX12_init 30 = .ok (.aload_n 0, 1) := by decide +kernel
theorem dX12_init_31 : decode cX12_init 31 = .ok (.sipush 150, 3) := by decide +kernel
theorem dX12_init_34 : decode cX12_init 34 = .ok (.newarray .int, 2) := by decide +kernel
theorem dX12_init_36 : decode cX12_init 36 = .ok (.putfield 19, 3) := by decide +kernel
theorem dX12_init_39 : decode cX12_init 39 = .ok (.aload_n 0, 1) := by decide +kernel
theorem dX12_init_40 : decode cX12_init 40 = .ok (.sipush 240, 3) := by decide +kernel
theorem dX12_init_43 : decode cX12_init 43 = .ok (.newarray .byte, 2) := by decide +kernel
theorem dX12_init_45 : decode cX12_init 45 = .ok (.putfield 22, 3) := by decide +kernel
theorem dX12_init_48 : decode cX12_init 48 = .ok (.aload_n 0, 1) := by decide +kernel
theorem dX12_init_49 : decode cX12_init 49 = .ok (.bipush 20, 2) := by decide +kernel
theorem dX12_init_51 : decode cX12_init 51 = .ok (.newarray .int, 2) := by decide +kernel
theorem dX12_init_53 : decode cX12_init 53 = .ok (.putfield 26, 3) := by decide +kernel
theorem dX12_init_56 : decode cX12_init 56 = .ok (.aload_n 0, 1) := by decide +kernel
theorem dX12_init_57 : decode cX12_init 57 = .ok (.bipush 20, 2) := by decide +kernel
theorem dX12_init_59 : decode cX12_init 59 = .ok (.newarray .int, 2) := by decide +kernel
theorem dX12_init_61 : decode cX12_init 61 = .ok (.putfield 29, 3) := by decide +kernel
theorem dX12_init_64 : decode cX12_init 64 = .ok (.aload_n 0, 1) := by decide +kernel
theorem dX12_init_65 : decode cX12_init 65 = .ok (.bipush 20, 2) := by decide +kernel
theorem dX12_init_67 : decode cX12_init 67 = .ok (.newarray .int, 2) := by decide +kernel
theorem dX12_init_69 : decode cX12_init 69 = .ok (.putfield 32, 3) := by decide +kernel
theorem dX12_init_72 : decode cX12_init 72 = .ok (.aload_n 0, 1) := by decide +kernel
theorem dX12_init_73 : decode cX12_init 73 = .ok (.bipush 20, 2) := by decide +kernel
theorem dX12_init_75 : decode cX12_init 75 = .ok (.newarray .int, 2) := by decide +kernel
theorem dX12_init_77 : decode cX12_init 77 = .ok (.putfield 35, 3) := by decide +kernel
theorem dX12_init_80 : decode cX12_init 80 = .ok (.aload_n 0, 1) := by decide +kernel
theorem dX12_init_81 : decode cX12_init 81 = .ok (.bipush 20, 2) := by decide +kernel
theorem dX12_init_83 : decode cX12_init 83 = .ok (.newarray .int, 2) := by decide +kernel
theorem dX12_init_85 : decode cX12_init 85 = .ok (.putfield 38, 3) := by decide +kernel
theorem dX12_init_88 : decode cX12_init 88 = .ok (.aload_n 0, 1) := by decide +kernel
theorem dX12_init_89 : decode cX12_init 89 = .ok (.bipush 20, 2) := by decide +kernel
theorem dX12_init_91 : decode cX12_init 91 = .ok (.newarray .int, 2) := by decide +kernel
theorem dX12_init_93 : decode cX12_init 93 = .ok (.putfield 41, 3) := by decide +kernel
theorem dX12_init_96 : decode cX12_init 96 = .ok (.aload_n 0, 1) := by decide +kernel
theorem dX12_init_97 : decode cX12_init 97 = .ok (.sipush 224, 3) := by decide +kernel
theorem dX12_init_100 : decode cX12_init 100 = .ok (.newarray .int, 2) := by decide +kernel
theorem dX12_init_102 : decode cX12_init 102 = .ok (.putfield 44, 3) := by decide +kernel
theorem dX12_init_105 : decode cX12_init 105 = .ok (.aload_n 0, 1) := by decide +kernel
theorem dX12_init_106 : decode cX12_init 106 = .ok (.sipush 150, 3) := by decide +kernel
theorem dX12_init_109 : decode cX12_init 109 = .ok (.newarray .int, 2) := by decide +kernel
theorem dX12_init_111 : decode cX12_init 111 = .ok (.putfield 47, 3) := by decide +kernel
theorem dX12_init_114 : decode cX12_init 114 = .ok (.aload_n 0, 1) := by decide +kernel
theorem dX12_init_115 : decode cX12_init 115 = .ok (.getfield 7, 3) := by decide +kernel
theorem dX12_init_118 : decode cX12_init 118 = .ok (.iconst 1, 1) := by decide +kernel
theorem dX12_init_119 : decode cX12_init 119 = .ok (.iconst 4, 1) := by decide +kernel
theorem dX12_init_120 : decode cX12_init 120 = .ok (.iastore, 1) := by decide +kernel
theorem dX12_init_121 : decode cX12_init 121 = .ok (.aload_n 0, 1) := by decide +kernel
theorem dX12_init_122 : decode cX12_init 122 = .ok (.getfield 7, 3) := by decide +kernel
theorem dX12_init_125 : decode cX12_init 125 = .ok (.iconst 2, 1) := by decide +kernel
theorem dX12_init_126 : decode cX12_init 126 = .ok (.iconst 4, 1) := by decide +kernel
theorem dX12_init_127 : decode cX12_init 127 = .ok (.iastore, 1) := by decide +kernel
theorem dX12_init_128 : decode cX12_init 128 = .ok (.return_, 1) := by decide +kernel
theorem dX12_in_0 : decode cX12_in 0 = .ok (.iload_n 0, 1) := by decide +kernel
theorem dX12_in_1 : decode cX12_in 1 = .ok (.iload_n 1, 1) := by decide +kernel
theorem dX12_in_2 : decode cX12_in 2 = .ok (.if_icmp .lt 12, 3) := by decide +kernel
theorem dX12_in_5 : decode cX12_in 5 = .ok (.iload_n 0, 1) := by decide +kernel
theorem dX12_in_6 : decode cX12_in 6 = .ok (.iload_n 2, 1) := by decide +kernel
theorem dX12_in_7 : decode cX12_in 7 = .ok (.if_icmp .gt 7, 3) := by decide +kernel
theorem dX12_in_10 : decode cX12_in 10 = .ok (.iconst 1, 1) := by decide +kernel
theorem dX12_in_11 : decode cX12_in 11 = .ok (.goto 4, 3) := by decide +kernel
theorem dX12_in_14 : decode cX12_in 14 = .ok (.iconst 0, 1) := by decide +kernel
theorem dX12_in_15 : decode cX12_in 15 = .ok (.ireturn, 1) := by decide +kernel
theorem dX12_min_0 : decode cX12_min 0 = .ok (.iload_n 0, 1) := by decide +kernel
theorem dX12_min_1 : decode cX12_min 1 = .ok (.iload_n 1, 1) := by decide +kernel
theorem dX12_min_2 : decode cX12_min 2 = .ok (.if_icmp .ge 7, 3) := by decide +kernel
theorem dX12_min_5 : decode cX12_min 5 = .ok (.iload_n 0, 1) := by decide +kernel
theorem dX12_min_6 : decode cX12_min 6 = .ok (.goto 4, 3) := by decide +kernel
theorem dX12_min_9 : decode cX12_min 9 = .ok (.iload_n 1, 1) := by decide +kernel
theorem dX12_min_10 : decode cX12_min 10 = .ok (.ireturn, 1) := by decide +kernel
theorem dX12_max_0 : decode cX12_max 0 = .ok (.iload_n 0, 1) := by decide +kernel
theorem dX12_max_1 : decode cX12_max 1 = .ok (.iload_n 1, 1) := by decide +kernel
theorem dX12_max_2 : decode cX12_max 2 = .ok (.if_icmp .le 7, 3) := by decide +kernel
theorem dX12_max_5 : decode cX12_max 5 = .ok (.iload_n 0, 1) := by decide +kernel
theorem dX12_max_6 : decode cX12_max 6 = .ok (.goto 4, 3) := by decide +kernel
theorem dX12_max_9 : decode cX12_max 9 = .ok (.iload_n 1, 1) := by decide +kernel
theorem dX12_max_10 : decode cX12_max 10 = .ok (.ireturn, 1) := by decide +kernel
theorem dX12_has_0 : decode cX12_has 0 = .ok (.iload_n 0, 1) := by decide +kernel
theorem dX12_has_1 : decode cX12_has 1 = .ok (.iload_n 1, 1) := by decide +kernel
theorem dX12_has_2 : decode cX12_has 2 = .ok (.ishr, 1) := by decide +kernel
theorem dX12_has_3 : decode cX12_has 3 = .ok (.iconst 1, 1) := by decide +kernel
theorem dX12_has_4 : decode cX12_has 4 = .ok (.iand, 1) := by decide +kernel
theorem dX12_has_5 : decode cX12_has 5 = .ok (.iconst 1, 1) := by decide +kernel
theorem dX12_has_6 : decode cX12_has 6 = .ok (.if_icmp .ne 7, 3) := by decide +kernel
theorem dX12_has_9 : decode cX12_has 9 = .ok (.iconst 1, 1) := by decide +kernel
theorem dX12_has_10 : decode cX12_has 10 = .ok (.goto 4, 3) := by decide +kernel
theorem dX12_has_13 : decode cX12_has 13 = .ok (.iconst 0, 1) := by decide +kernel
theorem dX12_has_14 : decode cX12_has 14 = .ok (.ireturn, 1) := by decide +kernel
theorem dX12_copies_0 : decode cX12_copies 0 = .ok (.iconst 0, 1) := by decide +kernel
theorem dX12_copies_1 : decode cX12_copies 1 = .ok (.istore_n 3, 1) := by decide +kernel
theorem dX12_copies_2 : decode cX12_copies 2 = .ok (.iload_n 3, 1) := by decide +kernel
theorem dX12_copies_3 : decode cX12_copies 3 = .ok (.sipush 4406, 3) := by decide +kernel
theorem dX12_copies_6 : decode cX12_copies 6 = .ok (.if_icmp .ge 33, 3) := by decide +kernel
theorem dX12_copies_9 : decode cX12_copies 9 = .ok (.aload_n 0, 1) := by decide +kernel
theorem dX12_copies_10 : decode cX12_copies 10 = .ok (.getfield 7, 3) := by decide +kernel
theorem dX12_copies_13 : decode cX12_copies 13 = .ok (.sipush 4406, 3) := by decide +kernel
theorem dX12_copies_16 : decode cX12_copies 16 = .ok (.iload_n 2, 1) := by decide +kernel
theorem dX12_copies_17 : decode cX12_copies 17 = .ok (.imul, 1) := by decide +kernel
theorem dX12_copies_18 : decode cX12_copies 18 = .ok (.iload_n 3, 1) := by decide +kernel
theorem dX12_copies_19 : decode cX12_copies 19 = .ok (.iadd, 1) := by decide +kernel
theorem dX12_copies_20 : decode cX12_copies 20 = .ok (.aload_n 0, 1) := by decide +kernel
theorem dX12_copies_21 : decode cX12_copies 21 = .ok (.getfield 7, 3) := by decide +kernel
theorem dX12_copies_24 : decode cX12_copies 24 = .ok (.sipush 4406, 3) := by decide +kernel
theorem dX12_copies_27 : decode cX12_copies 27 = .ok (.iload_n 1, 1) := by decide +kernel
theorem dX12_copies_28 : decode cX12_copies 28 = .ok (.imul, 1) := by decide +kernel
theorem dX12_copies_29 : decode cX12_copies 29 = .ok (.iload_n 3, 1) := by decide +kernel
theorem dX12_copies_30 : decode cX12_copies 30 = .ok (.iadd, 1) := by decide +kernel
theorem dX12_copies_31 : decode cX12_copies 31 = .ok (.iaload, 1) := by decide +kernel
theorem dX12_copies_32 : decode cX12_copies 32 = .ok (.iastore, 1) := by decide +kernel
theorem dX12_copies_33 : decode cX12_copies 33 = .ok (.iinc 3 1, 3) := by decide +kernel
theorem dX12_copies_36 : decode cX12_copies 36 = .ok (.goto (-34), 3) := by decide +kernel
theorem dX12_copies_39 : decode cX12_copies 39 = .ok (.return_, 1) := by decide +kernel
theorem dX12_many_0 : decode cX12_many 0 = .ok (.aload_n 0, 1) := by decide +kernel
theorem dX12_many_1 : decode cX12_many 1 = .ok (.getfield 7, 3) := by decide +kernel
theorem dX12_many_4 : decode cX12_many 4 = .ok (.iconst 0, 1) := by decide +kernel
theorem dX12_many_5 : decode cX12_many 5 = .ok (.iaload, 1) := by decide +kernel
theorem dX12_many_6 : decode cX12_many 6 = .ok (.ireturn, 1) := by decide +kernel
theorem dX12_of_0 : decode cX12_of 0 = .ok (.aload_n 0, 1) := by decide +kernel
theorem dX12_of_1 : decode cX12_of 1 = .ok (.getfield 7, 3) := by decide +kernel
theorem dX12_of_4 : decode cX12_of 4 = .ok (.sipush 240, 3) := by decide +kernel
theorem dX12_of_7 : decode cX12_of 7 = .ok (.bipush 27, 2) := by decide +kernel
theorem dX12_of_9 : decode cX12_of 9 = .ok (.iload_n 1, 1) := by decide +kernel
theorem dX12_of_10 : decode cX12_of 10 = .ok (.imul, 1) := by decide +kernel
theorem dX12_of_11 : decode cX12_of 11 = .ok (.iadd, 1) := by decide +kernel
theorem dX12_of_12 : decode cX12_of 12 = .ok (.iload_n 2, 1) := by decide +kernel
theorem dX12_of_13 : decode cX12_of 13 = .ok (.iadd, 1) := by decide +kernel
theorem dX12_of_14 : decode cX12_of 14 = .ok (.iaload, 1) := by decide +kernel
theorem dX12_of_15 : decode cX12_of 15 = .ok (.ireturn, 1) := by decide +kernel
theorem dX12_sets_0 : decode cX12_sets 0 = .ok (.aload_n 0, 1) := by decide +kernel
theorem dX12_sets_1 : decode cX12_sets 1 = .ok (.getfield 7, 3) := by decide +kernel
theorem dX12_sets_4 : decode cX12_sets 4 = .ok (.sipush 240, 3) := by decide +kernel
theorem dX12_sets_7 : decode cX12_sets 7 = .ok (.bipush 27, 2) := by decide +kernel
theorem dX12_sets_9 : decode cX12_sets 9 = .ok (.iload_n 1, 1) := by decide +kernel
theorem dX12_sets_10 : decode cX12_sets 10 = .ok (.imul, 1) := by decide +kernel
theorem dX12_sets_11 : decode cX12_sets 11 = .ok (.iadd, 1) := by decide +kernel
theorem dX12_sets_12 : decode cX12_sets 12 = .ok (.iload_n 2, 1) := by decide +kernel
theorem dX12_sets_13 : decode cX12_sets 13 = .ok (.iadd, 1) := by decide +kernel
theorem dX12_sets_14 : decode cX12_sets 14 = .ok (.iload_n 3, 1) := by decide +kernel
theorem dX12_sets_15 : decode cX12_sets 15 = .ok (.iastore, 1) := by decide +kernel
theorem dX12_sets_16 : decode cX12_sets 16 = .ok (.return_, 1) := by decide +kernel
theorem dX12_byteOf_0 : decode cX12_byteOf 0 = .ok (.aload_n 0, 1) := by decide +kernel
theorem dX12_byteOf_1 : decode cX12_byteOf 1 = .ok (.getfield 7, 3) := by decide +kernel
theorem dX12_byteOf_4 : decode cX12_byteOf 4 = .ok (.sipush 240, 3) := by decide +kernel
theorem dX12_byteOf_7 : decode cX12_byteOf 7 = .ok (.bipush 27, 2) := by decide +kernel
theorem dX12_byteOf_9 : decode cX12_byteOf 9 = .ok (.iload_n 1, 1) := by decide +kernel
theorem dX12_byteOf_10 : decode cX12_byteOf 10 = .ok (.imul, 1) := by decide +kernel
theorem dX12_byteOf_11 : decode cX12_byteOf 11 = .ok (.iadd, 1) := by decide +kernel
theorem dX12_byteOf_12 : decode cX12_byteOf 12 = .ok (.iconst 3, 1) := by decide +kernel
theorem dX12_byteOf_13 : decode cX12_byteOf 13 = .ok (.iadd, 1) := by decide +kernel
theorem dX12_byteOf_14 : decode cX12_byteOf 14 = .ok (.iload_n 2, 1) := by decide +kernel
theorem dX12_byteOf_15 : decode cX12_byteOf 15 = .ok (.iadd, 1) := by decide +kernel
theorem dX12_byteOf_16 : decode cX12_byteOf 16 = .ok (.iaload, 1) := by decide +kernel
theorem dX12_byteOf_17 : decode cX12_byteOf 17 = .ok (.ireturn, 1) := by decide +kernel
set_option maxRecDepth 20000 in
theorem ggX12_beginsPage_X12_of : GoodIn wsX12_beginsPage wsX12_of := goodIn_r _ [5, 6, 10, 11, 12, 13, 14, 15, 16, 17, 18, 19, 20, 21, 22, 23, 24, 25, 26, 27, 28, 29, 30, 31, 32, 33, 34, 35, 36, 37, 38, 39, 40, 41, 42, 43, 44, 45, 46, 47, 48, 49, 50] rfl (by decide +kernel)
set_option maxRecDepth 20000 in
theorem gX12_beginsPage_X12_of : GoodIn wsX12_beginsPage (wsV RX12 50 RX12 yX12_of wsX12_of) := goodIn_app (goodIn_r _ [1, 2, 3, 4] rfl (by decide +kernel)) ggX12_beginsPage_X12_of
set_option maxRecDepth 20000 in
theorem ggX12_beginsPage_X12_has : GoodIn wsX12_beginsPage wsX12_has := goodIn_r _ [9] rfl (by decide +kernel)
set_option maxRecDepth 20000 in
theorem gX12_beginsPage_X12_has : GoodIn wsX12_beginsPage (va_wsS RX12 54 yX12_has wsX12_has) := goodIn_app (goodIn_r _ [7, 8, 4] rfl (by decide +kernel)) ggX12_beginsPage_X12_has
theorem dX12_beginsPage_0 : decode cX12_beginsPage 0 = .ok (.aload_n 0, 1) := by decide +kernel
theorem dX12_beginsPage_1 : decode cX12_beginsPage 1 = .ok (.iload_n 1, 1) := by decide +kernel
theorem dX12_beginsPage_2 : decode cX12_beginsPage 2 = .ok (.iconst 2, 1) := by decide +kernel
theorem dX12_beginsPage_3 : decode cX12_beginsPage 3 = .ok (.invokevirtual 50, 3) := by decide +kernel
theorem dX12_beginsPage_6 : decode cX12_beginsPage 6 = .ok (.iload_n 2, 1) := by decide +kernel
theorem dX12_beginsPage_7 : decode cX12_beginsPage 7 = .ok (.invokestatic 54, 3) := by decide +kernel
theorem dX12_beginsPage_10 : decode cX12_beginsPage 10 = .ok (.ireturn, 1) := by decide +kernel
set_option maxRecDepth 20000 in
theorem ggX12_marks_X12_of : GoodIn wsX12_marks wsX12_of := goodIn_r _ [5, 6, 11, 12, 13, 14, 15, 16, 17, 18, 19, 20, 21, 22, 23, 24, 25, 26, 27, 28, 29, 30, 31, 32, 33, 34, 35, 36, 37, 38, 39, 40, 41, 42, 43, 44, 45, 46, 47, 48, 49, 50, 51] rfl (by decide +kernel)
set_option maxRecDepth 20000 in
theorem gX12_marks_X12_of : GoodIn wsX12_marks (wsV RX12 50 RX12 yX12_of wsX12_of) := goodIn_app (goodIn_r _ [1, 2, 3, 4] rfl (by decide +kernel)) ggX12_marks_X12_of
set_option maxRecDepth 20000 in
theorem ggX12_marks_X12_sets : GoodIn wsX12_marks wsX12_sets := goodIn_r _ [10, 6, 11, 12, 13, 14, 15, 16, 17, 18, 19, 20, 21, 22, 23, 24, 25, 26, 27, 28, 29, 30, 31, 32, 33, 34, 35, 36, 37, 38, 39, 40, 41, 42, 43, 44, 45, 46, 47, 48, 49, 50, 51] rfl (by decide +kernel)
set_option maxRecDepth 20000 in
theorem gX12_marks_X12_sets : GoodIn wsX12_marks (wsV RX12 58 RX12 yX12_sets wsX12_sets) := goodIn_app (goodIn_r _ [7, 8, 9, 4] rfl (by decide +kernel)) ggX12_marks_X12_sets
theorem dX12_marks_0 : decode cX12_marks 0 = .ok (.aload_n 0, 1) := by decide +kernel
theorem dX12_marks_1 : decode cX12_marks 1 = .ok (.iload_n 1, 1) := by decide +kernel
theorem dX12_marks_2 : decode cX12_marks 2 = .ok (.iconst 2, 1) := by decide +kernel
theorem dX12_marks_3 : decode cX12_marks 3 = .ok (.iload_n 3, 1) := by decide +kernel
theorem dX12_marks_4 : decode cX12_marks 4 = .ok (.ifCond .eq 16, 3) := by decide +kernel
theorem dX12_marks_7 : decode cX12_marks 7 = .ok (.aload_n 0, 1) := by decide +kernel
theorem dX12_marks_8 : decode cX12_marks 8 = .ok (.iload_n 1, 1) := by decide +kernel
theorem dX12_marks_9 : decode cX12_marks 9 = .ok (.iconst 2, 1) := by decide +kernel
theorem dX12_marks_10 : decode cX12_marks 10 = .ok (.invokevirtual 50, 3) := by decide +kernel
theorem dX12_marks_13 : decode cX12_marks 13 = .ok (.iconst 1, 1) := by decide +kernel
theorem dX12_marks_14 : decode cX12_marks 14 = .ok (.iload_n 2, 1) := by decide +kernel
theorem dX12_marks_15 : decode cX12_marks 15 = .ok (.ishl, 1) := by decide +kernel
theorem dX12_marks_16 : decode cX12_marks 16 = .ok (.ior, 1) := by decide +kernel
theorem dX12_marks_17 : decode cX12_marks 17 = .ok (.goto 15, 3) := by decide +kernel
theorem dX12_marks_20 : decode cX12_marks 20 = .ok (.aload_n 0, 1) := by decide +kernel
theorem dX12_marks_21 : decode cX12_marks 21 = .ok (.iload_n 1, 1) := by decide +kernel
theorem dX12_marks_22 : decode cX12_marks 22 = .ok (.iconst 2, 1) := by decide +kernel
theorem dX12_marks_23 : decode cX12_marks 23 = .ok (.invokevirtual 50, 3) := by decide +kernel
theorem dX12_marks_26 : decode cX12_marks 26 = .ok (.iconst 1, 1) := by decide +kernel
theorem dX12_marks_27 : decode cX12_marks 27 = .ok (.iload_n 2, 1) := by decide +kernel
theorem dX12_marks_28 : decode cX12_marks 28 = .ok (.ishl, 1) := by decide +kernel
theorem dX12_marks_29 : decode cX12_marks 29 = .ok (.iconst (-1), 1) := by decide +kernel
theorem dX12_marks_30 : decode cX12_marks 30 = .ok (.ixor, 1) := by decide +kernel
theorem dX12_marks_31 : decode cX12_marks 31 = .ok (.iand, 1) := by decide +kernel
theorem dX12_marks_32 : decode cX12_marks 32 = .ok (.invokevirtual 58, 3) := by decide +kernel
theorem dX12_marks_35 : decode cX12_marks 35 = .ok (.return_, 1) := by decide +kernel
set_option maxRecDepth 20000 in
theorem ggX12_isThere_X12_many : GoodIn wsX12_isThere wsX12_many := goodIn_r _ [5, 6, 10, 11, 12, 13, 14, 15, 16, 17, 18, 19, 20, 21, 22, 23, 24, 25, 26, 27, 28, 29, 30, 31, 32, 33, 34, 35, 36, 37, 38, 39, 40, 41, 42, 43, 44, 45, 46, 47, 48, 49, 50] rfl (by decide +kernel)
set_option maxRecDepth 20000 in
theorem gX12_isThere_X12_many : GoodIn wsX12_isThere (wsV RX12 62 RX12 yX12_many wsX12_many) := goodIn_app (goodIn_r _ [1, 2, 3, 4] rfl (by decide +kernel)) ggX12_isThere_X12_many
set_option maxRecDepth 20000 in
theorem ggX12_isThere_X12_in : GoodIn wsX12_isThere wsX12_in := goodIn_r _ [9] rfl (by decide +kernel)
set_option maxRecDepth 20000 in
theorem gX12_isThere_X12_in : GoodIn wsX12_isThere (va_wsS RX12 66 yX12_in wsX12_in) := goodIn_app (goodIn_r _ [7, 8, 4] rfl (by decide +kernel)) ggX12_isThere_X12_in
theorem dX12_isThere_0 : decode cX12_isThere 0 = .ok (.iload_n 1, 1) := by decide +kernel
theorem dX12_isThere_1 : decode cX12_isThere 1 = .ok (.iconst 0, 1) := by decide +kernel
theorem dX12_isThere_2 : decode cX12_isThere 2 = .ok (.aload_n 0, 1) := by decide +kernel
theorem dX12_isThere_3 : decode cX12_isThere 3 = .ok (.invokevirtual 62, 3) := by decide +kernel
theorem dX12_isThere_6 : decode cX12_isThere 6 = .ok (.iconst 1, 1) := by decide +kernel
theorem dX12_isThere_7 : decode cX12_isThere 7 = .ok (.isub, 1) := by decide +kernel
theorem dX12_isThere_8 : decode cX12_isThere 8 = .ok (.invokestatic 66, 3) := by decide +kernel
theorem dX12_isThere_11 : decode cX12_isThere 11 = .ok (.ireturn, 1) := by decide +kernel
set_option maxRecDepth 20000 in
theorem ggX12_against_X12_of : GoodIn wsX12_against wsX12_of := goodIn_r _ [7, 8, 13, 14, 15, 16, 17, 18, 19, 20, 21, 22, 23, 24, 25, 26, 27, 28, 29, 30, 31, 32, 33, 34, 35, 36, 37, 38, 39, 40, 41, 42, 43, 44, 45, 46, 47, 48, 49, 50, 51, 52, 53] rfl (by decide +kernel)
set_option maxRecDepth 20000 in
theorem gX12_against_X12_of : GoodIn wsX12_against (wsV RX12 50 RX12 yX12_of wsX12_of) := goodIn_app (goodIn_r _ [3, 4, 5, 6] rfl (by decide +kernel)) ggX12_against_X12_of
set_option maxRecDepth 20000 in
theorem ggX12_against_X12_byteOf : GoodIn wsX12_against wsX12_byteOf := goodIn_r _ [12, 8, 13, 14, 15, 16, 17, 18, 19, 20, 21, 22, 23, 24, 25, 26, 27, 28, 29, 30, 31, 32, 33, 34, 35, 36, 37, 38, 39, 40, 41, 42, 43, 44, 45, 46, 47, 48, 49, 50, 51, 52, 53] rfl (by decide +kernel)
set_option maxRecDepth 20000 in
theorem gX12_against_X12_byteOf : GoodIn wsX12_against (wsV RX12 74 RX12 yX12_byteOf wsX12_byteOf) := goodIn_app (goodIn_r _ [9, 10, 11, 6] rfl (by decide +kernel)) ggX12_against_X12_byteOf
theorem dX12_against_0 : decode cX12_against 0 = .ok (.iconst 0, 1) := by decide +kernel
theorem dX12_against_1 : decode cX12_against 1 = .ok (.istore_n 2, 1) := by decide +kernel
theorem dX12_against_2 : decode cX12_against 2 = .ok (.iload_n 2, 1) := by decide +kernel
theorem dX12_against_3 : decode cX12_against 3 = .ok (.aload_n 0, 1) := by decide +kernel
theorem dX12_against_4 : decode cX12_against 4 = .ok (.iload_n 1, 1) := by decide +kernel
theorem dX12_against_5 : decode cX12_against 5 = .ok (.iconst 0, 1) := by decide +kernel
theorem dX12_against_6 : decode cX12_against 6 = .ok (.invokevirtual 50, 3) := by decide +kernel
theorem dX12_against_9 : decode cX12_against 9 = .ok (.if_icmp .ge 33, 3) := by decide +kernel
theorem dX12_against_12 : decode cX12_against 12 = .ok (.iload_n 2, 1) := by decide +kernel
theorem dX12_against_13 : decode cX12_against 13 = .ok (.aload_n 0, 1) := by decide +kernel
theorem dX12_against_14 : decode cX12_against 14 = .ok (.getfield 70, 3) := by decide +kernel
theorem dX12_against_17 : decode cX12_against 17 = .ok (.if_icmp .ge 25, 3) := by decide +kernel
theorem dX12_against_20 : decode cX12_against 20 = .ok (.aload_n 0, 1) := by decide +kernel
theorem dX12_against_21 : decode cX12_against 21 = .ok (.iload_n 1, 1) := by decide +kernel
theorem dX12_against_22 : decode cX12_against 22 = .ok (.iload_n 2, 1) := by decide +kernel
theorem dX12_against_23 : decode cX12_against 23 = .ok (.invokevirtual 74, 3) := by decide +kernel
theorem dX12_against_26 : decode cX12_against 26 = .ok (.aload_n 0, 1) := by decide +kernel
theorem dX12_against_27 : decode cX12_against 27 = .ok (.getfield 13, 3) := by decide +kernel
theorem dX12_against_30 : decode cX12_against 30 = .ok (.iload_n 2, 1) := by decide +kernel
theorem dX12_against_31 : decode cX12_against 31 = .ok (.iaload, 1) := by decide +kernel
theorem dX12_against_32 : decode cX12_against 32 = .ok (.if_icmp .ne 10, 3) := by decide +kernel
theorem dX12_against_35 : decode cX12_against 35 = .ok (.iload_n 2, 1) := by decide +kernel
theorem dX12_against_36 : decode cX12_against 36 = .ok (.iconst 1, 1) := by decide +kernel
theorem dX12_against_37 : decode cX12_against 37 = .ok (.iadd, 1) := by decide +kernel
theorem dX12_against_38 : decode cX12_against 38 = .ok (.istore_n 2, 1) := by decide +kernel
theorem dX12_against_39 : decode cX12_against 39 = .ok (.goto (-37), 3) := by decide +kernel
theorem dX12_against_42 : decode cX12_against 42 = .ok (.iload_n 2, 1) := by decide +kernel
theorem dX12_against_43 : decode cX12_against 43 = .ok (.aload_n 0, 1) := by decide +kernel
theorem dX12_against_44 : decode cX12_against 44 = .ok (.iload_n 1, 1) := by decide +kernel
theorem dX12_against_45 : decode cX12_against 45 = .ok (.iconst 0, 1) := by decide +kernel
theorem dX12_against_46 : decode cX12_against 46 = .ok (.invokevirtual 50, 3) := by decide +kernel
theorem dX12_against_49 : decode cX12_against 49 = .ok (.if_icmp .eq 11, 3) := by decide +kernel
theorem dX12_against_52 : decode cX12_against 52 = .ok (.iload_n 2, 1) := by decide +kernel
theorem dX12_against_53 : decode cX12_against 53 = .ok (.aload_n 0, 1) := by decide +kernel
theorem dX12_against_54 : decode cX12_against 54 = .ok (.getfield 70, 3) := by decide +kernel
theorem dX12_against_57 : decode cX12_against 57 = .ok (.if_icmp .ne 15, 3) := by decide +kernel
theorem dX12_against_60 : decode cX12_against 60 = .ok (.aload_n 0, 1) := by decide +kernel
theorem dX12_against_61 : decode cX12_against 61 = .ok (.iload_n 1, 1) := by decide +kernel
theorem dX12_against_62 : decode cX12_against 62 = .ok (.iconst 0, 1) := by decide +kernel
theorem dX12_against_63 : decode cX12_against 63 = .ok (.invokevirtual 50, 3) := by decide +kernel
theorem dX12_against_66 : decode cX12_against 66 = .ok (.aload_n 0, 1) := by decide +kernel
theorem dX12_against_67 : decode cX12_against 67 = .ok (.getfield 70, 3) := by decide +kernel
theorem dX12_against_70 : decode cX12_against 70 = .ok (.isub, 1) := by decide +kernel
theorem dX12_against_71 : decode cX12_against 71 = .ok (.ireturn, 1) := by decide +kernel
theorem dX12_against_72 : decode cX12_against 72 = .ok (.aload_n 0, 1) := by decide +kernel
theorem dX12_against_73 : decode cX12_against 73 = .ok (.iload_n 1, 1) := by decide +kernel
theorem dX12_against_74 : decode cX12_against 74 = .ok (.iload_n 2, 1) := by decide +kernel
theorem dX12_against_75 : decode cX12_against 75 = .ok (.invokevirtual 74, 3) := by decide +kernel
theorem dX12_against_78 : decode cX12_against 78 = .ok (.aload_n 0, 1) := by decide +kernel
theorem dX12_against_79 : decode cX12_against 79 = .ok (.getfield 13, 3) := by decide +kernel
theorem dX12_against_82 : decode cX12_against 82 = .ok (.iload_n 2, 1) := by decide +kernel
theorem dX12_against_83 : decode cX12_against 83 = .ok (.iaload, 1) := by decide +kernel
theorem dX12_against_84 : decode cX12_against 84 = .ok (.isub, 1) := by decide +kernel
theorem dX12_against_85 : decode cX12_against 85 = .ok (.ireturn, 1) := by decide +kernel
set_option maxRecDepth 20000 in
theorem ggX12_rankOfHand_X12_many : GoodIn wsX12_rankOfHand wsX12_many := goodIn_r _ [5, 6, 21, 22, 23, 24, 25, 26, 27, 28, 29, 30, 31, 32, 33, 34, 35, 36, 37, 38, 39, 40, 41, 42, 43, 44, 45, 46, 47, 48, 49, 50, 51, 52, 53, 54, 55, 56, 57, 58, 59, 60, 61] rfl (by decide +kernel)
set_option maxRecDepth 20000 in
theorem gX12_rankOfHand_X12_many : GoodIn wsX12_rankOfHand (wsV RX12 62 RX12 yX12_many wsX12_many) := goodIn_app (goodIn_r _ [1, 2, 3, 4] rfl (by decide +kernel)) ggX12_rankOfHand_X12_many
set_option maxRecDepth 20000 in
theorem ggX12_rankOfHand_X12_against : GoodIn wsX12_rankOfHand wsX12_against := goodIn_r _ [10, 11, 12, 13, 14, 15, 4, 16, 6, 17, 18, 19, 20, 21, 22, 23, 24, 25, 26, 27, 28, 29, 30, 31, 32, 33, 34, 35, 36, 37, 38, 39, 40, 41, 42, 43, 44, 45, 46, 47, 48, 49, 50, 51, 52, 53, 54, 55, 56, 57, 58, 59, 60, 61] rfl (by decide +kernel)
set_option maxRecDepth 20000 in
theorem gX12_rankOfHand_X12_against : GoodIn wsX12_rankOfHand (wsV RX12 77 RX12 yX12_against wsX12_against) := goodIn_app (goodIn_r _ [7, 8, 9, 4] rfl (by decide +kernel)) ggX12_rankOfHand_X12_against
theorem dX12_rankOfHand_0 : decode cX12_rankOfHand 0 = .ok (.iconst 0, 1) := by decide +kernel
theorem dX12_rankOfHand_1 : decode cX12_rankOfHand 1 = .ok (.istore_n 1, 1) := by decide +kernel
theorem dX12_rankOfHand_2 : decode cX12_rankOfHand 2 = .ok (.iload_n 1, 1) := by decide +kernel
theorem dX12_rankOfHand_3 : decode cX12_rankOfHand 3 = .ok (.aload_n 0, 1) := by decide +kernel
theorem dX12_rankOfHand_4 : decode cX12_rankOfHand 4 = .ok (.invokevirtual 62, 3) := by decide +kernel
theorem dX12_rankOfHand_7 : decode cX12_rankOfHand 7 = .ok (.if_icmp .ge 18, 3) := by decide +kernel
theorem dX12_rankOfHand_10 : decode cX12_rankOfHand 10 = .ok (.aload_n 0, 1) := by decide +kernel
theorem dX12_rankOfHand_11 : decode cX12_rankOfHand 11 = .ok (.iload_n 1, 1) := by decide +kernel
theorem dX12_rankOfHand_12 : decode cX12_rankOfHand 12 = .ok (.invokevirtual 77, 3) := by decide +kernel
theorem dX12_rankOfHand_15 : decode cX12_rankOfHand 15 = .ok (.ifCond .ge 10, 3) := by decide +kernel
theorem dX12_rankOfHand_18 : decode cX12_rankOfHand 18 = .ok (.iload_n 1, 1) := by decide +kernel
theorem dX12_rankOfHand_19 : decode cX12_rankOfHand 19 = .ok (.iconst 1, 1) := by decide +kernel
theorem dX12_rankOfHand_20 : decode cX12_rankOfHand 20 = .ok (.iadd, 1) := by decide +kernel
theorem dX12_rankOfHand_21 : decode cX12_rankOfHand 21 = .ok (.istore_n 1, 1) := by decide +kernel
theorem dX12_rankOfHand_22 : decode cX12_rankOfHand 22 = .ok (.goto (-20), 3) := by decide +kernel
theorem dX12_rankOfHand_25 : decode cX12_rankOfHand 25 = .ok (.iload_n 1, 1) := by decide +kernel
theorem dX12_rankOfHand_26 : decode cX12_rankOfHand 26 = .ok (.ireturn, 1) := by decide +kernel
set_option maxRecDepth 20000 in
theorem ggX12_isHandThere_X12_rankOfHand : GoodIn wsX12_isHandThere wsX12_rankOfHand := goodIn_r _ [5, 6, 7, 8, 4, 9, 10, 11, 12, 13, 14, 15, 16, 17, 18, 19, 20, 21, 22, 23, 24, 25, 26, 27, 28, 29, 30, 31, 32, 33, 34, 35, 36, 37, 38, 39, 40, 41, 42, 43, 44, 45, 46, 47, 48, 49, 50, 51, 52, 53, 54, 55, 56, 57, 58, 59, 60, 61, 62, 63, 64, 65] rfl (by decide +kernel)
set_option maxRecDepth 20000 in
theorem gX12_isHandThere_X12_rankOfHand : GoodIn wsX12_isHandThere (wsV RX12 81 RX12 yX12_rankOfHand wsX12_rankOfHand) := goodIn_app (goodIn_r _ [1, 2, 3, 4] rfl (by decide +kernel)) ggX12_isHandThere_X12_rankOfHand
set_option maxRecDepth 20000 in
theorem ggX12_isHandThere_X12_many : GoodIn wsX12_isHandThere wsX12_many := goodIn_r _ [9, 10, 25, 26, 27, 28, 29, 30, 31, 32, 33, 34, 35, 36, 37, 38, 39, 40, 41, 42, 43, 44, 45, 46, 47, 48, 49, 50, 51, 52, 53, 54, 55, 56, 57, 58, 59, 60, 61, 62, 63, 64, 65] rfl (by decide +kernel)
set_option maxRecDepth 20000 in
theorem gX12_isHandThere_X12_many : GoodIn wsX12_isHandThere (wsV RX12 62 RX12 yX12_many wsX12_many) := goodIn_app (goodIn_r _ [6, 7, 8, 4] rfl (by decide +kernel)) ggX12_isHandThere_X12_many
set_option maxRecDepth 20000 in
theorem ggX12_isHandThere_X12_against : GoodIn wsX12_isHandThere wsX12_against := goodIn_r _ [14, 15, 16, 17, 18, 19, 4, 20, 10, 21, 22, 23, 24, 25, 26, 27, 28, 29, 30, 31, 32, 33, 34, 35, 36, 37, 38, 39, 40, 41, 42, 43, 44, 45, 46, 47, 48, 49, 50, 51, 52, 53, 54, 55, 56, 57, 58, 59, 60, 61, 62, 63, 64, 65] rfl (by decide +kernel)
set_option maxRecDepth 20000 in
theorem gX12_isHandThere_X12_against : GoodIn wsX12_isHandThere (wsV RX12 77 RX12 yX12_against wsX12_against) := goodIn_app (goodIn_r _ [11, 12, 13, 4] rfl (by decide +kernel)) ggX12_isHandThere_X12_against
theorem dX12_isHandThere_0 : decode cX12_isHandThere 0 = .ok (.aload_n 0, 1) := by decide +kernel
theorem dX12_isHandThere_1 : decode cX12_isHandThere 1 = .ok (.invokevirtual 81, 3) := by decide +kernel
theorem dX12_isHandThere_4 : decode cX12_isHandThere 4 = .ok (.istore_n 1, 1) := by decide +kernel
theorem dX12_isHandThere_5 : decode cX12_isHandThere 5 = .ok (.iload_n 1, 1) := by decide +kernel
theorem dX12_isHandThere_6 : decode cX12_isHandThere 6 = .ok (.aload_n 0, 1) := by decide +kernel
theorem dX12_isHandThere_7 : decode cX12_isHandThere 7 = .ok (.invokevirtual 62, 3) := by decide +kernel
theorem dX12_isHandThere_10 : decode cX12_isHandThere 10 = .ok (.if_icmp .ge 15, 3) := by decide +kernel
theorem dX12_isHandThere_13 : decode cX12_isHandThere 13 = .ok (.aload_n 0, 1) := by decide +kernel
theorem dX12_isHandThere_14 : decode cX12_isHandThere 14 = .ok (.iload_n 1, 1) := by decide +kernel
theorem dX12_isHandThere_15 : decode cX12_isHandThere 15 = .ok (.invokevirtual 77, 3) := by decide +kernel
theorem dX12_isHandThere_18 : decode cX12_isHandThere 18 = .ok (.ifCond .ne 7, 3) := by decide +kernel
theorem dX12_isHandThere_21 : decode cX12_isHandThere 21 = .ok (.iconst 1, 1) := by decide +kernel
theorem dX12_isHandThere_22 : decode cX12_isHandThere 22 = .ok (.goto 4, 3) := by decide +kernel
theorem dX12_isHandThere_25 : decode cX12_isHandThere 25 = .ok (.iconst 0, 1) := by decide +kernel
theorem dX12_isHandThere_26 : decode cX12_isHandThere 26 = .ok (.ireturn, 1) := by decide +kernel
set_option maxRecDepth 20000 in
theorem ggX12_goesOn_X12_of : GoodIn wsX12_goesOn wsX12_of := goodIn_r _ [7, 8, 13, 14, 15, 16, 17, 18, 19, 20, 21, 22, 23, 24, 25, 26, 27, 28, 29, 30, 31, 32, 33, 34, 35, 36, 37, 38, 39, 40, 41, 42, 43, 44, 45, 46, 47, 48, 49, 50, 51, 52, 53] rfl (by decide +kernel)
set_option maxRecDepth 20000 in
theorem gX12_goesOn_X12_of : GoodIn wsX12_goesOn (wsV RX12 50 RX12 yX12_of wsX12_of) := goodIn_app (goodIn_r _ [3, 4, 5, 6] rfl (by decide +kernel)) ggX12_goesOn_X12_of
set_option maxRecDepth 20000 in
theorem ggX12_goesOn_X12_byteOf : GoodIn wsX12_goesOn wsX12_byteOf := goodIn_r _ [12, 8, 13, 14, 15, 16, 17, 18, 19, 20, 21, 22, 23, 24, 25, 26, 27, 28, 29, 30, 31, 32, 33, 34, 35, 36, 37, 38, 39, 40, 41, 42, 43, 44, 45, 46, 47, 48, 49, 50, 51, 52, 53] rfl (by decide +kernel)
set_option maxRecDepth 20000 in
theorem gX12_goesOn_X12_byteOf : GoodIn wsX12_goesOn (wsV RX12 74 RX12 yX12_byteOf wsX12_byteOf) := goodIn_app (goodIn_r _ [9, 10, 11, 6] rfl (by decide +kernel)) ggX12_goesOn_X12_byteOf
theorem dX12_goesOn_0 : decode cX12_goesOn 0 = .ok (.aload_n 0, 1) := by decide +kernel
theorem dX12_goesOn_1 : decode cX12_goesOn 1 = .ok (.iload_n 1, 1) := by decide +kernel
theorem dX12_goesOn_2 : decode cX12_goesOn 2 = .ok (.iconst 0, 1) := by decide +kernel
theorem dX12_goesOn_3 : decode cX12_goesOn 3 = .ok (.invokevirtual 50, 3) := by decide +kernel
theorem dX12_goesOn_6 : decode cX12_goesOn 6 = .ok (.iload_n 2, 1) := by decide +kernel
theorem dX12_goesOn_7 : decode cX12_goesOn 7 = .ok (.if_icmp .le 11, 3) := by decide +kernel
theorem dX12_goesOn_10 : decode cX12_goesOn 10 = .ok (.aload_n 0, 1) := by decide +kernel
theorem dX12_goesOn_11 : decode cX12_goesOn 11 = .ok (.getfield 70, 3) := by decide +kernel
theorem dX12_goesOn_14 : decode cX12_goesOn 14 = .ok (.iload_n 2, 1) := by decide +kernel
theorem dX12_goesOn_15 : decode cX12_goesOn 15 = .ok (.if_icmp .ge 5, 3) := by decide +kernel
theorem dX12_goesOn_18 : decode cX12_goesOn 18 = .ok (.iconst 0, 1) := by decide +kernel
theorem dX12_goesOn_19 : decode cX12_goesOn 19 = .ok (.ireturn, 1) := by decide +kernel
theorem dX12_goesOn_20 : decode cX12_goesOn 20 = .ok (.iconst 0, 1) := by decide +kernel
theorem dX12_goesOn_21 : decode cX12_goesOn 21 = .ok (.istore_n 3, 1) := by decide +kernel
theorem dX12_goesOn_22 : decode cX12_goesOn 22 = .ok (.iload_n 3, 1) := by decide +kernel
theorem dX12_goesOn_23 : decode cX12_goesOn 23 = .ok (.iload_n 2, 1) := by decide +kernel
theorem dX12_goesOn_24 : decode cX12_goesOn 24 = .ok (.if_icmp .ge 26, 3) := by decide +kernel
theorem dX12_goesOn_27 : decode cX12_goesOn 27 = .ok (.aload_n 0, 1) := by decide +kernel
theorem dX12_goesOn_28 : decode cX12_goesOn 28 = .ok (.iload_n 1, 1) := by decide +kernel
theorem dX12_goesOn_29 : decode cX12_goesOn 29 = .ok (.iload_n 3, 1) := by decide +kernel
theorem dX12_goesOn_30 : decode cX12_goesOn 30 = .ok (.invokevirtual 74, 3) := by decide +kernel
theorem dX12_goesOn_33 : decode cX12_goesOn 33 = .ok (.aload_n 0, 1) := by decide +kernel
theorem dX12_goesOn_34 : decode cX12_goesOn 34 = .ok (.getfield 13, 3) := by decide +kernel
theorem dX12_goesOn_37 : decode cX12_goesOn 37 = .ok (.iload_n 3, 1) := by decide +kernel
theorem dX12_goesOn_38 : decode cX12_goesOn 38 = .ok (.iaload, 1) := by decide +kernel
theorem dX12_goesOn_39 : decode cX12_goesOn 39 = .ok (.if_icmp .eq 5, 3) := by decide +kernel
theorem dX12_goesOn_42 : decode cX12_goesOn 42 = .ok (.iconst 0, 1) := by decide +kernel
theorem dX12_goesOn_43 : decode cX12_goesOn 43 = .ok (.ireturn, 1) := by decide +kernel
theorem dX12_goesOn_44 : decode cX12_goesOn 44 = .ok (.iinc 3 1, 3) := by decide +kernel
theorem dX12_goesOn_47 : decode cX12_goesOn 47 = .ok (.goto (-25), 3) := by decide +kernel
theorem dX12_goesOn_50 : decode cX12_goesOn 50 = .ok (.iconst 1, 1) := by decide +kernel
theorem dX12_goesOn_51 : decode cX12_goesOn 51 = .ok (.ireturn, 1) := by decide +kernel
set_option maxRecDepth 20000 in
theorem ggX12_takesHand_X12_of : GoodIn wsX12_takesHand wsX12_of := goodIn_r _ [7, 8, 13, 14, 15, 16, 17, 18, 19, 20, 21, 22, 23, 24, 25, 26, 27, 28, 29, 30, 31, 32, 33, 34, 35, 36, 37, 38, 39, 40, 41, 42, 43, 44, 45, 46, 47, 48, 49, 50, 51, 52, 53] rfl (by decide +kernel)
set_option maxRecDepth 20000 in
theorem gX12_takesHand_X12_of : GoodIn wsX12_takesHand (wsV RX12 50 RX12 yX12_of wsX12_of) := goodIn_app (goodIn_r _ [3, 4, 5, 6] rfl (by decide +kernel)) ggX12_takesHand_X12_of
set_option maxRecDepth 20000 in
theorem ggX12_takesHand_X12_byteOf : GoodIn wsX12_takesHand wsX12_byteOf := goodIn_r _ [12, 8, 13, 14, 15, 16, 17, 18, 19, 20, 21, 22, 23, 24, 25, 26, 27, 28, 29, 30, 31, 32, 33, 34, 35, 36, 37, 38, 39, 40, 41, 42, 43, 44, 45, 46, 47, 48, 49, 50, 51, 52, 53] rfl (by decide +kernel)
set_option maxRecDepth 20000 in
theorem gX12_takesHand_X12_byteOf : GoodIn wsX12_takesHand (wsV RX12 74 RX12 yX12_byteOf wsX12_byteOf) := goodIn_app (goodIn_r _ [9, 10, 11, 6] rfl (by decide +kernel)) ggX12_takesHand_X12_byteOf
theorem dX12_takesHand_0 : decode cX12_takesHand 0 = .ok (.aload_n 0, 1) := by decide +kernel
theorem dX12_takesHand_1 : decode cX12_takesHand 1 = .ok (.aload_n 0, 1) := by decide +kernel
theorem dX12_takesHand_2 : decode cX12_takesHand 2 = .ok (.iload_n 1, 1) := by decide +kernel
theorem dX12_takesHand_3 : decode cX12_takesHand 3 = .ok (.iconst 0, 1) := by decide +kernel
theorem dX12_takesHand_4 : decode cX12_takesHand 4 = .ok (.invokevirtual 50, 3) := by decide +kernel
theorem dX12_takesHand_7 : decode cX12_takesHand 7 = .ok (.putfield 70, 3) := by decide +kernel
theorem dX12_takesHand_10 : decode cX12_takesHand 10 = .ok (.iconst 0, 1) := by decide +kernel
theorem dX12_takesHand_11 : decode cX12_takesHand 11 = .ok (.istore_n 2, 1) := by decide +kernel
theorem dX12_takesHand_12 : decode cX12_takesHand 12 = .ok (.iload_n 2, 1) := by decide +kernel
theorem dX12_takesHand_13 : decode cX12_takesHand 13 = .ok (.aload_n 0, 1) := by decide +kernel
theorem dX12_takesHand_14 : decode cX12_takesHand 14 = .ok (.getfield 70, 3) := by decide +kernel
theorem dX12_takesHand_17 : decode cX12_takesHand 17 = .ok (.if_icmp .ge 21, 3) := by decide +kernel
theorem dX12_takesHand_20 : decode cX12_takesHand 20 = .ok (.aload_n 0, 1) := by decide +kernel
theorem dX12_takesHand_21 : decode cX12_takesHand 21 = .ok (.getfield 13, 3) := by decide +kernel
theorem dX12_takesHand_24 : decode cX12_takesHand 24 = .ok (.iload_n 2, 1) := by decide +kernel
theorem dX12_takesHand_25 : decode cX12_takesHand 25 = .ok (.aload_n 0, 1) := by decide +kernel
theorem dX12_takesHand_26 : decode cX12_takesHand 26 = .ok (.iload_n 1, 1) := by decide +kernel
theorem dX12_takesHand_27 : decode cX12_takesHand 27 = .ok (.iload_n 2, 1) := by decide +kernel
theorem dX12_takesHand_28 : decode cX12_takesHand 28 = .ok (.invokevirtual 74, 3) := by decide +kernel
theorem dX12_takesHand_31 : decode cX12_takesHand 31 = .ok (.iastore, 1) := by decide +kernel
theorem dX12_takesHand_32 : decode cX12_takesHand 32 = .ok (.iinc 2 1, 3) := by decide +kernel
theorem dX12_takesHand_35 : decode cX12_takesHand 35 = .ok (.goto (-23), 3) := by decide +kernel
theorem dX12_takesHand_38 : decode cX12_takesHand 38 = .ok (.return_, 1) := by decide +kernel
set_option maxRecDepth 20000 in
theorem ggX12_findsRange_X12_many : GoodIn wsX12_findsRange wsX12_many := goodIn_r _ [7, 8, 23, 24, 25, 26, 27, 28, 29, 30, 31, 32, 33, 34, 35, 36, 37, 38, 39, 40, 41, 42, 43, 44, 45, 46, 47, 48, 49, 50, 51, 52, 53, 54, 55, 56, 57, 58, 59, 60, 61, 62, 63] rfl (by decide +kernel)
set_option maxRecDepth 20000 in
theorem gX12_findsRange_X12_many : GoodIn wsX12_findsRange (wsV RX12 62 RX12 yX12_many wsX12_many) := goodIn_app (goodIn_r _ [3, 4, 5, 6] rfl (by decide +kernel)) ggX12_findsRange_X12_many
set_option maxRecDepth 20000 in
theorem ggX12_findsRange_X12_goesOn : GoodIn wsX12_findsRange wsX12_goesOn := goodIn_r _ [12, 13, 14, 15, 16, 17, 6, 18, 8, 19, 20, 21, 22, 23, 24, 25, 26, 27, 28, 29, 30, 31, 32, 33, 34, 35, 36, 37, 38, 39, 40, 41, 42, 43, 44, 45, 46, 47, 48, 49, 50, 51, 52, 53, 54, 55, 56, 57, 58, 59, 60, 61, 62, 63] rfl (by decide +kernel)
set_option maxRecDepth 20000 in
theorem gX12_findsRange_X12_goesOn : GoodIn wsX12_findsRange (wsV RX12 87 RX12 yX12_goesOn wsX12_goesOn) := goodIn_app (goodIn_r _ [9, 10, 11, 6] rfl (by decide +kernel)) ggX12_findsRange_X12_goesOn
theorem dX12_findsRange_0 : decode cX12_findsRange 0 = .ok (.aload_n 0, 1) := by decide +kernel
theorem dX12_findsRange_1 : decode cX12_findsRange 1 = .ok (.iconst 0, 1) := by decide +kernel
theorem dX12_findsRange_2 : decode cX12_findsRange 2 = .ok (.putfield 84, 3) := by decide +kernel
theorem dX12_findsRange_5 : decode cX12_findsRange 5 = .ok (.aload_n 0, 1) := by decide +kernel
theorem dX12_findsRange_6 : decode cX12_findsRange 6 = .ok (.getfield 84, 3) := by decide +kernel
theorem dX12_findsRange_9 : decode cX12_findsRange 9 = .ok (.aload_n 0, 1) := by decide +kernel
theorem dX12_findsRange_10 : decode cX12_findsRange 10 = .ok (.invokevirtual 62, 3) := by decide +kernel
theorem dX12_findsRange_13 : decode cX12_findsRange 13 = .ok (.if_icmp .ge 28, 3) := by decide +kernel
theorem dX12_findsRange_16 : decode cX12_findsRange 16 = .ok (.aload_n 0, 1) := by decide +kernel
theorem dX12_findsRange_17 : decode cX12_findsRange 17 = .ok (.aload_n 0, 1) := by decide +kernel
theorem dX12_findsRange_18 : decode cX12_findsRange 18 = .ok (.getfield 84, 3) := by decide +kernel
theorem dX12_findsRange_21 : decode cX12_findsRange 21 = .ok (.iload_n 1, 1) := by decide +kernel
theorem dX12_findsRange_22 : decode cX12_findsRange 22 = .ok (.invokevirtual 87, 3) := by decide +kernel
theorem dX12_findsRange_25 : decode cX12_findsRange 25 = .ok (.ifCond .ne 16, 3) := by decide +kernel
theorem dX12_findsRange_28 : decode cX12_findsRange 28 = .ok (.aload_n 0, 1) := by decide +kernel
theorem dX12_findsRange_29 : decode cX12_findsRange 29 = .ok (.aload_n 0, 1) := by decide +kernel
theorem dX12_findsRange_30 : decode cX12_findsRange 30 = .ok (.getfield 84, 3) := by decide +kernel
theorem dX12_findsRange_33 : decode cX12_findsRange 33 = .ok (.iconst 1, 1) := by decide +kernel
theorem dX12_findsRange_34 : decode cX12_findsRange 34 = .ok (.iadd, 1) := by decide +kernel
theorem dX12_findsRange_35 : decode cX12_findsRange 35 = .ok (.putfield 84, 3) := by decide +kernel
theorem dX12_findsRange_38 : decode cX12_findsRange 38 = .ok (.goto (-33), 3) := by decide +kernel
theorem dX12_findsRange_41 : decode cX12_findsRange 41 = .ok (.aload_n 0, 1) := by decide +kernel
theorem dX12_findsRange_42 : decode cX12_findsRange 42 = .ok (.aload_n 0, 1) := by decide +kernel
theorem dX12_findsRange_43 : decode cX12_findsRange 43 = .ok (.getfield 84, 3) := by decide +kernel
theorem dX12_findsRange_46 : decode cX12_findsRange 46 = .ok (.putfield 90, 3) := by decide +kernel
theorem dX12_findsRange_49 : decode cX12_findsRange 49 = .ok (.aload_n 0, 1) := by decide +kernel
theorem dX12_findsRange_50 : decode cX12_findsRange 50 = .ok (.getfield 90, 3) := by decide +kernel
theorem dX12_findsRange_53 : decode cX12_findsRange 53 = .ok (.aload_n 0, 1) := by decide +kernel
theorem dX12_findsRange_54 : decode cX12_findsRange 54 = .ok (.invokevirtual 62, 3) := by decide +kernel
theorem dX12_findsRange_57 : decode cX12_findsRange 57 = .ok (.if_icmp .ge 28, 3) := by decide +kernel
theorem dX12_findsRange_60 : decode cX12_findsRange 60 = .ok (.aload_n 0, 1) := by decide +kernel
theorem dX12_findsRange_61 : decode cX12_findsRange 61 = .ok (.aload_n 0, 1) := by decide +kernel
theorem dX12_findsRange_62 : decode cX12_findsRange 62 = .ok (.getfield 90, 3) := by decide +kernel
theorem dX12_findsRange_65 : decode cX12_findsRange 65 = .ok (.iload_n 1, 1) := by decide +kernel
theorem dX12_findsRange_66 : decode cX12_findsRange 66 = .ok (.invokevirtual 87, 3) := by decide +kernel
theorem dX12_findsRange_69 : decode cX12_findsRange 69 = .ok (.ifCond .eq 16, 3) := by decide +kernel
theorem dX12_findsRange_72 : decode cX12_findsRange 72 = .ok (.aload_n 0, 1) := by decide +kernel
theorem dX12_findsRange_73 : decode cX12_findsRange 73 = .ok (.aload_n 0, 1) := by decide +kernel
theorem dX12_findsRange_74 : decode cX12_findsRange 74 = .ok (.getfield 90, 3) := by decide +kernel
theorem dX12_findsRange_77 : decode cX12_findsRange 77 = .ok (.iconst 1, 1) := by decide +kernel
theorem dX12_findsRange_78 : decode cX12_findsRange 78 = .ok (.iadd, 1) := by decide +kernel
theorem dX12_findsRange_79 : decode cX12_findsRange 79 = .ok (.putfield 90, 3) := by decide +kernel
theorem dX12_findsRange_82 : decode cX12_findsRange 82 = .ok (.goto (-33), 3) := by decide +kernel
theorem dX12_findsRange_85 : decode cX12_findsRange 85 = .ok (.return_, 1) := by decide +kernel
set_option maxRecDepth 20000 in
theorem ggX12_areOne_X12_of : GoodIn wsX12_areOne wsX12_of := goodIn_r _ [5, 6, 11, 12, 13, 14, 15, 16, 17, 18, 19, 20, 21, 22, 23, 24, 25, 26, 27, 28, 29, 30, 31, 32, 33, 34, 35, 36, 37, 38, 39, 40, 41, 42, 43, 44, 45, 46, 47, 48, 49, 50, 51] rfl (by decide +kernel)
set_option maxRecDepth 20000 in
theorem gX12_areOne_X12_of : GoodIn wsX12_areOne (wsV RX12 50 RX12 yX12_of wsX12_of) := goodIn_app (goodIn_r _ [1, 2, 3, 4] rfl (by decide +kernel)) ggX12_areOne_X12_of
set_option maxRecDepth 20000 in
theorem ggX12_areOne_X12_byteOf : GoodIn wsX12_areOne wsX12_byteOf := goodIn_r _ [10, 6, 11, 12, 13, 14, 15, 16, 17, 18, 19, 20, 21, 22, 23, 24, 25, 26, 27, 28, 29, 30, 31, 32, 33, 34, 35, 36, 37, 38, 39, 40, 41, 42, 43, 44, 45, 46, 47, 48, 49, 50, 51] rfl (by decide +kernel)
set_option maxRecDepth 20000 in
theorem gX12_areOne_X12_byteOf : GoodIn wsX12_areOne (wsV RX12 74 RX12 yX12_byteOf wsX12_byteOf) := goodIn_app (goodIn_r _ [7, 8, 9, 4] rfl (by decide +kernel)) ggX12_areOne_X12_byteOf
theorem dX12_areOne_0 : decode cX12_areOne 0 = .ok (.aload_n 0, 1) := by decide +kernel
theorem dX12_areOne_1 : decode cX12_areOne 1 = .ok (.iload_n 1, 1) := by decide +kernel
theorem dX12_areOne_2 : decode cX12_areOne 2 = .ok (.iconst 0, 1) := by decide +kernel
theorem dX12_areOne_3 : decode cX12_areOne 3 = .ok (.invokevirtual 50, 3) := by decide +kernel
theorem dX12_areOne_6 : decode cX12_areOne 6 = .ok (.iload_n 3, 1) := by decide +kernel
theorem dX12_areOne_7 : decode cX12_areOne 7 = .ok (.if_icmp .le 13, 3) := by decide +kernel
theorem dX12_areOne_10 : decode cX12_areOne 10 = .ok (.aload_n 0, 1) := by decide +kernel
theorem dX12_areOne_11 : decode cX12_areOne 11 = .ok (.iload_n 2, 1) := by decide +kernel
theorem dX12_areOne_12 : decode cX12_areOne 12 = .ok (.iconst 0, 1) := by decide +kernel
theorem dX12_areOne_13 : decode cX12_areOne 13 = .ok (.invokevirtual 50, 3) := by decide +kernel
theorem dX12_areOne_16 : decode cX12_areOne 16 = .ok (.iload_n 3, 1) := by decide +kernel
theorem dX12_areOne_17 : decode cX12_areOne 17 = .ok (.if_icmp .gt 5, 3) := by decide +kernel
theorem dX12_areOne_20 : decode cX12_areOne 20 = .ok (.iconst 0, 1) := by decide +kernel
theorem dX12_areOne_21 : decode cX12_areOne 21 = .ok (.ireturn, 1) := by decide +kernel
theorem dX12_areOne_22 : decode cX12_areOne 22 = .ok (.iconst 0, 1) := by decide +kernel
theorem dX12_areOne_23 : decode cX12_areOne 23 = .ok (.istore 4, 2) := by decide +kernel
theorem dX12_areOne_25 : decode cX12_areOne 25 = .ok (.iload 4, 2) := by decide +kernel
theorem dX12_areOne_27 : decode cX12_areOne 27 = .ok (.iload_n 3, 1) := by decide +kernel
theorem dX12_areOne_28 : decode cX12_areOne 28 = .ok (.if_icmp .ge 28, 3) := by decide +kernel
theorem dX12_areOne_31 : decode cX12_areOne 31 = .ok (.aload_n 0, 1) := by decide +kernel
theorem dX12_areOne_32 : decode cX12_areOne 32 = .ok (.iload_n 1, 1) := by decide +kernel
theorem dX12_areOne_33 : decode cX12_areOne 33 = .ok (.iload 4, 2) := by decide +kernel
theorem dX12_areOne_35 : decode cX12_areOne 35 = .ok (.invokevirtual 74, 3) := by decide +kernel
theorem dX12_areOne_38 : decode cX12_areOne 38 = .ok (.aload_n 0, 1) := by decide +kernel
theorem dX12_areOne_39 : decode cX12_areOne 39 = .ok (.iload_n 2, 1) := by decide +kernel
theorem dX12_areOne_40 : decode cX12_areOne 40 = .ok (.iload 4, 2) := by decide +kernel
theorem dX12_areOne_42 : decode cX12_areOne 42 = .ok (.invokevirtual 74, 3) := by decide +kernel
theorem dX12_areOne_45 : decode cX12_areOne 45 = .ok (.if_icmp .eq 5, 3) := by decide +kernel
theorem dX12_areOne_48 : decode cX12_areOne 48 = .ok (.iconst 0, 1) := by decide +kernel
theorem dX12_areOne_49 : decode cX12_areOne 49 = .ok (.ireturn, 1) := by decide +kernel
theorem dX12_areOne_50 : decode cX12_areOne 50 = .ok (.iinc 4 1, 3) := by decide +kernel
theorem dX12_areOne_53 : decode cX12_areOne 53 = .ok (.goto (-28), 3) := by decide +kernel
theorem dX12_areOne_56 : decode cX12_areOne 56 = .ok (.iconst 1, 1) := by decide +kernel
theorem dX12_areOne_57 : decode cX12_areOne 57 = .ok (.ireturn, 1) := by decide +kernel
set_option maxRecDepth 20000 in
theorem ggX12_findsEntries_X12_findsRange : GoodIn wsX12_findsEntries wsX12_findsRange := goodIn_r _ [11, 3, 4, 12, 13, 14, 10, 15, 1, 16, 17, 18, 19, 20, 21, 22, 23, 24, 25, 26, 27, 28, 29, 34, 35, 36, 37, 38, 39, 40, 41, 42, 43, 44, 45, 46, 47, 48, 49, 50, 51, 52, 53, 54, 55, 56, 57, 58, 59, 60, 61, 62, 63, 64, 65, 66, 67, 68, 69, 70, 71, 72, 73, 74] rfl (by decide +kernel)
set_option maxRecDepth 20000 in
theorem gX12_findsEntries_X12_findsRange : GoodIn wsX12_findsEntries (wsV RX12 93 RX12 yX12_findsRange wsX12_findsRange) := goodIn_app (goodIn_r _ [7, 8, 9, 10] rfl (by decide +kernel)) ggX12_findsEntries_X12_findsRange
set_option maxRecDepth 20000 in
theorem ggX12_findsEntries_X12_areOne : GoodIn wsX12_findsEntries wsX12_areOne := goodIn_r _ [33, 22, 23, 24, 10, 25, 1, 26, 27, 28, 29, 34, 35, 36, 37, 38, 39, 40, 41, 42, 43, 44, 45, 46, 47, 48, 49, 50, 51, 52, 53, 54, 55, 56, 57, 58, 59, 60, 61, 62, 63, 64, 65, 66, 67, 68, 69, 70, 71, 72, 73, 74] rfl (by decide +kernel)
set_option maxRecDepth 20000 in
theorem gX12_findsEntries_X12_areOne : GoodIn wsX12_findsEntries (wsV RX12 100 RX12 yX12_areOne wsX12_areOne) := goodIn_app (goodIn_r _ [30, 31, 32, 10] rfl (by decide +kernel)) ggX12_findsEntries_X12_areOne
set_option maxRecDepth 20000 in
theorem ggX12_findsEntries_X12_of : GoodIn wsX12_findsEntries wsX12_of := goodIn_r _ [25, 1, 34, 35, 36, 37, 38, 39, 40, 41, 42, 43, 44, 45, 46, 47, 48, 49, 50, 51, 52, 53, 54, 55, 56, 57, 58, 59, 60, 61, 62, 63, 64, 65, 66, 67, 68, 69, 70, 71, 72, 73, 74] rfl (by decide +kernel)
set_option maxRecDepth 20000 in
theorem gX12_findsEntries_X12_of : GoodIn wsX12_findsEntries (wsV RX12 50 RX12 yX12_of wsX12_of) := goodIn_app (goodIn_r _ [22, 23, 24, 10] rfl (by decide +kernel)) ggX12_findsEntries_X12_of
theorem dX12_findsEntries_0 : decode cX12_findsEntries 0 = .ok (.aload_n 0, 1) := by decide +kernel
theorem dX12_findsEntries_1 : decode cX12_findsEntries 1 = .ok (.iload_n 1, 1) := by decide +kernel
theorem dX12_findsEntries_2 : decode cX12_findsEntries 2 = .ok (.aload_n 0, 1) := by decide +kernel
theorem dX12_findsEntries_3 : decode cX12_findsEntries 3 = .ok (.getfield 7, 3) := by decide +kernel
theorem dX12_findsEntries_6 : decode cX12_findsEntries 6 = .ok (.iconst 1, 1) := by decide +kernel
theorem dX12_findsEntries_7 : decode cX12_findsEntries 7 = .ok (.iaload, 1) := by decide +kernel
theorem dX12_findsEntries_8 : decode cX12_findsEntries 8 = .ok (.imul, 1) := by decide +kernel
theorem dX12_findsEntries_9 : decode cX12_findsEntries 9 = .ok (.invokevirtual 93, 3) := by decide +kernel
theorem dX12_findsEntries_12 : decode cX12_findsEntries 12 = .ok (.iload_n 1, 1) := by decide +kernel
theorem dX12_findsEntries_13 : decode cX12_findsEntries 13 = .ok (.iconst 1, 1) := by decide +kernel
theorem dX12_findsEntries_14 : decode cX12_findsEntries 14 = .ok (.iadd, 1) := by decide +kernel
theorem dX12_findsEntries_15 : decode cX12_findsEntries 15 = .ok (.aload_n 0, 1) := by decide +kernel
theorem dX12_findsEntries_16 : decode cX12_findsEntries 16 = .ok (.getfield 7, 3) := by decide +kernel
theorem dX12_findsEntries_19 : decode cX12_findsEntries 19 = .ok (.iconst 1, 1) := by decide +kernel
theorem dX12_findsEntries_20 : decode cX12_findsEntries 20 = .ok (.iaload, 1) := by decide +kernel
theorem dX12_findsEntries_21 : decode cX12_findsEntries 21 = .ok (.imul, 1) := by decide +kernel
theorem dX12_findsEntries_22 : decode cX12_findsEntries 22 = .ok (.istore_n 2, 1) := by decide +kernel
theorem dX12_findsEntries_23 : decode cX12_findsEntries 23 = .ok (.aload_n 0, 1) := by decide +kernel
theorem dX12_findsEntries_24 : decode cX12_findsEntries 24 = .ok (.iconst 0, 1) := by decide +kernel
theorem dX12_findsEntries_25 : decode cX12_findsEntries 25 = .ok (.putfield 97, 3) := by decide +kernel
theorem dX12_findsEntries_28 : decode cX12_findsEntries 28 = .ok (.aload_n 0, 1) := by decide +kernel
theorem dX12_findsEntries_29 : decode cX12_findsEntries 29 = .ok (.getfield 84, 3) := by decide +kernel
theorem dX12_findsEntries_32 : decode cX12_findsEntries 32 = .ok (.istore_n 3, 1) := by decide +kernel
theorem dX12_findsEntries_33 : decode cX12_findsEntries 33 = .ok (.iload_n 3, 1) := by decide +kernel
theorem dX12_findsEntries_34 : decode cX12_findsEntries 34 = .ok (.aload_n 0, 1) := by decide +kernel
theorem dX12_findsEntries_35 : decode cX12_findsEntries 35 = .ok (.getfield 90, 3) := by decide +kernel
theorem dX12_findsEntries_38 : decode cX12_findsEntries 38 = .ok (.if_icmp .ge 88, 3) := by decide +kernel
theorem dX12_findsEntries_41 : decode cX12_findsEntries 41 = .ok (.iload_n 3, 1) := by decide +kernel
theorem dX12_findsEntries_42 : decode cX12_findsEntries 42 = .ok (.aload_n 0, 1) := by decide +kernel
theorem dX12_findsEntries_43 : decode cX12_findsEntries 43 = .ok (.getfield 84, 3) := by decide +kernel
theorem dX12_findsEntries_46 : decode cX12_findsEntries 46 = .ok (.if_icmp .le 30, 3) := by decide +kernel
theorem dX12_findsEntries_49 : decode cX12_findsEntries 49 = .ok (.aload_n 0, 1) := by decide +kernel
theorem dX12_findsEntries_50 : decode cX12_findsEntries 50 = .ok (.iload_n 3, 1) := by decide +kernel
theorem dX12_findsEntries_51 : decode cX12_findsEntries 51 = .ok (.iconst 1, 1) := by decide +kernel
theorem dX12_findsEntries_52 : decode cX12_findsEntries 52 = .ok (.isub, 1) := by decide +kernel
theorem dX12_findsEntries_53 : decode cX12_findsEntries 53 = .ok (.iload_n 3, 1) := by decide +kernel
theorem dX12_findsEntries_54 : decode cX12_findsEntries 54 = .ok (.iload_n 2, 1) := by decide +kernel
theorem dX12_findsEntries_55 : decode cX12_findsEntries 55 = .ok (.invokevirtual 100, 3) := by decide +kernel
theorem dX12_findsEntries_58 : decode cX12_findsEntries 58 = .ok (.ifCond .eq 18, 3) := by decide +kernel
theorem dX12_findsEntries_61 : decode cX12_findsEntries 61 = .ok (.aload_n 0, 1) := by decide +kernel
theorem dX12_findsEntries_62 : decode cX12_findsEntries 62 = .ok (.getfield 19, 3) := by decide +kernel
theorem dX12_findsEntries_65 : decode cX12_findsEntries 65 = .ok (.aload_n 0, 1) := by decide +kernel
theorem dX12_findsEntries_66 : decode cX12_findsEntries 66 = .ok (.getfield 97, 3) := by decide +kernel
theorem dX12_findsEntries_69 : decode cX12_findsEntries 69 = .ok (.iconst 1, 1) := by decide +kernel
theorem dX12_findsEntries_70 : decode cX12_findsEntries 70 = .ok (.isub, 1) := by decide +kernel
theorem dX12_findsEntries_71 : decode cX12_findsEntries 71 = .ok (.iconst 2, 1) := by decide +kernel
theorem dX12_findsEntries_72 : decode cX12_findsEntries 72 = .ok (.iastore, 1) := by decide +kernel
theorem dX12_findsEntries_73 : decode cX12_findsEntries 73 = .ok (.goto 47, 3) := by decide +kernel
theorem dX12_findsEntries_76 : decode cX12_findsEntries 76 = .ok (.aload_n 0, 1) := by decide +kernel
theorem dX12_findsEntries_77 : decode cX12_findsEntries 77 = .ok (.getfield 16, 3) := by decide +kernel
theorem dX12_findsEntries_80 : decode cX12_findsEntries 80 = .ok (.aload_n 0, 1) := by decide +kernel
theorem dX12_findsEntries_81 : decode cX12_findsEntries 81 = .ok (.getfield 97, 3) := by decide +kernel
theorem dX12_findsEntries_84 : decode cX12_findsEntries 84 = .ok (.iload_n 3, 1) := by decide +kernel
theorem dX12_findsEntries_85 : decode cX12_findsEntries 85 = .ok (.iastore, 1) := by decide +kernel
theorem dX12_findsEntries_86 : decode cX12_findsEntries 86 = .ok (.aload_n 0, 1) := by decide +kernel
theorem dX12_findsEntries_87 : decode cX12_findsEntries 87 = .ok (.getfield 19, 3) := by decide +kernel
theorem dX12_findsEntries_90 : decode cX12_findsEntries 90 = .ok (.aload_n 0, 1) := by decide +kernel
theorem dX12_findsEntries_91 : decode cX12_findsEntries 91 = .ok (.getfield 97, 3) := by decide +kernel
theorem dX12_findsEntries_94 : decode cX12_findsEntries 94 = .ok (.aload_n 0, 1) := by decide +kernel
theorem dX12_findsEntries_95 : decode cX12_findsEntries 95 = .ok (.iload_n 3, 1) := by decide +kernel
theorem dX12_findsEntries_96 : decode cX12_findsEntries 96 = .ok (.iconst 0, 1) := by decide +kernel
theorem dX12_findsEntries_97 : decode cX12_findsEntries 97 = .ok (.invokevirtual 50, 3) := by decide +kernel
theorem dX12_findsEntries_100 : decode cX12_findsEntries 100 = .ok (.iload_n 2, 1) := by decide +kernel
theorem dX12_findsEntries_101 : decode cX12_findsEntries 101 = .ok (.if_icmp .le 7, 3) := by decide +kernel
theorem dX12_findsEntries_104 : decode cX12_findsEntries 104 = .ok (.iconst 1, 1) := by decide +kernel
theorem dX12_findsEntries_105 : decode cX12_findsEntries 105 = .ok (.goto 4, 3) := by decide +kernel
theorem dX12_findsEntries_108 : decode cX12_findsEntries 108 = .ok (.iconst 0, 1) := by decide +kernel
theorem dX12_findsEntries_109 : decode cX12_findsEntries 109 = .ok (.iastore, 1) := by decide +kernel
theorem dX12_findsEntries_110 : decode cX12_findsEntries 110 = .ok (.aload_n 0, 1) := by decide +kernel
theorem dX12_findsEntries_111 : decode cX12_findsEntries 111 = .ok (.aload_n 0, 1) := by decide +kernel
theorem dX12_findsEntries_112 : decode cX12_findsEntries 112 = .ok (.getfield 97, 3) := by decide +kernel
theorem dX12_findsEntries_115 : decode cX12_findsEntries 115 = .ok (.iconst 1, 1) := by decide +kernel
theorem dX12_findsEntries_116 : decode cX12_findsEntries 116 = .ok (.iadd, 1) := by decide +kernel
theorem dX12_findsEntries_117 : decode cX12_findsEntries 117 = .ok (.putfield 97, 3) := by decide +kernel
theorem dX12_findsEntries_120 : decode cX12_findsEntries 120 = .ok (.iinc 3 1, 3) := by decide +kernel
theorem dX12_findsEntries_123 : decode cX12_findsEntries 123 = .ok (.goto (-90), 3) := by decide +kernel
theorem dX12_findsEntries_126 : decode cX12_findsEntries 126 = .ok (.aload_n 0, 1) := by decide +kernel
theorem dX12_findsEntries_127 : decode cX12_findsEntries 127 = .ok (.getfield 16, 3) := by decide +kernel
theorem dX12_findsEntries_130 : decode cX12_findsEntries 130 = .ok (.aload_n 0, 1) := by decide +kernel
theorem dX12_findsEntries_131 : decode cX12_findsEntries 131 = .ok (.getfield 97, 3) := by decide +kernel
theorem dX12_findsEntries_134 : decode cX12_findsEntries 134 = .ok (.aload_n 0, 1) := by decide +kernel
theorem dX12_findsEntries_135 : decode cX12_findsEntries 135 = .ok (.getfield 90, 3) := by decide +kernel
theorem dX12_findsEntries_138 : decode cX12_findsEntries 138 = .ok (.iastore, 1) := by decide +kernel
theorem dX12_findsEntries_139 : decode cX12_findsEntries 139 = .ok (.return_, 1) := by decide +kernel
theorem dX12_entryOf_0 : decode cX12_entryOf 0 = .ok (.iconst 0, 1) := by decide +kernel
theorem dX12_entryOf_1 : decode cX12_entryOf 1 = .ok (.istore_n 2, 1) := by decide +kernel
theorem dX12_entryOf_2 : decode cX12_entryOf 2 = .ok (.aload_n 0, 1) := by decide +kernel
theorem dX12_entryOf_3 : decode cX12_entryOf 3 = .ok (.getfield 16, 3) := by decide +kernel
theorem dX12_entryOf_6 : decode cX12_entryOf 6 = .ok (.iload_n 2, 1) := by decide +kernel
theorem dX12_entryOf_7 : decode cX12_entryOf 7 = .ok (.iconst 1, 1) := by decide +kernel
theorem dX12_entryOf_8 : decode cX12_entryOf 8 = .ok (.iadd, 1) := by decide +kernel
theorem dX12_entryOf_9 : decode cX12_entryOf 9 = .ok (.iaload, 1) := by decide +kernel
theorem dX12_entryOf_10 : decode cX12_entryOf 10 = .ok (.iload_n 1, 1) := by decide +kernel
theorem dX12_entryOf_11 : decode cX12_entryOf 11 = .ok (.if_icmp .gt 10, 3) := by decide +kernel
theorem dX12_entryOf_14 : decode cX12_entryOf 14 = .ok (.iload_n 2, 1) := by decide +kernel
theorem dX12_entryOf_15 : decode cX12_entryOf 15 = .ok (.iconst 1, 1) := by decide +kernel
theorem dX12_entryOf_16 : decode cX12_entryOf 16 = .ok (.iadd, 1) := by decide +kernel
theorem dX12_entryOf_17 : decode cX12_entryOf 17 = .ok (.istore_n 2, 1) := by decide +kernel
theorem dX12_entryOf_18 : decode cX12_entryOf 18 = .ok (.goto (-16), 3) := by decide +kernel
theorem dX12_entryOf_21 : decode cX12_entryOf 21 = .ok (.iload_n 2, 1) := by decide +kernel
theorem dX12_entryOf_22 : decode cX12_entryOf 22 = .ok (.ireturn, 1) := by decide +kernel
set_option maxRecDepth 20000 in
theorem ggX12_pageBegin_X12_beginsPage : GoodIn wsX12_pageBegin wsX12_beginsPage := goodIn_r _ [6, 7, 8, 9, 5, 10, 11, 12, 13, 14, 15, 16, 17, 18, 19, 20, 21, 22, 23, 24, 25, 26, 27, 28, 29, 30, 31, 32, 33, 34, 35, 36, 37, 38, 39, 40, 41, 42, 43, 44, 45, 46, 47, 48, 49, 50, 51, 52, 53, 54, 55] rfl (by decide +kernel)
set_option maxRecDepth 20000 in
theorem gX12_pageBegin_X12_beginsPage : GoodIn wsX12_pageBegin (wsV RX12 103 RX12 yX12_beginsPage wsX12_beginsPage) := goodIn_app (goodIn_r _ [2, 3, 4, 5] rfl (by decide +kernel)) ggX12_pageBegin_X12_beginsPage
theorem dX12_pageBegin_0 : decode cX12_pageBegin 0 = .ok (.iload_n 1, 1) := by decide +kernel
theorem dX12_pageBegin_1 : decode cX12_pageBegin 1 = .ok (.istore_n 3, 1) := by decide +kernel
theorem dX12_pageBegin_2 : decode cX12_pageBegin 2 = .ok (.aload_n 0, 1) := by decide +kernel
theorem dX12_pageBegin_3 : decode cX12_pageBegin 3 = .ok (.aload_n 0, 1) := by decide +kernel
theorem dX12_pageBegin_4 : decode cX12_pageBegin 4 = .ok (.getfield 16, 3) := by decide +kernel
theorem dX12_pageBegin_7 : decode cX12_pageBegin 7 = .ok (.iload_n 3, 1) := by decide +kernel
theorem dX12_pageBegin_8 : decode cX12_pageBegin 8 = .ok (.iaload, 1) := by decide +kernel
theorem dX12_pageBegin_9 : decode cX12_pageBegin 9 = .ok (.iload_n 2, 1) := by decide +kernel
theorem dX12_pageBegin_10 : decode cX12_pageBegin 10 = .ok (.invokevirtual 103, 3) := by decide +kernel
theorem dX12_pageBegin_13 : decode cX12_pageBegin 13 = .ok (.ifCond .ne 10, 3) := by decide +kernel
theorem dX12_pageBegin_16 : decode cX12_pageBegin 16 = .ok (.iload_n 3, 1) := by decide +kernel
theorem dX12_pageBegin_17 : decode cX12_pageBegin 17 = .ok (.iconst 1, 1) := by decide +kernel
theorem dX12_pageBegin_18 : decode cX12_pageBegin 18 = .ok (.isub, 1) := by decide +kernel
theorem dX12_pageBegin_19 : decode cX12_pageBegin 19 = .ok (.istore_n 3, 1) := by decide +kernel
theorem dX12_pageBegin_20 : decode cX12_pageBegin 20 = .ok (.goto (-18), 3) := by decide +kernel
theorem dX12_pageBegin_23 : decode cX12_pageBegin 23 = .ok (.iload_n 3, 1) := by decide +kernel
theorem dX12_pageBegin_24 : decode cX12_pageBegin 24 = .ok (.ireturn, 1) := by decide +kernel
set_option maxRecDepth 20000 in
theorem ggX12_pageEnd_X12_beginsPage : GoodIn wsX12_pageEnd wsX12_beginsPage := goodIn_r _ [7, 8, 9, 10, 6, 11, 12, 13, 14, 15, 16, 17, 18, 19, 20, 21, 22, 23, 24, 25, 26, 27, 28, 29, 30, 31, 32, 33, 34, 35, 36, 37, 38, 39, 40, 41, 42, 43, 44, 45, 46, 47, 48, 49, 50, 51, 52, 53, 54, 55, 56] rfl (by decide +kernel)
set_option maxRecDepth 20000 in
theorem gX12_pageEnd_X12_beginsPage : GoodIn wsX12_pageEnd (wsV RX12 103 RX12 yX12_beginsPage wsX12_beginsPage) := goodIn_app (goodIn_r _ [3, 4, 5, 6] rfl (by decide +kernel)) ggX12_pageEnd_X12_beginsPage
theorem dX12_pageEnd_0 : decode cX12_pageEnd 0 = .ok (.iload_n 1, 1) := by decide +kernel
theorem dX12_pageEnd_1 : decode cX12_pageEnd 1 = .ok (.iconst 1, 1) := by decide +kernel
theorem dX12_pageEnd_2 : decode cX12_pageEnd 2 = .ok (.iadd, 1) := by decide +kernel
theorem dX12_pageEnd_3 : decode cX12_pageEnd 3 = .ok (.istore_n 3, 1) := by decide +kernel
theorem dX12_pageEnd_4 : decode cX12_pageEnd 4 = .ok (.iload_n 3, 1) := by decide +kernel
theorem dX12_pageEnd_5 : decode cX12_pageEnd 5 = .ok (.aload_n 0, 1) := by decide +kernel
theorem dX12_pageEnd_6 : decode cX12_pageEnd 6 = .ok (.getfield 97, 3) := by decide +kernel
theorem dX12_pageEnd_9 : decode cX12_pageEnd 9 = .ok (.if_icmp .ge 24, 3) := by decide +kernel
theorem dX12_pageEnd_12 : decode cX12_pageEnd 12 = .ok (.aload_n 0, 1) := by decide +kernel
theorem dX12_pageEnd_13 : decode cX12_pageEnd 13 = .ok (.aload_n 0, 1) := by decide +kernel
theorem dX12_pageEnd_14 : decode cX12_pageEnd 14 = .ok (.getfield 16, 3) := by decide +kernel
theorem dX12_pageEnd_17 : decode cX12_pageEnd 17 = .ok (.iload_n 3, 1) := by decide +kernel
theorem dX12_pageEnd_18 : decode cX12_pageEnd 18 = .ok (.iaload, 1) := by decide +kernel
theorem dX12_pageEnd_19 : decode cX12_pageEnd 19 = .ok (.iload_n 2, 1) := by decide +kernel
theorem dX12_pageEnd_20 : decode cX12_pageEnd 20 = .ok (.invokevirtual 103, 3) := by decide +kernel
theorem dX12_pageEnd_23 : decode cX12_pageEnd 23 = .ok (.ifCond .ne 10, 3) := by decide +kernel
theorem dX12_pageEnd_26 : decode cX12_pageEnd 26 = .ok (.iload_n 3, 1) := by decide +kernel
theorem dX12_pageEnd_27 : decode cX12_pageEnd 27 = .ok (.iconst 1, 1) := by decide +kernel
theorem dX12_pageEnd_28 : decode cX12_pageEnd 28 = .ok (.iadd, 1) := by decide +kernel
theorem dX12_pageEnd_29 : decode cX12_pageEnd 29 = .ok (.istore_n 3, 1) := by decide +kernel
theorem dX12_pageEnd_30 : decode cX12_pageEnd 30 = .ok (.goto (-26), 3) := by decide +kernel
theorem dX12_pageEnd_33 : decode cX12_pageEnd 33 = .ok (.iload_n 3, 1) := by decide +kernel
theorem dX12_pageEnd_34 : decode cX12_pageEnd 34 = .ok (.ireturn, 1) := by decide +kernel
set_option maxRecDepth 20000 in
theorem ggX12_depthOf_X12_takesHand : GoodIn wsX12_depthOf wsX12_takesHand := goodIn_r _ [9, 2, 10, 11, 12, 13, 8, 14, 1, 15, 16, 17, 18, 31, 32, 33, 34, 35, 36, 37, 38, 39, 40, 41, 42, 43, 44, 45, 46, 47, 48, 49, 50, 51, 52, 53, 54, 55, 56, 57, 58, 59, 60, 61, 62, 63, 64, 65, 66, 67, 68, 69, 70, 71] rfl (by decide +kernel)
set_option maxRecDepth 20000 in
theorem gX12_depthOf_X12_takesHand : GoodIn wsX12_depthOf (wsV RX12 106 RX12 yX12_takesHand wsX12_takesHand) := goodIn_app (goodIn_r _ [5, 6, 7, 8] rfl (by decide +kernel)) ggX12_depthOf_X12_takesHand
set_option maxRecDepth 20000 in
theorem ggX12_depthOf_X12_findsRange : GoodIn wsX12_depthOf wsX12_findsRange := goodIn_r _ [22, 4, 3, 23, 24, 25, 8, 26, 1, 27, 28, 29, 30, 2, 10, 11, 12, 13, 14, 15, 16, 17, 18, 31, 32, 33, 34, 35, 36, 37, 38, 39, 40, 41, 42, 43, 44, 45, 46, 47, 48, 49, 50, 51, 52, 53, 54, 55, 56, 57, 58, 59, 60, 61, 62, 63, 64, 65, 66, 67, 68, 69, 70, 71] rfl (by decide +kernel)
set_option maxRecDepth 20000 in
theorem gX12_depthOf_X12_findsRange : GoodIn wsX12_depthOf (wsV RX12 93 RX12 yX12_findsRange wsX12_findsRange) := goodIn_app (goodIn_r _ [19, 20, 21, 8] rfl (by decide +kernel)) ggX12_depthOf_X12_findsRange
theorem dX12_depthOf_0 : decode cX12_depthOf 0 = .ok (.aload_n 0, 1) := by decide +kernel
theorem dX12_depthOf_1 : decode cX12_depthOf 1 = .ok (.iload_n 1, 1) := by decide +kernel
theorem dX12_depthOf_2 : decode cX12_depthOf 2 = .ok (.invokevirtual 106, 3) := by decide +kernel
theorem dX12_depthOf_5 : decode cX12_depthOf 5 = .ok (.iconst 0, 1) := by decide +kernel
theorem dX12_depthOf_6 : decode cX12_depthOf 6 = .ok (.istore_n 2, 1) := by decide +kernel
theorem dX12_depthOf_7 : decode cX12_depthOf 7 = .ok (.iload_n 2, 1) := by decide +kernel
theorem dX12_depthOf_8 : decode cX12_depthOf 8 = .ok (.iconst 1, 1) := by decide +kernel
theorem dX12_depthOf_9 : decode cX12_depthOf 9 = .ok (.iadd, 1) := by decide +kernel
theorem dX12_depthOf_10 : decode cX12_depthOf 10 = .ok (.aload_n 0, 1) := by decide +kernel
theorem dX12_depthOf_11 : decode cX12_depthOf 11 = .ok (.getfield 7, 3) := by decide +kernel
theorem dX12_depthOf_14 : decode cX12_depthOf 14 = .ok (.iconst 1, 1) := by decide +kernel
theorem dX12_depthOf_15 : decode cX12_depthOf 15 = .ok (.iaload, 1) := by decide +kernel
theorem dX12_depthOf_16 : decode cX12_depthOf 16 = .ok (.imul, 1) := by decide +kernel
theorem dX12_depthOf_17 : decode cX12_depthOf 17 = .ok (.istore_n 3, 1) := by decide +kernel
theorem dX12_depthOf_18 : decode cX12_depthOf 18 = .ok (.aload_n 0, 1) := by decide +kernel
theorem dX12_depthOf_19 : decode cX12_depthOf 19 = .ok (.getfield 70, 3) := by decide +kernel
theorem dX12_depthOf_22 : decode cX12_depthOf 22 = .ok (.iload_n 3, 1) := by decide +kernel
theorem dX12_depthOf_23 : decode cX12_depthOf 23 = .ok (.if_icmp .gt 5, 3) := by decide +kernel
theorem dX12_depthOf_26 : decode cX12_depthOf 26 = .ok (.iload_n 2, 1) := by decide +kernel
theorem dX12_depthOf_27 : decode cX12_depthOf 27 = .ok (.ireturn, 1) := by decide +kernel
theorem dX12_depthOf_28 : decode cX12_depthOf 28 = .ok (.aload_n 0, 1) := by decide +kernel
theorem dX12_depthOf_29 : decode cX12_depthOf 29 = .ok (.iload_n 3, 1) := by decide +kernel
theorem dX12_depthOf_30 : decode cX12_depthOf 30 = .ok (.invokevirtual 93, 3) := by decide +kernel
theorem dX12_depthOf_33 : decode cX12_depthOf 33 = .ok (.aload_n 0, 1) := by decide +kernel
theorem dX12_depthOf_34 : decode cX12_depthOf 34 = .ok (.getfield 90, 3) := by decide +kernel
theorem dX12_depthOf_37 : decode cX12_depthOf 37 = .ok (.aload_n 0, 1) := by decide +kernel
theorem dX12_depthOf_38 : decode cX12_depthOf 38 = .ok (.getfield 84, 3) := by decide +kernel
theorem dX12_depthOf_41 : decode cX12_depthOf 41 = .ok (.isub, 1) := by decide +kernel
theorem dX12_depthOf_42 : decode cX12_depthOf 42 = .ok (.iconst 1, 1) := by decide +kernel
theorem dX12_depthOf_43 : decode cX12_depthOf 43 = .ok (.if_icmp .ne 5, 3) := by decide +kernel
theorem dX12_depthOf_46 : decode cX12_depthOf 46 = .ok (.iload_n 2, 1) := by decide +kernel
theorem dX12_depthOf_47 : decode cX12_depthOf 47 = .ok (.ireturn, 1) := by decide +kernel
theorem dX12_depthOf_48 : decode cX12_depthOf 48 = .ok (.iload_n 2, 1) := by decide +kernel
theorem dX12_depthOf_49 : decode cX12_depthOf 49 = .ok (.iconst 1, 1) := by decide +kernel
theorem dX12_depthOf_50 : decode cX12_depthOf 50 = .ok (.iadd, 1) := by decide +kernel
theorem dX12_depthOf_51 : decode cX12_depthOf 51 = .ok (.istore_n 2, 1) := by decide +kernel
theorem dX12_depthOf_52 : decode cX12_depthOf 52 = .ok (.goto (-45), 3) := by decide +kernel
set_option maxRecDepth 20000 in
theorem ggX12_goesDown_X12_findsRange : GoodIn wsX12_goesDown wsX12_findsRange := goodIn_r _ [10, 4, 5, 11, 12, 13, 9, 14, 2, 15, 16, 17, 18, 3, 19, 20, 21, 22, 23, 24, 25, 26, 27, 40, 41, 42, 43, 44, 45, 46, 47, 48, 49, 50, 51, 52, 53, 54, 55, 56, 57, 58, 59, 60, 61, 62, 63, 64, 65, 66, 67, 68, 69, 70, 71, 72, 73, 74, 75, 76, 77, 78, 79, 80] rfl (by decide +kernel)
set_option maxRecDepth 20000 in
theorem gX12_goesDown_X12_findsRange : GoodIn wsX12_goesDown (wsV RX12 93 RX12 yX12_findsRange wsX12_findsRange) := goodIn_app (goodIn_r _ [6, 7, 8, 9] rfl (by decide +kernel)) ggX12_goesDown_X12_findsRange
set_option maxRecDepth 20000 in
theorem ggX12_goesDown_X12_marks : GoodIn wsX12_goesDown wsX12_marks := goodIn_r _ [31, 20, 21, 22, 9, 23, 2, 32, 33, 34, 35, 40, 41, 42, 43, 44, 45, 46, 47, 48, 49, 50, 51, 52, 53, 54, 55, 56, 57, 58, 59, 60, 61, 62, 63, 64, 65, 66, 67, 68, 69, 70, 71, 72, 73, 74, 75, 76, 77, 78, 79, 80] rfl (by decide +kernel)
set_option maxRecDepth 20000 in
theorem gX12_goesDown_X12_marks : GoodIn wsX12_goesDown (wsV RX12 112 RX12 yX12_marks wsX12_marks) := goodIn_app (goodIn_r _ [28, 29, 30, 9] rfl (by decide +kernel)) ggX12_goesDown_X12_marks
set_option maxRecDepth 20000 in
theorem ggX12_goesDown_X12_against : GoodIn wsX12_goesDown wsX12_against := goodIn_r _ [39, 3, 19, 20, 21, 22, 9, 23, 2, 24, 25, 26, 27, 40, 41, 42, 43, 44, 45, 46, 47, 48, 49, 50, 51, 52, 53, 54, 55, 56, 57, 58, 59, 60, 61, 62, 63, 64, 65, 66, 67, 68, 69, 70, 71, 72, 73, 74, 75, 76, 77, 78, 79, 80] rfl (by decide +kernel)
set_option maxRecDepth 20000 in
theorem gX12_goesDown_X12_against : GoodIn wsX12_goesDown (wsV RX12 77 RX12 yX12_against wsX12_against) := goodIn_app (goodIn_r _ [36, 37, 38, 9] rfl (by decide +kernel)) ggX12_goesDown_X12_against
set_option maxRecDepth 20000 in
theorem ggX12_goesDown_X12_of : GoodIn wsX12_goesDown wsX12_of := goodIn_r _ [23, 2, 40, 41, 42, 43, 44, 45, 46, 47, 48, 49, 50, 51, 52, 53, 54, 55, 56, 57, 58, 59, 60, 61, 62, 63, 64, 65, 66, 67, 68, 69, 70, 71, 72, 73, 74, 75, 76, 77, 78, 79, 80] rfl (by decide +kernel)
set_option maxRecDepth 20000 in
theorem gX12_goesDown_X12_of : GoodIn wsX12_goesDown (wsV RX12 50 RX12 yX12_of wsX12_of) := goodIn_app (goodIn_r _ [20, 21, 22, 9] rfl (by decide +kernel)) ggX12_goesDown_X12_of
theorem dX12_goesDown_0 : decode cX12_goesDown 0 = .ok (.iconst 0, 1) := by decide +kernel
theorem dX12_goesDown_1 : decode cX12_goesDown 1 = .ok (.istore_n 1, 1) := by decide +kernel
theorem dX12_goesDown_2 : decode cX12_goesDown 2 = .ok (.aload_n 0, 1) := by decide +kernel
theorem dX12_goesDown_3 : decode cX12_goesDown 3 = .ok (.iconst 0, 1) := by decide +kernel
theorem dX12_goesDown_4 : decode cX12_goesDown 4 = .ok (.putfield 109, 3) := by decide +kernel
theorem dX12_goesDown_7 : decode cX12_goesDown 7 = .ok (.iload_n 1, 1) := by decide +kernel
theorem dX12_goesDown_8 : decode cX12_goesDown 8 = .ok (.iconst 1, 1) := by decide +kernel
theorem dX12_goesDown_9 : decode cX12_goesDown 9 = .ok (.iadd, 1) := by decide +kernel
theorem dX12_goesDown_10 : decode cX12_goesDown 10 = .ok (.aload_n 0, 1) := by decide +kernel
theorem dX12_goesDown_11 : decode cX12_goesDown 11 = .ok (.getfield 7, 3) := by decide +kernel
theorem dX12_goesDown_14 : decode cX12_goesDown 14 = .ok (.iconst 1, 1) := by decide +kernel
theorem dX12_goesDown_15 : decode cX12_goesDown 15 = .ok (.iaload, 1) := by decide +kernel
theorem dX12_goesDown_16 : decode cX12_goesDown 16 = .ok (.imul, 1) := by decide +kernel
theorem dX12_goesDown_17 : decode cX12_goesDown 17 = .ok (.istore_n 2, 1) := by decide +kernel
theorem dX12_goesDown_18 : decode cX12_goesDown 18 = .ok (.aload_n 0, 1) := by decide +kernel
theorem dX12_goesDown_19 : decode cX12_goesDown 19 = .ok (.getfield 70, 3) := by decide +kernel
theorem dX12_goesDown_22 : decode cX12_goesDown 22 = .ok (.iload_n 2, 1) := by decide +kernel
theorem dX12_goesDown_23 : decode cX12_goesDown 23 = .ok (.if_icmp .gt 5, 3) := by decide +kernel
theorem dX12_goesDown_26 : decode cX12_goesDown 26 = .ok (.iload_n 1, 1) := by decide +kernel
theorem dX12_goesDown_27 : decode cX12_goesDown 27 = .ok (.ireturn, 1) := by decide +kernel
theorem dX12_goesDown_28 : decode cX12_goesDown 28 = .ok (.aload_n 0, 1) := by decide +kernel
theorem dX12_goesDown_29 : decode cX12_goesDown 29 = .ok (.iload_n 2, 1) := by decide +kernel
theorem dX12_goesDown_30 : decode cX12_goesDown 30 = .ok (.invokevirtual 93, 3) := by decide +kernel
theorem dX12_goesDown_33 : decode cX12_goesDown 33 = .ok (.aload_n 0, 1) := by decide +kernel
theorem dX12_goesDown_34 : decode cX12_goesDown 34 = .ok (.getfield 84, 3) := by decide +kernel
theorem dX12_goesDown_37 : decode cX12_goesDown 37 = .ok (.aload_n 0, 1) := by decide +kernel
theorem dX12_goesDown_38 : decode cX12_goesDown 38 = .ok (.getfield 90, 3) := by decide +kernel
theorem dX12_goesDown_41 : decode cX12_goesDown 41 = .ok (.if_icmp .ne 5, 3) := by decide +kernel
theorem dX12_goesDown_44 : decode cX12_goesDown 44 = .ok (.iload_n 1, 1) := by decide +kernel
theorem dX12_goesDown_45 : decode cX12_goesDown 45 = .ok (.ireturn, 1) := by decide +kernel
theorem dX12_goesDown_46 : decode cX12_goesDown 46 = .ok (.aload_n 0, 1) := by decide +kernel
theorem dX12_goesDown_47 : decode cX12_goesDown 47 = .ok (.getfield 90, 3) := by decide +kernel
theorem dX12_goesDown_50 : decode cX12_goesDown 50 = .ok (.aload_n 0, 1) := by decide +kernel
theorem dX12_goesDown_51 : decode cX12_goesDown 51 = .ok (.getfield 84, 3) := by decide +kernel
theorem dX12_goesDown_54 : decode cX12_goesDown 54 = .ok (.isub, 1) := by decide +kernel
theorem dX12_goesDown_55 : decode cX12_goesDown 55 = .ok (.iconst 1, 1) := by decide +kernel
theorem dX12_goesDown_56 : decode cX12_goesDown 56 = .ok (.if_icmp .ne 29, 3) := by decide +kernel
theorem dX12_goesDown_59 : decode cX12_goesDown 59 = .ok (.aload_n 0, 1) := by decide +kernel
theorem dX12_goesDown_60 : decode cX12_goesDown 60 = .ok (.getfield 7, 3) := by decide +kernel
theorem dX12_goesDown_63 : decode cX12_goesDown 63 = .ok (.iconst 5, 1) := by decide +kernel
theorem dX12_goesDown_64 : decode cX12_goesDown 64 = .ok (.aload_n 0, 1) := by decide +kernel
theorem dX12_goesDown_65 : decode cX12_goesDown 65 = .ok (.getfield 7, 3) := by decide +kernel
theorem dX12_goesDown_68 : decode cX12_goesDown 68 = .ok (.iconst 5, 1) := by decide +kernel
theorem dX12_goesDown_69 : decode cX12_goesDown 69 = .ok (.iaload, 1) := by decide +kernel
theorem dX12_goesDown_70 : decode cX12_goesDown 70 = .ok (.iconst 1, 1) := by decide +kernel
theorem dX12_goesDown_71 : decode cX12_goesDown 71 = .ok (.iadd, 1) := by decide +kernel
theorem dX12_goesDown_72 : decode cX12_goesDown 72 = .ok (.iastore, 1) := by decide +kernel
theorem dX12_goesDown_73 : decode cX12_goesDown 73 = .ok (.aload_n 0, 1) := by decide +kernel
theorem dX12_goesDown_74 : decode cX12_goesDown 74 = .ok (.aload_n 0, 1) := by decide +kernel
theorem dX12_goesDown_75 : decode cX12_goesDown 75 = .ok (.getfield 84, 3) := by decide +kernel
theorem dX12_goesDown_78 : decode cX12_goesDown 78 = .ok (.iload_n 1, 1) := by decide +kernel
theorem dX12_goesDown_79 : decode cX12_goesDown 79 = .ok (.iconst 1, 1) := by decide +kernel
theorem dX12_goesDown_80 : decode cX12_goesDown 80 = .ok (.iadd, 1) := by decide +kernel
theorem dX12_goesDown_81 : decode cX12_goesDown 81 = .ok (.iconst 1, 1) := by decide +kernel
theorem dX12_goesDown_82 : decode cX12_goesDown 82 = .ok (.invokevirtual 112, 3) := by decide +kernel
theorem dX12_goesDown_85 : decode cX12_goesDown 85 = .ok (.aload_n 0, 1) := by decide +kernel
theorem dX12_goesDown_86 : decode cX12_goesDown 86 = .ok (.aload_n 0, 1) := by decide +kernel
theorem dX12_goesDown_87 : decode cX12_goesDown 87 = .ok (.getfield 84, 3) := by decide +kernel
theorem dX12_goesDown_90 : decode cX12_goesDown 90 = .ok (.invokevirtual 77, 3) := by decide +kernel
theorem dX12_goesDown_93 : decode cX12_goesDown 93 = .ok (.ifCond .le 35, 3) := by decide +kernel
theorem dX12_goesDown_96 : decode cX12_goesDown 96 = .ok (.aload_n 0, 1) := by decide +kernel
theorem dX12_goesDown_97 : decode cX12_goesDown 97 = .ok (.aload_n 0, 1) := by decide +kernel
theorem dX12_goesDown_98 : decode cX12_goesDown 98 = .ok (.getfield 109, 3) := by decide +kernel
theorem dX12_goesDown_101 : decode cX12_goesDown 101 = .ok (.aload_n 0, 1) := by decide +kernel
theorem dX12_goesDown_102 : decode cX12_goesDown 102 = .ok (.aload_n 0, 1) := by decide +kernel
theorem dX12_goesDown_103 : decode cX12_goesDown 103 = .ok (.getfield 84, 3) := by decide +kernel
theorem dX12_goesDown_106 : decode cX12_goesDown 106 = .ok (.iconst 2, 1) := by decide +kernel
theorem dX12_goesDown_107 : decode cX12_goesDown 107 = .ok (.invokevirtual 50, 3) := by decide +kernel
theorem dX12_goesDown_110 : decode cX12_goesDown 110 = .ok (.iconst 1, 1) := by decide +kernel
theorem dX12_goesDown_111 : decode cX12_goesDown 111 = .ok (.iload_n 1, 1) := by decide +kernel
theorem dX12_goesDown_112 : decode cX12_goesDown 112 = .ok (.ishl, 1) := by decide +kernel
theorem dX12_goesDown_113 : decode cX12_goesDown 113 = .ok (.iand, 1) := by decide +kernel
theorem dX12_goesDown_114 : decode cX12_goesDown 114 = .ok (.ior, 1) := by decide +kernel
theorem dX12_goesDown_115 : decode cX12_goesDown 115 = .ok (.putfield 109, 3) := by decide +kernel
theorem dX12_goesDown_118 : decode cX12_goesDown 118 = .ok (.aload_n 0, 1) := by decide +kernel
theorem dX12_goesDown_119 : decode cX12_goesDown 119 = .ok (.aload_n 0, 1) := by decide +kernel
theorem dX12_goesDown_120 : decode cX12_goesDown 120 = .ok (.getfield 84, 3) := by decide +kernel
theorem dX12_goesDown_123 : decode cX12_goesDown 123 = .ok (.iload_n 1, 1) := by decide +kernel
theorem dX12_goesDown_124 : decode cX12_goesDown 124 = .ok (.iconst 0, 1) := by decide +kernel
theorem dX12_goesDown_125 : decode cX12_goesDown 125 = .ok (.invokevirtual 112, 3) := by decide +kernel
theorem dX12_goesDown_128 : decode cX12_goesDown 128 = .ok (.iload_n 1, 1) := by decide +kernel
theorem dX12_goesDown_129 : decode cX12_goesDown 129 = .ok (.iconst 1, 1) := by decide +kernel
theorem dX12_goesDown_130 : decode cX12_goesDown 130 = .ok (.iadd, 1) := by decide +kernel
theorem dX12_goesDown_131 : decode cX12_goesDown 131 = .ok (.istore_n 1, 1) := by decide +kernel
theorem dX12_goesDown_132 : decode cX12_goesDown 132 = .ok (.goto (-125), 3) := by decide +kernel
set_option maxRecDepth 20000 in
theorem ggX12_laysRow_X12_many : GoodIn wsX12_laysRow wsX12_many := goodIn_r _ [9, 1, 18, 19, 20, 21, 22, 23, 24, 25, 26, 27, 28, 29, 30, 31, 32, 33, 34, 35, 36, 37, 38, 39, 40, 41, 42, 43, 44, 45, 46, 47, 48, 49, 50, 51, 52, 53, 54, 55, 56, 57, 58] rfl (by decide +kernel)
set_option maxRecDepth 20000 in
theorem gX12_laysRow_X12_many : GoodIn wsX12_laysRow (wsV RX12 62 RX12 yX12_many wsX12_many) := goodIn_app (goodIn_r _ [5, 6, 7, 8] rfl (by decide +kernel)) ggX12_laysRow_X12_many
set_option maxRecDepth 20000 in
theorem ggX12_laysRow_X12_of : GoodIn wsX12_laysRow wsX12_of := goodIn_r _ [13, 1, 18, 19, 20, 21, 22, 23, 24, 25, 26, 27, 28, 29, 30, 31, 32, 33, 34, 35, 36, 37, 38, 39, 40, 41, 42, 43, 44, 45, 46, 47, 48, 49, 50, 51, 52, 53, 54, 55, 56, 57, 58] rfl (by decide +kernel)
set_option maxRecDepth 20000 in
theorem gX12_laysRow_X12_of : GoodIn wsX12_laysRow (wsV RX12 50 RX12 yX12_of wsX12_of) := goodIn_app (goodIn_r _ [10, 11, 12, 8] rfl (by decide +kernel)) ggX12_laysRow_X12_of
set_option maxRecDepth 20000 in
theorem ggX12_laysRow_X12_sets : GoodIn wsX12_laysRow wsX12_sets := goodIn_r _ [17, 1, 18, 19, 20, 21, 22, 23, 24, 25, 26, 27, 28, 29, 30, 31, 32, 33, 34, 35, 36, 37, 38, 39, 40, 41, 42, 43, 44, 45, 46, 47, 48, 49, 50, 51, 52, 53, 54, 55, 56, 57, 58] rfl (by decide +kernel)
set_option maxRecDepth 20000 in
theorem gX12_laysRow_X12_sets : GoodIn wsX12_laysRow (wsV RX12 58 RX12 yX12_sets wsX12_sets) := goodIn_app (goodIn_r _ [14, 15, 16, 8] rfl (by decide +kernel)) ggX12_laysRow_X12_sets
theorem dX12_laysRow_0 : decode cX12_laysRow 0 = .ok (.aload_n 0, 1) := by decide +kernel
theorem dX12_laysRow_1 : decode cX12_laysRow 1 = .ok (.invokevirtual 62, 3) := by decide +kernel
theorem dX12_laysRow_4 : decode cX12_laysRow 4 = .ok (.istore_n 3, 1) := by decide +kernel
theorem dX12_laysRow_5 : decode cX12_laysRow 5 = .ok (.iload_n 3, 1) := by decide +kernel
theorem dX12_laysRow_6 : decode cX12_laysRow 6 = .ok (.iload_n 1, 1) := by decide +kernel
theorem dX12_laysRow_7 : decode cX12_laysRow 7 = .ok (.if_icmp .le 41, 3) := by decide +kernel
theorem dX12_laysRow_10 : decode cX12_laysRow 10 = .ok (.iconst 0, 1) := by decide +kernel
theorem dX12_laysRow_11 : decode cX12_laysRow 11 = .ok (.istore 4, 2) := by decide +kernel
theorem dX12_laysRow_13 : decode cX12_laysRow 13 = .ok (.iload 4, 2) := by decide +kernel
theorem dX12_laysRow_15 : decode cX12_laysRow 15 = .ok (.bipush 27, 2) := by decide +kernel
theorem dX12_laysRow_17 : decode cX12_laysRow 17 = .ok (.if_icmp .ge 25, 3) := by decide +kernel
theorem dX12_laysRow_20 : decode cX12_laysRow 20 = .ok (.aload_n 0, 1) := by decide +kernel
theorem dX12_laysRow_21 : decode cX12_laysRow 21 = .ok (.iload_n 3, 1) := by decide +kernel
theorem dX12_laysRow_22 : decode cX12_laysRow 22 = .ok (.iload 4, 2) := by decide +kernel
theorem dX12_laysRow_24 : decode cX12_laysRow 24 = .ok (.aload_n 0, 1) := by decide +kernel
theorem dX12_laysRow_25 : decode cX12_laysRow 25 = .ok (.iload_n 3, 1) := by decide +kernel
theorem dX12_laysRow_26 : decode cX12_laysRow 26 = .ok (.iconst 1, 1) := by decide +kernel
theorem dX12_laysRow_27 : decode cX12_laysRow 27 = .ok (.isub, 1) := by decide +kernel
theorem dX12_laysRow_28 : decode cX12_laysRow 28 = .ok (.iload 4, 2) := by decide +kernel
theorem dX12_laysRow_30 : decode cX12_laysRow 30 = .ok (.invokevirtual 50, 3) := by decide +kernel
theorem dX12_laysRow_33 : decode cX12_laysRow 33 = .ok (.invokevirtual 58, 3) := by decide +kernel
theorem dX12_laysRow_36 : decode cX12_laysRow 36 = .ok (.iinc 4 1, 3) := by decide +kernel
theorem dX12_laysRow_39 : decode cX12_laysRow 39 = .ok (.goto (-26), 3) := by decide +kernel
theorem dX12_laysRow_42 : decode cX12_laysRow 42 = .ok (.iinc 3 (-1), 3) := by decide +kernel
theorem dX12_laysRow_45 : decode cX12_laysRow 45 = .ok (.goto (-40), 3) := by decide +kernel
theorem dX12_laysRow_48 : decode cX12_laysRow 48 = .ok (.aload_n 0, 1) := by decide +kernel
theorem dX12_laysRow_49 : decode cX12_laysRow 49 = .ok (.getfield 7, 3) := by decide +kernel
theorem dX12_laysRow_52 : decode cX12_laysRow 52 = .ok (.iconst 0, 1) := by decide +kernel
theorem dX12_laysRow_53 : decode cX12_laysRow 53 = .ok (.aload_n 0, 1) := by decide +kernel
theorem dX12_laysRow_54 : decode cX12_laysRow 54 = .ok (.invokevirtual 62, 3) := by decide +kernel
theorem dX12_laysRow_57 : decode cX12_laysRow 57 = .ok (.iconst 1, 1) := by decide +kernel
theorem dX12_laysRow_58 : decode cX12_laysRow 58 = .ok (.iadd, 1) := by decide +kernel
theorem dX12_laysRow_59 : decode cX12_laysRow 59 = .ok (.iastore, 1) := by decide +kernel
theorem dX12_laysRow_60 : decode cX12_laysRow 60 = .ok (.iconst 0, 1) := by decide +kernel
theorem dX12_laysRow_61 : decode cX12_laysRow 61 = .ok (.istore_n 3, 1) := by decide +kernel
theorem dX12_laysRow_62 : decode cX12_laysRow 62 = .ok (.iload_n 3, 1) := by decide +kernel
theorem dX12_laysRow_63 : decode cX12_laysRow 63 = .ok (.bipush 27, 2) := by decide +kernel
theorem dX12_laysRow_65 : decode cX12_laysRow 65 = .ok (.if_icmp .ge 16, 3) := by decide +kernel
theorem dX12_laysRow_68 : decode cX12_laysRow 68 = .ok (.aload_n 0, 1) := by decide +kernel
theorem dX12_laysRow_69 : decode cX12_laysRow 69 = .ok (.iload_n 1, 1) := by decide +kernel
theorem dX12_laysRow_70 : decode cX12_laysRow 70 = .ok (.iload_n 3, 1) := by decide +kernel
theorem dX12_laysRow_71 : decode cX12_laysRow 71 = .ok (.iconst 0, 1) := by decide +kernel
theorem dX12_laysRow_72 : decode cX12_laysRow 72 = .ok (.invokevirtual 58, 3) := by decide +kernel
theorem dX12_laysRow_75 : decode cX12_laysRow 75 = .ok (.iinc 3 1, 3) := by decide +kernel
theorem dX12_laysRow_78 : decode cX12_laysRow 78 = .ok (.goto (-16), 3) := by decide +kernel
theorem dX12_laysRow_81 : decode cX12_laysRow 81 = .ok (.aload_n 0, 1) := by decide +kernel
theorem dX12_laysRow_82 : decode cX12_laysRow 82 = .ok (.iload_n 1, 1) := by decide +kernel
theorem dX12_laysRow_83 : decode cX12_laysRow 83 = .ok (.iconst 0, 1) := by decide +kernel
theorem dX12_laysRow_84 : decode cX12_laysRow 84 = .ok (.aload_n 0, 1) := by decide +kernel
theorem dX12_laysRow_85 : decode cX12_laysRow 85 = .ok (.getfield 70, 3) := by decide +kernel
theorem dX12_laysRow_88 : decode cX12_laysRow 88 = .ok (.invokevirtual 58, 3) := by decide +kernel
theorem dX12_laysRow_91 : decode cX12_laysRow 91 = .ok (.aload_n 0, 1) := by decide +kernel
theorem dX12_laysRow_92 : decode cX12_laysRow 92 = .ok (.iload_n 1, 1) := by decide +kernel
theorem dX12_laysRow_93 : decode cX12_laysRow 93 = .ok (.iconst 1, 1) := by decide +kernel
theorem dX12_laysRow_94 : decode cX12_laysRow 94 = .ok (.iload_n 2, 1) := by decide +kernel
theorem dX12_laysRow_95 : decode cX12_laysRow 95 = .ok (.invokevirtual 58, 3) := by decide +kernel
theorem dX12_laysRow_98 : decode cX12_laysRow 98 = .ok (.aload_n 0, 1) := by decide +kernel
theorem dX12_laysRow_99 : decode cX12_laysRow 99 = .ok (.iload_n 1, 1) := by decide +kernel
theorem dX12_laysRow_100 : decode cX12_laysRow 100 = .ok (.iconst 2, 1) := by decide +kernel
theorem dX12_laysRow_101 : decode cX12_laysRow 101 = .ok (.aload_n 0, 1) := by decide +kernel
theorem dX12_laysRow_102 : decode cX12_laysRow 102 = .ok (.getfield 109, 3) := by decide +kernel
theorem dX12_laysRow_105 : decode cX12_laysRow 105 = .ok (.invokevirtual 58, 3) := by decide +kernel
theorem dX12_laysRow_108 : decode cX12_laysRow 108 = .ok (.iconst 0, 1) := by decide +kernel
theorem dX12_laysRow_109 : decode cX12_laysRow 109 = .ok (.istore_n 3, 1) := by decide +kernel
theorem dX12_laysRow_110 : decode cX12_laysRow 110 = .ok (.iload_n 3, 1) := by decide +kernel
theorem dX12_laysRow_111 : decode cX12_laysRow 111 = .ok (.aload_n 0, 1) := by decide +kernel
theorem dX12_laysRow_112 : decode cX12_laysRow 112 = .ok (.getfield 70, 3) := by decide +kernel
theorem dX12_laysRow_115 : decode cX12_laysRow 115 = .ok (.if_icmp .ge 23, 3) := by decide +kernel
theorem dX12_laysRow_118 : decode cX12_laysRow 118 = .ok (.aload_n 0, 1) := by decide +kernel
theorem dX12_laysRow_119 : decode cX12_laysRow 119 = .ok (.iload_n 1, 1) := by decide +kernel
theorem dX12_laysRow_120 : decode cX12_laysRow 120 = .ok (.iconst 3, 1) := by decide +kernel
theorem dX12_laysRow_121 : decode cX12_laysRow 121 = .ok (.iload_n 3, 1) := by decide +kernel
theorem dX12_laysRow_122 : decode cX12_laysRow 122 = .ok (.iadd, 1) := by decide +kernel
theorem dX12_laysRow_123 : decode cX12_laysRow 123 = .ok (.aload_n 0, 1) := by decide +kernel
theorem dX12_laysRow_124 : decode cX12_laysRow 124 = .ok (.getfield 13, 3) := by decide +kernel
theorem dX12_laysRow_127 : decode cX12_laysRow 127 = .ok (.iload_n 3, 1) := by decide +kernel
theorem dX12_laysRow_128 : decode cX12_laysRow 128 = .ok (.iaload, 1) := by decide +kernel
theorem dX12_laysRow_129 : decode cX12_laysRow 129 = .ok (.invokevirtual 58, 3) := by decide +kernel
theorem dX12_laysRow_132 : decode cX12_laysRow 132 = .ok (.iinc 3 1, 3) := by decide +kernel
theorem dX12_laysRow_135 : decode cX12_laysRow 135 = .ok (.goto (-25), 3) := by decide +kernel
theorem dX12_laysRow_138 : decode cX12_laysRow 138 = .ok (.return_, 1) := by decide +kernel
set_option maxRecDepth 20000 in
theorem ggX12_comes_X12_goesDown : GoodIn wsX12_comes wsX12_goesDown := goodIn_r _ [9, 2, 4, 10, 11, 12, 13, 14, 15, 8, 16, 17, 18, 19, 20, 21, 22, 23, 24, 25, 26, 27, 28, 29, 30, 31, 32, 33, 34, 35, 36, 37, 38, 39, 40, 41, 42, 43, 44, 45, 82, 83, 84, 85, 86, 87, 88, 89, 90, 91, 92, 93, 94, 95, 96, 97, 98, 99, 100, 101, 102, 103, 104, 105, 106, 107, 108, 109, 110, 111, 112, 113, 114, 115, 116, 117, 118, 119, 120, 121, 122] rfl (by decide +kernel)
set_option maxRecDepth 20000 in
theorem gX12_comes_X12_goesDown : GoodIn wsX12_comes (wsV RX12 116 RX12 yX12_goesDown wsX12_goesDown) := goodIn_app (goodIn_r _ [5, 6, 7, 8] rfl (by decide +kernel)) ggX12_comes_X12_goesDown
set_option maxRecDepth 20000 in
theorem ggX12_comes_X12_rankOfHand : GoodIn wsX12_comes wsX12_rankOfHand := goodIn_r _ [49, 17, 18, 19, 8, 20, 4, 42, 43, 44, 45, 10, 25, 26, 27, 28, 29, 30, 31, 32, 33, 82, 83, 84, 85, 86, 87, 88, 89, 90, 91, 92, 93, 94, 95, 96, 97, 98, 99, 100, 101, 102, 103, 104, 105, 106, 107, 108, 109, 110, 111, 112, 113, 114, 115, 116, 117, 118, 119, 120, 121, 122] rfl (by decide +kernel)
set_option maxRecDepth 20000 in
theorem gX12_comes_X12_rankOfHand : GoodIn wsX12_comes (wsV RX12 81 RX12 yX12_rankOfHand wsX12_rankOfHand) := goodIn_app (goodIn_r _ [46, 47, 48, 8] rfl (by decide +kernel)) ggX12_comes_X12_rankOfHand
set_option maxRecDepth 20000 in
theorem ggX12_comes_X12_findsEntries : GoodIn wsX12_comes wsX12_findsEntries := goodIn_r _ [53, 4, 1, 11, 12, 54, 3, 13, 14, 15, 8, 16, 17, 18, 19, 20, 21, 22, 23, 24, 10, 25, 26, 27, 28, 29, 30, 31, 32, 33, 55, 56, 57, 58, 82, 83, 84, 85, 86, 87, 88, 89, 90, 91, 92, 93, 94, 95, 96, 97, 98, 99, 100, 101, 102, 103, 104, 105, 106, 107, 108, 109, 110, 111, 112, 113, 114, 115, 116, 117, 118, 119, 120, 121, 122] rfl (by decide +kernel)
set_option maxRecDepth 20000 in
theorem gX12_comes_X12_findsEntries : GoodIn wsX12_comes (wsV RX12 119 RX12 yX12_findsEntries wsX12_findsEntries) := goodIn_app (goodIn_r _ [50, 51, 52, 8] rfl (by decide +kernel)) ggX12_comes_X12_findsEntries
set_option maxRecDepth 20000 in
theorem ggX12_comes_X12_against : GoodIn wsX12_comes wsX12_against := goodIn_r _ [45, 10, 25, 26, 27, 28, 8, 29, 4, 30, 31, 32, 33, 82, 83, 84, 85, 86, 87, 88, 89, 90, 91, 92, 93, 94, 95, 96, 97, 98, 99, 100, 101, 102, 103, 104, 105, 106, 107, 108, 109, 110, 111, 112, 113, 114, 115, 116, 117, 118, 119, 120, 121, 122] rfl (by decide +kernel)
set_option maxRecDepth 20000 in
theorem gX12_comes_X12_against : GoodIn wsX12_comes (wsV RX12 77 RX12 yX12_against wsX12_against) := goodIn_app (goodIn_r _ [42, 43, 44, 8] rfl (by decide +kernel)) ggX12_comes_X12_against
set_option maxRecDepth 20000 in
theorem ggX12_comes_X12_marks : GoodIn wsX12_comes wsX12_marks := goodIn_r _ [37, 26, 27, 28, 8, 29, 4, 38, 39, 40, 41, 82, 83, 84, 85, 86, 87, 88, 89, 90, 91, 92, 93, 94, 95, 96, 97, 98, 99, 100, 101, 102, 103, 104, 105, 106, 107, 108, 109, 110, 111, 112, 113, 114, 115, 116, 117, 118, 119, 120, 121, 122] rfl (by decide +kernel)
set_option maxRecDepth 20000 in
theorem gX12_comes_X12_marks : GoodIn wsX12_comes (wsV RX12 112 RX12 yX12_marks wsX12_marks) := goodIn_app (goodIn_r _ [34, 35, 36, 8] rfl (by decide +kernel)) ggX12_comes_X12_marks
set_option maxRecDepth 20000 in
theorem ggX12_comes_X12_laysRow : GoodIn wsX12_comes wsX12_laysRow := goodIn_r _ [62, 4, 10, 2, 25, 17, 18, 19, 8, 20, 26, 27, 28, 29, 38, 39, 40, 41, 82, 83, 84, 85, 86, 87, 88, 89, 90, 91, 92, 93, 94, 95, 96, 97, 98, 99, 100, 101, 102, 103, 104, 105, 106, 107, 108, 109, 110, 111, 112, 113, 114, 115, 116, 117, 118, 119, 120, 121, 122] rfl (by decide +kernel)
set_option maxRecDepth 20000 in
theorem gX12_comes_X12_laysRow : GoodIn wsX12_comes (wsV RX12 122 RX12 yX12_laysRow wsX12_laysRow) := goodIn_app (goodIn_r _ [59, 60, 61, 8] rfl (by decide +kernel)) ggX12_comes_X12_laysRow
set_option maxRecDepth 20000 in
theorem ggX12_comes_X12_entryOf : GoodIn wsX12_comes wsX12_entryOf := goodIn_r _ [66, 3, 82, 83, 84, 85, 86, 87, 88, 89, 90, 91, 92, 93, 94, 95, 96, 97, 98, 99, 100, 101, 102, 103, 104, 105, 106, 107, 108, 109, 110, 111, 112, 113, 114, 115, 116, 117, 118, 119, 120, 121, 122] rfl (by decide +kernel)
set_option maxRecDepth 20000 in
theorem gX12_comes_X12_entryOf : GoodIn wsX12_comes (wsV RX12 126 RX12 yX12_entryOf wsX12_entryOf) := goodIn_app (goodIn_r _ [63, 64, 65, 8] rfl (by decide +kernel)) ggX12_comes_X12_entryOf
set_option maxRecDepth 20000 in
theorem ggX12_comes_X12_pageBegin : GoodIn wsX12_comes wsX12_pageBegin := goodIn_r _ [70, 3, 71, 72, 73, 8, 74, 26, 27, 28, 29, 4, 75, 76, 77, 82, 83, 84, 85, 86, 87, 88, 89, 90, 91, 92, 93, 94, 95, 96, 97, 98, 99, 100, 101, 102, 103, 104, 105, 106, 107, 108, 109, 110, 111, 112, 113, 114, 115, 116, 117, 118, 119, 120, 121, 122] rfl (by decide +kernel)
set_option maxRecDepth 20000 in
theorem gX12_comes_X12_pageBegin : GoodIn wsX12_comes (wsV RX12 129 RX12 yX12_pageBegin wsX12_pageBegin) := goodIn_app (goodIn_r _ [67, 68, 69, 8] rfl (by decide +kernel)) ggX12_comes_X12_pageBegin
set_option maxRecDepth 20000 in
theorem ggX12_comes_X12_pageEnd : GoodIn wsX12_comes wsX12_pageEnd := goodIn_r _ [81, 1, 3, 71, 72, 73, 8, 74, 26, 27, 28, 29, 4, 75, 76, 77, 82, 83, 84, 85, 86, 87, 88, 89, 90, 91, 92, 93, 94, 95, 96, 97, 98, 99, 100, 101, 102, 103, 104, 105, 106, 107, 108, 109, 110, 111, 112, 113, 114, 115, 116, 117, 118, 119, 120, 121, 122] rfl (by decide +kernel)
set_option maxRecDepth 20000 in
theorem gX12_comes_X12_pageEnd : GoodIn wsX12_comes (wsV RX12 132 RX12 yX12_pageEnd wsX12_pageEnd) := goodIn_app (goodIn_r _ [78, 79, 80, 8] rfl (by decide +kernel)) ggX12_comes_X12_pageEnd
theorem dX12_comes_0 : decode cX12_comes 0 = .ok (.aload_n 0, 1) := by decide +kernel
theorem dX12_comes_1 : decode cX12_comes 1 = .ok (.invokevirtual 116, 3) := by decide +kernel
theorem dX12_comes_4 : decode cX12_comes 4 = .ok (.istore_n 2, 1) := by decide +kernel
theorem dX12_comes_5 : decode cX12_comes 5 = .ok (.aload_n 0, 1) := by decide +kernel
theorem dX12_comes_6 : decode cX12_comes 6 = .ok (.invokevirtual 81, 3) := by decide +kernel
theorem dX12_comes_9 : decode cX12_comes 9 = .ok (.istore_n 3, 1) := by decide +kernel
theorem dX12_comes_10 : decode cX12_comes 10 = .ok (.aload_n 0, 1) := by decide +kernel
theorem dX12_comes_11 : decode cX12_comes 11 = .ok (.iload_n 2, 1) := by decide +kernel
theorem dX12_comes_12 : decode cX12_comes 12 = .ok (.invokevirtual 119, 3) := by decide +kernel
theorem dX12_comes_15 : decode cX12_comes 15 = .ok (.aload_n 0, 1) := by decide +kernel
theorem dX12_comes_16 : decode cX12_comes 16 = .ok (.getfield 97, 3) := by decide +kernel
theorem dX12_comes_19 : decode cX12_comes 19 = .ok (.ifCond .ne 18, 3) := by decide +kernel
theorem dX12_comes_22 : decode cX12_comes 22 = .ok (.aload_n 0, 1) := by decide +kernel
theorem dX12_comes_23 : decode cX12_comes 23 = .ok (.aload_n 0, 1) := by decide +kernel
theorem dX12_comes_24 : decode cX12_comes 24 = .ok (.getfield 109, 3) := by decide +kernel
theorem dX12_comes_27 : decode cX12_comes 27 = .ok (.iconst 1, 1) := by decide +kernel
theorem dX12_comes_28 : decode cX12_comes 28 = .ok (.iload_n 2, 1) := by decide +kernel
theorem dX12_comes_29 : decode cX12_comes 29 = .ok (.ishl, 1) := by decide +kernel
theorem dX12_comes_30 : decode cX12_comes 30 = .ok (.ior, 1) := by decide +kernel
theorem dX12_comes_31 : decode cX12_comes 31 = .ok (.putfield 109, 3) := by decide +kernel
theorem dX12_comes_34 : decode cX12_comes 34 = .ok (.goto 40, 3) := by decide +kernel
theorem dX12_comes_37 : decode cX12_comes 37 = .ok (.aload_n 0, 1) := by decide +kernel
theorem dX12_comes_38 : decode cX12_comes 38 = .ok (.aload_n 0, 1) := by decide +kernel
theorem dX12_comes_39 : decode cX12_comes 39 = .ok (.getfield 16, 3) := by decide +kernel
theorem dX12_comes_42 : decode cX12_comes 42 = .ok (.iconst 0, 1) := by decide +kernel
theorem dX12_comes_43 : decode cX12_comes 43 = .ok (.iaload, 1) := by decide +kernel
theorem dX12_comes_44 : decode cX12_comes 44 = .ok (.invokevirtual 77, 3) := by decide +kernel
theorem dX12_comes_47 : decode cX12_comes 47 = .ok (.ifCond .le 27, 3) := by decide +kernel
theorem dX12_comes_50 : decode cX12_comes 50 = .ok (.aload_n 0, 1) := by decide +kernel
theorem dX12_comes_51 : decode cX12_comes 51 = .ok (.aload_n 0, 1) := by decide +kernel
theorem dX12_comes_52 : decode cX12_comes 52 = .ok (.getfield 109, 3) := by decide +kernel
theorem dX12_comes_55 : decode cX12_comes 55 = .ok (.iconst 1, 1) := by decide +kernel
theorem dX12_comes_56 : decode cX12_comes 56 = .ok (.iload_n 2, 1) := by decide +kernel
theorem dX12_comes_57 : decode cX12_comes 57 = .ok (.ishl, 1) := by decide +kernel
theorem dX12_comes_58 : decode cX12_comes 58 = .ok (.ior, 1) := by decide +kernel
theorem dX12_comes_59 : decode cX12_comes 59 = .ok (.putfield 109, 3) := by decide +kernel
theorem dX12_comes_62 : decode cX12_comes 62 = .ok (.aload_n 0, 1) := by decide +kernel
theorem dX12_comes_63 : decode cX12_comes 63 = .ok (.aload_n 0, 1) := by decide +kernel
theorem dX12_comes_64 : decode cX12_comes 64 = .ok (.getfield 16, 3) := by decide +kernel
theorem dX12_comes_67 : decode cX12_comes 67 = .ok (.iconst 0, 1) := by decide +kernel
theorem dX12_comes_68 : decode cX12_comes 68 = .ok (.iaload, 1) := by decide +kernel
theorem dX12_comes_69 : decode cX12_comes 69 = .ok (.iload_n 2, 1) := by decide +kernel
theorem dX12_comes_70 : decode cX12_comes 70 = .ok (.iconst 0, 1) := by decide +kernel
theorem dX12_comes_71 : decode cX12_comes 71 = .ok (.invokevirtual 112, 3) := by decide +kernel
theorem dX12_comes_74 : decode cX12_comes 74 = .ok (.aload_n 0, 1) := by decide +kernel
theorem dX12_comes_75 : decode cX12_comes 75 = .ok (.iload_n 3, 1) := by decide +kernel
theorem dX12_comes_76 : decode cX12_comes 76 = .ok (.iload_n 1, 1) := by decide +kernel
theorem dX12_comes_77 : decode cX12_comes 77 = .ok (.invokevirtual 122, 3) := by decide +kernel
theorem dX12_comes_80 : decode cX12_comes 80 = .ok (.aload_n 0, 1) := by decide +kernel
theorem dX12_comes_81 : decode cX12_comes 81 = .ok (.iload_n 2, 1) := by decide +kernel
theorem dX12_comes_82 : decode cX12_comes 82 = .ok (.invokevirtual 119, 3) := by decide +kernel
