theorem dX7_readSign_34 : decode cX7_readSign 34 = .ok (.return_, 1) := by decide +kernel
set_option maxRecDepth 20000 in
theorem ggX7_readKey_X2_clear : GoodIn wsX7_readKey wsX2_clear := goodIn_r _ [8, 9, 44, 45] rfl (by decide +kernel)
set_option maxRecDepth 20000 in
theorem gX7_readKey_X2_clear : GoodIn wsX7_readKey (wsV RX7 43 RX2 yX2_clear wsX2_clear) := goodIn_app (goodIn_r _ [4, 5, 6, 7] rfl (by decide +kernel)) ggX7_readKey_X2_clear
set_option maxRecDepth 20000 in
theorem ggX7_readKey_X7_sign : GoodIn wsX7_readKey wsX7_sign := goodIn_r _ [14, 2, 15, 16, 17, 18, 19, 20, 21, 22, 23, 40, 41, 42, 43, 46, 47] rfl (by decide +kernel)
set_option maxRecDepth 20000 in
theorem gX7_readKey_X7_sign : GoodIn wsX7_readKey (wsV RX7 35 RX7 yX7_sign wsX7_sign) := goodIn_app (goodIn_r _ [10, 11, 12, 13] rfl (by decide +kernel)) ggX7_readKey_X7_sign
set_option maxRecDepth 20000 in
theorem ggX7_readKey_X11_isKeyByte : GoodIn wsX7_readKey wsX11_isKeyByte := goodIn_r _ [26] rfl (by decide +kernel)
set_option maxRecDepth 20000 in
theorem gX7_readKey_X11_isKeyByte_n48 : GoodIn wsX7_readKey (wsX11_isKeyByte) := ggX7_readKey_X11_isKeyByte
set_option maxRecDepth 20000 in
theorem ggX7_readKey_X2_add : GoodIn wsX7_readKey wsX2_add := goodIn_r _ [30, 9, 31, 44, 45] rfl (by decide +kernel)
set_option maxRecDepth 20000 in
theorem gX7_readKey_X2_add : GoodIn wsX7_readKey (wsV RX7 52 RX2 yX2_add wsX2_add) := goodIn_app (goodIn_r _ [27, 28, 29, 7] rfl (by decide +kernel)) ggX7_readKey_X2_add
set_option maxRecDepth 20000 in
theorem ggX7_readKey_X7_blameHere : GoodIn wsX7_readKey wsX7_blameHere := goodIn_r _ [35, 2, 36, 37, 38, 13, 39, 1, 40, 41, 42, 43] rfl (by decide +kernel)
set_option maxRecDepth 20000 in
theorem gX7_readKey_X7_blameHere : GoodIn wsX7_readKey (wsV RX7 39 RX7 yX7_blameHere wsX7_blameHere) := goodIn_app (goodIn_r _ [32, 33, 34, 13] rfl (by decide +kernel)) ggX7_readKey_X7_blameHere
theorem dX7_readKey_0 : decode cX7_readKey 0 = .ok (.aload_n 1, 1) := by decide +kernel
theorem dX7_readKey_1 : decode cX7_readKey 1 = .ok (.invokevirtual 43, 3) := by decide +kernel
theorem dX7_readKey_4 : decode cX7_readKey 4 = .ok (.iconst 0, 1) := by decide +kernel
theorem dX7_readKey_5 : decode cX7_readKey 5 = .ok (.istore_n 2, 1) := by decide +kernel
theorem dX7_readKey_6 : decode cX7_readKey 6 = .ok (.iload_n 2, 1) := by decide +kernel
theorem dX7_readKey_7 : decode cX7_readKey 7 = .ok (.bipush 24, 2) := by decide +kernel
theorem dX7_readKey_9 : decode cX7_readKey 9 = .ok (.if_icmp .gt 55, 3) := by decide +kernel
theorem dX7_readKey_12 : decode cX7_readKey 12 = .ok (.aload_n 0, 1) := by decide +kernel
theorem dX7_readKey_13 : decode cX7_readKey 13 = .ok (.getfield 22, 3) := by decide +kernel
theorem dX7_readKey_16 : decode cX7_readKey 16 = .ok (.ifCond .ne 48, 3) := by decide +kernel
theorem dX7_readKey_19 : decode cX7_readKey 19 = .ok (.aload_n 0, 1) := by decide +kernel
theorem dX7_readKey_20 : decode cX7_readKey 20 = .ok (.invokevirtual 35, 3) := by decide +kernel
theorem dX7_readKey_23 : decode cX7_readKey 23 = .ok (.invokestatic 48, 3) := by decide +kernel
theorem dX7_readKey_26 : decode cX7_readKey 26 = .ok (.ifCond .eq 38, 3) := by decide +kernel
theorem dX7_readKey_29 : decode cX7_readKey 29 = .ok (.aload_n 1, 1) := by decide +kernel
theorem dX7_readKey_30 : decode cX7_readKey 30 = .ok (.aload_n 0, 1) := by decide +kernel
theorem dX7_readKey_31 : decode cX7_readKey 31 = .ok (.invokevirtual 35, 3) := by decide +kernel
theorem dX7_readKey_34 : decode cX7_readKey 34 = .ok (.invokevirtual 52, 3) := by decide +kernel
theorem dX7_readKey_37 : decode cX7_readKey 37 = .ok (.ifCond .eq 16, 3) := by decide +kernel
theorem dX7_readKey_40 : decode cX7_readKey 40 = .ok (.aload_n 0, 1) := by decide +kernel
theorem dX7_readKey_41 : decode cX7_readKey 41 = .ok (.dup, 1) := by decide +kernel
theorem dX7_readKey_42 : decode cX7_readKey 42 = .ok (.getfield 15, 3) := by decide +kernel
theorem dX7_readKey_45 : decode cX7_readKey 45 = .ok (.iconst 1, 1) := by decide +kernel
theorem dX7_readKey_46 : decode cX7_readKey 46 = .ok (.iadd, 1) := by decide +kernel
theorem dX7_readKey_47 : decode cX7_readKey 47 = .ok (.putfield 15, 3) := by decide +kernel
theorem dX7_readKey_50 : decode cX7_readKey 50 = .ok (.goto 8, 3) := by decide +kernel
theorem dX7_readKey_53 : decode cX7_readKey 53 = .ok (.aload_n 0, 1) := by decide +kernel
theorem dX7_readKey_54 : decode cX7_readKey 54 = .ok (.iconst 5, 1) := by decide +kernel
theorem dX7_readKey_55 : decode cX7_readKey 55 = .ok (.invokevirtual 39, 3) := by decide +kernel
theorem dX7_readKey_58 : decode cX7_readKey 58 = .ok (.iinc 2 1, 3) := by decide +kernel
theorem dX7_readKey_61 : decode cX7_readKey 61 = .ok (.goto (-55), 3) := by decide +kernel
theorem dX7_readKey_64 : decode cX7_readKey 64 = .ok (.aload_n 1, 1) := by decide +kernel
theorem dX7_readKey_65 : decode cX7_readKey 65 = .ok (.getfield 55, 3) := by decide +kernel
theorem dX7_readKey_68 : decode cX7_readKey 68 = .ok (.ifCond .ne 8, 3) := by decide +kernel
theorem dX7_readKey_71 : decode cX7_readKey 71 = .ok (.aload_n 0, 1) := by decide +kernel
theorem dX7_readKey_72 : decode cX7_readKey 72 = .ok (.iconst 1, 1) := by decide +kernel
theorem dX7_readKey_73 : decode cX7_readKey 73 = .ok (.invokevirtual 39, 3) := by decide +kernel
theorem dX7_readKey_76 : decode cX7_readKey 76 = .ok (.return_, 1) := by decide +kernel
set_option maxRecDepth 20000 in
theorem ggX7_readNumber_X7_sign : GoodIn wsX7_readNumber wsX7_sign := goodIn_r _ [7, 1, 8, 9, 10, 11, 12, 13, 14, 15, 16, 28, 29, 30, 31, 32, 33] rfl (by decide +kernel)
set_option maxRecDepth 20000 in
theorem gX7_readNumber_X7_sign : GoodIn wsX7_readNumber (wsV RX7 35 RX7 yX7_sign wsX7_sign) := goodIn_app (goodIn_r _ [3, 4, 5, 6] rfl (by decide +kernel)) ggX7_readNumber_X7_sign
set_option maxRecDepth 20000 in
theorem ggX7_readNumber_X11_isDigit : GoodIn wsX7_readNumber wsX11_isDigit := goodIn_r _ [19] rfl (by decide +kernel)
set_option maxRecDepth 20000 in
theorem gX7_readNumber_X11_isDigit_n58 : GoodIn wsX7_readNumber (wsX11_isDigit) := ggX7_readNumber_X11_isDigit
set_option maxRecDepth 20000 in
theorem ggX7_readNumber_X7_blameHere : GoodIn wsX7_readNumber wsX7_blameHere := goodIn_r _ [23, 1, 24, 25, 26, 6, 27, 2, 28, 29, 30, 31] rfl (by decide +kernel)
set_option maxRecDepth 20000 in
theorem gX7_readNumber_X7_blameHere : GoodIn wsX7_readNumber (wsV RX7 39 RX7 yX7_blameHere wsX7_blameHere) := goodIn_app (goodIn_r _ [20, 21, 22, 6] rfl (by decide +kernel)) ggX7_readNumber_X7_blameHere
theorem dX7_readNumber_0 : decode cX7_readNumber 0 = .ok (.iconst 0, 1) := by decide +kernel
theorem dX7_readNumber_1 : decode cX7_readNumber 1 = .ok (.istore_n 1, 1) := by decide +kernel
theorem dX7_readNumber_2 : decode cX7_readNumber 2 = .ok (.aload_n 0, 1) := by decide +kernel
theorem dX7_readNumber_3 : decode cX7_readNumber 3 = .ok (.getfield 15, 3) := by decide +kernel
theorem dX7_readNumber_6 : decode cX7_readNumber 6 = .ok (.istore_n 2, 1) := by decide +kernel
theorem dX7_readNumber_7 : decode cX7_readNumber 7 = .ok (.iconst 0, 1) := by decide +kernel
theorem dX7_readNumber_8 : decode cX7_readNumber 8 = .ok (.istore_n 3, 1) := by decide +kernel
theorem dX7_readNumber_9 : decode cX7_readNumber 9 = .ok (.iload_n 3, 1) := by decide +kernel
theorem dX7_readNumber_10 : decode cX7_readNumber 10 = .ok (.iconst 5, 1) := by decide +kernel
theorem dX7_readNumber_11 : decode cX7_readNumber 11 = .ok (.if_icmp .gt 62, 3) := by decide +kernel
theorem dX7_readNumber_14 : decode cX7_readNumber 14 = .ok (.aload_n 0, 1) := by decide +kernel
theorem dX7_readNumber_15 : decode cX7_readNumber 15 = .ok (.getfield 22, 3) := by decide +kernel
theorem dX7_readNumber_18 : decode cX7_readNumber 18 = .ok (.ifCond .ne 55, 3) := by decide +kernel
theorem dX7_readNumber_21 : decode cX7_readNumber 21 = .ok (.aload_n 0, 1) := by decide +kernel
theorem dX7_readNumber_22 : decode cX7_readNumber 22 = .ok (.invokevirtual 35, 3) := by decide +kernel
theorem dX7_readNumber_25 : decode cX7_readNumber 25 = .ok (.invokestatic 58, 3) := by decide +kernel
theorem dX7_readNumber_28 : decode cX7_readNumber 28 = .ok (.ifCond .eq 45, 3) := by decide +kernel
theorem dX7_readNumber_31 : decode cX7_readNumber 31 = .ok (.iload_n 3, 1) := by decide +kernel
theorem dX7_readNumber_32 : decode cX7_readNumber 32 = .ok (.iconst 5, 1) := by decide +kernel
theorem dX7_readNumber_33 : decode cX7_readNumber 33 = .ok (.if_icmp .ge 29, 3) := by decide +kernel
theorem dX7_readNumber_36 : decode cX7_readNumber 36 = .ok (.iload_n 1, 1) := by decide +kernel
theorem dX7_readNumber_37 : decode cX7_readNumber 37 = .ok (.bipush 10, 2) := by decide +kernel
theorem dX7_readNumber_39 : decode cX7_readNumber 39 = .ok (.imul, 1) := by decide +kernel
theorem dX7_readNumber_40 : decode cX7_readNumber 40 = .ok (.aload_n 0, 1) := by decide +kernel
theorem dX7_readNumber_41 : decode cX7_readNumber 41 = .ok (.invokevirtual 35, 3) := by decide +kernel
theorem dX7_readNumber_44 : decode cX7_readNumber 44 = .ok (.iadd, 1) := by decide +kernel
theorem dX7_readNumber_45 : decode cX7_readNumber 45 = .ok (.bipush 48, 2) := by decide +kernel
theorem dX7_readNumber_47 : decode cX7_readNumber 47 = .ok (.isub, 1) := by decide +kernel
theorem dX7_readNumber_48 : decode cX7_readNumber 48 = .ok (.istore_n 1, 1) := by decide +kernel
theorem dX7_readNumber_49 : decode cX7_readNumber 49 = .ok (.aload_n 0, 1) := by decide +kernel
theorem dX7_readNumber_50 : decode cX7_readNumber 50 = .ok (.dup, 1) := by decide +kernel
theorem dX7_readNumber_51 : decode cX7_readNumber 51 = .ok (.getfield 15, 3) := by decide +kernel
theorem dX7_readNumber_54 : decode cX7_readNumber 54 = .ok (.iconst 1, 1) := by decide +kernel
theorem dX7_readNumber_55 : decode cX7_readNumber 55 = .ok (.iadd, 1) := by decide +kernel
theorem dX7_readNumber_56 : decode cX7_readNumber 56 = .ok (.putfield 15, 3) := by decide +kernel
theorem dX7_readNumber_59 : decode cX7_readNumber 59 = .ok (.goto 8, 3) := by decide +kernel
theorem dX7_readNumber_62 : decode cX7_readNumber 62 = .ok (.aload_n 0, 1) := by decide +kernel
theorem dX7_readNumber_63 : decode cX7_readNumber 63 = .ok (.iconst 2, 1) := by decide +kernel
theorem dX7_readNumber_64 : decode cX7_readNumber 64 = .ok (.invokevirtual 39, 3) := by decide +kernel
theorem dX7_readNumber_67 : decode cX7_readNumber 67 = .ok (.iinc 3 1, 3) := by decide +kernel
theorem dX7_readNumber_70 : decode cX7_readNumber 70 = .ok (.goto (-61), 3) := by decide +kernel
theorem dX7_readNumber_73 : decode cX7_readNumber 73 = .ok (.aload_n 0, 1) := by decide +kernel
theorem dX7_readNumber_74 : decode cX7_readNumber 74 = .ok (.getfield 15, 3) := by decide +kernel
theorem dX7_readNumber_77 : decode cX7_readNumber 77 = .ok (.iload_n 2, 1) := by decide +kernel
theorem dX7_readNumber_78 : decode cX7_readNumber 78 = .ok (.if_icmp .ne 8, 3) := by decide +kernel
theorem dX7_readNumber_81 : decode cX7_readNumber 81 = .ok (.aload_n 0, 1) := by decide +kernel
theorem dX7_readNumber_82 : decode cX7_readNumber 82 = .ok (.iconst 1, 1) := by decide +kernel
theorem dX7_readNumber_83 : decode cX7_readNumber 83 = .ok (.invokevirtual 39, 3) := by decide +kernel
theorem dX7_readNumber_86 : decode cX7_readNumber 86 = .ok (.iload_n 1, 1) := by decide +kernel
theorem dX7_readNumber_87 : decode cX7_readNumber 87 = .ok (.ireturn, 1) := by decide +kernel
set_option maxRecDepth 20000 in
theorem ggX7_readNumberAboveZero_X7_readNumber : GoodIn wsX7_readNumberAboveZero wsX7_readNumber := goodIn_r _ [6, 1, 7, 8, 9, 10, 5, 11, 12, 13, 14, 15, 16, 17, 18, 19, 20, 21, 22, 23, 24, 25, 26, 27, 28, 29, 30, 31, 32, 33, 34, 35, 36, 37] rfl (by decide +kernel)
set_option maxRecDepth 20000 in
theorem gX7_readNumberAboveZero_X7_readNumber : GoodIn wsX7_readNumberAboveZero (wsV RX7 61 RX7 yX7_readNumber wsX7_readNumber) := goodIn_app (goodIn_r _ [2, 3, 4, 5] rfl (by decide +kernel)) ggX7_readNumberAboveZero_X7_readNumber
set_option maxRecDepth 20000 in
theorem ggX7_readNumberAboveZero_X7_blame : GoodIn wsX7_readNumberAboveZero wsX7_blame := goodIn_r _ [31, 7, 32, 33, 34, 35] rfl (by decide +kernel)
set_option maxRecDepth 20000 in
theorem gX7_readNumberAboveZero_X7_blame : GoodIn wsX7_readNumberAboveZero (wsV RX7 31 RX7 yX7_blame wsX7_blame) := goodIn_app (goodIn_r _ [28, 29, 30, 5] rfl (by decide +kernel)) ggX7_readNumberAboveZero_X7_blame
theorem dX7_readNumberAboveZero_0 : decode cX7_readNumberAboveZero 0 = .ok (.aload_n 0, 1) := by decide +kernel
theorem dX7_readNumberAboveZero_1 : decode cX7_readNumberAboveZero 1 = .ok (.getfield 15, 3) := by decide +kernel
theorem dX7_readNumberAboveZero_4 : decode cX7_readNumberAboveZero 4 = .ok (.istore_n 1, 1) := by decide +kernel
theorem dX7_readNumberAboveZero_5 : decode cX7_readNumberAboveZero 5 = .ok (.aload_n 0, 1) := by decide +kernel
theorem dX7_readNumberAboveZero_6 : decode cX7_readNumberAboveZero 6 = .ok (.invokevirtual 61, 3) := by decide +kernel
theorem dX7_readNumberAboveZero_9 : decode cX7_readNumberAboveZero 9 = .ok (.istore_n 2, 1) := by decide +kernel
theorem dX7_readNumberAboveZero_10 : decode cX7_readNumberAboveZero 10 = .ok (.iload_n 2, 1) := by decide +kernel
theorem dX7_readNumberAboveZero_11 : decode cX7_readNumberAboveZero 11 = .ok (.ifCond .ne 9, 3) := by decide +kernel
theorem dX7_readNumberAboveZero_14 : decode cX7_readNumberAboveZero 14 = .ok (.aload_n 0, 1) := by decide +kernel
theorem dX7_readNumberAboveZero_15 : decode cX7_readNumberAboveZero 15 = .ok (.iconst 3, 1) := by decide +kernel
theorem dX7_readNumberAboveZero_16 : decode cX7_readNumberAboveZero 16 = .ok (.iload_n 1, 1) := by decide +kernel
theorem dX7_readNumberAboveZero_17 : decode cX7_readNumberAboveZero 17 = .ok (.invokevirtual 31, 3) := by decide +kernel
theorem dX7_readNumberAboveZero_20 : decode cX7_readNumberAboveZero 20 = .ok (.iload_n 2, 1) := by decide +kernel
theorem dX7_readNumberAboveZero_21 : decode cX7_readNumberAboveZero 21 = .ok (.ireturn, 1) := by decide +kernel
set_option maxRecDepth 20000 in
theorem ggX7_readBreak_X7_isAtEnd : GoodIn wsX7_readBreak wsX7_isAtEnd := goodIn_r _ [6, 7, 8, 33, 34, 35, 36] rfl (by decide +kernel)
set_option maxRecDepth 20000 in
theorem gX7_readBreak_X7_isAtEnd : GoodIn wsX7_readBreak (wsV RX7 64 RX7 yX7_isAtEnd wsX7_isAtEnd) := goodIn_app (goodIn_r _ [2, 3, 4, 5] rfl (by decide +kernel)) ggX7_readBreak_X7_isAtEnd
set_option maxRecDepth 20000 in
theorem ggX7_readBreak_X7_readSign : GoodIn wsX7_readBreak wsX7_readSign := goodIn_r _ [12, 1, 7, 13, 14, 15, 5, 16, 8, 17, 18, 19, 20, 21, 22, 23, 24, 25, 26, 27, 28, 29, 30, 31, 32, 33, 34, 35, 36, 37, 38] rfl (by decide +kernel)
set_option maxRecDepth 20000 in
theorem gX7_readBreak_X7_readSign : GoodIn wsX7_readBreak (wsV RX7 68 RX7 yX7_readSign wsX7_readSign) := goodIn_app (goodIn_r _ [9, 10, 11, 5] rfl (by decide +kernel)) ggX7_readBreak_X7_readSign
theorem dX7_readBreak_0 : decode cX7_readBreak 0 = .ok (.aload_n 0, 1) := by decide +kernel
theorem dX7_readBreak_1 : decode cX7_readBreak 1 = .ok (.getfield 22, 3) := by decide +kernel
theorem dX7_readBreak_4 : decode cX7_readBreak 4 = .ok (.ifCond .ne 10, 3) := by decide +kernel
theorem dX7_readBreak_7 : decode cX7_readBreak 7 = .ok (.aload_n 0, 1) := by decide +kernel
theorem dX7_readBreak_8 : decode cX7_readBreak 8 = .ok (.invokevirtual 64, 3) := by decide +kernel
theorem dX7_readBreak_11 : decode cX7_readBreak 11 = .ok (.ifCond .eq 5, 3) := by decide +kernel
theorem dX7_readBreak_14 : decode cX7_readBreak 14 = .ok (.iconst 0, 1) := by decide +kernel
theorem dX7_readBreak_15 : decode cX7_readBreak 15 = .ok (.ireturn, 1) := by decide +kernel
theorem dX7_readBreak_16 : decode cX7_readBreak 16 = .ok (.aload_n 0, 1) := by decide +kernel
theorem dX7_readBreak_17 : decode cX7_readBreak 17 = .ok (.bipush 59, 2) := by decide +kernel
theorem dX7_readBreak_19 : decode cX7_readBreak 19 = .ok (.invokevirtual 68, 3) := by decide +kernel
theorem dX7_readBreak_22 : decode cX7_readBreak 22 = .ok (.aload_n 0, 1) := by decide +kernel
theorem dX7_readBreak_23 : decode cX7_readBreak 23 = .ok (.getfield 22, 3) := by decide +kernel
theorem dX7_readBreak_26 : decode cX7_readBreak 26 = .ok (.ifCond .ne 7, 3) := by decide +kernel
theorem dX7_readBreak_29 : decode cX7_readBreak 29 = .ok (.iconst 1, 1) := by decide +kernel
theorem dX7_readBreak_30 : decode cX7_readBreak 30 = .ok (.goto 4, 3) := by decide +kernel
theorem dX7_readBreak_33 : decode cX7_readBreak 33 = .ok (.iconst 0, 1) := by decide +kernel
theorem dX7_readBreak_34 : decode cX7_readBreak 34 = .ok (.ireturn, 1) := by decide +kernel
set_option maxRecDepth 20000 in
theorem ggX8_init_X10_init : GoodIn wsX8_init wsX10_init := goodIn_r _ [18, 19, 2, 3, 20, 21, 22, 23, 24, 25, 26, 27, 28, 29, 30, 31, 32, 33, 34, 35, 36, 37, 38, 39, 40, 41, 42, 92, 93, 94, 95, 71, 72, 73, 74, 75, 76, 77, 78, 79] rfl (by decide +kernel)
set_option maxRecDepth 20000 in
theorem gX8_init_X10_init : GoodIn wsX8_init (wsX10_init) := ggX8_init_X10_init
set_option maxRecDepth 20000 in
theorem ggX8_init_X0_init : GoodIn wsX8_init wsX0_init := goodIn_r _ [45, 46, 2, 3, 47, 48, 49, 50, 51, 52, 53, 54, 55, 56, 57, 58, 38, 59, 60, 96, 97, 83, 84, 85, 86, 87] rfl (by decide +kernel)
set_option maxRecDepth 20000 in
theorem gX8_init_X0_init : GoodIn wsX8_init (wsX0_init) := ggX8_init_X0_init
set_option maxRecDepth 20000 in
theorem ggX8_init_X6_init : GoodIn wsX8_init wsX6_init := goodIn_r _ [63, 64, 2, 3, 24, 65, 66, 67, 68, 48, 49, 69, 70, 56, 57, 58, 38, 59, 60, 88, 89, 90, 91, 96, 97] rfl (by decide +kernel)
set_option maxRecDepth 20000 in
theorem gX8_init_X6_init : GoodIn wsX8_init (wsX6_init) := ggX8_init_X6_init
theorem dX8_init_0 : decode cX8_init 0 = .ok (.aload_n 0, 1) := by decide +kernel
theorem dX8_init_1 : decode cX8_init 1 = .ok (.invokespecial 3, 3) := by decide +kernel
theorem dX8_init_4 : decode cX8_init 4 = .ok (.aload_n 0, 1) := by decide +kernel
theorem dX8_init_5 : decode cX8_init 5 = .ok (.new 9, 3) := by decide +kernel
theorem dX8_init_8 : decode cX8_init 8 = .ok (.dup, 1) := by decide +kernel
theorem dX8_init_9 : decode cX8_init 9 = .ok (.invokespecial 11, 3) := by decide +kernel
theorem dX8_init_12 : decode cX8_init 12 = .ok (.putfield 12, 3) := by decide +kernel
theorem dX8_init_15 : decode cX8_init 15 = .ok (.aload_n 0, 1) := by decide +kernel
theorem dX8_init_16 : decode cX8_init 16 = .ok (.iconst 4, 1) := by decide +kernel
theorem dX8_init_17 : decode cX8_init 17 = .ok (.anewarray 18, 3) := by decide +kernel
theorem dX8_init_20 : decode cX8_init 20 = .ok (.putfield 20, 3) := by decide +kernel
theorem dX8_init_23 : decode cX8_init 23 = .ok (.iconst 0, 1) := by decide +kernel
theorem dX8_init_24 : decode cX8_init 24 = .ok (.istore_n 1, 1) := by decide +kernel
theorem dX8_init_25 : decode cX8_init 25 = .ok (.iload_n 1, 1) := by decide +kernel
theorem dX8_init_26 : decode cX8_init 26 = .ok (.iconst 4, 1) := by decide +kernel
theorem dX8_init_27 : decode cX8_init 27 = .ok (.if_icmp .ge 22, 3) := by decide +kernel
theorem dX8_init_30 : decode cX8_init 30 = .ok (.aload_n 0, 1) := by decide +kernel
theorem dX8_init_31 : decode cX8_init 31 = .ok (.getfield 20, 3) := by decide +kernel
theorem dX8_init_34 : decode cX8_init 34 = .ok (.iload_n 1, 1) := by decide +kernel
theorem dX8_init_35 : decode cX8_init 35 = .ok (.new 18, 3) := by decide +kernel
theorem dX8_init_38 : decode cX8_init 38 = .ok (.dup, 1) := by decide +kernel
theorem dX8_init_39 : decode cX8_init 39 = .ok (.invokespecial 24, 3) := by decide +kernel
theorem dX8_init_42 : decode cX8_init 42 = .ok (.aastore, 1) := by decide +kernel
theorem dX8_init_43 : decode cX8_init 43 = .ok (.iinc 1 1, 3) := by decide +kernel
theorem dX8_init_46 : decode cX8_init 46 = .ok (.goto (-21), 3) := by decide +kernel
theorem dX8_init_49 : decode cX8_init 49 = .ok (.aload_n 0, 1) := by decide +kernel
theorem dX8_init_50 : decode cX8_init 50 = .ok (.new 25, 3) := by decide +kernel
theorem dX8_init_53 : decode cX8_init 53 = .ok (.dup, 1) := by decide +kernel
theorem dX8_init_54 : decode cX8_init 54 = .ok (.invokespecial 27, 3) := by decide +kernel
theorem dX8_init_57 : decode cX8_init 57 = .ok (.putfield 28, 3) := by decide +kernel
theorem dX8_init_60 : decode cX8_init 60 = .ok (.return_, 1) := by decide +kernel
set_option maxRecDepth 20000 in
theorem ggX8_copyFrom_X10_copyFrom : GoodIn wsX8_copyFrom wsX10_copyFrom := goodIn_r _ [8, 9, 10, 11, 12, 13, 14, 15, 16, 17, 18, 19, 20, 21, 22, 23, 24, 25, 26, 27, 28, 29, 30, 31, 64, 65, 66, 67, 68, 69, 70, 71, 72, 73, 74, 75, 76] rfl (by decide +kernel)
set_option maxRecDepth 20000 in
theorem gX8_copyFrom_X10_copyFrom : GoodIn wsX8_copyFrom (wsV RX8 32 RX10 yX10_copyFrom wsX10_copyFrom) := goodIn_app (goodIn_r _ [4, 5, 6, 7] rfl (by decide +kernel)) ggX8_copyFrom_X10_copyFrom
set_option maxRecDepth 20000 in
theorem ggX8_copyFrom_X0_copyFrom : GoodIn wsX8_copyFrom wsX0_copyFrom := goodIn_r _ [36, 37, 38, 39, 40, 41, 42, 43, 44, 45, 46, 47, 48, 12, 13, 14, 49, 77, 78, 79, 80, 81, 82, 83] rfl (by decide +kernel)
set_option maxRecDepth 20000 in
theorem gX8_copyFrom_X0_copyFrom : GoodIn wsX8_copyFrom (wsV RX8 36 RX0 yX0_copyFrom wsX0_copyFrom) := goodIn_app (goodIn_r _ [32, 33, 34, 35] rfl (by decide +kernel)) ggX8_copyFrom_X0_copyFrom
set_option maxRecDepth 20000 in
theorem ggX8_copyFrom_X6_copyFrom : GoodIn wsX8_copyFrom wsX6_copyFrom := goodIn_r _ [54, 55, 56, 12, 13, 14, 57, 58, 59, 60, 43, 44, 45, 46, 47, 48, 49, 84, 85, 86, 87, 82, 83] rfl (by decide +kernel)
set_option maxRecDepth 20000 in
theorem gX8_copyFrom_X6_copyFrom : GoodIn wsX8_copyFrom (wsV RX8 39 RX6 yX6_copyFrom wsX6_copyFrom) := goodIn_app (goodIn_r _ [50, 51, 52, 53] rfl (by decide +kernel)) ggX8_copyFrom_X6_copyFrom
theorem dX8_copyFrom_0 : decode cX8_copyFrom 0 = .ok (.aload_n 0, 1) := by decide +kernel
theorem dX8_copyFrom_1 : decode cX8_copyFrom 1 = .ok (.getfield 12, 3) := by decide +kernel
theorem dX8_copyFrom_4 : decode cX8_copyFrom 4 = .ok (.aload_n 1, 1) := by decide +kernel
theorem dX8_copyFrom_5 : decode cX8_copyFrom 5 = .ok (.getfield 12, 3) := by decide +kernel
theorem dX8_copyFrom_8 : decode cX8_copyFrom 8 = .ok (.invokevirtual 32, 3) := by decide +kernel
theorem dX8_copyFrom_11 : decode cX8_copyFrom 11 = .ok (.iconst 0, 1) := by decide +kernel
theorem dX8_copyFrom_12 : decode cX8_copyFrom 12 = .ok (.istore_n 2, 1) := by decide +kernel
theorem dX8_copyFrom_13 : decode cX8_copyFrom 13 = .ok (.iload_n 2, 1) := by decide +kernel
theorem dX8_copyFrom_14 : decode cX8_copyFrom 14 = .ok (.iconst 4, 1) := by decide +kernel
theorem dX8_copyFrom_15 : decode cX8_copyFrom 15 = .ok (.if_icmp .ge 24, 3) := by decide +kernel
theorem dX8_copyFrom_18 : decode cX8_copyFrom 18 = .ok (.aload_n 0, 1) := by decide +kernel
theorem dX8_copyFrom_19 : decode cX8_copyFrom 19 = .ok (.getfield 20, 3) := by decide +kernel
theorem dX8_copyFrom_22 : decode cX8_copyFrom 22 = .ok (.iload_n 2, 1) := by decide +kernel
theorem dX8_copyFrom_23 : decode cX8_copyFrom 23 = .ok (.aaload, 1) := by decide +kernel
theorem dX8_copyFrom_24 : decode cX8_copyFrom 24 = .ok (.aload_n 1, 1) := by decide +kernel
theorem dX8_copyFrom_25 : decode cX8_copyFrom 25 = .ok (.getfield 20, 3) := by decide +kernel
theorem dX8_copyFrom_28 : decode cX8_copyFrom 28 = .ok (.iload_n 2, 1) := by decide +kernel
theorem dX8_copyFrom_29 : decode cX8_copyFrom 29 = .ok (.aaload, 1) := by decide +kernel
theorem dX8_copyFrom_30 : decode cX8_copyFrom 30 = .ok (.invokevirtual 36, 3) := by decide +kernel
theorem dX8_copyFrom_33 : decode cX8_copyFrom 33 = .ok (.iinc 2 1, 3) := by decide +kernel
theorem dX8_copyFrom_36 : decode cX8_copyFrom 36 = .ok (.goto (-23), 3) := by decide +kernel
theorem dX8_copyFrom_39 : decode cX8_copyFrom 39 = .ok (.aload_n 0, 1) := by decide +kernel
theorem dX8_copyFrom_40 : decode cX8_copyFrom 40 = .ok (.getfield 28, 3) := by decide +kernel
theorem dX8_copyFrom_43 : decode cX8_copyFrom 43 = .ok (.aload_n 1, 1) := by decide +kernel
theorem dX8_copyFrom_44 : decode cX8_copyFrom 44 = .ok (.getfield 28, 3) := by decide +kernel
theorem dX8_copyFrom_47 : decode cX8_copyFrom 47 = .ok (.invokevirtual 39, 3) := by decide +kernel
theorem dX8_copyFrom_50 : decode cX8_copyFrom 50 = .ok (.return_, 1) := by decide +kernel
theorem dX8_forgetCursors_0 : decode cX8_forgetCursors 0 = .ok (.iconst 0, 1) := by decide +kernel
theorem dX8_forgetCursors_1 : decode cX8_forgetCursors 1 = .ok (.istore_n 1, 1) := by decide +kernel
theorem dX8_forgetCursors_2 : decode cX8_forgetCursors 2 = .ok (.iload_n 1, 1) := by decide +kernel
theorem dX8_forgetCursors_3 : decode cX8_forgetCursors 3 = .ok (.iconst 4, 1) := by decide +kernel
theorem dX8_forgetCursors_4 : decode cX8_forgetCursors 4 = .ok (.if_icmp .ge 19, 3) := by decide +kernel
theorem dX8_forgetCursors_7 : decode cX8_forgetCursors 7 = .ok (.aload_n 0, 1) := by decide +kernel
theorem dX8_forgetCursors_8 : decode cX8_forgetCursors 8 = .ok (.getfield 20, 3) := by decide +kernel
theorem dX8_forgetCursors_11 : decode cX8_forgetCursors 11 = .ok (.iload_n 1, 1) := by decide +kernel
theorem dX8_forgetCursors_12 : decode cX8_forgetCursors 12 = .ok (.aaload, 1) := by decide +kernel
theorem dX8_forgetCursors_13 : decode cX8_forgetCursors 13 = .ok (.iconst 0, 1) := by decide +kernel
theorem dX8_forgetCursors_14 : decode cX8_forgetCursors 14 = .ok (.putfield 42, 3) := by decide +kernel
theorem dX8_forgetCursors_17 : decode cX8_forgetCursors 17 = .ok (.iinc 1 1, 3) := by decide +kernel
theorem dX8_forgetCursors_20 : decode cX8_forgetCursors 20 = .ok (.goto (-18), 3) := by decide +kernel
theorem dX8_forgetCursors_23 : decode cX8_forgetCursors 23 = .ok (.return_, 1) := by decide +kernel
theorem dX9_init_0 : decode cX9_init 0 = .ok (.aload_n 0, 1) := by decide +kernel
theorem dX9_init_1 : decode cX9_init 1 = .ok (.invokespecial 3, 3) := by decide +kernel
theorem dX9_init_4 : decode cX9_init 4 = .ok (.aload_n 0, 1) := by decide +kernel
theorem dX9_init_5 : decode cX9_init 5 = .ok (.sipush 240, 3) := by decide +kernel
theorem dX9_init_8 : decode cX9_init 8 = .ok (.newarray .byte, 2) := by decide +kernel
theorem dX9_init_10 : decode cX9_init 10 = .ok (.putfield 9, 3) := by decide +kernel
theorem dX9_init_13 : decode cX9_init 13 = .ok (.aload_n 0, 1) := by decide +kernel
theorem dX9_init_14 : decode cX9_init 14 = .ok (.iconst 0, 1) := by decide +kernel
theorem dX9_init_15 : decode cX9_init 15 = .ok (.putfield 15, 3) := by decide +kernel
theorem dX9_init_18 : decode cX9_init 18 = .ok (.return_, 1) := by decide +kernel
theorem dX9_clear_0 : decode cX9_clear 0 = .ok (.aload_n 0, 1) := by decide +kernel
theorem dX9_clear_1 : decode cX9_clear 1 = .ok (.iconst 0, 1) := by decide +kernel
theorem dX9_clear_2 : decode cX9_clear 2 = .ok (.putfield 15, 3) := by decide +kernel
theorem dX9_clear_5 : decode cX9_clear 5 = .ok (.return_, 1) := by decide +kernel
theorem dX9_addWord_0 : decode cX9_addWord 0 = .ok (.bipush 24, 2) := by decide +kernel
theorem dX9_addWord_2 : decode cX9_addWord 2 = .ok (.istore_n 2, 1) := by decide +kernel
theorem dX9_addWord_3 : decode cX9_addWord 3 = .ok (.iload_n 2, 1) := by decide +kernel
theorem dX9_addWord_4 : decode cX9_addWord 4 = .ok (.ifCond .lt 51, 3) := by decide +kernel
theorem dX9_addWord_7 : decode cX9_addWord 7 = .ok (.aload_n 0, 1) := by decide +kernel
theorem dX9_addWord_8 : decode cX9_addWord 8 = .ok (.getfield 15, 3) := by decide +kernel
theorem dX9_addWord_11 : decode cX9_addWord 11 = .ok (.ifCond .lt 44, 3) := by decide +kernel
theorem dX9_addWord_14 : decode cX9_addWord 14 = .ok (.aload_n 0, 1) := by decide +kernel
theorem dX9_addWord_15 : decode cX9_addWord 15 = .ok (.getfield 15, 3) := by decide +kernel
theorem dX9_addWord_18 : decode cX9_addWord 18 = .ok (.aload_n 0, 1) := by decide +kernel
theorem dX9_addWord_19 : decode cX9_addWord 19 = .ok (.getfield 9, 3) := by decide +kernel
theorem dX9_addWord_22 : decode cX9_addWord 22 = .ok (.arraylength, 1) := by decide +kernel
theorem dX9_addWord_23 : decode cX9_addWord 23 = .ok (.if_icmp .ge 32, 3) := by decide +kernel
theorem dX9_addWord_26 : decode cX9_addWord 26 = .ok (.aload_n 0, 1) := by decide +kernel
theorem dX9_addWord_27 : decode cX9_addWord 27 = .ok (.getfield 9, 3) := by decide +kernel
theorem dX9_addWord_30 : decode cX9_addWord 30 = .ok (.aload_n 0, 1) := by decide +kernel
theorem dX9_addWord_31 : decode cX9_addWord 31 = .ok (.getfield 15, 3) := by decide +kernel
theorem dX9_addWord_34 : decode cX9_addWord 34 = .ok (.iload_n 1, 1) := by decide +kernel
theorem dX9_addWord_35 : decode cX9_addWord 35 = .ok (.iload_n 2, 1) := by decide +kernel
theorem dX9_addWord_36 : decode cX9_addWord 36 = .ok (.ishr, 1) := by decide +kernel
theorem dX9_addWord_37 : decode cX9_addWord 37 = .ok (.i2b, 1) := by decide +kernel
theorem dX9_addWord_38 : decode cX9_addWord 38 = .ok (.bastore, 1) := by decide +kernel
theorem dX9_addWord_39 : decode cX9_addWord 39 = .ok (.aload_n 0, 1) := by decide +kernel
theorem dX9_addWord_40 : decode cX9_addWord 40 = .ok (.dup, 1) := by decide +kernel
theorem dX9_addWord_41 : decode cX9_addWord 41 = .ok (.getfield 15, 3) := by decide +kernel
theorem dX9_addWord_44 : decode cX9_addWord 44 = .ok (.iconst 1, 1) := by decide +kernel
theorem dX9_addWord_45 : decode cX9_addWord 45 = .ok (.iadd, 1) := by decide +kernel
theorem dX9_addWord_46 : decode cX9_addWord 46 = .ok (.putfield 15, 3) := by decide +kernel
theorem dX9_addWord_49 : decode cX9_addWord 49 = .ok (.iinc 2 (-8), 3) := by decide +kernel
theorem dX9_addWord_52 : decode cX9_addWord 52 = .ok (.goto (-49), 3) := by decide +kernel
theorem dX9_addWord_55 : decode cX9_addWord 55 = .ok (.return_, 1) := by decide +kernel
theorem dX9_byteAt_0 : decode cX9_byteAt 0 = .ok (.iload_n 1, 1) := by decide +kernel
theorem dX9_byteAt_1 : decode cX9_byteAt 1 = .ok (.ifCond .lt 33, 3) := by decide +kernel
theorem dX9_byteAt_4 : decode cX9_byteAt 4 = .ok (.iload_n 1, 1) := by decide +kernel
theorem dX9_byteAt_5 : decode cX9_byteAt 5 = .ok (.aload_n 0, 1) := by decide +kernel
theorem dX9_byteAt_6 : decode cX9_byteAt 6 = .ok (.getfield 15, 3) := by decide +kernel
theorem dX9_byteAt_9 : decode cX9_byteAt 9 = .ok (.if_icmp .ge 25, 3) := by decide +kernel
theorem dX9_byteAt_12 : decode cX9_byteAt 12 = .ok (.iload_n 1, 1) := by decide +kernel
theorem dX9_byteAt_13 : decode cX9_byteAt 13 = .ok (.aload_n 0, 1) := by decide +kernel
theorem dX9_byteAt_14 : decode cX9_byteAt 14 = .ok (.getfield 9, 3) := by decide +kernel
theorem dX9_byteAt_17 : decode cX9_byteAt 17 = .ok (.arraylength, 1) := by decide +kernel
theorem dX9_byteAt_18 : decode cX9_byteAt 18 = .ok (.if_icmp .ge 16, 3) := by decide +kernel
theorem dX9_byteAt_21 : decode cX9_byteAt 21 = .ok (.aload_n 0, 1) := by decide +kernel
theorem dX9_byteAt_22 : decode cX9_byteAt 22 = .ok (.getfield 9, 3) := by decide +kernel
theorem dX9_byteAt_25 : decode cX9_byteAt 25 = .ok (.iload_n 1, 1) := by decide +kernel
theorem dX9_byteAt_26 : decode cX9_byteAt 26 = .ok (.baload, 1) := by decide +kernel
theorem dX9_byteAt_27 : decode cX9_byteAt 27 = .ok (.sipush 255, 3) := by decide +kernel
theorem dX9_byteAt_30 : decode cX9_byteAt 30 = .ok (.iand, 1) := by decide +kernel
theorem dX9_byteAt_31 : decode cX9_byteAt 31 = .ok (.goto 4, 3) := by decide +kernel
theorem dX9_byteAt_34 : decode cX9_byteAt 34 = .ok (.iconst (-1), 1) := by decide +kernel
theorem dX9_byteAt_35 : decode cX9_byteAt 35 = .ok (.ireturn, 1) := by decide +kernel
set_option maxRecDepth 20000 in
theorem ggX10_init_X3_init : GoodIn wsX10_init wsX3_init := goodIn_r _ [20, 21, 2, 3, 22, 23, 8, 24, 25, 26, 27, 28, 29, 30] rfl (by decide +kernel)
set_option maxRecDepth 20000 in
theorem gX10_init_X3_init : GoodIn wsX10_init (wsX3_init) := ggX10_init_X3_init
theorem dX10_init_0 : decode cX10_init 0 = .ok (.aload_n 0, 1) := by decide +kernel
theorem dX10_init_1 : decode cX10_init 1 = .ok (.invokespecial 3, 3) := by decide +kernel
theorem dX10_init_4 : decode cX10_init 4 = .ok (.aload_n 0, 1) := by decide +kernel
theorem dX10_init_5 : decode cX10_init 5 = .ok (.new 9, 3) := by decide +kernel
theorem dX10_init_8 : decode cX10_init 8 = .ok (.dup, 1) := by decide +kernel
theorem dX10_init_9 : decode cX10_init 9 = .ok (.invokespecial 11, 3) := by decide +kernel
theorem dX10_init_12 : decode cX10_init 12 = .ok (.putfield 12, 3) := by decide +kernel
theorem dX10_init_15 : decode cX10_init 15 = .ok (.aload_n 0, 1) := by decide +kernel
theorem dX10_init_16 : decode cX10_init 16 = .ok (.sipush 150, 3) := by decide +kernel
theorem dX10_init_19 : decode cX10_init 19 = .ok (.newarray .int, 2) := by decide +kernel
theorem dX10_init_21 : decode cX10_init 21 = .ok (.putfield 18, 3) := by decide +kernel
theorem dX10_init_24 : decode cX10_init 24 = .ok (.aload_n 0, 1) := by decide +kernel
theorem dX10_init_25 : decode cX10_init 25 = .ok (.sipush 150, 3) := by decide +kernel
theorem dX10_init_28 : decode cX10_init 28 = .ok (.newarray .boolean, 2) := by decide +kernel
theorem dX10_init_30 : decode cX10_init 30 = .ok (.putfield 22, 3) := by decide +kernel
theorem dX10_init_33 : decode cX10_init 33 = .ok (.aload_n 0, 1) := by decide +kernel
theorem dX10_init_34 : decode cX10_init 34 = .ok (.iconst 4, 1) := by decide +kernel
theorem dX10_init_35 : decode cX10_init 35 = .ok (.putfield 26, 3) := by decide +kernel
theorem dX10_init_38 : decode cX10_init 38 = .ok (.aload_n 0, 1) := by decide +kernel
theorem dX10_init_39 : decode cX10_init 39 = .ok (.iconst 4, 1) := by decide +kernel
theorem dX10_init_40 : decode cX10_init 40 = .ok (.putfield 30, 3) := by decide +kernel
theorem dX10_init_43 : decode cX10_init 43 = .ok (.aload_n 0, 1) := by decide +kernel
theorem dX10_init_44 : decode cX10_init 44 = .ok (.iconst 0, 1) := by decide +kernel
theorem dX10_init_45 : decode cX10_init 45 = .ok (.putfield 33, 3) := by decide +kernel
theorem dX10_init_48 : decode cX10_init 48 = .ok (.aload_n 0, 1) := by decide +kernel
theorem dX10_init_49 : decode cX10_init 49 = .ok (.iconst 0, 1) := by decide +kernel
theorem dX10_init_50 : decode cX10_init 50 = .ok (.putfield 36, 3) := by decide +kernel
theorem dX10_init_53 : decode cX10_init 53 = .ok (.aload_n 0, 1) := by decide +kernel
theorem dX10_init_54 : decode cX10_init 54 = .ok (.iconst 0, 1) := by decide +kernel
theorem dX10_init_55 : decode cX10_init 55 = .ok (.putfield 39, 3) := by decide +kernel
theorem dX10_init_58 : decode cX10_init 58 = .ok (.aload_n 0, 1) := by decide +kernel
theorem dX10_init_59 : decode cX10_init 59 = .ok (.iconst 0, 1) := by decide +kernel
theorem dX10_init_60 : decode cX10_init 60 = .ok (.putfield 42, 3) := by decide +kernel
theorem dX10_init_63 : decode cX10_init 63 = .ok (.return_, 1) := by decide +kernel
theorem dX10_clear_0 : decode cX10_clear 0 = .ok (.aload_n 0, 1) := by decide +kernel
theorem dX10_clear_1 : decode cX10_clear 1 = .ok (.getfield 12, 3) := by decide +kernel
theorem dX10_clear_4 : decode cX10_clear 4 = .ok (.iconst 0, 1) := by decide +kernel
theorem dX10_clear_5 : decode cX10_clear 5 = .ok (.putfield 45, 3) := by decide +kernel
theorem dX10_clear_8 : decode cX10_clear 8 = .ok (.aload_n 0, 1) := by decide +kernel
theorem dX10_clear_9 : decode cX10_clear 9 = .ok (.iload_n 1, 1) := by decide +kernel
theorem dX10_clear_10 : decode cX10_clear 10 = .ok (.putfield 26, 3) := by decide +kernel
theorem dX10_clear_13 : decode cX10_clear 13 = .ok (.aload_n 0, 1) := by decide +kernel
theorem dX10_clear_14 : decode cX10_clear 14 = .ok (.iload_n 2, 1) := by decide +kernel
theorem dX10_clear_15 : decode cX10_clear 15 = .ok (.putfield 30, 3) := by decide +kernel
theorem dX10_clear_18 : decode cX10_clear 18 = .ok (.aload_n 0, 1) := by decide +kernel
theorem dX10_clear_19 : decode cX10_clear 19 = .ok (.iconst 0, 1) := by decide +kernel
theorem dX10_clear_20 : decode cX10_clear 20 = .ok (.putfield 33, 3) := by decide +kernel
theorem dX10_clear_23 : decode cX10_clear 23 = .ok (.aload_n 0, 1) := by decide +kernel
theorem dX10_clear_24 : decode cX10_clear 24 = .ok (.iconst 0, 1) := by decide +kernel
theorem dX10_clear_25 : decode cX10_clear 25 = .ok (.putfield 36, 3) := by decide +kernel
theorem dX10_clear_28 : decode cX10_clear 28 = .ok (.aload_n 0, 1) := by decide +kernel
theorem dX10_clear_29 : decode cX10_clear 29 = .ok (.iconst 0, 1) := by decide +kernel
theorem dX10_clear_30 : decode cX10_clear 30 = .ok (.putfield 39, 3) := by decide +kernel
theorem dX10_clear_33 : decode cX10_clear 33 = .ok (.aload_n 0, 1) := by decide +kernel
theorem dX10_clear_34 : decode cX10_clear 34 = .ok (.iconst 0, 1) := by decide +kernel
theorem dX10_clear_35 : decode cX10_clear 35 = .ok (.putfield 42, 3) := by decide +kernel
theorem dX10_clear_38 : decode cX10_clear 38 = .ok (.return_, 1) := by decide +kernel
set_option maxRecDepth 20000 in
theorem ggX10_copyFrom_X3_copyFrom : GoodIn wsX10_copyFrom wsX3_copyFrom := goodIn_r _ [18, 19, 20, 4, 5, 6, 21, 22, 23, 33, 34, 35, 36] rfl (by decide +kernel)
set_option maxRecDepth 20000 in
theorem gX10_copyFrom_X3_copyFrom : GoodIn wsX10_copyFrom (wsV RX10 48 RX3 yX3_copyFrom wsX3_copyFrom) := goodIn_app (goodIn_r _ [14, 15, 16, 17] rfl (by decide +kernel)) ggX10_copyFrom_X3_copyFrom
theorem dX10_copyFrom_0 : decode cX10_copyFrom 0 = .ok (.aload_n 0, 1) := by decide +kernel
theorem dX10_copyFrom_1 : decode cX10_copyFrom 1 = .ok (.getfield 12, 3) := by decide +kernel
theorem dX10_copyFrom_4 : decode cX10_copyFrom 4 = .ok (.aload_n 1, 1) := by decide +kernel
theorem dX10_copyFrom_5 : decode cX10_copyFrom 5 = .ok (.getfield 12, 3) := by decide +kernel
theorem dX10_copyFrom_8 : decode cX10_copyFrom 8 = .ok (.invokevirtual 48, 3) := by decide +kernel
theorem dX10_copyFrom_11 : decode cX10_copyFrom 11 = .ok (.aload_n 1, 1) := by decide +kernel
theorem dX10_copyFrom_12 : decode cX10_copyFrom 12 = .ok (.getfield 18, 3) := by decide +kernel
theorem dX10_copyFrom_15 : decode cX10_copyFrom 15 = .ok (.iconst 0, 1) := by decide +kernel
theorem dX10_copyFrom_16 : decode cX10_copyFrom 16 = .ok (.aload_n 0, 1) := by decide +kernel
theorem dX10_copyFrom_17 : decode cX10_copyFrom 17 = .ok (.getfield 18, 3) := by decide +kernel
theorem dX10_copyFrom_20 : decode cX10_copyFrom 20 = .ok (.iconst 0, 1) := by decide +kernel
theorem dX10_copyFrom_21 : decode cX10_copyFrom 21 = .ok (.sipush 150, 3) := by decide +kernel
theorem dX10_copyFrom_24 : decode cX10_copyFrom 24 = .ok (.invokestatic 52, 3) := by decide +kernel
theorem dX10_copyFrom_27 : decode cX10_copyFrom 27 = .ok (.aload_n 1, 1) := by decide +kernel
theorem dX10_copyFrom_28 : decode cX10_copyFrom 28 = .ok (.getfield 22, 3) := by decide +kernel
theorem dX10_copyFrom_31 : decode cX10_copyFrom 31 = .ok (.iconst 0, 1) := by decide +kernel
theorem dX10_copyFrom_32 : decode cX10_copyFrom 32 = .ok (.aload_n 0, 1) := by decide +kernel
theorem dX10_copyFrom_33 : decode cX10_copyFrom 33 = .ok (.getfield 22, 3) := by decide +kernel
theorem dX10_copyFrom_36 : decode cX10_copyFrom 36 = .ok (.iconst 0, 1) := by decide +kernel
theorem dX10_copyFrom_37 : decode cX10_copyFrom 37 = .ok (.sipush 150, 3) := by decide +kernel
theorem dX10_copyFrom_40 : decode cX10_copyFrom 40 = .ok (.invokestatic 52, 3) := by decide +kernel
theorem dX10_copyFrom_43 : decode cX10_copyFrom 43 = .ok (.aload_n 0, 1) := by decide +kernel
theorem dX10_copyFrom_44 : decode cX10_copyFrom 44 = .ok (.aload_n 1, 1) := by decide +kernel
theorem dX10_copyFrom_45 : decode cX10_copyFrom 45 = .ok (.getfield 26, 3) := by decide +kernel
theorem dX10_copyFrom_48 : decode cX10_copyFrom 48 = .ok (.putfield 26, 3) := by decide +kernel
theorem dX10_copyFrom_51 : decode cX10_copyFrom 51 = .ok (.aload_n 0, 1) := by decide +kernel
theorem dX10_copyFrom_52 : decode cX10_copyFrom 52 = .ok (.aload_n 1, 1) := by decide +kernel
theorem dX10_copyFrom_53 : decode cX10_copyFrom 53 = .ok (.getfield 30, 3) := by decide +kernel
theorem dX10_copyFrom_56 : decode cX10_copyFrom 56 = .ok (.putfield 30, 3) := by decide +kernel
theorem dX10_copyFrom_59 : decode cX10_copyFrom 59 = .ok (.aload_n 0, 1) := by decide +kernel
theorem dX10_copyFrom_60 : decode cX10_copyFrom 60 = .ok (.aload_n 1, 1) := by decide +kernel
theorem dX10_copyFrom_61 : decode cX10_copyFrom 61 = .ok (.getfield 33, 3) := by decide +kernel
theorem dX10_copyFrom_64 : decode cX10_copyFrom 64 = .ok (.putfield 33, 3) := by decide +kernel
theorem dX10_copyFrom_67 : decode cX10_copyFrom 67 = .ok (.aload_n 0, 1) := by decide +kernel
theorem dX10_copyFrom_68 : decode cX10_copyFrom 68 = .ok (.aload_n 1, 1) := by decide +kernel
theorem dX10_copyFrom_69 : decode cX10_copyFrom 69 = .ok (.getfield 36, 3) := by decide +kernel
theorem dX10_copyFrom_72 : decode cX10_copyFrom 72 = .ok (.putfield 36, 3) := by decide +kernel
theorem dX10_copyFrom_75 : decode cX10_copyFrom 75 = .ok (.aload_n 0, 1) := by decide +kernel
theorem dX10_copyFrom_76 : decode cX10_copyFrom 76 = .ok (.aload_n 1, 1) := by decide +kernel
theorem dX10_copyFrom_77 : decode cX10_copyFrom 77 = .ok (.getfield 39, 3) := by decide +kernel
theorem dX10_copyFrom_80 : decode cX10_copyFrom 80 = .ok (.putfield 39, 3) := by decide +kernel
theorem dX10_copyFrom_83 : decode cX10_copyFrom 83 = .ok (.aload_n 0, 1) := by decide +kernel
theorem dX10_copyFrom_84 : decode cX10_copyFrom 84 = .ok (.aload_n 1, 1) := by decide +kernel
theorem dX10_copyFrom_85 : decode cX10_copyFrom 85 = .ok (.getfield 42, 3) := by decide +kernel
theorem dX10_copyFrom_88 : decode cX10_copyFrom 88 = .ok (.putfield 42, 3) := by decide +kernel
theorem dX10_copyFrom_91 : decode cX10_copyFrom 91 = .ok (.return_, 1) := by decide +kernel
set_option maxRecDepth 20000 in
theorem ggX10_putAllOf_X10_clear : GoodIn wsX10_putAllOf wsX10_clear := goodIn_r _ [7, 2, 1, 8, 9, 10, 11, 12, 13, 103, 104, 105, 106, 107, 108, 109, 110, 111, 99, 100, 101, 102] rfl (by decide +kernel)
set_option maxRecDepth 20000 in
theorem gX10_putAllOf_X10_clear : GoodIn wsX10_putAllOf (wsV RX10 58 RX10 yX10_clear wsX10_clear) := goodIn_app (goodIn_r _ [3, 4, 5, 6] rfl (by decide +kernel)) ggX10_putAllOf_X10_clear
set_option maxRecDepth 20000 in
theorem ggX10_putAllOf_X3_append : GoodIn wsX10_putAllOf wsX3_append := goodIn_r _ [18, 19, 20, 21, 22, 23, 24, 25, 26, 27, 28, 29, 17, 30, 99, 100, 101, 102] rfl (by decide +kernel)
set_option maxRecDepth 20000 in
theorem gX10_putAllOf_X3_append : GoodIn wsX10_putAllOf (wsV RX10 62 RX3 yX3_append wsX3_append) := goodIn_app (goodIn_r _ [14, 15, 16, 17] rfl (by decide +kernel)) ggX10_putAllOf_X3_append
set_option maxRecDepth 20000 in
theorem ggX10_putAllOf_X10_settle : GoodIn wsX10_putAllOf wsX10_settle := goodIn_r _ [34, 2, 1, 35, 36, 37, 38, 39, 40, 41, 42, 43, 12, 44, 45, 46, 6, 47, 48, 49, 50, 51, 8, 52, 53, 54, 17, 55, 56, 57, 58, 59, 60, 19, 25, 61, 62, 63, 64, 20, 65, 66, 28, 29, 30, 67, 68, 69, 70, 71, 72, 73, 74, 75, 76, 77, 78, 79, 80, 81, 82, 83, 84, 85, 86, 9, 10, 87, 88, 89, 90, 91, 92, 93, 94, 95, 96, 97, 98, 103, 104, 105, 106, 107, 108, 109, 110, 111, 99, 100, 101, 102] rfl (by decide +kernel)
set_option maxRecDepth 20000 in
theorem gX10_putAllOf_X10_settle : GoodIn wsX10_putAllOf (wsV RX10 66 RX10 yX10_settle wsX10_settle) := goodIn_app (goodIn_r _ [31, 32, 33, 6] rfl (by decide +kernel)) ggX10_putAllOf_X10_settle
theorem dX10_putAllOf_0 : decode cX10_putAllOf 0 = .ok (.aload_n 0, 1) := by decide +kernel
theorem dX10_putAllOf_1 : decode cX10_putAllOf 1 = .ok (.iload_n 2, 1) := by decide +kernel
theorem dX10_putAllOf_2 : decode cX10_putAllOf 2 = .ok (.iload_n 3, 1) := by decide +kernel
theorem dX10_putAllOf_3 : decode cX10_putAllOf 3 = .ok (.invokevirtual 58, 3) := by decide +kernel
theorem dX10_putAllOf_6 : decode cX10_putAllOf 6 = .ok (.iconst 0, 1) := by decide +kernel
theorem dX10_putAllOf_7 : decode cX10_putAllOf 7 = .ok (.istore 4, 2) := by decide +kernel
theorem dX10_putAllOf_9 : decode cX10_putAllOf 9 = .ok (.iload 4, 2) := by decide +kernel
theorem dX10_putAllOf_11 : decode cX10_putAllOf 11 = .ok (.aload_n 1, 1) := by decide +kernel
theorem dX10_putAllOf_12 : decode cX10_putAllOf 12 = .ok (.getfield 45, 3) := by decide +kernel
theorem dX10_putAllOf_15 : decode cX10_putAllOf 15 = .ok (.if_icmp .ge 33, 3) := by decide +kernel
theorem dX10_putAllOf_18 : decode cX10_putAllOf 18 = .ok (.iload 4, 2) := by decide +kernel
theorem dX10_putAllOf_20 : decode cX10_putAllOf 20 = .ok (.sipush 150, 3) := by decide +kernel
theorem dX10_putAllOf_23 : decode cX10_putAllOf 23 = .ok (.if_icmp .ge 25, 3) := by decide +kernel
theorem dX10_putAllOf_26 : decode cX10_putAllOf 26 = .ok (.aload_n 0, 1) := by decide +kernel
theorem dX10_putAllOf_27 : decode cX10_putAllOf 27 = .ok (.getfield 12, 3) := by decide +kernel
theorem dX10_putAllOf_30 : decode cX10_putAllOf 30 = .ok (.aload_n 1, 1) := by decide +kernel
theorem dX10_putAllOf_31 : decode cX10_putAllOf 31 = .ok (.iload 4, 2) := by decide +kernel
theorem dX10_putAllOf_33 : decode cX10_putAllOf 33 = .ok (.invokevirtual 62, 3) := by decide +kernel
theorem dX10_putAllOf_36 : decode cX10_putAllOf 36 = .ok (.aload_n 0, 1) := by decide +kernel
theorem dX10_putAllOf_37 : decode cX10_putAllOf 37 = .ok (.iload 4, 2) := by decide +kernel
theorem dX10_putAllOf_39 : decode cX10_putAllOf 39 = .ok (.invokevirtual 66, 3) := by decide +kernel
theorem dX10_putAllOf_42 : decode cX10_putAllOf 42 = .ok (.iinc 4 1, 3) := by decide +kernel
theorem dX10_putAllOf_45 : decode cX10_putAllOf 45 = .ok (.goto (-36), 3) := by decide +kernel
theorem dX10_putAllOf_48 : decode cX10_putAllOf 48 = .ok (.return_, 1) := by decide +kernel
set_option maxRecDepth 20000 in
theorem ggX10_insertKey_X3_placeOf : GoodIn wsX10_insertKey wsX3_placeOf := goodIn_r _ [13, 14, 15, 16, 17, 12, 18, 19, 20, 21, 22, 23, 24, 25, 26, 27, 28, 29, 30, 31, 32, 33, 34, 35, 36, 37, 38, 39, 40, 132, 133, 134, 135, 136, 137] rfl (by decide +kernel)
set_option maxRecDepth 20000 in
theorem gX10_insertKey_X3_placeOf : GoodIn wsX10_insertKey (wsV RX10 70 RX3 yX3_placeOf wsX3_placeOf) := goodIn_app (goodIn_r _ [9, 10, 11, 12] rfl (by decide +kernel)) ggX10_insertKey_X3_placeOf
set_option maxRecDepth 20000 in
theorem ggX10_insertKey_X3_isAt : GoodIn wsX10_insertKey wsX3_isAt := goodIn_r _ [44, 45, 46, 47, 12, 48, 14, 15, 16, 17, 18, 19, 20, 21, 22, 23, 24, 25, 26, 27, 28, 29, 30, 31, 32, 33, 34, 35, 36, 37, 38, 39, 40, 132, 133, 134, 135, 136, 137] rfl (by decide +kernel)
set_option maxRecDepth 20000 in
theorem gX10_insertKey_X3_isAt : GoodIn wsX10_insertKey (wsV RX10 74 RX3 yX3_isAt wsX3_isAt) := goodIn_app (goodIn_r _ [41, 42, 43, 12] rfl (by decide +kernel)) ggX10_insertKey_X3_isAt
set_option maxRecDepth 20000 in
theorem ggX10_insertKey_X3_valueOf : GoodIn wsX10_insertKey wsX3_valueOf := goodIn_r _ [52, 14, 53, 132, 133, 134, 135] rfl (by decide +kernel)
set_option maxRecDepth 20000 in
theorem gX10_insertKey_X3_valueOf : GoodIn wsX10_insertKey (wsV RX10 78 RX3 yX3_valueOf wsX3_valueOf) := goodIn_app (goodIn_r _ [49, 50, 51, 12] rfl (by decide +kernel)) ggX10_insertKey_X3_valueOf
set_option maxRecDepth 20000 in
theorem ggX10_insertKey_X3_setValue : GoodIn wsX10_insertKey wsX3_setValue := goodIn_r _ [57, 53, 45, 46, 47, 12, 48, 14, 132, 133, 134, 135] rfl (by decide +kernel)
set_option maxRecDepth 20000 in
theorem gX10_insertKey_X3_setValue : GoodIn wsX10_insertKey (wsV RX10 82 RX3 yX3_setValue wsX3_setValue) := goodIn_app (goodIn_r _ [54, 55, 56, 12] rfl (by decide +kernel)) ggX10_insertKey_X3_setValue
set_option maxRecDepth 20000 in
theorem ggX10_insertKey_X3_insertAt : GoodIn wsX10_insertKey wsX3_insertAt := goodIn_r _ [61, 14, 33, 62, 5, 6, 7, 28, 53, 63, 19, 132, 133, 134, 135, 136, 137] rfl (by decide +kernel)
set_option maxRecDepth 20000 in
theorem gX10_insertKey_X3_insertAt : GoodIn wsX10_insertKey (wsV RX10 85 RX3 yX3_insertAt wsX3_insertAt) := goodIn_app (goodIn_r _ [58, 59, 60, 12] rfl (by decide +kernel)) ggX10_insertKey_X3_insertAt
set_option maxRecDepth 20000 in
theorem ggX10_insertKey_X10_settle : GoodIn wsX10_insertKey wsX10_settle := goodIn_r _ [68, 1, 2, 3, 8, 69, 21, 22, 23, 70, 71, 72, 73, 74, 75, 76, 67, 77, 78, 79, 80, 81, 82, 83, 84, 85, 12, 86, 20, 24, 25, 26, 27, 14, 28, 29, 30, 31, 32, 33, 87, 88, 46, 47, 48, 89, 90, 91, 92, 93, 94, 95, 96, 97, 98, 99, 100, 101, 102, 103, 104, 105, 106, 107, 108, 109, 110, 111, 112, 113, 114, 115, 116, 117, 118, 119, 120, 121, 122, 123, 124, 125, 126, 127, 128, 129, 130, 131, 132, 133, 134, 135] rfl (by decide +kernel)
set_option maxRecDepth 20000 in
theorem gX10_insertKey_X10_settle : GoodIn wsX10_insertKey (wsV RX10 66 RX10 yX10_settle wsX10_settle) := goodIn_app (goodIn_r _ [64, 65, 66, 67] rfl (by decide +kernel)) ggX10_insertKey_X10_settle
theorem dX10_insertKey_0 : decode cX10_insertKey 0 = .ok (.aload_n 0, 1) := by decide +kernel
theorem dX10_insertKey_1 : decode cX10_insertKey 1 = .ok (.getfield 12, 3) := by decide +kernel
theorem dX10_insertKey_4 : decode cX10_insertKey 4 = .ok (.aload_n 1, 1) := by decide +kernel
theorem dX10_insertKey_5 : decode cX10_insertKey 5 = .ok (.invokevirtual 70, 3) := by decide +kernel
theorem dX10_insertKey_8 : decode cX10_insertKey 8 = .ok (.istore_n 3, 1) := by decide +kernel
theorem dX10_insertKey_9 : decode cX10_insertKey 9 = .ok (.aload_n 0, 1) := by decide +kernel
theorem dX10_insertKey_10 : decode cX10_insertKey 10 = .ok (.getfield 12, 3) := by decide +kernel
theorem dX10_insertKey_13 : decode cX10_insertKey 13 = .ok (.iload_n 3, 1) := by decide +kernel
theorem dX10_insertKey_14 : decode cX10_insertKey 14 = .ok (.aload_n 1, 1) := by decide +kernel
theorem dX10_insertKey_15 : decode cX10_insertKey 15 = .ok (.invokevirtual 74, 3) := by decide +kernel
theorem dX10_insertKey_18 : decode cX10_insertKey 18 = .ok (.ifCond .eq 25, 3) := by decide +kernel
theorem dX10_insertKey_21 : decode cX10_insertKey 21 = .ok (.aload_n 0, 1) := by decide +kernel
theorem dX10_insertKey_22 : decode cX10_insertKey 22 = .ok (.getfield 12, 3) := by decide +kernel
theorem dX10_insertKey_25 : decode cX10_insertKey 25 = .ok (.iload_n 3, 1) := by decide +kernel
theorem dX10_insertKey_26 : decode cX10_insertKey 26 = .ok (.invokevirtual 78, 3) := by decide +kernel
theorem dX10_insertKey_29 : decode cX10_insertKey 29 = .ok (.istore 4, 2) := by decide +kernel
theorem dX10_insertKey_31 : decode cX10_insertKey 31 = .ok (.aload_n 0, 1) := by decide +kernel
theorem dX10_insertKey_32 : decode cX10_insertKey 32 = .ok (.getfield 12, 3) := by decide +kernel
theorem dX10_insertKey_35 : decode cX10_insertKey 35 = .ok (.iload_n 3, 1) := by decide +kernel
theorem dX10_insertKey_36 : decode cX10_insertKey 36 = .ok (.iload_n 2, 1) := by decide +kernel
theorem dX10_insertKey_37 : decode cX10_insertKey 37 = .ok (.invokevirtual 82, 3) := by decide +kernel
theorem dX10_insertKey_40 : decode cX10_insertKey 40 = .ok (.iload 4, 2) := by decide +kernel
theorem dX10_insertKey_42 : decode cX10_insertKey 42 = .ok (.ireturn, 1) := by decide +kernel
theorem dX10_insertKey_43 : decode cX10_insertKey 43 = .ok (.aload_n 0, 1) := by decide +kernel
theorem dX10_insertKey_44 : decode cX10_insertKey 44 = .ok (.getfield 12, 3) := by decide +kernel
theorem dX10_insertKey_47 : decode cX10_insertKey 47 = .ok (.getfield 45, 3) := by decide +kernel
theorem dX10_insertKey_50 : decode cX10_insertKey 50 = .ok (.sipush 150, 3) := by decide +kernel
theorem dX10_insertKey_53 : decode cX10_insertKey 53 = .ok (.if_icmp .lt 6, 3) := by decide +kernel
theorem dX10_insertKey_56 : decode cX10_insertKey 56 = .ok (.bipush (-4), 2) := by decide +kernel
theorem dX10_insertKey_58 : decode cX10_insertKey 58 = .ok (.ireturn, 1) := by decide +kernel
theorem dX10_insertKey_59 : decode cX10_insertKey 59 = .ok (.aload_n 0, 1) := by decide +kernel
theorem dX10_insertKey_60 : decode cX10_insertKey 60 = .ok (.getfield 12, 3) := by decide +kernel
theorem dX10_insertKey_63 : decode cX10_insertKey 63 = .ok (.getfield 45, 3) := by decide +kernel
theorem dX10_insertKey_66 : decode cX10_insertKey 66 = .ok (.iload_n 3, 1) := by decide +kernel
theorem dX10_insertKey_67 : decode cX10_insertKey 67 = .ok (.isub, 1) := by decide +kernel
theorem dX10_insertKey_68 : decode cX10_insertKey 68 = .ok (.istore 4, 2) := by decide +kernel
theorem dX10_insertKey_70 : decode cX10_insertKey 70 = .ok (.aload_n 0, 1) := by decide +kernel
theorem dX10_insertKey_71 : decode cX10_insertKey 71 = .ok (.getfield 18, 3) := by decide +kernel
theorem dX10_insertKey_74 : decode cX10_insertKey 74 = .ok (.iload_n 3, 1) := by decide +kernel
theorem dX10_insertKey_75 : decode cX10_insertKey 75 = .ok (.aload_n 0, 1) := by decide +kernel
theorem dX10_insertKey_76 : decode cX10_insertKey 76 = .ok (.getfield 18, 3) := by decide +kernel
theorem dX10_insertKey_79 : decode cX10_insertKey 79 = .ok (.iload_n 3, 1) := by decide +kernel
theorem dX10_insertKey_80 : decode cX10_insertKey 80 = .ok (.iconst 1, 1) := by decide +kernel
theorem dX10_insertKey_81 : decode cX10_insertKey 81 = .ok (.iadd, 1) := by decide +kernel
theorem dX10_insertKey_82 : decode cX10_insertKey 82 = .ok (.iload 4, 2) := by decide +kernel
theorem dX10_insertKey_84 : decode cX10_insertKey 84 = .ok (.invokestatic 52, 3) := by decide +kernel
theorem dX10_insertKey_87 : decode cX10_insertKey 87 = .ok (.aload_n 0, 1) := by decide +kernel
theorem dX10_insertKey_88 : decode cX10_insertKey 88 = .ok (.getfield 22, 3) := by decide +kernel
theorem dX10_insertKey_91 : decode cX10_insertKey 91 = .ok (.iload_n 3, 1) := by decide +kernel
theorem dX10_insertKey_92 : decode cX10_insertKey 92 = .ok (.aload_n 0, 1) := by decide +kernel
theorem dX10_insertKey_93 : decode cX10_insertKey 93 = .ok (.getfield 22, 3) := by decide +kernel
theorem dX10_insertKey_96 : decode cX10_insertKey 96 = .ok (.iload_n 3, 1) := by decide +kernel
theorem dX10_insertKey_97 : decode cX10_insertKey 97 = .ok (.iconst 1, 1) := by decide +kernel
theorem dX10_insertKey_98 : decode cX10_insertKey 98 = .ok (.iadd, 1) := by decide +kernel
theorem dX10_insertKey_99 : decode cX10_insertKey 99 = .ok (.iload 4, 2) := by decide +kernel
theorem dX10_insertKey_101 : decode cX10_insertKey 101 = .ok (.invokestatic 52, 3) := by decide +kernel
theorem dX10_insertKey_104 : decode cX10_insertKey 104 = .ok (.aload_n 0, 1) := by decide +kernel
theorem dX10_insertKey_105 : decode cX10_insertKey 105 = .ok (.getfield 12, 3) := by decide +kernel
theorem dX10_insertKey_108 : decode cX10_insertKey 108 = .ok (.iload_n 3, 1) := by decide +kernel
theorem dX10_insertKey_109 : decode cX10_insertKey 109 = .ok (.aload_n 1, 1) := by decide +kernel
theorem dX10_insertKey_110 : decode cX10_insertKey 110 = .ok (.iload_n 2, 1) := by decide +kernel
theorem dX10_insertKey_111 : decode cX10_insertKey 111 = .ok (.invokevirtual 85, 3) := by decide +kernel
theorem dX10_insertKey_114 : decode cX10_insertKey 114 = .ok (.aload_n 0, 1) := by decide +kernel
theorem dX10_insertKey_115 : decode cX10_insertKey 115 = .ok (.iload_n 3, 1) := by decide +kernel
theorem dX10_insertKey_116 : decode cX10_insertKey 116 = .ok (.invokevirtual 66, 3) := by decide +kernel
theorem dX10_insertKey_119 : decode cX10_insertKey 119 = .ok (.bipush (-3), 2) := by decide +kernel
theorem dX10_insertKey_121 : decode cX10_insertKey 121 = .ok (.ireturn, 1) := by decide +kernel
set_option maxRecDepth 20000 in
theorem ggX10_removeKey_X3_find : GoodIn wsX10_removeKey wsX3_find := goodIn_r _ [6, 7, 8, 9, 5, 10, 11, 12, 13, 14, 15, 16, 17, 18, 19, 20, 21, 22, 23, 24, 25, 26, 27, 28, 29, 30, 31, 32, 33, 34, 35, 36, 37, 38, 39, 40, 41, 42, 43, 44, 45, 132, 133, 134, 135, 136, 137] rfl (by decide +kernel)
set_option maxRecDepth 20000 in
theorem gX10_removeKey_X3_find : GoodIn wsX10_removeKey (wsV RX10 89 RX3 yX3_find wsX3_find) := goodIn_app (goodIn_r _ [2, 3, 4, 5] rfl (by decide +kernel)) ggX10_removeKey_X3_find
set_option maxRecDepth 20000 in
theorem ggX10_removeKey_X3_valueOf : GoodIn wsX10_removeKey wsX3_valueOf := goodIn_r _ [49, 11, 50, 132, 133, 134, 135] rfl (by decide +kernel)
set_option maxRecDepth 20000 in
theorem gX10_removeKey_X3_valueOf : GoodIn wsX10_removeKey (wsV RX10 78 RX3 yX3_valueOf wsX3_valueOf) := goodIn_app (goodIn_r _ [46, 47, 48, 5] rfl (by decide +kernel)) ggX10_removeKey_X3_valueOf
set_option maxRecDepth 20000 in
theorem ggX10_removeKey_X10_removeAt : GoodIn wsX10_removeKey wsX10_removeAt := goodIn_r _ [55, 1, 56, 57, 58, 59, 60, 61, 62, 63, 43, 44, 5, 45, 11, 64, 65, 66, 54, 67, 68, 69, 19, 70, 71, 72, 73, 74, 75, 76, 77, 78, 79, 80, 81, 82, 83, 84, 85, 86, 87, 88, 89, 90, 30, 91, 25, 50, 42, 92, 93, 94, 95, 96, 97, 98, 99, 100, 101, 102, 103, 104, 105, 106, 107, 108, 109, 110, 111, 112, 113, 114, 115, 116, 117, 118, 119, 120, 121, 122, 123, 124, 125, 126, 127, 128, 129, 130, 131, 132, 133, 134, 135] rfl (by decide +kernel)
set_option maxRecDepth 20000 in
theorem gX10_removeKey_X10_removeAt : GoodIn wsX10_removeKey (wsV RX10 92 RX10 yX10_removeAt wsX10_removeAt) := goodIn_app (goodIn_r _ [51, 52, 53, 54] rfl (by decide +kernel)) ggX10_removeKey_X10_removeAt
theorem dX10_removeKey_0 : decode cX10_removeKey 0 = .ok (.aload_n 0, 1) := by decide +kernel
theorem dX10_removeKey_1 : decode cX10_removeKey 1 = .ok (.getfield 12, 3) := by decide +kernel
theorem dX10_removeKey_4 : decode cX10_removeKey 4 = .ok (.aload_n 1, 1) := by decide +kernel
theorem dX10_removeKey_5 : decode cX10_removeKey 5 = .ok (.invokevirtual 89, 3) := by decide +kernel
theorem dX10_removeKey_8 : decode cX10_removeKey 8 = .ok (.istore_n 2, 1) := by decide +kernel
theorem dX10_removeKey_9 : decode cX10_removeKey 9 = .ok (.iload_n 2, 1) := by decide +kernel
theorem dX10_removeKey_10 : decode cX10_removeKey 10 = .ok (.ifCond .ge 6, 3) := by decide +kernel
theorem dX10_removeKey_13 : decode cX10_removeKey 13 = .ok (.bipush (-3), 2) := by decide +kernel
theorem dX10_removeKey_15 : decode cX10_removeKey 15 = .ok (.ireturn, 1) := by decide +kernel
theorem dX10_removeKey_16 : decode cX10_removeKey 16 = .ok (.aload_n 0, 1) := by decide +kernel
theorem dX10_removeKey_17 : decode cX10_removeKey 17 = .ok (.getfield 12, 3) := by decide +kernel
theorem dX10_removeKey_20 : decode cX10_removeKey 20 = .ok (.iload_n 2, 1) := by decide +kernel
theorem dX10_removeKey_21 : decode cX10_removeKey 21 = .ok (.invokevirtual 78, 3) := by decide +kernel
theorem dX10_removeKey_24 : decode cX10_removeKey 24 = .ok (.istore_n 3, 1) := by decide +kernel
theorem dX10_removeKey_25 : decode cX10_removeKey 25 = .ok (.aload_n 0, 1) := by decide +kernel
theorem dX10_removeKey_26 : decode cX10_removeKey 26 = .ok (.iload_n 2, 1) := by decide +kernel
theorem dX10_removeKey_27 : decode cX10_removeKey 27 = .ok (.invokevirtual 92, 3) := by decide +kernel
theorem dX10_removeKey_30 : decode cX10_removeKey 30 = .ok (.iload_n 3, 1) := by decide +kernel
theorem dX10_removeKey_31 : decode cX10_removeKey 31 = .ok (.ireturn, 1) := by decide +kernel
set_option maxRecDepth 20000 in
theorem ggX10_removeFromTo_X3_placeOf : GoodIn wsX10_removeFromTo wsX3_placeOf := goodIn_r _ [10, 11, 12, 13, 14, 9, 15, 16, 17, 18, 4, 19, 20, 21, 22, 23, 24, 25, 26, 27, 28, 29, 30, 31, 32, 33, 34, 35, 36, 124, 125, 126, 127, 128, 129] rfl (by decide +kernel)
set_option maxRecDepth 20000 in
theorem gX10_removeFromTo_X3_placeOf : GoodIn wsX10_removeFromTo (wsV RX10 70 RX3 yX3_placeOf wsX3_placeOf) := goodIn_app (goodIn_r _ [6, 7, 8, 9] rfl (by decide +kernel)) ggX10_removeFromTo_X3_placeOf
set_option maxRecDepth 20000 in
theorem ggX10_removeFromTo_X3_isAt : GoodIn wsX10_removeFromTo wsX3_isAt := goodIn_r _ [40, 41, 42, 43, 9, 44, 11, 12, 13, 14, 15, 16, 17, 18, 4, 19, 20, 21, 22, 23, 24, 25, 26, 27, 28, 29, 30, 31, 32, 33, 34, 35, 36, 124, 125, 126, 127, 128, 129] rfl (by decide +kernel)
set_option maxRecDepth 20000 in
theorem gX10_removeFromTo_X3_isAt : GoodIn wsX10_removeFromTo (wsV RX10 74 RX3 yX3_isAt wsX3_isAt) := goodIn_app (goodIn_r _ [37, 38, 39, 9] rfl (by decide +kernel)) ggX10_removeFromTo_X3_isAt
set_option maxRecDepth 20000 in
theorem ggX10_removeFromTo_X10_removeAt : GoodIn wsX10_removeFromTo wsX10_removeAt := goodIn_r _ [49, 1, 50, 51, 52, 53, 54, 55, 56, 57, 42, 43, 9, 44, 11, 58, 59, 60, 48, 61, 2, 3, 4, 5, 62, 63, 64, 65, 66, 67, 68, 69, 70, 71, 72, 73, 74, 75, 76, 77, 78, 79, 80, 81, 29, 82, 24, 83, 41, 84, 85, 86, 87, 88, 89, 90, 91, 92, 93, 94, 95, 96, 97, 98, 99, 100, 101, 102, 103, 104, 105, 106, 107, 108, 109, 110, 111, 112, 113, 114, 115, 116, 117, 118, 119, 120, 121, 122, 123, 124, 125, 126, 127] rfl (by decide +kernel)
set_option maxRecDepth 20000 in
theorem gX10_removeFromTo_X10_removeAt : GoodIn wsX10_removeFromTo (wsV RX10 92 RX10 yX10_removeAt wsX10_removeAt) := goodIn_app (goodIn_r _ [45, 46, 47, 48] rfl (by decide +kernel)) ggX10_removeFromTo_X10_removeAt
theorem dX10_removeFromTo_0 : decode cX10_removeFromTo 0 = .ok (.aload_n 0, 1) := by decide +kernel
theorem dX10_removeFromTo_1 : decode cX10_removeFromTo 1 = .ok (.getfield 12, 3) := by decide +kernel
theorem dX10_removeFromTo_4 : decode cX10_removeFromTo 4 = .ok (.aload_n 1, 1) := by decide +kernel
theorem dX10_removeFromTo_5 : decode cX10_removeFromTo 5 = .ok (.invokevirtual 70, 3) := by decide +kernel
theorem dX10_removeFromTo_8 : decode cX10_removeFromTo 8 = .ok (.istore_n 3, 1) := by decide +kernel
theorem dX10_removeFromTo_9 : decode cX10_removeFromTo 9 = .ok (.aload_n 0, 1) := by decide +kernel
theorem dX10_removeFromTo_10 : decode cX10_removeFromTo 10 = .ok (.getfield 12, 3) := by decide +kernel
theorem dX10_removeFromTo_13 : decode cX10_removeFromTo 13 = .ok (.aload_n 2, 1) := by decide +kernel
theorem dX10_removeFromTo_14 : decode cX10_removeFromTo 14 = .ok (.invokevirtual 70, 3) := by decide +kernel
theorem dX10_removeFromTo_17 : decode cX10_removeFromTo 17 = .ok (.istore 4, 2) := by decide +kernel
theorem dX10_removeFromTo_19 : decode cX10_removeFromTo 19 = .ok (.aload_n 0, 1) := by decide +kernel
theorem dX10_removeFromTo_20 : decode cX10_removeFromTo 20 = .ok (.getfield 12, 3) := by decide +kernel
theorem dX10_removeFromTo_23 : decode cX10_removeFromTo 23 = .ok (.iload 4, 2) := by decide +kernel
theorem dX10_removeFromTo_25 : decode cX10_removeFromTo 25 = .ok (.aload_n 2, 1) := by decide +kernel
theorem dX10_removeFromTo_26 : decode cX10_removeFromTo 26 = .ok (.invokevirtual 74, 3) := by decide +kernel
theorem dX10_removeFromTo_29 : decode cX10_removeFromTo 29 = .ok (.ifCond .eq 6, 3) := by decide +kernel
theorem dX10_removeFromTo_32 : decode cX10_removeFromTo 32 = .ok (.iinc 4 1, 3) := by decide +kernel
theorem dX10_removeFromTo_35 : decode cX10_removeFromTo 35 = .ok (.iload_n 3, 1) := by decide +kernel
theorem dX10_removeFromTo_36 : decode cX10_removeFromTo 36 = .ok (.istore 5, 2) := by decide +kernel
theorem dX10_removeFromTo_38 : decode cX10_removeFromTo 38 = .ok (.iload 5, 2) := by decide +kernel
theorem dX10_removeFromTo_40 : decode cX10_removeFromTo 40 = .ok (.iload 4, 2) := by decide +kernel
theorem dX10_removeFromTo_42 : decode cX10_removeFromTo 42 = .ok (.if_icmp .ge 14, 3) := by decide +kernel
theorem dX10_removeFromTo_45 : decode cX10_removeFromTo 45 = .ok (.aload_n 0, 1) := by decide +kernel
theorem dX10_removeFromTo_46 : decode cX10_removeFromTo 46 = .ok (.iload_n 3, 1) := by decide +kernel
theorem dX10_removeFromTo_47 : decode cX10_removeFromTo 47 = .ok (.invokevirtual 92, 3) := by decide +kernel
theorem dX10_removeFromTo_50 : decode cX10_removeFromTo 50 = .ok (.iinc 5 1, 3) := by decide +kernel
theorem dX10_removeFromTo_53 : decode cX10_removeFromTo 53 = .ok (.goto (-15), 3) := by decide +kernel
theorem dX10_removeFromTo_56 : decode cX10_removeFromTo 56 = .ok (.iconst 0, 1) := by decide +kernel
theorem dX10_removeFromTo_57 : decode cX10_removeFromTo 57 = .ok (.iload 4, 2) := by decide +kernel
theorem dX10_removeFromTo_59 : decode cX10_removeFromTo 59 = .ok (.iload_n 3, 1) := by decide +kernel
theorem dX10_removeFromTo_60 : decode cX10_removeFromTo 60 = .ok (.isub, 1) := by decide +kernel
theorem dX10_removeFromTo_61 : decode cX10_removeFromTo 61 = .ok (.invokestatic 95, 3) := by decide +kernel
theorem dX10_removeFromTo_64 : decode cX10_removeFromTo 64 = .ok (.ireturn, 1) := by decide +kernel
theorem dX10_sharedAt_0 : decode cX10_sharedAt 0 = .ok (.iload_n 1, 1) := by decide +kernel
theorem dX10_sharedAt_1 : decode cX10_sharedAt 1 = .ok (.ifCond .lt 30, 3) := by decide +kernel
theorem dX10_sharedAt_4 : decode cX10_sharedAt 4 = .ok (.iload_n 1, 1) := by decide +kernel
theorem dX10_sharedAt_5 : decode cX10_sharedAt 5 = .ok (.aload_n 0, 1) := by decide +kernel
theorem dX10_sharedAt_6 : decode cX10_sharedAt 6 = .ok (.getfield 12, 3) := by decide +kernel
theorem dX10_sharedAt_9 : decode cX10_sharedAt 9 = .ok (.getfield 45, 3) := by decide +kernel
theorem dX10_sharedAt_12 : decode cX10_sharedAt 12 = .ok (.if_icmp .ge 19, 3) := by decide +kernel
theorem dX10_sharedAt_15 : decode cX10_sharedAt 15 = .ok (.iload_n 1, 1) := by decide +kernel
theorem dX10_sharedAt_16 : decode cX10_sharedAt 16 = .ok (.sipush 150, 3) := by decide +kernel
theorem dX10_sharedAt_19 : decode cX10_sharedAt 19 = .ok (.if_icmp .ge 12, 3) := by decide +kernel
theorem dX10_sharedAt_22 : decode cX10_sharedAt 22 = .ok (.aload_n 0, 1) := by decide +kernel
theorem dX10_sharedAt_23 : decode cX10_sharedAt 23 = .ok (.getfield 18, 3) := by decide +kernel
theorem dX10_sharedAt_26 : decode cX10_sharedAt 26 = .ok (.iload_n 1, 1) := by decide +kernel
theorem dX10_sharedAt_27 : decode cX10_sharedAt 27 = .ok (.iaload, 1) := by decide +kernel
theorem dX10_sharedAt_28 : decode cX10_sharedAt 28 = .ok (.goto 4, 3) := by decide +kernel
theorem dX10_sharedAt_31 : decode cX10_sharedAt 31 = .ok (.iconst 0, 1) := by decide +kernel
theorem dX10_sharedAt_32 : decode cX10_sharedAt 32 = .ok (.ireturn, 1) := by decide +kernel
theorem dX10_opensAt_0 : decode cX10_opensAt 0 = .ok (.iload_n 1, 1) := by decide +kernel
theorem dX10_opensAt_1 : decode cX10_opensAt 1 = .ok (.ifCond .lt 34, 3) := by decide +kernel
theorem dX10_opensAt_4 : decode cX10_opensAt 4 = .ok (.iload_n 1, 1) := by decide +kernel
theorem dX10_opensAt_5 : decode cX10_opensAt 5 = .ok (.aload_n 0, 1) := by decide +kernel
theorem dX10_opensAt_6 : decode cX10_opensAt 6 = .ok (.getfield 12, 3) := by decide +kernel
theorem dX10_opensAt_9 : decode cX10_opensAt 9 = .ok (.getfield 45, 3) := by decide +kernel
theorem dX10_opensAt_12 : decode cX10_opensAt 12 = .ok (.if_icmp .ge 23, 3) := by decide +kernel
theorem dX10_opensAt_15 : decode cX10_opensAt 15 = .ok (.iload_n 1, 1) := by decide +kernel
theorem dX10_opensAt_16 : decode cX10_opensAt 16 = .ok (.sipush 150, 3) := by decide +kernel
theorem dX10_opensAt_19 : decode cX10_opensAt 19 = .ok (.if_icmp .ge 16, 3) := by decide +kernel
theorem dX10_opensAt_22 : decode cX10_opensAt 22 = .ok (.aload_n 0, 1) := by decide +kernel
theorem dX10_opensAt_23 : decode cX10_opensAt 23 = .ok (.getfield 22, 3) := by decide +kernel
theorem dX10_opensAt_26 : decode cX10_opensAt 26 = .ok (.iload_n 1, 1) := by decide +kernel
theorem dX10_opensAt_27 : decode cX10_opensAt 27 = .ok (.baload, 1) := by decide +kernel
theorem dX10_opensAt_28 : decode cX10_opensAt 28 = .ok (.ifCond .eq 7, 3) := by decide +kernel
theorem dX10_opensAt_31 : decode cX10_opensAt 31 = .ok (.iconst 1, 1) := by decide +kernel
theorem dX10_opensAt_32 : decode cX10_opensAt 32 = .ok (.goto 4, 3) := by decide +kernel
theorem dX10_opensAt_35 : decode cX10_opensAt 35 = .ok (.iconst 0, 1) := by decide +kernel
theorem dX10_opensAt_36 : decode cX10_opensAt 36 = .ok (.ireturn, 1) := by decide +kernel
set_option maxRecDepth 20000 in
theorem ggX10_setOpens_X3_has : GoodIn wsX10_setOpens wsX3_has := goodIn_r _ [7, 8, 18, 19, 20, 21] rfl (by decide +kernel)
set_option maxRecDepth 20000 in
theorem gX10_setOpens_X3_has : GoodIn wsX10_setOpens (wsV RX10 101 RX3 yX3_has wsX3_has) := goodIn_app (goodIn_r _ [3, 4, 5, 6] rfl (by decide +kernel)) ggX10_setOpens_X3_has
theorem dX10_setOpens_0 : decode cX10_setOpens 0 = .ok (.aload_n 0, 1) := by decide +kernel
theorem dX10_setOpens_1 : decode cX10_setOpens 1 = .ok (.getfield 12, 3) := by decide +kernel
theorem dX10_setOpens_4 : decode cX10_setOpens 4 = .ok (.iload_n 1, 1) := by decide +kernel
theorem dX10_setOpens_5 : decode cX10_setOpens 5 = .ok (.invokevirtual 101, 3) := by decide +kernel
theorem dX10_setOpens_8 : decode cX10_setOpens 8 = .ok (.ifCond .eq 10, 3) := by decide +kernel
theorem dX10_setOpens_11 : decode cX10_setOpens 11 = .ok (.aload_n 0, 1) := by decide +kernel
theorem dX10_setOpens_12 : decode cX10_setOpens 12 = .ok (.getfield 22, 3) := by decide +kernel
theorem dX10_setOpens_15 : decode cX10_setOpens 15 = .ok (.iload_n 1, 1) := by decide +kernel
theorem dX10_setOpens_16 : decode cX10_setOpens 16 = .ok (.iload_n 2, 1) := by decide +kernel
theorem dX10_setOpens_17 : decode cX10_setOpens 17 = .ok (.bastore, 1) := by decide +kernel
theorem dX10_setOpens_18 : decode cX10_setOpens 18 = .ok (.return_, 1) := by decide +kernel
set_option maxRecDepth 20000 in
theorem ggX10_depthOf_X10_sharedAt : GoodIn wsX10_depthOf wsX10_sharedAt := goodIn_r _ [9, 10, 11, 12, 13, 14, 15, 16, 17, 18, 19, 20, 21, 22, 23, 24, 25] rfl (by decide +kernel)
set_option maxRecDepth 20000 in
theorem gX10_depthOf_X10_sharedAt : GoodIn wsX10_depthOf (wsV RX10 105 RX10 yX10_sharedAt wsX10_sharedAt) := goodIn_app (goodIn_r _ [5, 6, 7, 8] rfl (by decide +kernel)) ggX10_depthOf_X10_sharedAt
theorem dX10_depthOf_0 : decode cX10_depthOf 0 = .ok (.aload_n 0, 1) := by decide +kernel
theorem dX10_depthOf_1 : decode cX10_depthOf 1 = .ok (.iload_n 1, 1) := by decide +kernel
theorem dX10_depthOf_2 : decode cX10_depthOf 2 = .ok (.invokevirtual 105, 3) := by decide +kernel
theorem dX10_depthOf_5 : decode cX10_depthOf 5 = .ok (.aload_n 0, 1) := by decide +kernel
theorem dX10_depthOf_6 : decode cX10_depthOf 6 = .ok (.iload_n 1, 1) := by decide +kernel
theorem dX10_depthOf_7 : decode cX10_depthOf 7 = .ok (.iconst 1, 1) := by decide +kernel
theorem dX10_depthOf_8 : decode cX10_depthOf 8 = .ok (.iadd, 1) := by decide +kernel
theorem dX10_depthOf_9 : decode cX10_depthOf 9 = .ok (.invokevirtual 105, 3) := by decide +kernel
theorem dX10_depthOf_12 : decode cX10_depthOf 12 = .ok (.invokestatic 95, 3) := by decide +kernel
theorem dX10_depthOf_15 : decode cX10_depthOf 15 = .ok (.ireturn, 1) := by decide +kernel
set_option maxRecDepth 20000 in
theorem ggX10_meetingOf_X3_alikeBytes : GoodIn wsX10_meetingOf wsX3_alikeBytes := goodIn_r _ [11, 12, 3, 4, 5, 13, 14, 15, 10, 16, 17, 18, 19, 20, 21, 22, 23, 34, 35, 36, 37] rfl (by decide +kernel)
set_option maxRecDepth 20000 in
theorem gX10_meetingOf_X3_alikeBytes : GoodIn wsX10_meetingOf (wsV RX10 108 RX3 yX3_alikeBytes wsX3_alikeBytes) := goodIn_app (goodIn_r _ [7, 8, 9, 10] rfl (by decide +kernel)) ggX10_meetingOf_X3_alikeBytes
set_option maxRecDepth 20000 in
theorem ggX10_meetingOf_X3_lengthOf : GoodIn wsX10_meetingOf wsX3_lengthOf := goodIn_r _ [16, 17, 18, 34, 35, 36, 37] rfl (by decide +kernel)
set_option maxRecDepth 20000 in
theorem gX10_meetingOf_X3_lengthOf : GoodIn wsX10_meetingOf (wsV RX10 111 RX3 yX3_lengthOf wsX3_lengthOf) := goodIn_app (goodIn_r _ [24, 14, 15, 10] rfl (by decide +kernel)) ggX10_meetingOf_X3_lengthOf
theorem dX10_meetingOf_0 : decode cX10_meetingOf 0 = .ok (.aload_n 0, 1) := by decide +kernel
theorem dX10_meetingOf_1 : decode cX10_meetingOf 1 = .ok (.getfield 12, 3) := by decide +kernel
theorem dX10_meetingOf_4 : decode cX10_meetingOf 4 = .ok (.iload_n 1, 1) := by decide +kernel
theorem dX10_meetingOf_5 : decode cX10_meetingOf 5 = .ok (.iconst 1, 1) := by decide +kernel
theorem dX10_meetingOf_6 : decode cX10_meetingOf 6 = .ok (.isub, 1) := by decide +kernel
theorem dX10_meetingOf_7 : decode cX10_meetingOf 7 = .ok (.iload_n 1, 1) := by decide +kernel
theorem dX10_meetingOf_8 : decode cX10_meetingOf 8 = .ok (.invokevirtual 108, 3) := by decide +kernel
theorem dX10_meetingOf_11 : decode cX10_meetingOf 11 = .ok (.aload_n 0, 1) := by decide +kernel
theorem dX10_meetingOf_12 : decode cX10_meetingOf 12 = .ok (.getfield 12, 3) := by decide +kernel
theorem dX10_meetingOf_15 : decode cX10_meetingOf 15 = .ok (.iload_n 1, 1) := by decide +kernel
theorem dX10_meetingOf_16 : decode cX10_meetingOf 16 = .ok (.iconst 1, 1) := by decide +kernel
theorem dX10_meetingOf_17 : decode cX10_meetingOf 17 = .ok (.isub, 1) := by decide +kernel
theorem dX10_meetingOf_18 : decode cX10_meetingOf 18 = .ok (.invokevirtual 111, 3) := by decide +kernel
theorem dX10_meetingOf_21 : decode cX10_meetingOf 21 = .ok (.iconst 1, 1) := by decide +kernel
theorem dX10_meetingOf_22 : decode cX10_meetingOf 22 = .ok (.isub, 1) := by decide +kernel
theorem dX10_meetingOf_23 : decode cX10_meetingOf 23 = .ok (.invokestatic 114, 3) := by decide +kernel
theorem dX10_meetingOf_26 : decode cX10_meetingOf 26 = .ok (.istore_n 2, 1) := by decide +kernel
theorem dX10_meetingOf_27 : decode cX10_meetingOf 27 = .ok (.aload_n 0, 1) := by decide +kernel
theorem dX10_meetingOf_28 : decode cX10_meetingOf 28 = .ok (.getfield 26, 3) := by decide +kernel
theorem dX10_meetingOf_31 : decode cX10_meetingOf 31 = .ok (.iconst 1, 1) := by decide +kernel
theorem dX10_meetingOf_32 : decode cX10_meetingOf 32 = .ok (.if_icmp .ge 7, 3) := by decide +kernel
theorem dX10_meetingOf_35 : decode cX10_meetingOf 35 = .ok (.iconst 0, 1) := by decide +kernel
theorem dX10_meetingOf_36 : decode cX10_meetingOf 36 = .ok (.goto 9, 3) := by decide +kernel
theorem dX10_meetingOf_39 : decode cX10_meetingOf 39 = .ok (.iload_n 2, 1) := by decide +kernel
theorem dX10_meetingOf_40 : decode cX10_meetingOf 40 = .ok (.aload_n 0, 1) := by decide +kernel
theorem dX10_meetingOf_41 : decode cX10_meetingOf 41 = .ok (.getfield 26, 3) := by decide +kernel
theorem dX10_meetingOf_44 : decode cX10_meetingOf 44 = .ok (.idiv, 1) := by decide +kernel
theorem dX10_meetingOf_45 : decode cX10_meetingOf 45 = .ok (.ireturn, 1) := by decide +kernel
set_option maxRecDepth 20000 in
theorem ggX10_settle_X10_opensAt : GoodIn wsX10_settle wsX10_opensAt := goodIn_r _ [17, 1, 2, 4, 79, 80, 81, 82, 83, 84, 85, 86, 87, 88, 89, 90, 91] rfl (by decide +kernel)
set_option maxRecDepth 20000 in
theorem gX10_settle_X10_opensAt : GoodIn wsX10_settle (wsV RX10 117 RX10 yX10_opensAt wsX10_opensAt) := goodIn_app (goodIn_r _ [13, 14, 15, 16] rfl (by decide +kernel)) ggX10_settle_X10_opensAt
set_option maxRecDepth 20000 in
theorem ggX10_settle_X10_meetingOf : GoodIn wsX10_settle wsX10_meetingOf := goodIn_r _ [21, 1, 5, 6, 7, 8, 22, 23, 24, 25, 26, 27, 28, 29, 30, 31, 32, 33, 34, 35, 36, 37, 38, 39, 40, 79, 80, 81, 82, 83, 84, 85, 86, 87, 88, 89, 90, 91] rfl (by decide +kernel)
set_option maxRecDepth 20000 in
theorem gX10_settle_X10_meetingOf : GoodIn wsX10_settle (wsV RX10 120 RX10 yX10_meetingOf wsX10_meetingOf) := goodIn_app (goodIn_r _ [18, 19, 20, 16] rfl (by decide +kernel)) ggX10_settle_X10_meetingOf
set_option maxRecDepth 20000 in
theorem ggX10_settle_X3_has : GoodIn wsX10_settle wsX3_has := goodIn_r _ [44, 33, 88, 89, 90, 91] rfl (by decide +kernel)
set_option maxRecDepth 20000 in
theorem gX10_settle_X3_has : GoodIn wsX10_settle (wsV RX10 101 RX3 yX3_has wsX3_has) := goodIn_app (goodIn_r _ [41, 42, 43, 26] rfl (by decide +kernel)) ggX10_settle_X3_has
set_option maxRecDepth 20000 in
theorem ggX10_settle_X10_depthOf : GoodIn wsX10_settle wsX10_depthOf := goodIn_r _ [48, 9, 10, 7, 11, 49, 50, 51, 16, 52, 1, 2, 3, 79, 80, 81, 82, 83, 84, 85, 86, 87, 88, 89, 90, 91] rfl (by decide +kernel)
set_option maxRecDepth 20000 in
theorem gX10_settle_X10_depthOf : GoodIn wsX10_settle (wsV RX10 123 RX10 yX10_depthOf wsX10_depthOf) := goodIn_app (goodIn_r _ [45, 46, 47, 16] rfl (by decide +kernel)) ggX10_settle_X10_depthOf
set_option maxRecDepth 20000 in
theorem ggX10_settle_X10_sharedAt : GoodIn wsX10_settle wsX10_sharedAt := goodIn_r _ [52, 1, 2, 3, 79, 80, 81, 82, 83, 84, 85, 86, 87, 88, 89, 90, 91] rfl (by decide +kernel)
set_option maxRecDepth 20000 in
theorem gX10_settle_X10_sharedAt : GoodIn wsX10_settle (wsV RX10 105 RX10 yX10_sharedAt wsX10_sharedAt) := goodIn_app (goodIn_r _ [49, 50, 51, 16] rfl (by decide +kernel)) ggX10_settle_X10_sharedAt
set_option maxRecDepth 20000 in
theorem ggX10_settle_X10_pageStart : GoodIn wsX10_settle wsX10_pageStart := goodIn_r _ [56, 57, 58, 59, 16, 60, 1, 2, 3, 4, 79, 80, 81, 82, 83, 84, 85, 86, 87, 88, 89, 90, 91] rfl (by decide +kernel)
set_option maxRecDepth 20000 in
theorem gX10_settle_X10_pageStart : GoodIn wsX10_settle (wsV RX10 126 RX10 yX10_pageStart wsX10_pageStart) := goodIn_app (goodIn_r _ [53, 54, 55, 16] rfl (by decide +kernel)) ggX10_settle_X10_pageStart
set_option maxRecDepth 20000 in
theorem ggX10_settle_X10_partIfTooFull : GoodIn wsX10_settle wsX10_partIfTooFull := goodIn_r _ [64, 65, 66, 67, 68, 69, 16, 70, 1, 2, 57, 58, 59, 60, 3, 4, 49, 50, 51, 52, 71, 72, 73, 74, 75, 76, 77, 78, 41, 42, 43, 26, 44, 33, 79, 80, 81, 82, 83, 84, 85, 86, 87, 88, 89, 90, 91] rfl (by decide +kernel)
set_option maxRecDepth 20000 in
theorem gX10_settle_X10_partIfTooFull : GoodIn wsX10_settle (wsV RX10 129 RX10 yX10_partIfTooFull wsX10_partIfTooFull) := goodIn_app (goodIn_r _ [61, 62, 63, 16] rfl (by decide +kernel)) ggX10_settle_X10_partIfTooFull
theorem dX10_settle_0 : decode cX10_settle 0 = .ok (.iload_n 1, 1) := by decide +kernel
theorem dX10_settle_1 : decode cX10_settle 1 = .ok (.ifCond .gt 7, 3) := by decide +kernel
theorem dX10_settle_4 : decode cX10_settle 4 = .ok (.iconst 1, 1) := by decide +kernel
theorem dX10_settle_5 : decode cX10_settle 5 = .ok (.goto 4, 3) := by decide +kernel
theorem dX10_settle_8 : decode cX10_settle 8 = .ok (.iconst 0, 1) := by decide +kernel
theorem dX10_settle_9 : decode cX10_settle 9 = .ok (.istore_n 2, 1) := by decide +kernel
theorem dX10_settle_10 : decode cX10_settle 10 = .ok (.iload_n 1, 1) := by decide +kernel
theorem dX10_settle_11 : decode cX10_settle 11 = .ok (.iconst 1, 1) := by decide +kernel
theorem dX10_settle_12 : decode cX10_settle 12 = .ok (.iadd, 1) := by decide +kernel
theorem dX10_settle_13 : decode cX10_settle 13 = .ok (.aload_n 0, 1) := by decide +kernel
theorem dX10_settle_14 : decode cX10_settle 14 = .ok (.getfield 12, 3) := by decide +kernel
theorem dX10_settle_17 : decode cX10_settle 17 = .ok (.getfield 45, 3) := by decide +kernel
theorem dX10_settle_20 : decode cX10_settle 20 = .ok (.if_icmp .lt 7, 3) := by decide +kernel
theorem dX10_settle_23 : decode cX10_settle 23 = .ok (.iconst 1, 1) := by decide +kernel
theorem dX10_settle_24 : decode cX10_settle 24 = .ok (.goto 4, 3) := by decide +kernel
theorem dX10_settle_27 : decode cX10_settle 27 = .ok (.iconst 0, 1) := by decide +kernel
theorem dX10_settle_28 : decode cX10_settle 28 = .ok (.istore_n 3, 1) := by decide +kernel
theorem dX10_settle_29 : decode cX10_settle 29 = .ok (.iload_n 2, 1) := by decide +kernel
theorem dX10_settle_30 : decode cX10_settle 30 = .ok (.ifCond .ne 17, 3) := by decide +kernel
theorem dX10_settle_33 : decode cX10_settle 33 = .ok (.aload_n 0, 1) := by decide +kernel
theorem dX10_settle_34 : decode cX10_settle 34 = .ok (.iload_n 1, 1) := by decide +kernel
theorem dX10_settle_35 : decode cX10_settle 35 = .ok (.iconst 1, 1) := by decide +kernel
theorem dX10_settle_36 : decode cX10_settle 36 = .ok (.iadd, 1) := by decide +kernel
theorem dX10_settle_37 : decode cX10_settle 37 = .ok (.invokevirtual 117, 3) := by decide +kernel
theorem dX10_settle_40 : decode cX10_settle 40 = .ok (.ifCond .eq 7, 3) := by decide +kernel
theorem dX10_settle_43 : decode cX10_settle 43 = .ok (.iconst 1, 1) := by decide +kernel
theorem dX10_settle_44 : decode cX10_settle 44 = .ok (.goto 4, 3) := by decide +kernel
theorem dX10_settle_47 : decode cX10_settle 47 = .ok (.iconst 0, 1) := by decide +kernel
theorem dX10_settle_48 : decode cX10_settle 48 = .ok (.istore 4, 2) := by decide +kernel
theorem dX10_settle_50 : decode cX10_settle 50 = .ok (.iload_n 2, 1) := by decide +kernel
theorem dX10_settle_51 : decode cX10_settle 51 = .ok (.ifCond .eq 7, 3) := by decide +kernel
theorem dX10_settle_54 : decode cX10_settle 54 = .ok (.iconst 0, 1) := by decide +kernel
theorem dX10_settle_55 : decode cX10_settle 55 = .ok (.goto 8, 3) := by decide +kernel
theorem dX10_settle_58 : decode cX10_settle 58 = .ok (.aload_n 0, 1) := by decide +kernel
theorem dX10_settle_59 : decode cX10_settle 59 = .ok (.iload_n 1, 1) := by decide +kernel
theorem dX10_settle_60 : decode cX10_settle 60 = .ok (.invokevirtual 120, 3) := by decide +kernel
theorem dX10_settle_63 : decode cX10_settle 63 = .ok (.istore 5, 2) := by decide +kernel
theorem dX10_settle_65 : decode cX10_settle 65 = .ok (.iload_n 3, 1) := by decide +kernel
theorem dX10_settle_66 : decode cX10_settle 66 = .ok (.ifCond .eq 7, 3) := by decide +kernel
theorem dX10_settle_69 : decode cX10_settle 69 = .ok (.iconst 0, 1) := by decide +kernel
theorem dX10_settle_70 : decode cX10_settle 70 = .ok (.goto 10, 3) := by decide +kernel
theorem dX10_settle_73 : decode cX10_settle 73 = .ok (.aload_n 0, 1) := by decide +kernel
theorem dX10_settle_74 : decode cX10_settle 74 = .ok (.iload_n 1, 1) := by decide +kernel
theorem dX10_settle_75 : decode cX10_settle 75 = .ok (.iconst 1, 1) := by decide +kernel
theorem dX10_settle_76 : decode cX10_settle 76 = .ok (.iadd, 1) := by decide +kernel
theorem dX10_settle_77 : decode cX10_settle 77 = .ok (.invokevirtual 120, 3) := by decide +kernel
theorem dX10_settle_80 : decode cX10_settle 80 = .ok (.istore 6, 2) := by decide +kernel
theorem dX10_settle_82 : decode cX10_settle 82 = .ok (.iload 6, 2) := by decide +kernel
theorem dX10_settle_84 : decode cX10_settle 84 = .ok (.iload 5, 2) := by decide +kernel
theorem dX10_settle_86 : decode cX10_settle 86 = .ok (.if_icmp .le 7, 3) := by decide +kernel
theorem dX10_settle_89 : decode cX10_settle 89 = .ok (.iconst 1, 1) := by decide +kernel
theorem dX10_settle_90 : decode cX10_settle 90 = .ok (.goto 4, 3) := by decide +kernel
theorem dX10_settle_93 : decode cX10_settle 93 = .ok (.iconst 0, 1) := by decide +kernel
theorem dX10_settle_94 : decode cX10_settle 94 = .ok (.istore 7, 2) := by decide +kernel
theorem dX10_settle_96 : decode cX10_settle 96 = .ok (.aload_n 0, 1) := by decide +kernel
theorem dX10_settle_97 : decode cX10_settle 97 = .ok (.getfield 12, 3) := by decide +kernel
theorem dX10_settle_100 : decode cX10_settle 100 = .ok (.iload_n 1, 1) := by decide +kernel
theorem dX10_settle_101 : decode cX10_settle 101 = .ok (.invokevirtual 101, 3) := by decide +kernel
theorem dX10_settle_104 : decode cX10_settle 104 = .ok (.ifCond .eq 36, 3) := by decide +kernel
theorem dX10_settle_107 : decode cX10_settle 107 = .ok (.aload_n 0, 1) := by decide +kernel
theorem dX10_settle_108 : decode cX10_settle 108 = .ok (.getfield 18, 3) := by decide +kernel
theorem dX10_settle_111 : decode cX10_settle 111 = .ok (.iload_n 1, 1) := by decide +kernel
theorem dX10_settle_112 : decode cX10_settle 112 = .ok (.iload 5, 2) := by decide +kernel
theorem dX10_settle_114 : decode cX10_settle 114 = .ok (.iastore, 1) := by decide +kernel
theorem dX10_settle_115 : decode cX10_settle 115 = .ok (.aload_n 0, 1) := by decide +kernel
theorem dX10_settle_116 : decode cX10_settle 116 = .ok (.getfield 22, 3) := by decide +kernel
theorem dX10_settle_119 : decode cX10_settle 119 = .ok (.iload_n 1, 1) := by decide +kernel
theorem dX10_settle_120 : decode cX10_settle 120 = .ok (.iload_n 2, 1) := by decide +kernel
theorem dX10_settle_121 : decode cX10_settle 121 = .ok (.ifCond .ne 13, 3) := by decide +kernel
theorem dX10_settle_124 : decode cX10_settle 124 = .ok (.iload 7, 2) := by decide +kernel
theorem dX10_settle_126 : decode cX10_settle 126 = .ok (.ifCond .eq 12, 3) := by decide +kernel
theorem dX10_settle_129 : decode cX10_settle 129 = .ok (.iload 4, 2) := by decide +kernel
theorem dX10_settle_131 : decode cX10_settle 131 = .ok (.ifCond .eq 7, 3) := by decide +kernel
theorem dX10_settle_134 : decode cX10_settle 134 = .ok (.iconst 1, 1) := by decide +kernel
theorem dX10_settle_135 : decode cX10_settle 135 = .ok (.goto 4, 3) := by decide +kernel
theorem dX10_settle_138 : decode cX10_settle 138 = .ok (.iconst 0, 1) := by decide +kernel
theorem dX10_settle_139 : decode cX10_settle 139 = .ok (.bastore, 1) := by decide +kernel
theorem dX10_settle_140 : decode cX10_settle 140 = .ok (.aload_n 0, 1) := by decide +kernel
theorem dX10_settle_141 : decode cX10_settle 141 = .ok (.getfield 12, 3) := by decide +kernel
theorem dX10_settle_144 : decode cX10_settle 144 = .ok (.iload_n 1, 1) := by decide +kernel
theorem dX10_settle_145 : decode cX10_settle 145 = .ok (.iconst 1, 1) := by decide +kernel
theorem dX10_settle_146 : decode cX10_settle 146 = .ok (.iadd, 1) := by decide +kernel
theorem dX10_settle_147 : decode cX10_settle 147 = .ok (.invokevirtual 101, 3) := by decide +kernel
theorem dX10_settle_150 : decode cX10_settle 150 = .ok (.ifCond .eq 36, 3) := by decide +kernel
theorem dX10_settle_153 : decode cX10_settle 153 = .ok (.aload_n 0, 1) := by decide +kernel
theorem dX10_settle_154 : decode cX10_settle 154 = .ok (.getfield 18, 3) := by decide +kernel
theorem dX10_settle_157 : decode cX10_settle 157 = .ok (.iload_n 1, 1) := by decide +kernel
theorem dX10_settle_158 : decode cX10_settle 158 = .ok (.iconst 1, 1) := by decide +kernel
theorem dX10_settle_159 : decode cX10_settle 159 = .ok (.iadd, 1) := by decide +kernel
theorem dX10_settle_160 : decode cX10_settle 160 = .ok (.iload 6, 2) := by decide +kernel
theorem dX10_settle_162 : decode cX10_settle 162 = .ok (.iastore, 1) := by decide +kernel
theorem dX10_settle_163 : decode cX10_settle 163 = .ok (.aload_n 0, 1) := by decide +kernel
theorem dX10_settle_164 : decode cX10_settle 164 = .ok (.getfield 22, 3) := by decide +kernel
theorem dX10_settle_167 : decode cX10_settle 167 = .ok (.iload_n 1, 1) := by decide +kernel
theorem dX10_settle_168 : decode cX10_settle 168 = .ok (.iconst 1, 1) := by decide +kernel
theorem dX10_settle_169 : decode cX10_settle 169 = .ok (.iadd, 1) := by decide +kernel
theorem dX10_settle_170 : decode cX10_settle 170 = .ok (.iload 7, 2) := by decide +kernel
theorem dX10_settle_172 : decode cX10_settle 172 = .ok (.ifCond .ne 12, 3) := by decide +kernel
theorem dX10_settle_175 : decode cX10_settle 175 = .ok (.iload 4, 2) := by decide +kernel
theorem dX10_settle_177 : decode cX10_settle 177 = .ok (.ifCond .eq 7, 3) := by decide +kernel
theorem dX10_settle_180 : decode cX10_settle 180 = .ok (.iconst 1, 1) := by decide +kernel
theorem dX10_settle_181 : decode cX10_settle 181 = .ok (.goto 4, 3) := by decide +kernel
theorem dX10_settle_184 : decode cX10_settle 184 = .ok (.iconst 0, 1) := by decide +kernel
theorem dX10_settle_185 : decode cX10_settle 185 = .ok (.bastore, 1) := by decide +kernel
theorem dX10_settle_186 : decode cX10_settle 186 = .ok (.aload_n 0, 1) := by decide +kernel
theorem dX10_settle_187 : decode cX10_settle 187 = .ok (.iload_n 1, 1) := by decide +kernel
theorem dX10_settle_188 : decode cX10_settle 188 = .ok (.invokevirtual 123, 3) := by decide +kernel
theorem dX10_settle_191 : decode cX10_settle 191 = .ok (.istore 8, 2) := by decide +kernel
theorem dX10_settle_193 : decode cX10_settle 193 = .ok (.iload 7, 2) := by decide +kernel
theorem dX10_settle_195 : decode cX10_settle 195 = .ok (.ifCond .eq 13, 3) := by decide +kernel
theorem dX10_settle_198 : decode cX10_settle 198 = .ok (.aload_n 0, 1) := by decide +kernel
theorem dX10_settle_199 : decode cX10_settle 199 = .ok (.iload_n 1, 1) := by decide +kernel
theorem dX10_settle_200 : decode cX10_settle 200 = .ok (.iconst 2, 1) := by decide +kernel
theorem dX10_settle_201 : decode cX10_settle 201 = .ok (.iadd, 1) := by decide +kernel
theorem dX10_settle_202 : decode cX10_settle 202 = .ok (.invokevirtual 105, 3) := by decide +kernel
theorem dX10_settle_205 : decode cX10_settle 205 = .ok (.goto 10, 3) := by decide +kernel
theorem dX10_settle_208 : decode cX10_settle 208 = .ok (.aload_n 0, 1) := by decide +kernel
theorem dX10_settle_209 : decode cX10_settle 209 = .ok (.iload_n 1, 1) := by decide +kernel
theorem dX10_settle_210 : decode cX10_settle 210 = .ok (.iconst 1, 1) := by decide +kernel
theorem dX10_settle_211 : decode cX10_settle 211 = .ok (.isub, 1) := by decide +kernel
theorem dX10_settle_212 : decode cX10_settle 212 = .ok (.invokevirtual 105, 3) := by decide +kernel
theorem dX10_settle_215 : decode cX10_settle 215 = .ok (.istore 9, 2) := by decide +kernel
theorem dX10_settle_217 : decode cX10_settle 217 = .ok (.iload 9, 2) := by decide +kernel
theorem dX10_settle_219 : decode cX10_settle 219 = .ok (.iload 5, 2) := by decide +kernel
theorem dX10_settle_221 : decode cX10_settle 221 = .ok (.iload 6, 2) := by decide +kernel
theorem dX10_settle_223 : decode cX10_settle 223 = .ok (.invokestatic 114, 3) := by decide +kernel
theorem dX10_settle_226 : decode cX10_settle 226 = .ok (.invokestatic 95, 3) := by decide +kernel
theorem dX10_settle_229 : decode cX10_settle 229 = .ok (.istore 10, 2) := by decide +kernel
theorem dX10_settle_231 : decode cX10_settle 231 = .ok (.iload 8, 2) := by decide +kernel
theorem dX10_settle_233 : decode cX10_settle 233 = .ok (.iload 10, 2) := by decide +kernel
theorem dX10_settle_235 : decode cX10_settle 235 = .ok (.if_icmp .le 20, 3) := by decide +kernel
theorem dX10_settle_238 : decode cX10_settle 238 = .ok (.aload_n 0, 1) := by decide +kernel
theorem dX10_settle_239 : decode cX10_settle 239 = .ok (.dup, 1) := by decide +kernel
theorem dX10_settle_240 : decode cX10_settle 240 = .ok (.getfield 39, 3) := by decide +kernel
theorem dX10_settle_243 : decode cX10_settle 243 = .ok (.iload 8, 2) := by decide +kernel
theorem dX10_settle_245 : decode cX10_settle 245 = .ok (.iload 10, 2) := by decide +kernel
theorem dX10_settle_247 : decode cX10_settle 247 = .ok (.isub, 1) := by decide +kernel
theorem dX10_settle_248 : decode cX10_settle 248 = .ok (.iadd, 1) := by decide +kernel
theorem dX10_settle_249 : decode cX10_settle 249 = .ok (.putfield 39, 3) := by decide +kernel
theorem dX10_settle_252 : decode cX10_settle 252 = .ok (.goto 16, 3) := by decide +kernel
theorem dX10_settle_255 : decode cX10_settle 255 = .ok (.aload_n 0, 1) := by decide +kernel
theorem dX10_settle_256 : decode cX10_settle 256 = .ok (.aload_n 0, 1) := by decide +kernel
theorem dX10_settle_257 : decode cX10_settle 257 = .ok (.iload_n 1, 1) := by decide +kernel
theorem dX10_settle_258 : decode cX10_settle 258 = .ok (.iload 8, 2) := by decide +kernel
theorem dX10_settle_260 : decode cX10_settle 260 = .ok (.invokevirtual 126, 3) := by decide +kernel
theorem dX10_settle_263 : decode cX10_settle 263 = .ok (.iload 8, 2) := by decide +kernel
theorem dX10_settle_265 : decode cX10_settle 265 = .ok (.invokevirtual 129, 3) := by decide +kernel
theorem dX10_settle_268 : decode cX10_settle 268 = .ok (.return_, 1) := by decide +kernel
set_option maxRecDepth 20000 in
theorem ggX10_partIfTooFull_X10_entriesFrom : GoodIn wsX10_partIfTooFull wsX10_entriesFrom := goodIn_r _ [7, 8, 9, 10, 11, 12, 6, 13, 14, 15, 16, 17, 18, 19, 34, 35, 36, 37, 38, 39, 40, 41, 42, 43, 44, 45, 46] rfl (by decide +kernel)
set_option maxRecDepth 20000 in
theorem gX10_partIfTooFull_X10_entriesFrom : GoodIn wsX10_partIfTooFull (wsV RX10 132 RX10 yX10_entriesFrom wsX10_entriesFrom) := goodIn_app (goodIn_r _ [3, 4, 5, 6] rfl (by decide +kernel)) ggX10_partIfTooFull_X10_entriesFrom
set_option maxRecDepth 20000 in
theorem ggX10_partIfTooFull_X10_entryFrom : GoodIn wsX10_partIfTooFull wsX10_entryFrom := goodIn_r _ [23, 8, 9, 10, 11, 12, 6, 13, 14, 15, 16, 17, 18, 19, 34, 35, 36, 37, 38, 39, 40, 41, 42, 43, 44, 45, 46] rfl (by decide +kernel)
set_option maxRecDepth 20000 in
theorem gX10_partIfTooFull_X10_entryFrom : GoodIn wsX10_partIfTooFull (wsV RX10 135 RX10 yX10_entryFrom wsX10_entryFrom) := goodIn_app (goodIn_r _ [20, 21, 22, 6] rfl (by decide +kernel)) ggX10_partIfTooFull_X10_entryFrom
set_option maxRecDepth 20000 in
theorem ggX10_partIfTooFull_X10_setOpens : GoodIn wsX10_partIfTooFull wsX10_setOpens := goodIn_r _ [27, 8, 15, 28, 29, 30, 31, 32, 33, 34, 35, 36, 37, 38, 39, 40, 41, 42, 43, 44, 45, 46] rfl (by decide +kernel)
set_option maxRecDepth 20000 in
theorem gX10_partIfTooFull_X10_setOpens : GoodIn wsX10_partIfTooFull (wsV RX10 139 RX10 yX10_setOpens wsX10_setOpens) := goodIn_app (goodIn_r _ [24, 25, 26, 6] rfl (by decide +kernel)) ggX10_partIfTooFull_X10_setOpens
theorem dX10_partIfTooFull_0 : decode cX10_partIfTooFull 0 = .ok (.aload_n 0, 1) := by decide +kernel
theorem dX10_partIfTooFull_1 : decode cX10_partIfTooFull 1 = .ok (.iload_n 1, 1) := by decide +kernel
theorem dX10_partIfTooFull_2 : decode cX10_partIfTooFull 2 = .ok (.iload_n 2, 1) := by decide +kernel
theorem dX10_partIfTooFull_3 : decode cX10_partIfTooFull 3 = .ok (.invokevirtual 132, 3) := by decide +kernel
theorem dX10_partIfTooFull_6 : decode cX10_partIfTooFull 6 = .ok (.istore_n 3, 1) := by decide +kernel
theorem dX10_partIfTooFull_7 : decode cX10_partIfTooFull 7 = .ok (.iload_n 3, 1) := by decide +kernel
theorem dX10_partIfTooFull_8 : decode cX10_partIfTooFull 8 = .ok (.aload_n 0, 1) := by decide +kernel
theorem dX10_partIfTooFull_9 : decode cX10_partIfTooFull 9 = .ok (.getfield 30, 3) := by decide +kernel
theorem dX10_partIfTooFull_12 : decode cX10_partIfTooFull 12 = .ok (.if_icmp .le 27, 3) := by decide +kernel
theorem dX10_partIfTooFull_15 : decode cX10_partIfTooFull 15 = .ok (.aload_n 0, 1) := by decide +kernel
theorem dX10_partIfTooFull_16 : decode cX10_partIfTooFull 16 = .ok (.aload_n 0, 1) := by decide +kernel
theorem dX10_partIfTooFull_17 : decode cX10_partIfTooFull 17 = .ok (.iload_n 1, 1) := by decide +kernel
theorem dX10_partIfTooFull_18 : decode cX10_partIfTooFull 18 = .ok (.iload_n 2, 1) := by decide +kernel
theorem dX10_partIfTooFull_19 : decode cX10_partIfTooFull 19 = .ok (.iload_n 3, 1) := by decide +kernel
theorem dX10_partIfTooFull_20 : decode cX10_partIfTooFull 20 = .ok (.iconst 2, 1) := by decide +kernel
theorem dX10_partIfTooFull_21 : decode cX10_partIfTooFull 21 = .ok (.idiv, 1) := by decide +kernel
theorem dX10_partIfTooFull_22 : decode cX10_partIfTooFull 22 = .ok (.invokevirtual 135, 3) := by decide +kernel
theorem dX10_partIfTooFull_25 : decode cX10_partIfTooFull 25 = .ok (.iconst 1, 1) := by decide +kernel
theorem dX10_partIfTooFull_26 : decode cX10_partIfTooFull 26 = .ok (.invokevirtual 139, 3) := by decide +kernel
theorem dX10_partIfTooFull_29 : decode cX10_partIfTooFull 29 = .ok (.aload_n 0, 1) := by decide +kernel
theorem dX10_partIfTooFull_30 : decode cX10_partIfTooFull 30 = .ok (.dup, 1) := by decide +kernel
theorem dX10_partIfTooFull_31 : decode cX10_partIfTooFull 31 = .ok (.getfield 33, 3) := by decide +kernel
theorem dX10_partIfTooFull_34 : decode cX10_partIfTooFull 34 = .ok (.iconst 1, 1) := by decide +kernel
theorem dX10_partIfTooFull_35 : decode cX10_partIfTooFull 35 = .ok (.iadd, 1) := by decide +kernel
theorem dX10_partIfTooFull_36 : decode cX10_partIfTooFull 36 = .ok (.putfield 33, 3) := by decide +kernel
theorem dX10_partIfTooFull_39 : decode cX10_partIfTooFull 39 = .ok (.return_, 1) := by decide +kernel
set_option maxRecDepth 20000 in
theorem ggX10_removeAt_X3_has : GoodIn wsX10_removeAt wsX3_has := goodIn_r _ [13, 14, 89, 90, 91, 92] rfl (by decide +kernel)
set_option maxRecDepth 20000 in
theorem gX10_removeAt_X3_has : GoodIn wsX10_removeAt (wsV RX10 101 RX3 yX3_has wsX3_has) := goodIn_app (goodIn_r _ [9, 10, 11, 12] rfl (by decide +kernel)) ggX10_removeAt_X3_has
set_option maxRecDepth 20000 in
theorem ggX10_removeAt_X10_depthOf : GoodIn wsX10_removeAt wsX10_depthOf := goodIn_r _ [19, 20, 21, 22, 23, 24, 25, 26, 18, 27, 1, 2, 3, 80, 81, 82, 83, 84, 85, 86, 87, 88, 89, 90, 91, 92] rfl (by decide +kernel)
set_option maxRecDepth 20000 in
theorem gX10_removeAt_X10_depthOf : GoodIn wsX10_removeAt (wsV RX10 123 RX10 yX10_depthOf wsX10_depthOf) := goodIn_app (goodIn_r _ [15, 16, 17, 18] rfl (by decide +kernel)) ggX10_removeAt_X10_depthOf
set_option maxRecDepth 20000 in
theorem ggX10_removeAt_X10_sharedAt : GoodIn wsX10_removeAt wsX10_sharedAt := goodIn_r _ [27, 1, 2, 3, 80, 81, 82, 83, 84, 85, 86, 87, 88, 89, 90, 91, 92] rfl (by decide +kernel)
set_option maxRecDepth 20000 in
theorem gX10_removeAt_X10_sharedAt : GoodIn wsX10_removeAt (wsV RX10 105 RX10 yX10_sharedAt wsX10_sharedAt) := goodIn_app (goodIn_r _ [24, 25, 26, 18] rfl (by decide +kernel)) ggX10_removeAt_X10_sharedAt
set_option maxRecDepth 20000 in
theorem ggX10_removeAt_X10_isPageStart : GoodIn wsX10_removeAt wsX10_isPageStart := goodIn_r _ [31, 1, 2, 3, 8, 80, 81, 82, 83, 84, 85, 86, 87, 88, 89, 90, 91, 92] rfl (by decide +kernel)
set_option maxRecDepth 20000 in
theorem gX10_removeAt_X10_isPageStart : GoodIn wsX10_removeAt (wsV RX10 143 RX10 yX10_isPageStart wsX10_isPageStart) := goodIn_app (goodIn_r _ [28, 29, 30, 18] rfl (by decide +kernel)) ggX10_removeAt_X10_isPageStart
set_option maxRecDepth 20000 in
theorem ggX10_removeAt_X10_isPageEnd : GoodIn wsX10_removeAt wsX10_isPageEnd := goodIn_r _ [35, 28, 29, 30, 18, 31, 1, 2, 3, 8, 80, 81, 82, 83, 84, 85, 86, 87, 88, 89, 90, 91, 92] rfl (by decide +kernel)
set_option maxRecDepth 20000 in
theorem gX10_removeAt_X10_isPageEnd : GoodIn wsX10_removeAt (wsV RX10 147 RX10 yX10_isPageEnd wsX10_isPageEnd) := goodIn_app (goodIn_r _ [32, 33, 34, 18] rfl (by decide +kernel)) ggX10_removeAt_X10_isPageEnd
set_option maxRecDepth 20000 in
theorem ggX10_removeAt_X10_closeBreaks : GoodIn wsX10_removeAt wsX10_closeBreaks := goodIn_r _ [39, 1, 3, 8, 9, 10, 11, 12, 13, 14, 80, 81, 82, 83, 84, 85, 86, 87, 88, 89, 90, 91, 92] rfl (by decide +kernel)
set_option maxRecDepth 20000 in
theorem gX10_removeAt_X10_closeBreaks : GoodIn wsX10_removeAt (wsV RX10 150 RX10 yX10_closeBreaks wsX10_closeBreaks) := goodIn_app (goodIn_r _ [36, 37, 38, 18] rfl (by decide +kernel)) ggX10_removeAt_X10_closeBreaks
set_option maxRecDepth 20000 in
theorem ggX10_removeAt_X3_removeAt : GoodIn wsX10_removeAt wsX3_removeAt := goodIn_r _ [43, 14, 44, 45, 5, 6, 7, 46, 47, 48, 10, 11, 12, 13, 89, 90, 91, 92] rfl (by decide +kernel)
set_option maxRecDepth 20000 in
theorem gX10_removeAt_X3_removeAt : GoodIn wsX10_removeAt (wsV RX10 153 RX3 yX3_removeAt wsX3_removeAt) := goodIn_app (goodIn_r _ [40, 41, 42, 12] rfl (by decide +kernel)) ggX10_removeAt_X3_removeAt
set_option maxRecDepth 20000 in
theorem ggX10_removeAt_X10_pageStart : GoodIn wsX10_removeAt wsX10_pageStart := goodIn_r _ [52, 28, 29, 30, 18, 31, 1, 2, 3, 8, 80, 81, 82, 83, 84, 85, 86, 87, 88, 89, 90, 91, 92] rfl (by decide +kernel)
set_option maxRecDepth 20000 in
theorem gX10_removeAt_X10_pageStart : GoodIn wsX10_removeAt (wsV RX10 126 RX10 yX10_pageStart wsX10_pageStart) := goodIn_app (goodIn_r _ [49, 50, 51, 18] rfl (by decide +kernel)) ggX10_removeAt_X10_pageStart
set_option maxRecDepth 20000 in
theorem ggX10_removeAt_X10_joinIfEmptied : GoodIn wsX10_removeAt wsX10_joinIfEmptied := goodIn_r _ [56, 57, 58, 59, 60, 61, 18, 62, 1, 2, 28, 29, 30, 31, 3, 8, 24, 25, 26, 27, 63, 64, 65, 66, 67, 68, 69, 70, 71, 72, 73, 74, 9, 10, 11, 12, 13, 14, 49, 50, 51, 52, 80, 81, 82, 83, 84, 85, 86, 87, 88, 89, 90, 91, 92] rfl (by decide +kernel)
set_option maxRecDepth 20000 in
theorem gX10_removeAt_X10_joinIfEmptied : GoodIn wsX10_removeAt (wsV RX10 154 RX10 yX10_joinIfEmptied wsX10_joinIfEmptied) := goodIn_app (goodIn_r _ [53, 54, 55, 18] rfl (by decide +kernel)) ggX10_removeAt_X10_joinIfEmptied
set_option maxRecDepth 20000 in
theorem ggX10_removeAt_X10_foldOver : GoodIn wsX10_removeAt wsX10_foldOver := goodIn_r _ [78, 1, 79, 20, 21, 22, 23, 9, 10, 11, 12, 13, 14, 15, 16, 17, 18, 19, 24, 25, 26, 27, 2, 3, 80, 81, 82, 83, 84, 85, 86, 87, 88, 89, 90, 91, 92] rfl (by decide +kernel)
set_option maxRecDepth 20000 in
theorem gX10_removeAt_X10_foldOver : GoodIn wsX10_removeAt (wsV RX10 157 RX10 yX10_foldOver wsX10_foldOver) := goodIn_app (goodIn_r _ [75, 76, 77, 18] rfl (by decide +kernel)) ggX10_removeAt_X10_foldOver
theorem dX10_removeAt_0 : decode cX10_removeAt 0 = .ok (.aload_n 0, 1) := by decide +kernel
theorem dX10_removeAt_1 : decode cX10_removeAt 1 = .ok (.getfield 12, 3) := by decide +kernel
theorem dX10_removeAt_4 : decode cX10_removeAt 4 = .ok (.iload_n 1, 1) := by decide +kernel
theorem dX10_removeAt_5 : decode cX10_removeAt 5 = .ok (.invokevirtual 101, 3) := by decide +kernel
theorem dX10_removeAt_8 : decode cX10_removeAt 8 = .ok (.ifCond .ne 4, 3) := by decide +kernel
theorem dX10_removeAt_11 : decode cX10_removeAt 11 = .ok (.return_, 1) := by decide +kernel
theorem dX10_removeAt_12 : decode cX10_removeAt 12 = .ok (.aload_n 0, 1) := by decide +kernel
theorem dX10_removeAt_13 : decode cX10_removeAt 13 = .ok (.iload_n 1, 1) := by decide +kernel
theorem dX10_removeAt_14 : decode cX10_removeAt 14 = .ok (.invokevirtual 123, 3) := by decide +kernel
theorem dX10_removeAt_17 : decode cX10_removeAt 17 = .ok (.istore_n 2, 1) := by decide +kernel
theorem dX10_removeAt_18 : decode cX10_removeAt 18 = .ok (.aload_n 0, 1) := by decide +kernel
theorem dX10_removeAt_19 : decode cX10_removeAt 19 = .ok (.iload_n 1, 1) := by decide +kernel
theorem dX10_removeAt_20 : decode cX10_removeAt 20 = .ok (.invokevirtual 105, 3) := by decide +kernel
theorem dX10_removeAt_23 : decode cX10_removeAt 23 = .ok (.istore_n 3, 1) := by decide +kernel
theorem dX10_removeAt_24 : decode cX10_removeAt 24 = .ok (.aload_n 0, 1) := by decide +kernel
theorem dX10_removeAt_25 : decode cX10_removeAt 25 = .ok (.iload_n 1, 1) := by decide +kernel
theorem dX10_removeAt_26 : decode cX10_removeAt 26 = .ok (.iconst 1, 1) := by decide +kernel
theorem dX10_removeAt_27 : decode cX10_removeAt 27 = .ok (.iadd, 1) := by decide +kernel
theorem dX10_removeAt_28 : decode cX10_removeAt 28 = .ok (.invokevirtual 105, 3) := by decide +kernel
theorem dX10_removeAt_31 : decode cX10_removeAt 31 = .ok (.istore 4, 2) := by decide +kernel
theorem dX10_removeAt_33 : decode cX10_removeAt 33 = .ok (.aload_n 0, 1) := by decide +kernel
theorem dX10_removeAt_34 : decode cX10_removeAt 34 = .ok (.iload_n 1, 1) := by decide +kernel
theorem dX10_removeAt_35 : decode cX10_removeAt 35 = .ok (.iload_n 2, 1) := by decide +kernel
theorem dX10_removeAt_36 : decode cX10_removeAt 36 = .ok (.invokevirtual 143, 3) := by decide +kernel
theorem dX10_removeAt_39 : decode cX10_removeAt 39 = .ok (.istore 5, 2) := by decide +kernel
theorem dX10_removeAt_41 : decode cX10_removeAt 41 = .ok (.iload 5, 2) := by decide +kernel
theorem dX10_removeAt_43 : decode cX10_removeAt 43 = .ok (.ifCond .eq 16, 3) := by decide +kernel
theorem dX10_removeAt_46 : decode cX10_removeAt 46 = .ok (.aload_n 0, 1) := by decide +kernel
theorem dX10_removeAt_47 : decode cX10_removeAt 47 = .ok (.iload_n 1, 1) := by decide +kernel
theorem dX10_removeAt_48 : decode cX10_removeAt 48 = .ok (.iload_n 2, 1) := by decide +kernel
theorem dX10_removeAt_49 : decode cX10_removeAt 49 = .ok (.invokevirtual 147, 3) := by decide +kernel
theorem dX10_removeAt_52 : decode cX10_removeAt 52 = .ok (.ifCond .eq 7, 3) := by decide +kernel
theorem dX10_removeAt_55 : decode cX10_removeAt 55 = .ok (.iconst 1, 1) := by decide +kernel
theorem dX10_removeAt_56 : decode cX10_removeAt 56 = .ok (.goto 4, 3) := by decide +kernel
theorem dX10_removeAt_59 : decode cX10_removeAt 59 = .ok (.iconst 0, 1) := by decide +kernel
theorem dX10_removeAt_60 : decode cX10_removeAt 60 = .ok (.istore 6, 2) := by decide +kernel
theorem dX10_removeAt_62 : decode cX10_removeAt 62 = .ok (.aload_n 0, 1) := by decide +kernel
theorem dX10_removeAt_63 : decode cX10_removeAt 63 = .ok (.iload_n 1, 1) := by decide +kernel
theorem dX10_removeAt_64 : decode cX10_removeAt 64 = .ok (.invokevirtual 150, 3) := by decide +kernel
theorem dX10_removeAt_67 : decode cX10_removeAt 67 = .ok (.aload_n 0, 1) := by decide +kernel
theorem dX10_removeAt_68 : decode cX10_removeAt 68 = .ok (.getfield 12, 3) := by decide +kernel
theorem dX10_removeAt_71 : decode cX10_removeAt 71 = .ok (.getfield 45, 3) := by decide +kernel
theorem dX10_removeAt_74 : decode cX10_removeAt 74 = .ok (.iload_n 1, 1) := by decide +kernel
theorem dX10_removeAt_75 : decode cX10_removeAt 75 = .ok (.isub, 1) := by decide +kernel
theorem dX10_removeAt_76 : decode cX10_removeAt 76 = .ok (.iconst 1, 1) := by decide +kernel
theorem dX10_removeAt_77 : decode cX10_removeAt 77 = .ok (.isub, 1) := by decide +kernel
theorem dX10_removeAt_78 : decode cX10_removeAt 78 = .ok (.istore 7, 2) := by decide +kernel
theorem dX10_removeAt_80 : decode cX10_removeAt 80 = .ok (.aload_n 0, 1) := by decide +kernel
theorem dX10_removeAt_81 : decode cX10_removeAt 81 = .ok (.getfield 18, 3) := by decide +kernel
theorem dX10_removeAt_84 : decode cX10_removeAt 84 = .ok (.iload_n 1, 1) := by decide +kernel
theorem dX10_removeAt_85 : decode cX10_removeAt 85 = .ok (.iconst 1, 1) := by decide +kernel
theorem dX10_removeAt_86 : decode cX10_removeAt 86 = .ok (.iadd, 1) := by decide +kernel
theorem dX10_removeAt_87 : decode cX10_removeAt 87 = .ok (.aload_n 0, 1) := by decide +kernel
theorem dX10_removeAt_88 : decode cX10_removeAt 88 = .ok (.getfield 18, 3) := by decide +kernel
theorem dX10_removeAt_91 : decode cX10_removeAt 91 = .ok (.iload_n 1, 1) := by decide +kernel
theorem dX10_removeAt_92 : decode cX10_removeAt 92 = .ok (.iload 7, 2) := by decide +kernel
theorem dX10_removeAt_94 : decode cX10_removeAt 94 = .ok (.invokestatic 52, 3) := by decide +kernel
theorem dX10_removeAt_97 : decode cX10_removeAt 97 = .ok (.aload_n 0, 1) := by decide +kernel
theorem dX10_removeAt_98 : decode cX10_removeAt 98 = .ok (.getfield 22, 3) := by decide +kernel
theorem dX10_removeAt_101 : decode cX10_removeAt 101 = .ok (.iload_n 1, 1) := by decide +kernel
theorem dX10_removeAt_102 : decode cX10_removeAt 102 = .ok (.iconst 1, 1) := by decide +kernel
theorem dX10_removeAt_103 : decode cX10_removeAt 103 = .ok (.iadd, 1) := by decide +kernel
theorem dX10_removeAt_104 : decode cX10_removeAt 104 = .ok (.aload_n 0, 1) := by decide +kernel
theorem dX10_removeAt_105 : decode cX10_removeAt 105 = .ok (.getfield 22, 3) := by decide +kernel
theorem dX10_removeAt_108 : decode cX10_removeAt 108 = .ok (.iload_n 1, 1) := by decide +kernel
theorem dX10_removeAt_109 : decode cX10_removeAt 109 = .ok (.iload 7, 2) := by decide +kernel
theorem dX10_removeAt_111 : decode cX10_removeAt 111 = .ok (.invokestatic 52, 3) := by decide +kernel
theorem dX10_removeAt_114 : decode cX10_removeAt 114 = .ok (.aload_n 0, 1) := by decide +kernel
theorem dX10_removeAt_115 : decode cX10_removeAt 115 = .ok (.getfield 12, 3) := by decide +kernel
theorem dX10_removeAt_118 : decode cX10_removeAt 118 = .ok (.iload_n 1, 1) := by decide +kernel
theorem dX10_removeAt_119 : decode cX10_removeAt 119 = .ok (.invokevirtual 153, 3) := by decide +kernel
theorem dX10_removeAt_122 : decode cX10_removeAt 122 = .ok (.iload 6, 2) := by decide +kernel
theorem dX10_removeAt_124 : decode cX10_removeAt 124 = .ok (.ifCond .ne 25, 3) := by decide +kernel
theorem dX10_removeAt_127 : decode cX10_removeAt 127 = .ok (.aload_n 0, 1) := by decide +kernel
theorem dX10_removeAt_128 : decode cX10_removeAt 128 = .ok (.aload_n 0, 1) := by decide +kernel
theorem dX10_removeAt_129 : decode cX10_removeAt 129 = .ok (.iload 5, 2) := by decide +kernel
theorem dX10_removeAt_131 : decode cX10_removeAt 131 = .ok (.ifCond .eq 7, 3) := by decide +kernel
theorem dX10_removeAt_134 : decode cX10_removeAt 134 = .ok (.iload_n 1, 1) := by decide +kernel
theorem dX10_removeAt_135 : decode cX10_removeAt 135 = .ok (.goto 6, 3) := by decide +kernel
theorem dX10_removeAt_138 : decode cX10_removeAt 138 = .ok (.iload_n 1, 1) := by decide +kernel
theorem dX10_removeAt_139 : decode cX10_removeAt 139 = .ok (.iconst 1, 1) := by decide +kernel
theorem dX10_removeAt_140 : decode cX10_removeAt 140 = .ok (.isub, 1) := by decide +kernel
theorem dX10_removeAt_141 : decode cX10_removeAt 141 = .ok (.iload_n 2, 1) := by decide +kernel
theorem dX10_removeAt_142 : decode cX10_removeAt 142 = .ok (.invokevirtual 126, 3) := by decide +kernel
theorem dX10_removeAt_145 : decode cX10_removeAt 145 = .ok (.iload_n 2, 1) := by decide +kernel
theorem dX10_removeAt_146 : decode cX10_removeAt 146 = .ok (.invokevirtual 154, 3) := by decide +kernel
theorem dX10_removeAt_149 : decode cX10_removeAt 149 = .ok (.aload_n 0, 1) := by decide +kernel
theorem dX10_removeAt_150 : decode cX10_removeAt 150 = .ok (.iload_n 1, 1) := by decide +kernel
theorem dX10_removeAt_151 : decode cX10_removeAt 151 = .ok (.ifCond .le 15, 3) := by decide +kernel
theorem dX10_removeAt_154 : decode cX10_removeAt 154 = .ok (.iload_n 3, 1) := by decide +kernel
theorem dX10_removeAt_155 : decode cX10_removeAt 155 = .ok (.iload 4, 2) := by decide +kernel
theorem dX10_removeAt_157 : decode cX10_removeAt 157 = .ok (.if_icmp .lt 9, 3) := by decide +kernel
theorem dX10_removeAt_160 : decode cX10_removeAt 160 = .ok (.iload_n 1, 1) := by decide +kernel
theorem dX10_removeAt_161 : decode cX10_removeAt 161 = .ok (.iconst 1, 1) := by decide +kernel
theorem dX10_removeAt_162 : decode cX10_removeAt 162 = .ok (.isub, 1) := by decide +kernel
theorem dX10_removeAt_163 : decode cX10_removeAt 163 = .ok (.goto 4, 3) := by decide +kernel
theorem dX10_removeAt_166 : decode cX10_removeAt 166 = .ok (.iload_n 1, 1) := by decide +kernel
theorem dX10_removeAt_167 : decode cX10_removeAt 167 = .ok (.iload_n 2, 1) := by decide +kernel
theorem dX10_removeAt_168 : decode cX10_removeAt 168 = .ok (.invokevirtual 157, 3) := by decide +kernel
theorem dX10_removeAt_171 : decode cX10_removeAt 171 = .ok (.return_, 1) := by decide +kernel
set_option maxRecDepth 20000 in
theorem ggX10_closeBreaks_X3_has : GoodIn wsX10_closeBreaks wsX3_has := goodIn_r _ [8, 9, 19, 20, 21, 22] rfl (by decide +kernel)
set_option maxRecDepth 20000 in
theorem gX10_closeBreaks_X3_has : GoodIn wsX10_closeBreaks (wsV RX10 101 RX3 yX3_has wsX3_has) := goodIn_app (goodIn_r _ [4, 5, 6, 7] rfl (by decide +kernel)) ggX10_closeBreaks_X3_has
theorem dX10_closeBreaks_0 : decode cX10_closeBreaks 0 = .ok (.aload_n 0, 1) := by decide +kernel
theorem dX10_closeBreaks_1 : decode cX10_closeBreaks 1 = .ok (.getfield 12, 3) := by decide +kernel
theorem dX10_closeBreaks_4 : decode cX10_closeBreaks 4 = .ok (.iload_n 1, 1) := by decide +kernel
theorem dX10_closeBreaks_5 : decode cX10_closeBreaks 5 = .ok (.invokevirtual 101, 3) := by decide +kernel
theorem dX10_closeBreaks_8 : decode cX10_closeBreaks 8 = .ok (.ifCond .eq 16, 3) := by decide +kernel
theorem dX10_closeBreaks_11 : decode cX10_closeBreaks 11 = .ok (.aload_n 0, 1) := by decide +kernel
theorem dX10_closeBreaks_12 : decode cX10_closeBreaks 12 = .ok (.getfield 12, 3) := by decide +kernel
theorem dX10_closeBreaks_15 : decode cX10_closeBreaks 15 = .ok (.iload_n 1, 1) := by decide +kernel
theorem dX10_closeBreaks_16 : decode cX10_closeBreaks 16 = .ok (.iconst 1, 1) := by decide +kernel
theorem dX10_closeBreaks_17 : decode cX10_closeBreaks 17 = .ok (.iadd, 1) := by decide +kernel
theorem dX10_closeBreaks_18 : decode cX10_closeBreaks 18 = .ok (.invokevirtual 101, 3) := by decide +kernel
theorem dX10_closeBreaks_21 : decode cX10_closeBreaks 21 = .ok (.ifCond .ne 4, 3) := by decide +kernel
theorem dX10_closeBreaks_24 : decode cX10_closeBreaks 24 = .ok (.return_, 1) := by decide +kernel
theorem dX10_closeBreaks_25 : decode cX10_closeBreaks 25 = .ok (.aload_n 0, 1) := by decide +kernel
theorem dX10_closeBreaks_26 : decode cX10_closeBreaks 26 = .ok (.getfield 18, 3) := by decide +kernel
theorem dX10_closeBreaks_29 : decode cX10_closeBreaks 29 = .ok (.iload_n 1, 1) := by decide +kernel
theorem dX10_closeBreaks_30 : decode cX10_closeBreaks 30 = .ok (.iaload, 1) := by decide +kernel
theorem dX10_closeBreaks_31 : decode cX10_closeBreaks 31 = .ok (.aload_n 0, 1) := by decide +kernel
theorem dX10_closeBreaks_32 : decode cX10_closeBreaks 32 = .ok (.getfield 18, 3) := by decide +kernel
theorem dX10_closeBreaks_35 : decode cX10_closeBreaks 35 = .ok (.iload_n 1, 1) := by decide +kernel
theorem dX10_closeBreaks_36 : decode cX10_closeBreaks 36 = .ok (.iconst 1, 1) := by decide +kernel
theorem dX10_closeBreaks_37 : decode cX10_closeBreaks 37 = .ok (.iadd, 1) := by decide +kernel
theorem dX10_closeBreaks_38 : decode cX10_closeBreaks 38 = .ok (.iaload, 1) := by decide +kernel
theorem dX10_closeBreaks_39 : decode cX10_closeBreaks 39 = .ok (.if_icmp .ne 39, 3) := by decide +kernel
theorem dX10_closeBreaks_42 : decode cX10_closeBreaks 42 = .ok (.aload_n 0, 1) := by decide +kernel
theorem dX10_closeBreaks_43 : decode cX10_closeBreaks 43 = .ok (.getfield 22, 3) := by decide +kernel
theorem dX10_closeBreaks_46 : decode cX10_closeBreaks 46 = .ok (.iload_n 1, 1) := by decide +kernel
theorem dX10_closeBreaks_47 : decode cX10_closeBreaks 47 = .ok (.iconst 1, 1) := by decide +kernel
theorem dX10_closeBreaks_48 : decode cX10_closeBreaks 48 = .ok (.iadd, 1) := by decide +kernel
theorem dX10_closeBreaks_49 : decode cX10_closeBreaks 49 = .ok (.aload_n 0, 1) := by decide +kernel
theorem dX10_closeBreaks_50 : decode cX10_closeBreaks 50 = .ok (.getfield 22, 3) := by decide +kernel
theorem dX10_closeBreaks_53 : decode cX10_closeBreaks 53 = .ok (.iload_n 1, 1) := by decide +kernel
theorem dX10_closeBreaks_54 : decode cX10_closeBreaks 54 = .ok (.baload, 1) := by decide +kernel
theorem dX10_closeBreaks_55 : decode cX10_closeBreaks 55 = .ok (.ifCond .ne 14, 3) := by decide +kernel
theorem dX10_closeBreaks_58 : decode cX10_closeBreaks 58 = .ok (.aload_n 0, 1) := by decide +kernel
theorem dX10_closeBreaks_59 : decode cX10_closeBreaks 59 = .ok (.getfield 22, 3) := by decide +kernel
theorem dX10_closeBreaks_62 : decode cX10_closeBreaks 62 = .ok (.iload_n 1, 1) := by decide +kernel
theorem dX10_closeBreaks_63 : decode cX10_closeBreaks 63 = .ok (.iconst 1, 1) := by decide +kernel
theorem dX10_closeBreaks_64 : decode cX10_closeBreaks 64 = .ok (.iadd, 1) := by decide +kernel
theorem dX10_closeBreaks_65 : decode cX10_closeBreaks 65 = .ok (.baload, 1) := by decide +kernel
theorem dX10_closeBreaks_66 : decode cX10_closeBreaks 66 = .ok (.ifCond .eq 7, 3) := by decide +kernel
theorem dX10_closeBreaks_69 : decode cX10_closeBreaks 69 = .ok (.iconst 1, 1) := by decide +kernel
theorem dX10_closeBreaks_70 : decode cX10_closeBreaks 70 = .ok (.goto 4, 3) := by decide +kernel
theorem dX10_closeBreaks_73 : decode cX10_closeBreaks 73 = .ok (.iconst 0, 1) := by decide +kernel
theorem dX10_closeBreaks_74 : decode cX10_closeBreaks 74 = .ok (.bastore, 1) := by decide +kernel
theorem dX10_closeBreaks_75 : decode cX10_closeBreaks 75 = .ok (.goto 48, 3) := by decide +kernel
theorem dX10_closeBreaks_78 : decode cX10_closeBreaks 78 = .ok (.aload_n 0, 1) := by decide +kernel
theorem dX10_closeBreaks_79 : decode cX10_closeBreaks 79 = .ok (.getfield 18, 3) := by decide +kernel
theorem dX10_closeBreaks_82 : decode cX10_closeBreaks 82 = .ok (.iload_n 1, 1) := by decide +kernel
theorem dX10_closeBreaks_83 : decode cX10_closeBreaks 83 = .ok (.iaload, 1) := by decide +kernel
theorem dX10_closeBreaks_84 : decode cX10_closeBreaks 84 = .ok (.aload_n 0, 1) := by decide +kernel
theorem dX10_closeBreaks_85 : decode cX10_closeBreaks 85 = .ok (.getfield 18, 3) := by decide +kernel
theorem dX10_closeBreaks_88 : decode cX10_closeBreaks 88 = .ok (.iload_n 1, 1) := by decide +kernel
theorem dX10_closeBreaks_89 : decode cX10_closeBreaks 89 = .ok (.iconst 1, 1) := by decide +kernel
theorem dX10_closeBreaks_90 : decode cX10_closeBreaks 90 = .ok (.iadd, 1) := by decide +kernel
theorem dX10_closeBreaks_91 : decode cX10_closeBreaks 91 = .ok (.iaload, 1) := by decide +kernel
theorem dX10_closeBreaks_92 : decode cX10_closeBreaks 92 = .ok (.if_icmp .ge 31, 3) := by decide +kernel
theorem dX10_closeBreaks_95 : decode cX10_closeBreaks 95 = .ok (.aload_n 0, 1) := by decide +kernel
theorem dX10_closeBreaks_96 : decode cX10_closeBreaks 96 = .ok (.getfield 18, 3) := by decide +kernel
theorem dX10_closeBreaks_99 : decode cX10_closeBreaks 99 = .ok (.iload_n 1, 1) := by decide +kernel
theorem dX10_closeBreaks_100 : decode cX10_closeBreaks 100 = .ok (.iconst 1, 1) := by decide +kernel
theorem dX10_closeBreaks_101 : decode cX10_closeBreaks 101 = .ok (.iadd, 1) := by decide +kernel
theorem dX10_closeBreaks_102 : decode cX10_closeBreaks 102 = .ok (.aload_n 0, 1) := by decide +kernel
theorem dX10_closeBreaks_103 : decode cX10_closeBreaks 103 = .ok (.getfield 18, 3) := by decide +kernel
theorem dX10_closeBreaks_106 : decode cX10_closeBreaks 106 = .ok (.iload_n 1, 1) := by decide +kernel
theorem dX10_closeBreaks_107 : decode cX10_closeBreaks 107 = .ok (.iaload, 1) := by decide +kernel
theorem dX10_closeBreaks_108 : decode cX10_closeBreaks 108 = .ok (.iastore, 1) := by decide +kernel
theorem dX10_closeBreaks_109 : decode cX10_closeBreaks 109 = .ok (.aload_n 0, 1) := by decide +kernel
theorem dX10_closeBreaks_110 : decode cX10_closeBreaks 110 = .ok (.getfield 22, 3) := by decide +kernel
theorem dX10_closeBreaks_113 : decode cX10_closeBreaks 113 = .ok (.iload_n 1, 1) := by decide +kernel
theorem dX10_closeBreaks_114 : decode cX10_closeBreaks 114 = .ok (.iconst 1, 1) := by decide +kernel
theorem dX10_closeBreaks_115 : decode cX10_closeBreaks 115 = .ok (.iadd, 1) := by decide +kernel
theorem dX10_closeBreaks_116 : decode cX10_closeBreaks 116 = .ok (.aload_n 0, 1) := by decide +kernel
theorem dX10_closeBreaks_117 : decode cX10_closeBreaks 117 = .ok (.getfield 22, 3) := by decide +kernel
theorem dX10_closeBreaks_120 : decode cX10_closeBreaks 120 = .ok (.iload_n 1, 1) := by decide +kernel
theorem dX10_closeBreaks_121 : decode cX10_closeBreaks 121 = .ok (.baload, 1) := by decide +kernel
theorem dX10_closeBreaks_122 : decode cX10_closeBreaks 122 = .ok (.bastore, 1) := by decide +kernel
theorem dX10_closeBreaks_123 : decode cX10_closeBreaks 123 = .ok (.return_, 1) := by decide +kernel
set_option maxRecDepth 20000 in
theorem ggX10_joinIfEmptied_X10_entriesFrom : GoodIn wsX10_joinIfEmptied wsX10_entriesFrom := goodIn_r _ [7, 8, 9, 10, 11, 12, 6, 13, 14, 15, 16, 17, 18, 19, 42, 43, 44, 45, 46, 47, 48, 49, 50, 51, 52, 53, 54] rfl (by decide +kernel)
set_option maxRecDepth 20000 in
theorem gX10_joinIfEmptied_X10_entriesFrom : GoodIn wsX10_joinIfEmptied (wsV RX10 132 RX10 yX10_entriesFrom wsX10_entriesFrom) := goodIn_app (goodIn_r _ [3, 4, 5, 6] rfl (by decide +kernel)) ggX10_joinIfEmptied_X10_entriesFrom
set_option maxRecDepth 20000 in
theorem ggX10_joinIfEmptied_X10_pageBehind : GoodIn wsX10_joinIfEmptied wsX10_pageBehind := goodIn_r _ [23, 8, 9, 16, 17, 18, 6, 19, 14, 24, 25, 26, 27, 15, 42, 43, 44, 45, 46, 47, 48, 49, 50, 51, 52, 53, 54] rfl (by decide +kernel)
set_option maxRecDepth 20000 in
theorem gX10_joinIfEmptied_X10_pageBehind : GoodIn wsX10_joinIfEmptied (wsV RX10 160 RX10 yX10_pageBehind wsX10_pageBehind) := goodIn_app (goodIn_r _ [20, 21, 22, 6] rfl (by decide +kernel)) ggX10_joinIfEmptied_X10_pageBehind
set_option maxRecDepth 20000 in
theorem ggX10_joinIfEmptied_X10_setOpens : GoodIn wsX10_joinIfEmptied wsX10_setOpens := goodIn_r _ [31, 8, 15, 32, 33, 34, 35, 36, 37, 42, 43, 44, 45, 46, 47, 48, 49, 50, 51, 52, 53, 54] rfl (by decide +kernel)
set_option maxRecDepth 20000 in
theorem gX10_joinIfEmptied_X10_setOpens : GoodIn wsX10_joinIfEmptied (wsV RX10 139 RX10 yX10_setOpens wsX10_setOpens) := goodIn_app (goodIn_r _ [28, 29, 30, 6] rfl (by decide +kernel)) ggX10_joinIfEmptied_X10_setOpens
set_option maxRecDepth 20000 in
theorem ggX10_joinIfEmptied_X10_sharedAt : GoodIn wsX10_joinIfEmptied wsX10_sharedAt := goodIn_r _ [19, 8, 9, 14, 42, 43, 44, 45, 46, 47, 48, 49, 50, 51, 52, 53, 54] rfl (by decide +kernel)
set_option maxRecDepth 20000 in
theorem gX10_joinIfEmptied_X10_sharedAt : GoodIn wsX10_joinIfEmptied (wsV RX10 105 RX10 yX10_sharedAt wsX10_sharedAt) := goodIn_app (goodIn_r _ [16, 17, 18, 6] rfl (by decide +kernel)) ggX10_joinIfEmptied_X10_sharedAt
set_option maxRecDepth 20000 in
theorem ggX10_joinIfEmptied_X10_pageStart : GoodIn wsX10_joinIfEmptied wsX10_pageStart := goodIn_r _ [41, 10, 11, 12, 6, 13, 8, 9, 14, 15, 42, 43, 44, 45, 46, 47, 48, 49, 50, 51, 52, 53, 54] rfl (by decide +kernel)
set_option maxRecDepth 20000 in
theorem gX10_joinIfEmptied_X10_pageStart : GoodIn wsX10_joinIfEmptied (wsV RX10 126 RX10 yX10_pageStart wsX10_pageStart) := goodIn_app (goodIn_r _ [38, 39, 40, 6] rfl (by decide +kernel)) ggX10_joinIfEmptied_X10_pageStart
theorem dX10_joinIfEmptied_0 : decode cX10_joinIfEmptied 0 = .ok (.aload_n 0, 1) := by decide +kernel
theorem dX10_joinIfEmptied_1 : decode cX10_joinIfEmptied 1 = .ok (.getfield 30, 3) := by decide +kernel
theorem dX10_joinIfEmptied_4 : decode cX10_joinIfEmptied 4 = .ok (.iconst 2, 1) := by decide +kernel
theorem dX10_joinIfEmptied_5 : decode cX10_joinIfEmptied 5 = .ok (.idiv, 1) := by decide +kernel
theorem dX10_joinIfEmptied_6 : decode cX10_joinIfEmptied 6 = .ok (.istore_n 3, 1) := by decide +kernel
theorem dX10_joinIfEmptied_7 : decode cX10_joinIfEmptied 7 = .ok (.aload_n 0, 1) := by decide +kernel
theorem dX10_joinIfEmptied_8 : decode cX10_joinIfEmptied 8 = .ok (.iload_n 1, 1) := by decide +kernel
theorem dX10_joinIfEmptied_9 : decode cX10_joinIfEmptied 9 = .ok (.iload_n 2, 1) := by decide +kernel
theorem dX10_joinIfEmptied_10 : decode cX10_joinIfEmptied 10 = .ok (.invokevirtual 132, 3) := by decide +kernel
theorem dX10_joinIfEmptied_13 : decode cX10_joinIfEmptied 13 = .ok (.istore 4, 2) := by decide +kernel
theorem dX10_joinIfEmptied_15 : decode cX10_joinIfEmptied 15 = .ok (.aload_n 0, 1) := by decide +kernel
theorem dX10_joinIfEmptied_16 : decode cX10_joinIfEmptied 16 = .ok (.iload_n 1, 1) := by decide +kernel
theorem dX10_joinIfEmptied_17 : decode cX10_joinIfEmptied 17 = .ok (.iload_n 2, 1) := by decide +kernel
theorem dX10_joinIfEmptied_18 : decode cX10_joinIfEmptied 18 = .ok (.invokevirtual 160, 3) := by decide +kernel
theorem dX10_joinIfEmptied_21 : decode cX10_joinIfEmptied 21 = .ok (.istore 5, 2) := by decide +kernel
theorem dX10_joinIfEmptied_23 : decode cX10_joinIfEmptied 23 = .ok (.iload 5, 2) := by decide +kernel
theorem dX10_joinIfEmptied_25 : decode cX10_joinIfEmptied 25 = .ok (.ifCond .lt 37, 3) := by decide +kernel
theorem dX10_joinIfEmptied_28 : decode cX10_joinIfEmptied 28 = .ok (.iload 4, 2) := by decide +kernel
theorem dX10_joinIfEmptied_30 : decode cX10_joinIfEmptied 30 = .ok (.aload_n 0, 1) := by decide +kernel
theorem dX10_joinIfEmptied_31 : decode cX10_joinIfEmptied 31 = .ok (.iload 5, 2) := by decide +kernel
theorem dX10_joinIfEmptied_33 : decode cX10_joinIfEmptied 33 = .ok (.iload_n 2, 1) := by decide +kernel
theorem dX10_joinIfEmptied_34 : decode cX10_joinIfEmptied 34 = .ok (.invokevirtual 132, 3) := by decide +kernel
theorem dX10_joinIfEmptied_37 : decode cX10_joinIfEmptied 37 = .ok (.iadd, 1) := by decide +kernel
theorem dX10_joinIfEmptied_38 : decode cX10_joinIfEmptied 38 = .ok (.iload_n 3, 1) := by decide +kernel
theorem dX10_joinIfEmptied_39 : decode cX10_joinIfEmptied 39 = .ok (.if_icmp .gt 23, 3) := by decide +kernel
theorem dX10_joinIfEmptied_42 : decode cX10_joinIfEmptied 42 = .ok (.aload_n 0, 1) := by decide +kernel
theorem dX10_joinIfEmptied_43 : decode cX10_joinIfEmptied 43 = .ok (.iload 5, 2) := by decide +kernel
theorem dX10_joinIfEmptied_45 : decode cX10_joinIfEmptied 45 = .ok (.iconst 0, 1) := by decide +kernel
theorem dX10_joinIfEmptied_46 : decode cX10_joinIfEmptied 46 = .ok (.invokevirtual 139, 3) := by decide +kernel
theorem dX10_joinIfEmptied_49 : decode cX10_joinIfEmptied 49 = .ok (.aload_n 0, 1) := by decide +kernel
theorem dX10_joinIfEmptied_50 : decode cX10_joinIfEmptied 50 = .ok (.dup, 1) := by decide +kernel
theorem dX10_joinIfEmptied_51 : decode cX10_joinIfEmptied 51 = .ok (.getfield 36, 3) := by decide +kernel
theorem dX10_joinIfEmptied_54 : decode cX10_joinIfEmptied 54 = .ok (.iconst 1, 1) := by decide +kernel
theorem dX10_joinIfEmptied_55 : decode cX10_joinIfEmptied 55 = .ok (.iadd, 1) := by decide +kernel
theorem dX10_joinIfEmptied_56 : decode cX10_joinIfEmptied 56 = .ok (.putfield 36, 3) := by decide +kernel
theorem dX10_joinIfEmptied_59 : decode cX10_joinIfEmptied 59 = .ok (.goto 56, 3) := by decide +kernel
theorem dX10_joinIfEmptied_62 : decode cX10_joinIfEmptied 62 = .ok (.iload_n 1, 1) := by decide +kernel
theorem dX10_joinIfEmptied_63 : decode cX10_joinIfEmptied 63 = .ok (.ifCond .le 52, 3) := by decide +kernel
theorem dX10_joinIfEmptied_66 : decode cX10_joinIfEmptied 66 = .ok (.aload_n 0, 1) := by decide +kernel
theorem dX10_joinIfEmptied_67 : decode cX10_joinIfEmptied 67 = .ok (.iload_n 1, 1) := by decide +kernel
theorem dX10_joinIfEmptied_68 : decode cX10_joinIfEmptied 68 = .ok (.invokevirtual 105, 3) := by decide +kernel
theorem dX10_joinIfEmptied_71 : decode cX10_joinIfEmptied 71 = .ok (.iload_n 2, 1) := by decide +kernel
theorem dX10_joinIfEmptied_72 : decode cX10_joinIfEmptied 72 = .ok (.if_icmp .ne 43, 3) := by decide +kernel
theorem dX10_joinIfEmptied_75 : decode cX10_joinIfEmptied 75 = .ok (.aload_n 0, 1) := by decide +kernel
theorem dX10_joinIfEmptied_76 : decode cX10_joinIfEmptied 76 = .ok (.iload_n 1, 1) := by decide +kernel
theorem dX10_joinIfEmptied_77 : decode cX10_joinIfEmptied 77 = .ok (.iconst 1, 1) := by decide +kernel
theorem dX10_joinIfEmptied_78 : decode cX10_joinIfEmptied 78 = .ok (.isub, 1) := by decide +kernel
theorem dX10_joinIfEmptied_79 : decode cX10_joinIfEmptied 79 = .ok (.iload_n 2, 1) := by decide +kernel
theorem dX10_joinIfEmptied_80 : decode cX10_joinIfEmptied 80 = .ok (.invokevirtual 126, 3) := by decide +kernel
theorem dX10_joinIfEmptied_83 : decode cX10_joinIfEmptied 83 = .ok (.istore 6, 2) := by decide +kernel
theorem dX10_joinIfEmptied_85 : decode cX10_joinIfEmptied 85 = .ok (.aload_n 0, 1) := by decide +kernel
theorem dX10_joinIfEmptied_86 : decode cX10_joinIfEmptied 86 = .ok (.iload 6, 2) := by decide +kernel
theorem dX10_joinIfEmptied_88 : decode cX10_joinIfEmptied 88 = .ok (.iload_n 2, 1) := by decide +kernel
theorem dX10_joinIfEmptied_89 : decode cX10_joinIfEmptied 89 = .ok (.invokevirtual 132, 3) := by decide +kernel
theorem dX10_joinIfEmptied_92 : decode cX10_joinIfEmptied 92 = .ok (.iload 4, 2) := by decide +kernel
theorem dX10_joinIfEmptied_94 : decode cX10_joinIfEmptied 94 = .ok (.iadd, 1) := by decide +kernel
theorem dX10_joinIfEmptied_95 : decode cX10_joinIfEmptied 95 = .ok (.iload_n 3, 1) := by decide +kernel
theorem dX10_joinIfEmptied_96 : decode cX10_joinIfEmptied 96 = .ok (.if_icmp .gt 19, 3) := by decide +kernel
theorem dX10_joinIfEmptied_99 : decode cX10_joinIfEmptied 99 = .ok (.aload_n 0, 1) := by decide +kernel
theorem dX10_joinIfEmptied_100 : decode cX10_joinIfEmptied 100 = .ok (.iload_n 1, 1) := by decide +kernel
theorem dX10_joinIfEmptied_101 : decode cX10_joinIfEmptied 101 = .ok (.iconst 0, 1) := by decide +kernel
theorem dX10_joinIfEmptied_102 : decode cX10_joinIfEmptied 102 = .ok (.invokevirtual 139, 3) := by decide +kernel
theorem dX10_joinIfEmptied_105 : decode cX10_joinIfEmptied 105 = .ok (.aload_n 0, 1) := by decide +kernel
theorem dX10_joinIfEmptied_106 : decode cX10_joinIfEmptied 106 = .ok (.dup, 1) := by decide +kernel
theorem dX10_joinIfEmptied_107 : decode cX10_joinIfEmptied 107 = .ok (.getfield 36, 3) := by decide +kernel
theorem dX10_joinIfEmptied_110 : decode cX10_joinIfEmptied 110 = .ok (.iconst 1, 1) := by decide +kernel
theorem dX10_joinIfEmptied_111 : decode cX10_joinIfEmptied 111 = .ok (.iadd, 1) := by decide +kernel
theorem dX10_joinIfEmptied_112 : decode cX10_joinIfEmptied 112 = .ok (.putfield 36, 3) := by decide +kernel
theorem dX10_joinIfEmptied_115 : decode cX10_joinIfEmptied 115 = .ok (.return_, 1) := by decide +kernel
set_option maxRecDepth 20000 in
theorem ggX10_foldOver_X3_has : GoodIn wsX10_foldOver wsX3_has := goodIn_r _ [11, 12, 33, 34, 35, 36] rfl (by decide +kernel)
set_option maxRecDepth 20000 in
theorem gX10_foldOver_X3_has : GoodIn wsX10_foldOver (wsV RX10 101 RX3 yX3_has wsX3_has) := goodIn_app (goodIn_r _ [7, 8, 9, 10] rfl (by decide +kernel)) ggX10_foldOver_X3_has
set_option maxRecDepth 20000 in
theorem ggX10_foldOver_X10_depthOf : GoodIn wsX10_foldOver wsX10_depthOf := goodIn_r _ [17, 3, 4, 5, 6, 18, 19, 20, 16, 21, 1, 22, 23, 24, 25, 26, 27, 28, 29, 30, 31, 32, 33, 34, 35, 36] rfl (by decide +kernel)
set_option maxRecDepth 20000 in
theorem gX10_foldOver_X10_depthOf : GoodIn wsX10_foldOver (wsV RX10 123 RX10 yX10_depthOf wsX10_depthOf) := goodIn_app (goodIn_r _ [13, 14, 15, 16] rfl (by decide +kernel)) ggX10_foldOver_X10_depthOf
theorem dX10_foldOver_0 : decode cX10_foldOver 0 = .ok (.aload_n 0, 1) := by decide +kernel
theorem dX10_foldOver_1 : decode cX10_foldOver 1 = .ok (.getfield 12, 3) := by decide +kernel
theorem dX10_foldOver_4 : decode cX10_foldOver 4 = .ok (.iload_n 1, 1) := by decide +kernel
theorem dX10_foldOver_5 : decode cX10_foldOver 5 = .ok (.invokevirtual 101, 3) := by decide +kernel
theorem dX10_foldOver_8 : decode cX10_foldOver 8 = .ok (.ifCond .eq 23, 3) := by decide +kernel
theorem dX10_foldOver_11 : decode cX10_foldOver 11 = .ok (.aload_n 0, 1) := by decide +kernel
theorem dX10_foldOver_12 : decode cX10_foldOver 12 = .ok (.dup, 1) := by decide +kernel
theorem dX10_foldOver_13 : decode cX10_foldOver 13 = .ok (.getfield 42, 3) := by decide +kernel
theorem dX10_foldOver_16 : decode cX10_foldOver 16 = .ok (.iconst 0, 1) := by decide +kernel
theorem dX10_foldOver_17 : decode cX10_foldOver 17 = .ok (.iload_n 2, 1) := by decide +kernel
theorem dX10_foldOver_18 : decode cX10_foldOver 18 = .ok (.aload_n 0, 1) := by decide +kernel
theorem dX10_foldOver_19 : decode cX10_foldOver 19 = .ok (.iload_n 1, 1) := by decide +kernel
theorem dX10_foldOver_20 : decode cX10_foldOver 20 = .ok (.invokevirtual 123, 3) := by decide +kernel
theorem dX10_foldOver_23 : decode cX10_foldOver 23 = .ok (.isub, 1) := by decide +kernel
theorem dX10_foldOver_24 : decode cX10_foldOver 24 = .ok (.invokestatic 95, 3) := by decide +kernel
theorem dX10_foldOver_27 : decode cX10_foldOver 27 = .ok (.iadd, 1) := by decide +kernel
theorem dX10_foldOver_28 : decode cX10_foldOver 28 = .ok (.putfield 42, 3) := by decide +kernel
theorem dX10_foldOver_31 : decode cX10_foldOver 31 = .ok (.return_, 1) := by decide +kernel
theorem dX10_isPageStart_0 : decode cX10_isPageStart 0 = .ok (.iload_n 1, 1) := by decide +kernel
theorem dX10_isPageStart_1 : decode cX10_isPageStart 1 = .ok (.ifCond .le 21, 3) := by decide +kernel
theorem dX10_isPageStart_4 : decode cX10_isPageStart 4 = .ok (.iload_n 1, 1) := by decide +kernel
theorem dX10_isPageStart_5 : decode cX10_isPageStart 5 = .ok (.aload_n 0, 1) := by decide +kernel
theorem dX10_isPageStart_6 : decode cX10_isPageStart 6 = .ok (.getfield 12, 3) := by decide +kernel
theorem dX10_isPageStart_9 : decode cX10_isPageStart 9 = .ok (.getfield 45, 3) := by decide +kernel
theorem dX10_isPageStart_12 : decode cX10_isPageStart 12 = .ok (.if_icmp .ge 10, 3) := by decide +kernel
theorem dX10_isPageStart_15 : decode cX10_isPageStart 15 = .ok (.iload_n 1, 1) := by decide +kernel
theorem dX10_isPageStart_16 : decode cX10_isPageStart 16 = .ok (.sipush 150, 3) := by decide +kernel
theorem dX10_isPageStart_19 : decode cX10_isPageStart 19 = .ok (.if_icmp .lt 5, 3) := by decide +kernel
theorem dX10_isPageStart_22 : decode cX10_isPageStart 22 = .ok (.iconst 1, 1) := by decide +kernel
theorem dX10_isPageStart_23 : decode cX10_isPageStart 23 = .ok (.ireturn, 1) := by decide +kernel
theorem dX10_isPageStart_24 : decode cX10_isPageStart 24 = .ok (.aload_n 0, 1) := by decide +kernel
theorem dX10_isPageStart_25 : decode cX10_isPageStart 25 = .ok (.getfield 18, 3) := by decide +kernel
theorem dX10_isPageStart_28 : decode cX10_isPageStart 28 = .ok (.iload_n 1, 1) := by decide +kernel
theorem dX10_isPageStart_29 : decode cX10_isPageStart 29 = .ok (.iaload, 1) := by decide +kernel
theorem dX10_isPageStart_30 : decode cX10_isPageStart 30 = .ok (.iload_n 2, 1) := by decide +kernel
theorem dX10_isPageStart_31 : decode cX10_isPageStart 31 = .ok (.if_icmp .lt 22, 3) := by decide +kernel
theorem dX10_isPageStart_34 : decode cX10_isPageStart 34 = .ok (.aload_n 0, 1) := by decide +kernel
theorem dX10_isPageStart_35 : decode cX10_isPageStart 35 = .ok (.getfield 18, 3) := by decide +kernel
theorem dX10_isPageStart_38 : decode cX10_isPageStart 38 = .ok (.iload_n 1, 1) := by decide +kernel
theorem dX10_isPageStart_39 : decode cX10_isPageStart 39 = .ok (.iaload, 1) := by decide +kernel
theorem dX10_isPageStart_40 : decode cX10_isPageStart 40 = .ok (.iload_n 2, 1) := by decide +kernel
theorem dX10_isPageStart_41 : decode cX10_isPageStart 41 = .ok (.if_icmp .ne 16, 3) := by decide +kernel
theorem dX10_isPageStart_44 : decode cX10_isPageStart 44 = .ok (.aload_n 0, 1) := by decide +kernel
theorem dX10_isPageStart_45 : decode cX10_isPageStart 45 = .ok (.getfield 22, 3) := by decide +kernel
theorem dX10_isPageStart_48 : decode cX10_isPageStart 48 = .ok (.iload_n 1, 1) := by decide +kernel
theorem dX10_isPageStart_49 : decode cX10_isPageStart 49 = .ok (.baload, 1) := by decide +kernel
theorem dX10_isPageStart_50 : decode cX10_isPageStart 50 = .ok (.ifCond .eq 7, 3) := by decide +kernel
theorem dX10_isPageStart_53 : decode cX10_isPageStart 53 = .ok (.iconst 1, 1) := by decide +kernel
theorem dX10_isPageStart_54 : decode cX10_isPageStart 54 = .ok (.goto 4, 3) := by decide +kernel
theorem dX10_isPageStart_57 : decode cX10_isPageStart 57 = .ok (.iconst 0, 1) := by decide +kernel
theorem dX10_isPageStart_58 : decode cX10_isPageStart 58 = .ok (.ireturn, 1) := by decide +kernel
set_option maxRecDepth 20000 in
theorem ggX10_isPageEnd_X10_isPageStart : GoodIn wsX10_isPageEnd wsX10_isPageStart := goodIn_r _ [5, 6, 7, 8, 9, 10, 11, 12, 13, 14, 15, 16, 17, 18, 19, 20, 21, 22] rfl (by decide +kernel)
set_option maxRecDepth 20000 in
theorem gX10_isPageEnd_X10_isPageStart : GoodIn wsX10_isPageEnd (wsV RX10 143 RX10 yX10_isPageStart wsX10_isPageStart) := goodIn_app (goodIn_r _ [1, 2, 3, 4] rfl (by decide +kernel)) ggX10_isPageEnd_X10_isPageStart
theorem dX10_isPageEnd_0 : decode cX10_isPageEnd 0 = .ok (.aload_n 0, 1) := by decide +kernel
theorem dX10_isPageEnd_1 : decode cX10_isPageEnd 1 = .ok (.iload_n 1, 1) := by decide +kernel
theorem dX10_isPageEnd_2 : decode cX10_isPageEnd 2 = .ok (.iconst 1, 1) := by decide +kernel
theorem dX10_isPageEnd_3 : decode cX10_isPageEnd 3 = .ok (.iadd, 1) := by decide +kernel
theorem dX10_isPageEnd_4 : decode cX10_isPageEnd 4 = .ok (.iload_n 2, 1) := by decide +kernel
theorem dX10_isPageEnd_5 : decode cX10_isPageEnd 5 = .ok (.invokevirtual 143, 3) := by decide +kernel
theorem dX10_isPageEnd_8 : decode cX10_isPageEnd 8 = .ok (.ireturn, 1) := by decide +kernel
set_option maxRecDepth 20000 in
theorem ggX10_pageStart_X10_isPageStart : GoodIn wsX10_pageStart wsX10_isPageStart := goodIn_r _ [5, 6, 7, 8, 9, 10, 11, 12, 13, 14, 15, 16, 17, 18, 19, 20, 21, 22] rfl (by decide +kernel)
set_option maxRecDepth 20000 in
theorem gX10_pageStart_X10_isPageStart : GoodIn wsX10_pageStart (wsV RX10 143 RX10 yX10_isPageStart wsX10_isPageStart) := goodIn_app (goodIn_r _ [1, 2, 3, 4] rfl (by decide +kernel)) ggX10_pageStart_X10_isPageStart
theorem dX10_pageStart_0 : decode cX10_pageStart 0 = .ok (.iload_n 1, 1) := by decide +kernel
theorem dX10_pageStart_1 : decode cX10_pageStart 1 = .ok (.istore_n 3, 1) := by decide +kernel
theorem dX10_pageStart_2 : decode cX10_pageStart 2 = .ok (.iload_n 3, 1) := by decide +kernel
theorem dX10_pageStart_3 : decode cX10_pageStart 3 = .ok (.ifCond .le 18, 3) := by decide +kernel
theorem dX10_pageStart_6 : decode cX10_pageStart 6 = .ok (.aload_n 0, 1) := by decide +kernel
theorem dX10_pageStart_7 : decode cX10_pageStart 7 = .ok (.iload_n 3, 1) := by decide +kernel
theorem dX10_pageStart_8 : decode cX10_pageStart 8 = .ok (.iload_n 2, 1) := by decide +kernel
theorem dX10_pageStart_9 : decode cX10_pageStart 9 = .ok (.invokevirtual 143, 3) := by decide +kernel
theorem dX10_pageStart_12 : decode cX10_pageStart 12 = .ok (.ifCond .ne 9, 3) := by decide +kernel
theorem dX10_pageStart_15 : decode cX10_pageStart 15 = .ok (.iinc 3 (-1), 3) := by decide +kernel
theorem dX10_pageStart_18 : decode cX10_pageStart 18 = .ok (.goto (-16), 3) := by decide +kernel
theorem dX10_pageStart_21 : decode cX10_pageStart 21 = .ok (.iload_n 3, 1) := by decide +kernel
theorem dX10_pageStart_22 : decode cX10_pageStart 22 = .ok (.ireturn, 1) := by decide +kernel
set_option maxRecDepth 20000 in
theorem ggX10_pageBehind_X10_sharedAt : GoodIn wsX10_pageBehind wsX10_sharedAt := goodIn_r _ [7, 1, 2, 8, 14, 15, 16, 17, 18, 19, 20, 21, 22, 23, 24, 25, 26] rfl (by decide +kernel)
set_option maxRecDepth 20000 in
theorem gX10_pageBehind_X10_sharedAt : GoodIn wsX10_pageBehind (wsV RX10 105 RX10 yX10_sharedAt wsX10_sharedAt) := goodIn_app (goodIn_r _ [3, 4, 5, 6] rfl (by decide +kernel)) ggX10_pageBehind_X10_sharedAt
set_option maxRecDepth 20000 in
theorem ggX10_pageBehind_X10_opensAt : GoodIn wsX10_pageBehind wsX10_opensAt := goodIn_r _ [12, 1, 2, 13, 14, 15, 16, 17, 18, 19, 20, 21, 22, 23, 24, 25, 26] rfl (by decide +kernel)
set_option maxRecDepth 20000 in
theorem gX10_pageBehind_X10_opensAt : GoodIn wsX10_pageBehind (wsV RX10 117 RX10 yX10_opensAt wsX10_opensAt) := goodIn_app (goodIn_r _ [9, 10, 11, 6] rfl (by decide +kernel)) ggX10_pageBehind_X10_opensAt
theorem dX10_pageBehind_0 : decode cX10_pageBehind 0 = .ok (.iload_n 1, 1) := by decide +kernel
theorem dX10_pageBehind_1 : decode cX10_pageBehind 1 = .ok (.iconst 1, 1) := by decide +kernel
theorem dX10_pageBehind_2 : decode cX10_pageBehind 2 = .ok (.iadd, 1) := by decide +kernel
theorem dX10_pageBehind_3 : decode cX10_pageBehind 3 = .ok (.istore_n 3, 1) := by decide +kernel
theorem dX10_pageBehind_4 : decode cX10_pageBehind 4 = .ok (.iload_n 3, 1) := by decide +kernel
theorem dX10_pageBehind_5 : decode cX10_pageBehind 5 = .ok (.aload_n 0, 1) := by decide +kernel
theorem dX10_pageBehind_6 : decode cX10_pageBehind 6 = .ok (.getfield 12, 3) := by decide +kernel
theorem dX10_pageBehind_9 : decode cX10_pageBehind 9 = .ok (.getfield 45, 3) := by decide +kernel
theorem dX10_pageBehind_12 : decode cX10_pageBehind 12 = .ok (.if_icmp .ge 37, 3) := by decide +kernel
theorem dX10_pageBehind_15 : decode cX10_pageBehind 15 = .ok (.aload_n 0, 1) := by decide +kernel
theorem dX10_pageBehind_16 : decode cX10_pageBehind 16 = .ok (.iload_n 3, 1) := by decide +kernel
theorem dX10_pageBehind_17 : decode cX10_pageBehind 17 = .ok (.invokevirtual 105, 3) := by decide +kernel
theorem dX10_pageBehind_20 : decode cX10_pageBehind 20 = .ok (.iload_n 2, 1) := by decide +kernel
theorem dX10_pageBehind_21 : decode cX10_pageBehind 21 = .ok (.if_icmp .lt 28, 3) := by decide +kernel
theorem dX10_pageBehind_24 : decode cX10_pageBehind 24 = .ok (.aload_n 0, 1) := by decide +kernel
theorem dX10_pageBehind_25 : decode cX10_pageBehind 25 = .ok (.iload_n 3, 1) := by decide +kernel
theorem dX10_pageBehind_26 : decode cX10_pageBehind 26 = .ok (.invokevirtual 105, 3) := by decide +kernel
theorem dX10_pageBehind_29 : decode cX10_pageBehind 29 = .ok (.iload_n 2, 1) := by decide +kernel
theorem dX10_pageBehind_30 : decode cX10_pageBehind 30 = .ok (.if_icmp .ne 13, 3) := by decide +kernel
theorem dX10_pageBehind_33 : decode cX10_pageBehind 33 = .ok (.aload_n 0, 1) := by decide +kernel
theorem dX10_pageBehind_34 : decode cX10_pageBehind 34 = .ok (.iload_n 3, 1) := by decide +kernel
theorem dX10_pageBehind_35 : decode cX10_pageBehind 35 = .ok (.invokevirtual 117, 3) := by decide +kernel
theorem dX10_pageBehind_38 : decode cX10_pageBehind 38 = .ok (.ifCond .eq 5, 3) := by decide +kernel
theorem dX10_pageBehind_41 : decode cX10_pageBehind 41 = .ok (.iload_n 3, 1) := by decide +kernel
theorem dX10_pageBehind_42 : decode cX10_pageBehind 42 = .ok (.ireturn, 1) := by decide +kernel
theorem dX10_pageBehind_43 : decode cX10_pageBehind 43 = .ok (.iinc 3 1, 3) := by decide +kernel
theorem dX10_pageBehind_46 : decode cX10_pageBehind 46 = .ok (.goto (-42), 3) := by decide +kernel
theorem dX10_pageBehind_49 : decode cX10_pageBehind 49 = .ok (.iconst (-1), 1) := by decide +kernel
theorem dX10_pageBehind_50 : decode cX10_pageBehind 50 = .ok (.ireturn, 1) := by decide +kernel
set_option maxRecDepth 20000 in
theorem ggX10_entriesFrom_X10_isPageStart : GoodIn wsX10_entriesFrom wsX10_isPageStart := goodIn_r _ [7, 1, 2, 8, 9, 14, 15, 16, 17, 18, 19, 20, 21, 22, 23, 24, 25, 26] rfl (by decide +kernel)
set_option maxRecDepth 20000 in
theorem gX10_entriesFrom_X10_isPageStart : GoodIn wsX10_entriesFrom (wsV RX10 143 RX10 yX10_isPageStart wsX10_isPageStart) := goodIn_app (goodIn_r _ [3, 4, 5, 6] rfl (by decide +kernel)) ggX10_entriesFrom_X10_isPageStart
set_option maxRecDepth 20000 in
theorem ggX10_entriesFrom_X10_sharedAt : GoodIn wsX10_entriesFrom wsX10_sharedAt := goodIn_r _ [13, 1, 2, 8, 14, 15, 16, 17, 18, 19, 20, 21, 22, 23, 24, 25, 26] rfl (by decide +kernel)
set_option maxRecDepth 20000 in
theorem gX10_entriesFrom_X10_sharedAt : GoodIn wsX10_entriesFrom (wsV RX10 105 RX10 yX10_sharedAt wsX10_sharedAt) := goodIn_app (goodIn_r _ [10, 11, 12, 6] rfl (by decide +kernel)) ggX10_entriesFrom_X10_sharedAt
theorem dX10_entriesFrom_0 : decode cX10_entriesFrom 0 = .ok (.iconst 1, 1) := by decide +kernel
theorem dX10_entriesFrom_1 : decode cX10_entriesFrom 1 = .ok (.istore_n 3, 1) := by decide +kernel
theorem dX10_entriesFrom_2 : decode cX10_entriesFrom 2 = .ok (.iload_n 1, 1) := by decide +kernel
theorem dX10_entriesFrom_3 : decode cX10_entriesFrom 3 = .ok (.iconst 1, 1) := by decide +kernel
theorem dX10_entriesFrom_4 : decode cX10_entriesFrom 4 = .ok (.iadd, 1) := by decide +kernel
theorem dX10_entriesFrom_5 : decode cX10_entriesFrom 5 = .ok (.istore 4, 2) := by decide +kernel
theorem dX10_entriesFrom_7 : decode cX10_entriesFrom 7 = .ok (.iload 4, 2) := by decide +kernel
theorem dX10_entriesFrom_9 : decode cX10_entriesFrom 9 = .ok (.aload_n 0, 1) := by decide +kernel
theorem dX10_entriesFrom_10 : decode cX10_entriesFrom 10 = .ok (.getfield 12, 3) := by decide +kernel
theorem dX10_entriesFrom_13 : decode cX10_entriesFrom 13 = .ok (.getfield 45, 3) := by decide +kernel
theorem dX10_entriesFrom_16 : decode cX10_entriesFrom 16 = .ok (.if_icmp .ge 32, 3) := by decide +kernel
theorem dX10_entriesFrom_19 : decode cX10_entriesFrom 19 = .ok (.aload_n 0, 1) := by decide +kernel
theorem dX10_entriesFrom_20 : decode cX10_entriesFrom 20 = .ok (.iload 4, 2) := by decide +kernel
theorem dX10_entriesFrom_22 : decode cX10_entriesFrom 22 = .ok (.iload_n 2, 1) := by decide +kernel
theorem dX10_entriesFrom_23 : decode cX10_entriesFrom 23 = .ok (.invokevirtual 143, 3) := by decide +kernel
theorem dX10_entriesFrom_26 : decode cX10_entriesFrom 26 = .ok (.ifCond .ne 22, 3) := by decide +kernel
theorem dX10_entriesFrom_29 : decode cX10_entriesFrom 29 = .ok (.aload_n 0, 1) := by decide +kernel
theorem dX10_entriesFrom_30 : decode cX10_entriesFrom 30 = .ok (.iload 4, 2) := by decide +kernel
theorem dX10_entriesFrom_32 : decode cX10_entriesFrom 32 = .ok (.invokevirtual 105, 3) := by decide +kernel
theorem dX10_entriesFrom_35 : decode cX10_entriesFrom 35 = .ok (.iload_n 2, 1) := by decide +kernel
theorem dX10_entriesFrom_36 : decode cX10_entriesFrom 36 = .ok (.if_icmp .ne 6, 3) := by decide +kernel
theorem dX10_entriesFrom_39 : decode cX10_entriesFrom 39 = .ok (.iinc 3 1, 3) := by decide +kernel
theorem dX10_entriesFrom_42 : decode cX10_entriesFrom 42 = .ok (.iinc 4 1, 3) := by decide +kernel
theorem dX10_entriesFrom_45 : decode cX10_entriesFrom 45 = .ok (.goto (-38), 3) := by decide +kernel
theorem dX10_entriesFrom_48 : decode cX10_entriesFrom 48 = .ok (.iload_n 3, 1) := by decide +kernel
theorem dX10_entriesFrom_49 : decode cX10_entriesFrom 49 = .ok (.ireturn, 1) := by decide +kernel
set_option maxRecDepth 20000 in
theorem ggX10_entryFrom_X10_isPageStart : GoodIn wsX10_entryFrom wsX10_isPageStart := goodIn_r _ [7, 1, 2, 8, 9, 14, 15, 16, 17, 18, 19, 20, 21, 22, 23, 24, 25, 26] rfl (by decide +kernel)
set_option maxRecDepth 20000 in
theorem gX10_entryFrom_X10_isPageStart : GoodIn wsX10_entryFrom (wsV RX10 143 RX10 yX10_isPageStart wsX10_isPageStart) := goodIn_app (goodIn_r _ [3, 4, 5, 6] rfl (by decide +kernel)) ggX10_entryFrom_X10_isPageStart
set_option maxRecDepth 20000 in
theorem ggX10_entryFrom_X10_sharedAt : GoodIn wsX10_entryFrom wsX10_sharedAt := goodIn_r _ [13, 1, 2, 8, 14, 15, 16, 17, 18, 19, 20, 21, 22, 23, 24, 25, 26] rfl (by decide +kernel)
set_option maxRecDepth 20000 in
theorem gX10_entryFrom_X10_sharedAt : GoodIn wsX10_entryFrom (wsV RX10 105 RX10 yX10_sharedAt wsX10_sharedAt) := goodIn_app (goodIn_r _ [10, 11, 12, 6] rfl (by decide +kernel)) ggX10_entryFrom_X10_sharedAt
theorem dX10_entryFrom_0 : decode cX10_entryFrom 0 = .ok (.iconst 0, 1) := by decide +kernel
theorem dX10_entryFrom_1 : decode cX10_entryFrom 1 = .ok (.istore 4, 2) := by decide +kernel
theorem dX10_entryFrom_3 : decode cX10_entryFrom 3 = .ok (.iload_n 1, 1) := by decide +kernel
theorem dX10_entryFrom_4 : decode cX10_entryFrom 4 = .ok (.iconst 1, 1) := by decide +kernel
theorem dX10_entryFrom_5 : decode cX10_entryFrom 5 = .ok (.iadd, 1) := by decide +kernel
theorem dX10_entryFrom_6 : decode cX10_entryFrom 6 = .ok (.istore 5, 2) := by decide +kernel
theorem dX10_entryFrom_8 : decode cX10_entryFrom 8 = .ok (.iload 5, 2) := by decide +kernel
theorem dX10_entryFrom_10 : decode cX10_entryFrom 10 = .ok (.aload_n 0, 1) := by decide +kernel
theorem dX10_entryFrom_11 : decode cX10_entryFrom 11 = .ok (.getfield 12, 3) := by decide +kernel
theorem dX10_entryFrom_14 : decode cX10_entryFrom 14 = .ok (.getfield 45, 3) := by decide +kernel
theorem dX10_entryFrom_17 : decode cX10_entryFrom 17 = .ok (.if_icmp .ge 41, 3) := by decide +kernel
theorem dX10_entryFrom_20 : decode cX10_entryFrom 20 = .ok (.aload_n 0, 1) := by decide +kernel
theorem dX10_entryFrom_21 : decode cX10_entryFrom 21 = .ok (.iload 5, 2) := by decide +kernel
theorem dX10_entryFrom_23 : decode cX10_entryFrom 23 = .ok (.iload_n 2, 1) := by decide +kernel
theorem dX10_entryFrom_24 : decode cX10_entryFrom 24 = .ok (.invokevirtual 143, 3) := by decide +kernel
theorem dX10_entryFrom_27 : decode cX10_entryFrom 27 = .ok (.ifCond .ne 31, 3) := by decide +kernel
theorem dX10_entryFrom_30 : decode cX10_entryFrom 30 = .ok (.aload_n 0, 1) := by decide +kernel
theorem dX10_entryFrom_31 : decode cX10_entryFrom 31 = .ok (.iload 5, 2) := by decide +kernel
theorem dX10_entryFrom_33 : decode cX10_entryFrom 33 = .ok (.invokevirtual 105, 3) := by decide +kernel
theorem dX10_entryFrom_36 : decode cX10_entryFrom 36 = .ok (.iload_n 2, 1) := by decide +kernel
theorem dX10_entryFrom_37 : decode cX10_entryFrom 37 = .ok (.if_icmp .ne 15, 3) := by decide +kernel
theorem dX10_entryFrom_40 : decode cX10_entryFrom 40 = .ok (.iinc 4 1, 3) := by decide +kernel
theorem dX10_entryFrom_43 : decode cX10_entryFrom 43 = .ok (.iload 4, 2) := by decide +kernel
theorem dX10_entryFrom_45 : decode cX10_entryFrom 45 = .ok (.iload_n 3, 1) := by decide +kernel
theorem dX10_entryFrom_46 : decode cX10_entryFrom 46 = .ok (.if_icmp .ne 6, 3) := by decide +kernel
theorem dX10_entryFrom_49 : decode cX10_entryFrom 49 = .ok (.iload 5, 2) := by decide +kernel
theorem dX10_entryFrom_51 : decode cX10_entryFrom 51 = .ok (.ireturn, 1) := by decide +kernel
theorem dX10_entryFrom_52 : decode cX10_entryFrom 52 = .ok (.iinc 5 1, 3) := by decide +kernel
theorem dX10_entryFrom_55 : decode cX10_entryFrom 55 = .ok (.goto (-47), 3) := by decide +kernel
theorem dX10_entryFrom_58 : decode cX10_entryFrom 58 = .ok (.iconst (-1), 1) := by decide +kernel
theorem dX10_entryFrom_59 : decode cX10_entryFrom 59 = .ok (.ireturn, 1) := by decide +kernel
set_option maxRecDepth 20000 in
theorem ggX10_layerEnd_X10_sharedAt : GoodIn wsX10_layerEnd wsX10_sharedAt := goodIn_r _ [11, 1, 2, 12, 13, 14, 15, 16, 17, 18, 19, 20, 21, 22, 23, 24, 25] rfl (by decide +kernel)
set_option maxRecDepth 20000 in
theorem gX10_layerEnd_X10_sharedAt : GoodIn wsX10_layerEnd (wsV RX10 105 RX10 yX10_sharedAt wsX10_sharedAt) := goodIn_app (goodIn_r _ [7, 8, 9, 10] rfl (by decide +kernel)) ggX10_layerEnd_X10_sharedAt
theorem dX10_layerEnd_0 : decode cX10_layerEnd 0 = .ok (.iload_n 1, 1) := by decide +kernel
theorem dX10_layerEnd_1 : decode cX10_layerEnd 1 = .ok (.iconst 1, 1) := by decide +kernel
theorem dX10_layerEnd_2 : decode cX10_layerEnd 2 = .ok (.iadd, 1) := by decide +kernel
theorem dX10_layerEnd_3 : decode cX10_layerEnd 3 = .ok (.istore_n 3, 1) := by decide +kernel
theorem dX10_layerEnd_4 : decode cX10_layerEnd 4 = .ok (.iload_n 3, 1) := by decide +kernel
theorem dX10_layerEnd_5 : decode cX10_layerEnd 5 = .ok (.aload_n 0, 1) := by decide +kernel
theorem dX10_layerEnd_6 : decode cX10_layerEnd 6 = .ok (.getfield 12, 3) := by decide +kernel
theorem dX10_layerEnd_9 : decode cX10_layerEnd 9 = .ok (.getfield 45, 3) := by decide +kernel
theorem dX10_layerEnd_12 : decode cX10_layerEnd 12 = .ok (.if_icmp .ge 18, 3) := by decide +kernel
theorem dX10_layerEnd_15 : decode cX10_layerEnd 15 = .ok (.aload_n 0, 1) := by decide +kernel
theorem dX10_layerEnd_16 : decode cX10_layerEnd 16 = .ok (.iload_n 3, 1) := by decide +kernel
theorem dX10_layerEnd_17 : decode cX10_layerEnd 17 = .ok (.invokevirtual 105, 3) := by decide +kernel
theorem dX10_layerEnd_20 : decode cX10_layerEnd 20 = .ok (.iload_n 2, 1) := by decide +kernel
theorem dX10_layerEnd_21 : decode cX10_layerEnd 21 = .ok (.if_icmp .lt 9, 3) := by decide +kernel
theorem dX10_layerEnd_24 : decode cX10_layerEnd 24 = .ok (.iinc 3 1, 3) := by decide +kernel
theorem dX10_layerEnd_27 : decode cX10_layerEnd 27 = .ok (.goto (-23), 3) := by decide +kernel
theorem dX10_layerEnd_30 : decode cX10_layerEnd 30 = .ok (.iload_n 3, 1) := by decide +kernel
theorem dX10_layerEnd_31 : decode cX10_layerEnd 31 = .ok (.aload_n 0, 1) := by decide +kernel
theorem dX10_layerEnd_32 : decode cX10_layerEnd 32 = .ok (.getfield 12, 3) := by decide +kernel
theorem dX10_layerEnd_35 : decode cX10_layerEnd 35 = .ok (.getfield 45, 3) := by decide +kernel
theorem dX10_layerEnd_38 : decode cX10_layerEnd 38 = .ok (.invokestatic 114, 3) := by decide +kernel
theorem dX10_layerEnd_41 : decode cX10_layerEnd 41 = .ok (.ireturn, 1) := by decide +kernel
set_option maxRecDepth 20000 in
theorem ggX10_isEnd_X3_lengthOf : GoodIn wsX10_isEnd wsX3_lengthOf := goodIn_r _ [7, 8, 9, 34, 35, 36, 37] rfl (by decide +kernel)
set_option maxRecDepth 20000 in
theorem gX10_isEnd_X3_lengthOf : GoodIn wsX10_isEnd (wsV RX10 111 RX3 yX3_lengthOf wsX3_lengthOf) := goodIn_app (goodIn_r _ [3, 4, 5, 6] rfl (by decide +kernel)) ggX10_isEnd_X3_lengthOf
set_option maxRecDepth 20000 in
theorem ggX10_isEnd_X10_depthOf : GoodIn wsX10_isEnd wsX10_depthOf := goodIn_r _ [14, 15, 16, 17, 18, 19, 20, 21, 13, 22, 1, 23, 24, 25, 26, 27, 28, 29, 30, 31, 32, 33, 34, 35, 36, 37] rfl (by decide +kernel)
set_option maxRecDepth 20000 in
theorem gX10_isEnd_X10_depthOf : GoodIn wsX10_isEnd (wsV RX10 123 RX10 yX10_depthOf wsX10_depthOf) := goodIn_app (goodIn_r _ [10, 11, 12, 13] rfl (by decide +kernel)) ggX10_isEnd_X10_depthOf
theorem dX10_isEnd_0 : decode cX10_isEnd 0 = .ok (.aload_n 0, 1) := by decide +kernel
theorem dX10_isEnd_1 : decode cX10_isEnd 1 = .ok (.getfield 12, 3) := by decide +kernel
theorem dX10_isEnd_4 : decode cX10_isEnd 4 = .ok (.iload_n 1, 1) := by decide +kernel
theorem dX10_isEnd_5 : decode cX10_isEnd 5 = .ok (.invokevirtual 111, 3) := by decide +kernel
theorem dX10_isEnd_8 : decode cX10_isEnd 8 = .ok (.aload_n 0, 1) := by decide +kernel
theorem dX10_isEnd_9 : decode cX10_isEnd 9 = .ok (.iload_n 1, 1) := by decide +kernel
theorem dX10_isEnd_10 : decode cX10_isEnd 10 = .ok (.invokevirtual 123, 3) := by decide +kernel
theorem dX10_isEnd_13 : decode cX10_isEnd 13 = .ok (.iconst 1, 1) := by decide +kernel
theorem dX10_isEnd_14 : decode cX10_isEnd 14 = .ok (.iadd, 1) := by decide +kernel
theorem dX10_isEnd_15 : decode cX10_isEnd 15 = .ok (.aload_n 0, 1) := by decide +kernel
theorem dX10_isEnd_16 : decode cX10_isEnd 16 = .ok (.getfield 26, 3) := by decide +kernel
theorem dX10_isEnd_19 : decode cX10_isEnd 19 = .ok (.imul, 1) := by decide +kernel
theorem dX10_isEnd_20 : decode cX10_isEnd 20 = .ok (.if_icmp .gt 7, 3) := by decide +kernel
theorem dX10_isEnd_23 : decode cX10_isEnd 23 = .ok (.iconst 1, 1) := by decide +kernel
theorem dX10_isEnd_24 : decode cX10_isEnd 24 = .ok (.goto 4, 3) := by decide +kernel
theorem dX10_isEnd_27 : decode cX10_isEnd 27 = .ok (.iconst 0, 1) := by decide +kernel
theorem dX10_isEnd_28 : decode cX10_isEnd 28 = .ok (.ireturn, 1) := by decide +kernel
set_option maxRecDepth 20000 in
theorem ggX10_isPageCommon_X10_sharedAt : GoodIn wsX10_isPageCommon wsX10_sharedAt := goodIn_r _ [5, 6, 7, 8, 22, 23, 24, 25, 26, 27, 28, 29, 30, 31, 32, 33, 34] rfl (by decide +kernel)
set_option maxRecDepth 20000 in
theorem gX10_isPageCommon_X10_sharedAt : GoodIn wsX10_isPageCommon (wsV RX10 105 RX10 yX10_sharedAt wsX10_sharedAt) := goodIn_app (goodIn_r _ [1, 2, 3, 4] rfl (by decide +kernel)) ggX10_isPageCommon_X10_sharedAt
set_option maxRecDepth 20000 in
theorem ggX10_isPageCommon_X10_depthOf : GoodIn wsX10_isPageCommon wsX10_depthOf := goodIn_r _ [12, 13, 14, 15, 16, 1, 2, 3, 4, 5, 6, 7, 8, 22, 23, 24, 25, 26, 27, 28, 29, 30, 31, 32, 33, 34] rfl (by decide +kernel)
set_option maxRecDepth 20000 in
theorem gX10_isPageCommon_X10_depthOf : GoodIn wsX10_isPageCommon (wsV RX10 123 RX10 yX10_depthOf wsX10_depthOf) := goodIn_app (goodIn_r _ [9, 10, 11, 4] rfl (by decide +kernel)) ggX10_isPageCommon_X10_depthOf
set_option maxRecDepth 20000 in
theorem ggX10_isPageCommon_X10_opensAt : GoodIn wsX10_isPageCommon wsX10_opensAt := goodIn_r _ [20, 6, 7, 21, 22, 23, 24, 25, 26, 27, 28, 29, 30, 31, 32, 33, 34] rfl (by decide +kernel)
set_option maxRecDepth 20000 in
theorem gX10_isPageCommon_X10_opensAt : GoodIn wsX10_isPageCommon (wsV RX10 117 RX10 yX10_opensAt wsX10_opensAt) := goodIn_app (goodIn_r _ [17, 18, 19, 4] rfl (by decide +kernel)) ggX10_isPageCommon_X10_opensAt
theorem dX10_isPageCommon_0 : decode cX10_isPageCommon 0 = .ok (.aload_n 0, 1) := by decide +kernel
theorem dX10_isPageCommon_1 : decode cX10_isPageCommon 1 = .ok (.iload_n 1, 1) := by decide +kernel
theorem dX10_isPageCommon_2 : decode cX10_isPageCommon 2 = .ok (.invokevirtual 105, 3) := by decide +kernel
theorem dX10_isPageCommon_5 : decode cX10_isPageCommon 5 = .ok (.istore_n 2, 1) := by decide +kernel
theorem dX10_isPageCommon_6 : decode cX10_isPageCommon 6 = .ok (.aload_n 0, 1) := by decide +kernel
theorem dX10_isPageCommon_7 : decode cX10_isPageCommon 7 = .ok (.iload_n 1, 1) := by decide +kernel
theorem dX10_isPageCommon_8 : decode cX10_isPageCommon 8 = .ok (.iconst 1, 1) := by decide +kernel
theorem dX10_isPageCommon_9 : decode cX10_isPageCommon 9 = .ok (.isub, 1) := by decide +kernel
theorem dX10_isPageCommon_10 : decode cX10_isPageCommon 10 = .ok (.invokevirtual 123, 3) := by decide +kernel
theorem dX10_isPageCommon_13 : decode cX10_isPageCommon 13 = .ok (.iload_n 2, 1) := by decide +kernel
theorem dX10_isPageCommon_14 : decode cX10_isPageCommon 14 = .ok (.if_icmp .ne 24, 3) := by decide +kernel
theorem dX10_isPageCommon_17 : decode cX10_isPageCommon 17 = .ok (.aload_n 0, 1) := by decide +kernel
theorem dX10_isPageCommon_18 : decode cX10_isPageCommon 18 = .ok (.iload_n 1, 1) := by decide +kernel
theorem dX10_isPageCommon_19 : decode cX10_isPageCommon 19 = .ok (.invokevirtual 123, 3) := by decide +kernel
theorem dX10_isPageCommon_22 : decode cX10_isPageCommon 22 = .ok (.iload_n 2, 1) := by decide +kernel
theorem dX10_isPageCommon_23 : decode cX10_isPageCommon 23 = .ok (.if_icmp .ne 15, 3) := by decide +kernel
theorem dX10_isPageCommon_26 : decode cX10_isPageCommon 26 = .ok (.aload_n 0, 1) := by decide +kernel
theorem dX10_isPageCommon_27 : decode cX10_isPageCommon 27 = .ok (.iload_n 1, 1) := by decide +kernel
theorem dX10_isPageCommon_28 : decode cX10_isPageCommon 28 = .ok (.invokevirtual 117, 3) := by decide +kernel
theorem dX10_isPageCommon_31 : decode cX10_isPageCommon 31 = .ok (.ifCond .ne 7, 3) := by decide +kernel
theorem dX10_isPageCommon_34 : decode cX10_isPageCommon 34 = .ok (.iconst 1, 1) := by decide +kernel
theorem dX10_isPageCommon_35 : decode cX10_isPageCommon 35 = .ok (.goto 4, 3) := by decide +kernel
theorem dX10_isPageCommon_38 : decode cX10_isPageCommon 38 = .ok (.iconst 0, 1) := by decide +kernel
theorem dX10_isPageCommon_39 : decode cX10_isPageCommon 39 = .ok (.ireturn, 1) := by decide +kernel
set_option maxRecDepth 20000 in
theorem ggX10_away_X10_depthOf : GoodIn wsX10_away wsX10_depthOf := goodIn_r _ [5, 6, 7, 8, 9, 10, 11, 12, 4, 13, 14, 15, 16, 22, 23, 24, 25, 26, 27, 28, 29, 30, 31, 32, 33, 34] rfl (by decide +kernel)
set_option maxRecDepth 20000 in
theorem gX10_away_X10_depthOf : GoodIn wsX10_away (wsV RX10 123 RX10 yX10_depthOf wsX10_depthOf) := goodIn_app (goodIn_r _ [1, 2, 3, 4] rfl (by decide +kernel)) ggX10_away_X10_depthOf
set_option maxRecDepth 20000 in
theorem ggX10_away_X10_sharedAt : GoodIn wsX10_away wsX10_sharedAt := goodIn_r _ [13, 14, 15, 16, 22, 23, 24, 25, 26, 27, 28, 29, 30, 31, 32, 33, 34] rfl (by decide +kernel)
set_option maxRecDepth 20000 in
theorem gX10_away_X10_sharedAt : GoodIn wsX10_away (wsV RX10 105 RX10 yX10_sharedAt wsX10_sharedAt) := goodIn_app (goodIn_r _ [10, 11, 12, 4] rfl (by decide +kernel)) ggX10_away_X10_sharedAt
set_option maxRecDepth 20000 in
theorem ggX10_away_X10_opensAt : GoodIn wsX10_away wsX10_opensAt := goodIn_r _ [20, 14, 15, 21, 22, 23, 24, 25, 26, 27, 28, 29, 30, 31, 32, 33, 34] rfl (by decide +kernel)
set_option maxRecDepth 20000 in
theorem gX10_away_X10_opensAt : GoodIn wsX10_away (wsV RX10 117 RX10 yX10_opensAt wsX10_opensAt) := goodIn_app (goodIn_r _ [17, 18, 19, 4] rfl (by decide +kernel)) ggX10_away_X10_opensAt
theorem dX10_away_0 : decode cX10_away 0 = .ok (.aload_n 0, 1) := by decide +kernel
theorem dX10_away_1 : decode cX10_away 1 = .ok (.iload_n 1, 1) := by decide +kernel
theorem dX10_away_2 : decode cX10_away 2 = .ok (.invokevirtual 123, 3) := by decide +kernel
theorem dX10_away_5 : decode cX10_away 5 = .ok (.istore_n 2, 1) := by decide +kernel
theorem dX10_away_6 : decode cX10_away 6 = .ok (.iload_n 2, 1) := by decide +kernel
theorem dX10_away_7 : decode cX10_away 7 = .ok (.iconst 1, 1) := by decide +kernel
theorem dX10_away_8 : decode cX10_away 8 = .ok (.iadd, 1) := by decide +kernel
theorem dX10_away_9 : decode cX10_away 9 = .ok (.istore_n 3, 1) := by decide +kernel
theorem dX10_away_10 : decode cX10_away 10 = .ok (.iload_n 1, 1) := by decide +kernel
theorem dX10_away_11 : decode cX10_away 11 = .ok (.istore 4, 2) := by decide +kernel
theorem dX10_away_13 : decode cX10_away 13 = .ok (.iload 4, 2) := by decide +kernel
theorem dX10_away_15 : decode cX10_away 15 = .ok (.ifCond .le 43, 3) := by decide +kernel
theorem dX10_away_18 : decode cX10_away 18 = .ok (.aload_n 0, 1) := by decide +kernel
theorem dX10_away_19 : decode cX10_away 19 = .ok (.iload 4, 2) := by decide +kernel
theorem dX10_away_21 : decode cX10_away 21 = .ok (.invokevirtual 105, 3) := by decide +kernel
theorem dX10_away_24 : decode cX10_away 24 = .ok (.iload_n 2, 1) := by decide +kernel
theorem dX10_away_25 : decode cX10_away 25 = .ok (.if_icmp .gt 27, 3) := by decide +kernel
theorem dX10_away_28 : decode cX10_away 28 = .ok (.aload_n 0, 1) := by decide +kernel
theorem dX10_away_29 : decode cX10_away 29 = .ok (.iload 4, 2) := by decide +kernel
theorem dX10_away_31 : decode cX10_away 31 = .ok (.invokevirtual 105, 3) := by decide +kernel
theorem dX10_away_34 : decode cX10_away 34 = .ok (.istore_n 2, 1) := by decide +kernel
theorem dX10_away_35 : decode cX10_away 35 = .ok (.iload_n 3, 1) := by decide +kernel
theorem dX10_away_36 : decode cX10_away 36 = .ok (.aload_n 0, 1) := by decide +kernel
theorem dX10_away_37 : decode cX10_away 37 = .ok (.iload 4, 2) := by decide +kernel
theorem dX10_away_39 : decode cX10_away 39 = .ok (.invokevirtual 117, 3) := by decide +kernel
theorem dX10_away_42 : decode cX10_away 42 = .ok (.ifCond .eq 7, 3) := by decide +kernel
theorem dX10_away_45 : decode cX10_away 45 = .ok (.iconst 1, 1) := by decide +kernel
theorem dX10_away_46 : decode cX10_away 46 = .ok (.goto 4, 3) := by decide +kernel
theorem dX10_away_49 : decode cX10_away 49 = .ok (.iconst 0, 1) := by decide +kernel
theorem dX10_away_50 : decode cX10_away 50 = .ok (.iadd, 1) := by decide +kernel
theorem dX10_away_51 : decode cX10_away 51 = .ok (.istore_n 3, 1) := by decide +kernel
theorem dX10_away_52 : decode cX10_away 52 = .ok (.iinc 4 (-1), 3) := by decide +kernel
theorem dX10_away_55 : decode cX10_away 55 = .ok (.goto (-42), 3) := by decide +kernel
theorem dX10_away_58 : decode cX10_away 58 = .ok (.iload_n 3, 1) := by decide +kernel
theorem dX10_away_59 : decode cX10_away 59 = .ok (.ireturn, 1) := by decide +kernel
set_option maxRecDepth 20000 in
theorem ggX10_pagesWith_X10_opensAt : GoodIn wsX10_pagesWith wsX10_opensAt := goodIn_r _ [7, 1, 2, 8, 30, 31, 32, 33, 34, 35, 36, 37, 38, 39, 40, 41, 42] rfl (by decide +kernel)
set_option maxRecDepth 20000 in
theorem gX10_pagesWith_X10_opensAt : GoodIn wsX10_pagesWith (wsV RX10 117 RX10 yX10_opensAt wsX10_opensAt) := goodIn_app (goodIn_r _ [3, 4, 5, 6] rfl (by decide +kernel)) ggX10_pagesWith_X10_opensAt
set_option maxRecDepth 20000 in
theorem ggX10_pagesWith_X10_sharedAt : GoodIn wsX10_pagesWith wsX10_sharedAt := goodIn_r _ [12, 1, 2, 13, 30, 31, 32, 33, 34, 35, 36, 37, 38, 39, 40, 41, 42] rfl (by decide +kernel)
set_option maxRecDepth 20000 in
theorem gX10_pagesWith_X10_sharedAt : GoodIn wsX10_pagesWith (wsV RX10 105 RX10 yX10_sharedAt wsX10_sharedAt) := goodIn_app (goodIn_r _ [9, 10, 11, 6] rfl (by decide +kernel)) ggX10_pagesWith_X10_sharedAt
set_option maxRecDepth 20000 in
theorem ggX10_pagesWith_X10_depthOf : GoodIn wsX10_pagesWith wsX10_depthOf := goodIn_r _ [17, 18, 19, 20, 21, 9, 10, 11, 6, 12, 1, 2, 13, 30, 31, 32, 33, 34, 35, 36, 37, 38, 39, 40, 41, 42] rfl (by decide +kernel)
set_option maxRecDepth 20000 in
theorem gX10_pagesWith_X10_depthOf : GoodIn wsX10_pagesWith (wsV RX10 123 RX10 yX10_depthOf wsX10_depthOf) := goodIn_app (goodIn_r _ [14, 15, 16, 6] rfl (by decide +kernel)) ggX10_pagesWith_X10_depthOf
set_option maxRecDepth 20000 in
theorem ggX10_pagesWith_X10_entriesFrom : GoodIn wsX10_pagesWith wsX10_entriesFrom := goodIn_r _ [25, 1, 2, 26, 27, 28, 6, 29, 13, 8, 9, 10, 11, 12, 30, 31, 32, 33, 34, 35, 36, 37, 38, 39, 40, 41, 42] rfl (by decide +kernel)
set_option maxRecDepth 20000 in
theorem gX10_pagesWith_X10_entriesFrom : GoodIn wsX10_pagesWith (wsV RX10 132 RX10 yX10_entriesFrom wsX10_entriesFrom) := goodIn_app (goodIn_r _ [22, 23, 24, 6] rfl (by decide +kernel)) ggX10_pagesWith_X10_entriesFrom
theorem dX10_pagesWith_0 : decode cX10_pagesWith 0 = .ok (.iconst 0, 1) := by decide +kernel
theorem dX10_pagesWith_1 : decode cX10_pagesWith 1 = .ok (.istore_n 2, 1) := by decide +kernel
theorem dX10_pagesWith_2 : decode cX10_pagesWith 2 = .ok (.iconst 0, 1) := by decide +kernel
theorem dX10_pagesWith_3 : decode cX10_pagesWith 3 = .ok (.istore_n 3, 1) := by decide +kernel
theorem dX10_pagesWith_4 : decode cX10_pagesWith 4 = .ok (.iload_n 3, 1) := by decide +kernel
theorem dX10_pagesWith_5 : decode cX10_pagesWith 5 = .ok (.aload_n 0, 1) := by decide +kernel
theorem dX10_pagesWith_6 : decode cX10_pagesWith 6 = .ok (.getfield 12, 3) := by decide +kernel
theorem dX10_pagesWith_9 : decode cX10_pagesWith 9 = .ok (.getfield 45, 3) := by decide +kernel
theorem dX10_pagesWith_12 : decode cX10_pagesWith 12 = .ok (.if_icmp .ge 68, 3) := by decide +kernel
theorem dX10_pagesWith_15 : decode cX10_pagesWith 15 = .ok (.aload_n 0, 1) := by decide +kernel
theorem dX10_pagesWith_16 : decode cX10_pagesWith 16 = .ok (.iload_n 3, 1) := by decide +kernel
theorem dX10_pagesWith_17 : decode cX10_pagesWith 17 = .ok (.invokevirtual 117, 3) := by decide +kernel
theorem dX10_pagesWith_20 : decode cX10_pagesWith 20 = .ok (.ifCond .eq 11, 3) := by decide +kernel
theorem dX10_pagesWith_23 : decode cX10_pagesWith 23 = .ok (.aload_n 0, 1) := by decide +kernel
theorem dX10_pagesWith_24 : decode cX10_pagesWith 24 = .ok (.iload_n 3, 1) := by decide +kernel
theorem dX10_pagesWith_25 : decode cX10_pagesWith 25 = .ok (.invokevirtual 105, 3) := by decide +kernel
theorem dX10_pagesWith_28 : decode cX10_pagesWith 28 = .ok (.goto 10, 3) := by decide +kernel
theorem dX10_pagesWith_31 : decode cX10_pagesWith 31 = .ok (.aload_n 0, 1) := by decide +kernel
theorem dX10_pagesWith_32 : decode cX10_pagesWith 32 = .ok (.iload_n 3, 1) := by decide +kernel
theorem dX10_pagesWith_33 : decode cX10_pagesWith 33 = .ok (.invokevirtual 105, 3) := by decide +kernel
theorem dX10_pagesWith_36 : decode cX10_pagesWith 36 = .ok (.iconst 1, 1) := by decide +kernel
theorem dX10_pagesWith_37 : decode cX10_pagesWith 37 = .ok (.iadd, 1) := by decide +kernel
theorem dX10_pagesWith_38 : decode cX10_pagesWith 38 = .ok (.istore 4, 2) := by decide +kernel
theorem dX10_pagesWith_40 : decode cX10_pagesWith 40 = .ok (.iload 4, 2) := by decide +kernel
theorem dX10_pagesWith_42 : decode cX10_pagesWith 42 = .ok (.istore 5, 2) := by decide +kernel
theorem dX10_pagesWith_44 : decode cX10_pagesWith 44 = .ok (.iload 5, 2) := by decide +kernel
theorem dX10_pagesWith_46 : decode cX10_pagesWith 46 = .ok (.aload_n 0, 1) := by decide +kernel
theorem dX10_pagesWith_47 : decode cX10_pagesWith 47 = .ok (.iload_n 3, 1) := by decide +kernel
theorem dX10_pagesWith_48 : decode cX10_pagesWith 48 = .ok (.invokevirtual 123, 3) := by decide +kernel
theorem dX10_pagesWith_51 : decode cX10_pagesWith 51 = .ok (.if_icmp .gt 23, 3) := by decide +kernel
theorem dX10_pagesWith_54 : decode cX10_pagesWith 54 = .ok (.aload_n 0, 1) := by decide +kernel
theorem dX10_pagesWith_55 : decode cX10_pagesWith 55 = .ok (.iload_n 3, 1) := by decide +kernel
theorem dX10_pagesWith_56 : decode cX10_pagesWith 56 = .ok (.iload 5, 2) := by decide +kernel
theorem dX10_pagesWith_58 : decode cX10_pagesWith 58 = .ok (.invokevirtual 132, 3) := by decide +kernel
theorem dX10_pagesWith_61 : decode cX10_pagesWith 61 = .ok (.iload_n 1, 1) := by decide +kernel
theorem dX10_pagesWith_62 : decode cX10_pagesWith 62 = .ok (.if_icmp .ne 6, 3) := by decide +kernel
theorem dX10_pagesWith_65 : decode cX10_pagesWith 65 = .ok (.iinc 2 1, 3) := by decide +kernel
theorem dX10_pagesWith_68 : decode cX10_pagesWith 68 = .ok (.iinc 5 1, 3) := by decide +kernel
theorem dX10_pagesWith_71 : decode cX10_pagesWith 71 = .ok (.goto (-27), 3) := by decide +kernel
theorem dX10_pagesWith_74 : decode cX10_pagesWith 74 = .ok (.iinc 3 1, 3) := by decide +kernel
theorem dX10_pagesWith_77 : decode cX10_pagesWith 77 = .ok (.goto (-73), 3) := by decide +kernel
theorem dX10_pagesWith_80 : decode cX10_pagesWith 80 = .ok (.iload_n 2, 1) := by decide +kernel
theorem dX10_pagesWith_81 : decode cX10_pagesWith 81 = .ok (.ireturn, 1) := by decide +kernel
set_option maxRecDepth 20000 in
theorem ggX10_measure_X10_layers : GoodIn wsX10_measure wsX10_layers := goodIn_r _ [13, 1, 2, 14, 15, 16, 12, 17, 18, 19, 20, 21, 22, 23, 24, 25, 26, 68, 69, 70, 71, 72, 73, 74, 75, 76, 77, 78, 79, 80] rfl (by decide +kernel)
set_option maxRecDepth 20000 in
theorem gX10_measure_X10_layers : GoodIn wsX10_measure (wsV RX10 163 RX10 yX10_layers wsX10_layers) := goodIn_app (goodIn_r _ [9, 10, 11, 12] rfl (by decide +kernel)) ggX10_measure_X10_layers
set_option maxRecDepth 20000 in
theorem ggX10_measure_X10_pages : GoodIn wsX10_measure wsX10_pages := goodIn_r _ [30, 1, 2, 14, 15, 16, 12, 17, 18, 19, 20, 21, 22, 23, 24, 25, 26, 31, 32, 33, 34, 35, 68, 69, 70, 71, 72, 73, 74, 75, 76, 77, 78, 79, 80] rfl (by decide +kernel)
set_option maxRecDepth 20000 in
theorem gX10_measure_X10_pages : GoodIn wsX10_measure (wsV RX10 167 RX10 yX10_pages wsX10_pages) := goodIn_app (goodIn_r _ [27, 28, 29, 12] rfl (by decide +kernel)) ggX10_measure_X10_pages
set_option maxRecDepth 20000 in
theorem ggX10_measure_X10_ends : GoodIn wsX10_measure wsX10_ends := goodIn_r _ [39, 1, 2, 40, 41, 42, 12, 43, 3, 44, 45, 46, 47, 48, 49, 50, 14, 15, 16, 17, 18, 19, 20, 21, 22, 23, 24, 25, 26, 68, 69, 70, 71, 72, 73, 74, 75, 76, 77, 78, 79, 80] rfl (by decide +kernel)
set_option maxRecDepth 20000 in
theorem gX10_measure_X10_ends : GoodIn wsX10_measure (wsV RX10 170 RX10 yX10_ends wsX10_ends) := goodIn_app (goodIn_r _ [36, 37, 38, 12] rfl (by decide +kernel)) ggX10_measure_X10_ends
set_option maxRecDepth 20000 in
theorem ggX10_measure_X10_deepest : GoodIn wsX10_measure wsX10_deepest := goodIn_r _ [54, 1, 2, 18, 19, 20, 21, 22, 23, 24, 12, 25, 26, 68, 69, 70, 71, 72, 73, 74, 75, 76, 77, 78, 79, 80] rfl (by decide +kernel)
set_option maxRecDepth 20000 in
theorem gX10_measure_X10_deepest : GoodIn wsX10_measure (wsV RX10 173 RX10 yX10_deepest wsX10_deepest) := goodIn_app (goodIn_r _ [51, 52, 53, 12] rfl (by decide +kernel)) ggX10_measure_X10_deepest
set_option maxRecDepth 20000 in
theorem ggX10_measure_X10_weight : GoodIn wsX10_measure wsX10_weight := goodIn_r _ [58, 3, 1, 2, 9, 10, 11, 12, 13, 14, 15, 16, 17, 18, 19, 20, 21, 22, 23, 24, 25, 26, 44, 45, 46, 47, 48, 49, 50, 27, 28, 29, 30, 31, 32, 33, 34, 35, 68, 69, 70, 71, 72, 73, 74, 75, 76, 77, 78, 79, 80] rfl (by decide +kernel)
set_option maxRecDepth 20000 in
theorem gX10_measure_X10_weight : GoodIn wsX10_measure (wsV RX10 176 RX10 yX10_weight wsX10_weight) := goodIn_app (goodIn_r _ [55, 56, 57, 12] rfl (by decide +kernel)) ggX10_measure_X10_weight
set_option maxRecDepth 20000 in
theorem ggX10_measure_X3_valuesTogether : GoodIn wsX10_measure wsX3_valuesTogether := goodIn_r _ [62, 63, 64, 65, 47, 66, 49, 67, 77, 78, 79, 80] rfl (by decide +kernel)
set_option maxRecDepth 20000 in
theorem gX10_measure_X3_valuesTogether : GoodIn wsX10_measure (wsV RX10 179 RX3 yX3_valuesTogether wsX3_valuesTogether) := goodIn_app (goodIn_r _ [59, 60, 61, 47] rfl (by decide +kernel)) ggX10_measure_X3_valuesTogether
theorem dX10_measure_0 : decode cX10_measure 0 = .ok (.iload_n 1, 1) := by decide +kernel
theorem dX10_measure_1 : decode cX10_measure 1 = .ok (.tableswitch 176 0 14 #[75, 83, 88, 93, 98, 103, 108, 121, 128, 135, 140, 145, 150, 155, 160], 75) := by decide +kernel
theorem dX10_measure_76 : decode cX10_measure 76 = .ok (.aload_n 0, 1) := by decide +kernel
theorem dX10_measure_77 : decode cX10_measure 77 = .ok (.getfield 12, 3) := by decide +kernel
theorem dX10_measure_80 : decode cX10_measure 80 = .ok (.getfield 45, 3) := by decide +kernel
theorem dX10_measure_83 : decode cX10_measure 83 = .ok (.ireturn, 1) := by decide +kernel
theorem dX10_measure_84 : decode cX10_measure 84 = .ok (.aload_n 0, 1) := by decide +kernel
theorem dX10_measure_85 : decode cX10_measure 85 = .ok (.getfield 26, 3) := by decide +kernel
theorem dX10_measure_88 : decode cX10_measure 88 = .ok (.ireturn, 1) := by decide +kernel
theorem dX10_measure_89 : decode cX10_measure 89 = .ok (.aload_n 0, 1) := by decide +kernel
theorem dX10_measure_90 : decode cX10_measure 90 = .ok (.getfield 30, 3) := by decide +kernel
theorem dX10_measure_93 : decode cX10_measure 93 = .ok (.ireturn, 1) := by decide +kernel
theorem dX10_measure_94 : decode cX10_measure 94 = .ok (.aload_n 0, 1) := by decide +kernel
theorem dX10_measure_95 : decode cX10_measure 95 = .ok (.invokevirtual 163, 3) := by decide +kernel
theorem dX10_measure_98 : decode cX10_measure 98 = .ok (.ireturn, 1) := by decide +kernel
theorem dX10_measure_99 : decode cX10_measure 99 = .ok (.aload_n 0, 1) := by decide +kernel
theorem dX10_measure_100 : decode cX10_measure 100 = .ok (.invokevirtual 167, 3) := by decide +kernel
theorem dX10_measure_103 : decode cX10_measure 103 = .ok (.ireturn, 1) := by decide +kernel
theorem dX10_measure_104 : decode cX10_measure 104 = .ok (.aload_n 0, 1) := by decide +kernel
theorem dX10_measure_105 : decode cX10_measure 105 = .ok (.invokevirtual 170, 3) := by decide +kernel
theorem dX10_measure_108 : decode cX10_measure 108 = .ok (.ireturn, 1) := by decide +kernel
theorem dX10_measure_109 : decode cX10_measure 109 = .ok (.aload_n 0, 1) := by decide +kernel
theorem dX10_measure_110 : decode cX10_measure 110 = .ok (.getfield 12, 3) := by decide +kernel
theorem dX10_measure_113 : decode cX10_measure 113 = .ok (.getfield 45, 3) := by decide +kernel
theorem dX10_measure_116 : decode cX10_measure 116 = .ok (.aload_n 0, 1) := by decide +kernel
theorem dX10_measure_117 : decode cX10_measure 117 = .ok (.invokevirtual 170, 3) := by decide +kernel
theorem dX10_measure_120 : decode cX10_measure 120 = .ok (.isub, 1) := by decide +kernel
theorem dX10_measure_121 : decode cX10_measure 121 = .ok (.ireturn, 1) := by decide +kernel
theorem dX10_measure_122 : decode cX10_measure 122 = .ok (.aload_n 0, 1) := by decide +kernel
theorem dX10_measure_123 : decode cX10_measure 123 = .ok (.invokevirtual 163, 3) := by decide +kernel
theorem dX10_measure_126 : decode cX10_measure 126 = .ok (.iconst 1, 1) := by decide +kernel
theorem dX10_measure_127 : decode cX10_measure 127 = .ok (.isub, 1) := by decide +kernel
theorem dX10_measure_128 : decode cX10_measure 128 = .ok (.ireturn, 1) := by decide +kernel
theorem dX10_measure_129 : decode cX10_measure 129 = .ok (.aload_n 0, 1) := by decide +kernel
theorem dX10_measure_130 : decode cX10_measure 130 = .ok (.invokevirtual 173, 3) := by decide +kernel
theorem dX10_measure_133 : decode cX10_measure 133 = .ok (.iconst 1, 1) := by decide +kernel
theorem dX10_measure_134 : decode cX10_measure 134 = .ok (.iadd, 1) := by decide +kernel
theorem dX10_measure_135 : decode cX10_measure 135 = .ok (.ireturn, 1) := by decide +kernel
theorem dX10_measure_136 : decode cX10_measure 136 = .ok (.aload_n 0, 1) := by decide +kernel
theorem dX10_measure_137 : decode cX10_measure 137 = .ok (.getfield 33, 3) := by decide +kernel
theorem dX10_measure_140 : decode cX10_measure 140 = .ok (.ireturn, 1) := by decide +kernel
theorem dX10_measure_141 : decode cX10_measure 141 = .ok (.aload_n 0, 1) := by decide +kernel
theorem dX10_measure_142 : decode cX10_measure 142 = .ok (.getfield 36, 3) := by decide +kernel
theorem dX10_measure_145 : decode cX10_measure 145 = .ok (.ireturn, 1) := by decide +kernel
theorem dX10_measure_146 : decode cX10_measure 146 = .ok (.aload_n 0, 1) := by decide +kernel
theorem dX10_measure_147 : decode cX10_measure 147 = .ok (.getfield 39, 3) := by decide +kernel
theorem dX10_measure_150 : decode cX10_measure 150 = .ok (.ireturn, 1) := by decide +kernel
theorem dX10_measure_151 : decode cX10_measure 151 = .ok (.aload_n 0, 1) := by decide +kernel
theorem dX10_measure_152 : decode cX10_measure 152 = .ok (.getfield 42, 3) := by decide +kernel
theorem dX10_measure_155 : decode cX10_measure 155 = .ok (.ireturn, 1) := by decide +kernel
theorem dX10_measure_156 : decode cX10_measure 156 = .ok (.aload_n 0, 1) := by decide +kernel
theorem dX10_measure_157 : decode cX10_measure 157 = .ok (.invokevirtual 176, 3) := by decide +kernel
theorem dX10_measure_160 : decode cX10_measure 160 = .ok (.ireturn, 1) := by decide +kernel
theorem dX10_measure_161 : decode cX10_measure 161 = .ok (.aload_n 0, 1) := by decide +kernel
theorem dX10_measure_162 : decode cX10_measure 162 = .ok (.getfield 12, 3) := by decide +kernel
theorem dX10_measure_165 : decode cX10_measure 165 = .ok (.iconst 0, 1) := by decide +kernel
theorem dX10_measure_166 : decode cX10_measure 166 = .ok (.aload_n 0, 1) := by decide +kernel
theorem dX10_measure_167 : decode cX10_measure 167 = .ok (.getfield 12, 3) := by decide +kernel
theorem dX10_measure_170 : decode cX10_measure 170 = .ok (.getfield 45, 3) := by decide +kernel
theorem dX10_measure_173 : decode cX10_measure 173 = .ok (.invokevirtual 179, 3) := by decide +kernel
theorem dX10_measure_176 : decode cX10_measure 176 = .ok (.ireturn, 1) := by decide +kernel
theorem dX10_measure_177 : decode cX10_measure 177 = .ok (.iconst (-1), 1) := by decide +kernel
theorem dX10_measure_178 : decode cX10_measure 178 = .ok (.ireturn, 1) := by decide +kernel
set_option maxRecDepth 20000 in
theorem ggX10_layers_X10_depthOf : GoodIn wsX10_layers wsX10_depthOf := goodIn_r _ [7, 8, 9, 10, 11, 12, 13, 14, 6, 15, 1, 2, 16, 17, 18, 19, 20, 21, 22, 23, 24, 25, 26, 27, 28, 29] rfl (by decide +kernel)
set_option maxRecDepth 20000 in
theorem gX10_layers_X10_depthOf : GoodIn wsX10_layers (wsV RX10 123 RX10 yX10_depthOf wsX10_depthOf) := goodIn_app (goodIn_r _ [3, 4, 5, 6] rfl (by decide +kernel)) ggX10_layers_X10_depthOf
set_option maxRecDepth 20000 in
theorem ggX10_layers_X10_sharedAt : GoodIn wsX10_layers wsX10_sharedAt := goodIn_r _ [15, 1, 2, 16, 17, 18, 19, 20, 21, 22, 23, 24, 25, 26, 27, 28, 29] rfl (by decide +kernel)
set_option maxRecDepth 20000 in
theorem gX10_layers_X10_sharedAt : GoodIn wsX10_layers (wsV RX10 105 RX10 yX10_sharedAt wsX10_sharedAt) := goodIn_app (goodIn_r _ [12, 13, 14, 6] rfl (by decide +kernel)) ggX10_layers_X10_sharedAt
theorem dX10_layers_0 : decode cX10_layers 0 = .ok (.iconst 1, 1) := by decide +kernel
theorem dX10_layers_1 : decode cX10_layers 1 = .ok (.istore_n 1, 1) := by decide +kernel
theorem dX10_layers_2 : decode cX10_layers 2 = .ok (.iconst 0, 1) := by decide +kernel
theorem dX10_layers_3 : decode cX10_layers 3 = .ok (.istore_n 2, 1) := by decide +kernel
theorem dX10_layers_4 : decode cX10_layers 4 = .ok (.iload_n 2, 1) := by decide +kernel
theorem dX10_layers_5 : decode cX10_layers 5 = .ok (.aload_n 0, 1) := by decide +kernel
theorem dX10_layers_6 : decode cX10_layers 6 = .ok (.getfield 12, 3) := by decide +kernel
theorem dX10_layers_9 : decode cX10_layers 9 = .ok (.getfield 45, 3) := by decide +kernel
theorem dX10_layers_12 : decode cX10_layers 12 = .ok (.if_icmp .ge 23, 3) := by decide +kernel
theorem dX10_layers_15 : decode cX10_layers 15 = .ok (.iload_n 1, 1) := by decide +kernel
theorem dX10_layers_16 : decode cX10_layers 16 = .ok (.aload_n 0, 1) := by decide +kernel
theorem dX10_layers_17 : decode cX10_layers 17 = .ok (.iload_n 2, 1) := by decide +kernel
theorem dX10_layers_18 : decode cX10_layers 18 = .ok (.invokevirtual 123, 3) := by decide +kernel
theorem dX10_layers_21 : decode cX10_layers 21 = .ok (.aload_n 0, 1) := by decide +kernel
theorem dX10_layers_22 : decode cX10_layers 22 = .ok (.iload_n 2, 1) := by decide +kernel
theorem dX10_layers_23 : decode cX10_layers 23 = .ok (.invokevirtual 105, 3) := by decide +kernel
theorem dX10_layers_26 : decode cX10_layers 26 = .ok (.isub, 1) := by decide +kernel
theorem dX10_layers_27 : decode cX10_layers 27 = .ok (.iadd, 1) := by decide +kernel
theorem dX10_layers_28 : decode cX10_layers 28 = .ok (.istore_n 1, 1) := by decide +kernel
theorem dX10_layers_29 : decode cX10_layers 29 = .ok (.iinc 2 1, 3) := by decide +kernel
theorem dX10_layers_32 : decode cX10_layers 32 = .ok (.goto (-28), 3) := by decide +kernel
theorem dX10_layers_35 : decode cX10_layers 35 = .ok (.iload_n 1, 1) := by decide +kernel
theorem dX10_layers_36 : decode cX10_layers 36 = .ok (.ireturn, 1) := by decide +kernel
set_option maxRecDepth 20000 in
theorem ggX10_pages_X10_depthOf : GoodIn wsX10_pages wsX10_depthOf := goodIn_r _ [7, 8, 9, 10, 11, 12, 13, 14, 6, 15, 1, 2, 16, 22, 23, 24, 25, 26, 27, 28, 29, 30, 31, 32, 33, 34] rfl (by decide +kernel)
set_option maxRecDepth 20000 in
theorem gX10_pages_X10_depthOf : GoodIn wsX10_pages (wsV RX10 123 RX10 yX10_depthOf wsX10_depthOf) := goodIn_app (goodIn_r _ [3, 4, 5, 6] rfl (by decide +kernel)) ggX10_pages_X10_depthOf
set_option maxRecDepth 20000 in
theorem ggX10_pages_X10_sharedAt : GoodIn wsX10_pages wsX10_sharedAt := goodIn_r _ [15, 1, 2, 16, 22, 23, 24, 25, 26, 27, 28, 29, 30, 31, 32, 33, 34] rfl (by decide +kernel)
set_option maxRecDepth 20000 in
theorem gX10_pages_X10_sharedAt : GoodIn wsX10_pages (wsV RX10 105 RX10 yX10_sharedAt wsX10_sharedAt) := goodIn_app (goodIn_r _ [12, 13, 14, 6] rfl (by decide +kernel)) ggX10_pages_X10_sharedAt
set_option maxRecDepth 20000 in
theorem ggX10_pages_X10_opensAt : GoodIn wsX10_pages wsX10_opensAt := goodIn_r _ [20, 1, 2, 21, 22, 23, 24, 25, 26, 27, 28, 29, 30, 31, 32, 33, 34] rfl (by decide +kernel)
set_option maxRecDepth 20000 in
theorem gX10_pages_X10_opensAt : GoodIn wsX10_pages (wsV RX10 117 RX10 yX10_opensAt wsX10_opensAt) := goodIn_app (goodIn_r _ [17, 18, 19, 6] rfl (by decide +kernel)) ggX10_pages_X10_opensAt
theorem dX10_pages_0 : decode cX10_pages 0 = .ok (.iconst 0, 1) := by decide +kernel
theorem dX10_pages_1 : decode cX10_pages 1 = .ok (.istore_n 1, 1) := by decide +kernel
theorem dX10_pages_2 : decode cX10_pages 2 = .ok (.iconst 0, 1) := by decide +kernel
theorem dX10_pages_3 : decode cX10_pages 3 = .ok (.istore_n 2, 1) := by decide +kernel
theorem dX10_pages_4 : decode cX10_pages 4 = .ok (.iload_n 2, 1) := by decide +kernel
theorem dX10_pages_5 : decode cX10_pages 5 = .ok (.aload_n 0, 1) := by decide +kernel
theorem dX10_pages_6 : decode cX10_pages 6 = .ok (.getfield 12, 3) := by decide +kernel
theorem dX10_pages_9 : decode cX10_pages 9 = .ok (.getfield 45, 3) := by decide +kernel
theorem dX10_pages_12 : decode cX10_pages 12 = .ok (.if_icmp .ge 37, 3) := by decide +kernel
theorem dX10_pages_15 : decode cX10_pages 15 = .ok (.iload_n 1, 1) := by decide +kernel
theorem dX10_pages_16 : decode cX10_pages 16 = .ok (.aload_n 0, 1) := by decide +kernel
theorem dX10_pages_17 : decode cX10_pages 17 = .ok (.iload_n 2, 1) := by decide +kernel
theorem dX10_pages_18 : decode cX10_pages 18 = .ok (.invokevirtual 123, 3) := by decide +kernel
theorem dX10_pages_21 : decode cX10_pages 21 = .ok (.aload_n 0, 1) := by decide +kernel
theorem dX10_pages_22 : decode cX10_pages 22 = .ok (.iload_n 2, 1) := by decide +kernel
theorem dX10_pages_23 : decode cX10_pages 23 = .ok (.invokevirtual 105, 3) := by decide +kernel
theorem dX10_pages_26 : decode cX10_pages 26 = .ok (.isub, 1) := by decide +kernel
theorem dX10_pages_27 : decode cX10_pages 27 = .ok (.aload_n 0, 1) := by decide +kernel
theorem dX10_pages_28 : decode cX10_pages 28 = .ok (.iload_n 2, 1) := by decide +kernel
theorem dX10_pages_29 : decode cX10_pages 29 = .ok (.invokevirtual 117, 3) := by decide +kernel
theorem dX10_pages_32 : decode cX10_pages 32 = .ok (.ifCond .eq 7, 3) := by decide +kernel
theorem dX10_pages_35 : decode cX10_pages 35 = .ok (.iconst 1, 1) := by decide +kernel
theorem dX10_pages_36 : decode cX10_pages 36 = .ok (.goto 4, 3) := by decide +kernel
theorem dX10_pages_39 : decode cX10_pages 39 = .ok (.iconst 0, 1) := by decide +kernel
theorem dX10_pages_40 : decode cX10_pages 40 = .ok (.iadd, 1) := by decide +kernel
theorem dX10_pages_41 : decode cX10_pages 41 = .ok (.iadd, 1) := by decide +kernel
theorem dX10_pages_42 : decode cX10_pages 42 = .ok (.istore_n 1, 1) := by decide +kernel
theorem dX10_pages_43 : decode cX10_pages 43 = .ok (.iinc 2 1, 3) := by decide +kernel
theorem dX10_pages_46 : decode cX10_pages 46 = .ok (.goto (-42), 3) := by decide +kernel
theorem dX10_pages_49 : decode cX10_pages 49 = .ok (.iload_n 1, 1) := by decide +kernel
theorem dX10_pages_50 : decode cX10_pages 50 = .ok (.ireturn, 1) := by decide +kernel
set_option maxRecDepth 20000 in
theorem ggX10_ends_X10_isEnd : GoodIn wsX10_ends wsX10_isEnd := goodIn_r _ [7, 1, 8, 9, 10, 11, 12, 13, 14, 15, 16, 17, 18, 6, 19, 20, 21, 22, 23, 24, 25, 26, 27, 2, 28, 29, 30, 31, 32, 33, 34, 35, 36, 37, 38, 39, 40, 41] rfl (by decide +kernel)
set_option maxRecDepth 20000 in
theorem gX10_ends_X10_isEnd : GoodIn wsX10_ends (wsV RX10 182 RX10 yX10_isEnd wsX10_isEnd) := goodIn_app (goodIn_r _ [3, 4, 5, 6] rfl (by decide +kernel)) ggX10_ends_X10_isEnd
theorem dX10_ends_0 : decode cX10_ends 0 = .ok (.iconst 0, 1) := by decide +kernel
theorem dX10_ends_1 : decode cX10_ends 1 = .ok (.istore_n 1, 1) := by decide +kernel
theorem dX10_ends_2 : decode cX10_ends 2 = .ok (.iconst 0, 1) := by decide +kernel
theorem dX10_ends_3 : decode cX10_ends 3 = .ok (.istore_n 2, 1) := by decide +kernel
theorem dX10_ends_4 : decode cX10_ends 4 = .ok (.iload_n 2, 1) := by decide +kernel
theorem dX10_ends_5 : decode cX10_ends 5 = .ok (.aload_n 0, 1) := by decide +kernel
theorem dX10_ends_6 : decode cX10_ends 6 = .ok (.getfield 12, 3) := by decide +kernel
theorem dX10_ends_9 : decode cX10_ends 9 = .ok (.getfield 45, 3) := by decide +kernel
theorem dX10_ends_12 : decode cX10_ends 12 = .ok (.if_icmp .ge 25, 3) := by decide +kernel
theorem dX10_ends_15 : decode cX10_ends 15 = .ok (.iload_n 1, 1) := by decide +kernel
theorem dX10_ends_16 : decode cX10_ends 16 = .ok (.aload_n 0, 1) := by decide +kernel
theorem dX10_ends_17 : decode cX10_ends 17 = .ok (.iload_n 2, 1) := by decide +kernel
theorem dX10_ends_18 : decode cX10_ends 18 = .ok (.invokevirtual 182, 3) := by decide +kernel
theorem dX10_ends_21 : decode cX10_ends 21 = .ok (.ifCond .eq 7, 3) := by decide +kernel
theorem dX10_ends_24 : decode cX10_ends 24 = .ok (.iconst 1, 1) := by decide +kernel
theorem dX10_ends_25 : decode cX10_ends 25 = .ok (.goto 4, 3) := by decide +kernel
theorem dX10_ends_28 : decode cX10_ends 28 = .ok (.iconst 0, 1) := by decide +kernel
theorem dX10_ends_29 : decode cX10_ends 29 = .ok (.iadd, 1) := by decide +kernel
theorem dX10_ends_30 : decode cX10_ends 30 = .ok (.istore_n 1, 1) := by decide +kernel
theorem dX10_ends_31 : decode cX10_ends 31 = .ok (.iinc 2 1, 3) := by decide +kernel
theorem dX10_ends_34 : decode cX10_ends 34 = .ok (.goto (-30), 3) := by decide +kernel
theorem dX10_ends_37 : decode cX10_ends 37 = .ok (.iload_n 1, 1) := by decide +kernel
theorem dX10_ends_38 : decode cX10_ends 38 = .ok (.ireturn, 1) := by decide +kernel
set_option maxRecDepth 20000 in
theorem ggX10_deepest_X10_sharedAt : GoodIn wsX10_deepest wsX10_sharedAt := goodIn_r _ [11, 1, 2, 12, 13, 14, 15, 16, 17, 18, 19, 20, 21, 22, 23, 24, 25] rfl (by decide +kernel)
set_option maxRecDepth 20000 in
theorem gX10_deepest_X10_sharedAt : GoodIn wsX10_deepest (wsV RX10 105 RX10 yX10_sharedAt wsX10_sharedAt) := goodIn_app (goodIn_r _ [7, 8, 9, 10] rfl (by decide +kernel)) ggX10_deepest_X10_sharedAt
theorem dX10_deepest_0 : decode cX10_deepest 0 = .ok (.iconst 0, 1) := by decide +kernel
theorem dX10_deepest_1 : decode cX10_deepest 1 = .ok (.istore_n 1, 1) := by decide +kernel
theorem dX10_deepest_2 : decode cX10_deepest 2 = .ok (.iconst 0, 1) := by decide +kernel
theorem dX10_deepest_3 : decode cX10_deepest 3 = .ok (.istore_n 2, 1) := by decide +kernel
theorem dX10_deepest_4 : decode cX10_deepest 4 = .ok (.iload_n 2, 1) := by decide +kernel
theorem dX10_deepest_5 : decode cX10_deepest 5 = .ok (.aload_n 0, 1) := by decide +kernel
theorem dX10_deepest_6 : decode cX10_deepest 6 = .ok (.getfield 12, 3) := by decide +kernel
theorem dX10_deepest_9 : decode cX10_deepest 9 = .ok (.getfield 45, 3) := by decide +kernel
theorem dX10_deepest_12 : decode cX10_deepest 12 = .ok (.if_icmp .ge 19, 3) := by decide +kernel
theorem dX10_deepest_15 : decode cX10_deepest 15 = .ok (.iload_n 1, 1) := by decide +kernel
theorem dX10_deepest_16 : decode cX10_deepest 16 = .ok (.aload_n 0, 1) := by decide +kernel
theorem dX10_deepest_17 : decode cX10_deepest 17 = .ok (.iload_n 2, 1) := by decide +kernel
theorem dX10_deepest_18 : decode cX10_deepest 18 = .ok (.invokevirtual 105, 3) := by decide +kernel
theorem dX10_deepest_21 : decode cX10_deepest 21 = .ok (.invokestatic 95, 3) := by decide +kernel
theorem dX10_deepest_24 : decode cX10_deepest 24 = .ok (.istore_n 1, 1) := by decide +kernel
theorem dX10_deepest_25 : decode cX10_deepest 25 = .ok (.iinc 2 1, 3) := by decide +kernel
theorem dX10_deepest_28 : decode cX10_deepest 28 = .ok (.goto (-24), 3) := by decide +kernel
theorem dX10_deepest_31 : decode cX10_deepest 31 = .ok (.iload_n 1, 1) := by decide +kernel
theorem dX10_deepest_32 : decode cX10_deepest 32 = .ok (.ireturn, 1) := by decide +kernel
set_option maxRecDepth 20000 in
theorem ggX10_weight_X10_layers : GoodIn wsX10_weight wsX10_layers := goodIn_r _ [8, 2, 3, 9, 10, 11, 7, 12, 13, 14, 15, 16, 17, 18, 19, 20, 21, 38, 39, 40, 41, 42, 43, 44, 45, 46, 47, 48, 49, 50] rfl (by decide +kernel)
set_option maxRecDepth 20000 in
theorem gX10_weight_X10_layers : GoodIn wsX10_weight (wsV RX10 163 RX10 yX10_layers wsX10_layers) := goodIn_app (goodIn_r _ [4, 5, 6, 7] rfl (by decide +kernel)) ggX10_weight_X10_layers
set_option maxRecDepth 20000 in
theorem ggX10_weight_X3_lengthOf : GoodIn wsX10_weight wsX3_lengthOf := goodIn_r _ [26, 27, 28, 47, 48, 49, 50] rfl (by decide +kernel)
set_option maxRecDepth 20000 in
theorem gX10_weight_X3_lengthOf : GoodIn wsX10_weight (wsV RX10 111 RX3 yX3_lengthOf wsX3_lengthOf) := goodIn_app (goodIn_r _ [22, 23, 24, 25] rfl (by decide +kernel)) ggX10_weight_X3_lengthOf
set_option maxRecDepth 20000 in
theorem ggX10_weight_X10_depthOf : GoodIn wsX10_weight wsX10_depthOf := goodIn_r _ [12, 13, 14, 15, 16, 17, 18, 19, 7, 20, 2, 3, 21, 38, 39, 40, 41, 42, 43, 44, 45, 46, 47, 48, 49, 50] rfl (by decide +kernel)
set_option maxRecDepth 20000 in
theorem gX10_weight_X10_depthOf : GoodIn wsX10_weight (wsV RX10 123 RX10 yX10_depthOf wsX10_depthOf) := goodIn_app (goodIn_r _ [9, 10, 11, 7] rfl (by decide +kernel)) ggX10_weight_X10_depthOf
set_option maxRecDepth 20000 in
theorem ggX10_weight_X10_pages : GoodIn wsX10_weight wsX10_pages := goodIn_r _ [32, 2, 3, 9, 10, 11, 7, 12, 13, 14, 15, 16, 17, 18, 19, 20, 21, 33, 34, 35, 36, 37, 38, 39, 40, 41, 42, 43, 44, 45, 46, 47, 48, 49, 50] rfl (by decide +kernel)
set_option maxRecDepth 20000 in
theorem gX10_weight_X10_pages : GoodIn wsX10_weight (wsV RX10 167 RX10 yX10_pages wsX10_pages) := goodIn_app (goodIn_r _ [29, 30, 31, 7] rfl (by decide +kernel)) ggX10_weight_X10_pages
theorem dX10_weight_0 : decode cX10_weight 0 = .ok (.aload_n 0, 1) := by decide +kernel
theorem dX10_weight_1 : decode cX10_weight 1 = .ok (.invokevirtual 163, 3) := by decide +kernel
theorem dX10_weight_4 : decode cX10_weight 4 = .ok (.iconst 1, 1) := by decide +kernel
theorem dX10_weight_5 : decode cX10_weight 5 = .ok (.isub, 1) := by decide +kernel
theorem dX10_weight_6 : decode cX10_weight 6 = .ok (.istore_n 1, 1) := by decide +kernel
theorem dX10_weight_7 : decode cX10_weight 7 = .ok (.iload_n 1, 1) := by decide +kernel
theorem dX10_weight_8 : decode cX10_weight 8 = .ok (.aload_n 0, 1) := by decide +kernel
theorem dX10_weight_9 : decode cX10_weight 9 = .ok (.getfield 26, 3) := by decide +kernel
theorem dX10_weight_12 : decode cX10_weight 12 = .ok (.imul, 1) := by decide +kernel
theorem dX10_weight_13 : decode cX10_weight 13 = .ok (.istore_n 2, 1) := by decide +kernel
theorem dX10_weight_14 : decode cX10_weight 14 = .ok (.iconst 0, 1) := by decide +kernel
theorem dX10_weight_15 : decode cX10_weight 15 = .ok (.istore_n 3, 1) := by decide +kernel
theorem dX10_weight_16 : decode cX10_weight 16 = .ok (.iload_n 3, 1) := by decide +kernel
theorem dX10_weight_17 : decode cX10_weight 17 = .ok (.aload_n 0, 1) := by decide +kernel
theorem dX10_weight_18 : decode cX10_weight 18 = .ok (.getfield 12, 3) := by decide +kernel
theorem dX10_weight_21 : decode cX10_weight 21 = .ok (.getfield 45, 3) := by decide +kernel
theorem dX10_weight_24 : decode cX10_weight 24 = .ok (.if_icmp .ge 31, 3) := by decide +kernel
theorem dX10_weight_27 : decode cX10_weight 27 = .ok (.iload_n 2, 1) := by decide +kernel
theorem dX10_weight_28 : decode cX10_weight 28 = .ok (.aload_n 0, 1) := by decide +kernel
theorem dX10_weight_29 : decode cX10_weight 29 = .ok (.getfield 12, 3) := by decide +kernel
theorem dX10_weight_32 : decode cX10_weight 32 = .ok (.iload_n 3, 1) := by decide +kernel
theorem dX10_weight_33 : decode cX10_weight 33 = .ok (.invokevirtual 111, 3) := by decide +kernel
theorem dX10_weight_36 : decode cX10_weight 36 = .ok (.aload_n 0, 1) := by decide +kernel
theorem dX10_weight_37 : decode cX10_weight 37 = .ok (.iload_n 3, 1) := by decide +kernel
theorem dX10_weight_38 : decode cX10_weight 38 = .ok (.invokevirtual 123, 3) := by decide +kernel
theorem dX10_weight_41 : decode cX10_weight 41 = .ok (.aload_n 0, 1) := by decide +kernel
theorem dX10_weight_42 : decode cX10_weight 42 = .ok (.getfield 26, 3) := by decide +kernel
theorem dX10_weight_45 : decode cX10_weight 45 = .ok (.imul, 1) := by decide +kernel
theorem dX10_weight_46 : decode cX10_weight 46 = .ok (.isub, 1) := by decide +kernel
theorem dX10_weight_47 : decode cX10_weight 47 = .ok (.iadd, 1) := by decide +kernel
theorem dX10_weight_48 : decode cX10_weight 48 = .ok (.istore_n 2, 1) := by decide +kernel
theorem dX10_weight_49 : decode cX10_weight 49 = .ok (.iinc 3 1, 3) := by decide +kernel
theorem dX10_weight_52 : decode cX10_weight 52 = .ok (.goto (-36), 3) := by decide +kernel
theorem dX10_weight_55 : decode cX10_weight 55 = .ok (.iload_n 2, 1) := by decide +kernel
theorem dX10_weight_56 : decode cX10_weight 56 = .ok (.iconst 2, 1) := by decide +kernel
theorem dX10_weight_57 : decode cX10_weight 57 = .ok (.aload_n 0, 1) := by decide +kernel
theorem dX10_weight_58 : decode cX10_weight 58 = .ok (.getfield 12, 3) := by decide +kernel
theorem dX10_weight_61 : decode cX10_weight 61 = .ok (.getfield 45, 3) := by decide +kernel
theorem dX10_weight_64 : decode cX10_weight 64 = .ok (.iload_n 1, 1) := by decide +kernel
theorem dX10_weight_65 : decode cX10_weight 65 = .ok (.iadd, 1) := by decide +kernel
theorem dX10_weight_66 : decode cX10_weight 66 = .ok (.imul, 1) := by decide +kernel
theorem dX10_weight_67 : decode cX10_weight 67 = .ok (.iadd, 1) := by decide +kernel
theorem dX10_weight_68 : decode cX10_weight 68 = .ok (.iconst 4, 1) := by decide +kernel
theorem dX10_weight_69 : decode cX10_weight 69 = .ok (.aload_n 0, 1) := by decide +kernel
theorem dX10_weight_70 : decode cX10_weight 70 = .ok (.invokevirtual 167, 3) := by decide +kernel
theorem dX10_weight_73 : decode cX10_weight 73 = .ok (.imul, 1) := by decide +kernel
theorem dX10_weight_74 : decode cX10_weight 74 = .ok (.iadd, 1) := by decide +kernel
theorem dX10_weight_75 : decode cX10_weight 75 = .ok (.bipush 8, 2) := by decide +kernel
theorem dX10_weight_77 : decode cX10_weight 77 = .ok (.iload_n 1, 1) := by decide +kernel
theorem dX10_weight_78 : decode cX10_weight 78 = .ok (.iconst 1, 1) := by decide +kernel
theorem dX10_weight_79 : decode cX10_weight 79 = .ok (.iadd, 1) := by decide +kernel
theorem dX10_weight_80 : decode cX10_weight 80 = .ok (.imul, 1) := by decide +kernel
theorem dX10_weight_81 : decode cX10_weight 81 = .ok (.iadd, 1) := by decide +kernel
theorem dX10_weight_82 : decode cX10_weight 82 = .ok (.ireturn, 1) := by decide +kernel
set_option maxRecDepth 20000 in
theorem ggX11_init_X9_init : GoodIn wsX11_init wsX9_init := goodIn_r _ [47, 48, 2, 3, 49, 50, 51, 153, 154] rfl (by decide +kernel)
set_option maxRecDepth 20000 in
theorem gX11_init_X9_init : GoodIn wsX11_init (wsX9_init) := ggX11_init_X9_init
set_option maxRecDepth 20000 in
theorem ggX11_init_X7_init : GoodIn wsX11_init wsX7_init := goodIn_r _ [54, 55, 2, 3, 56, 57, 58, 59, 167, 168, 169, 170] rfl (by decide +kernel)
set_option maxRecDepth 20000 in
theorem gX11_init_X7_init : GoodIn wsX11_init (wsX7_init) := ggX11_init_X7_init
set_option maxRecDepth 20000 in
theorem ggX11_init_X2_init : GoodIn wsX11_init wsX2_init := goodIn_r _ [62, 63, 2, 3, 49, 64, 65, 171, 172] rfl (by decide +kernel)
set_option maxRecDepth 20000 in
theorem gX11_init_X2_init : GoodIn wsX11_init (wsX2_init) := ggX11_init_X2_init
set_option maxRecDepth 20000 in
theorem ggX11_init_X8_init : GoodIn wsX11_init wsX8_init := goodIn_r _ [68, 69, 2, 3, 70, 23, 24, 71, 72, 73, 74, 75, 76, 37, 38, 77, 78, 79, 80, 81, 82, 83, 84, 85, 86, 87, 88, 89, 90, 91, 92, 93, 94, 95, 96, 97, 98, 99, 49, 100, 101, 102, 103, 104, 105, 106, 107, 108, 13, 14, 109, 110, 111, 112, 113, 114, 61, 62, 63, 64, 65, 115, 116, 117, 118, 119, 120, 121, 122, 123, 124, 176, 177, 178, 179, 180, 181, 182, 183, 184, 173, 174, 175, 201, 202, 203, 204, 205, 194, 195, 196, 197, 206, 207, 208, 209, 171, 172] rfl (by decide +kernel)
set_option maxRecDepth 20000 in
theorem gX11_init_X8_init : GoodIn wsX11_init (wsX8_init) := ggX11_init_X8_init
set_option maxRecDepth 20000 in
theorem ggX11_init_X10_init : GoodIn wsX11_init wsX10_init := goodIn_r _ [80, 81, 2, 3, 82, 83, 84, 85, 86, 87, 88, 89, 90, 91, 92, 93, 94, 95, 96, 97, 98, 99, 49, 100, 101, 102, 103, 206, 207, 208, 209, 176, 177, 178, 179, 180, 181, 182, 183, 184] rfl (by decide +kernel)
set_option maxRecDepth 20000 in
theorem gX11_init_X10_init : GoodIn wsX11_init (wsX10_init) := ggX11_init_X10_init
set_option maxRecDepth 20000 in
theorem ggX11_init_X4_init : GoodIn wsX11_init wsX4_init := goodIn_r _ [128, 129, 2, 3, 130, 131, 132, 133, 185, 186, 187, 188] rfl (by decide +kernel)
set_option maxRecDepth 20000 in
theorem gX11_init_X4_init : GoodIn wsX11_init (wsX4_init) := ggX11_init_X4_init
set_option maxRecDepth 20000 in
theorem ggX11_init_X5_init : GoodIn wsX11_init wsX5_init := goodIn_r _ [136, 137, 2, 3, 86, 138, 139, 140, 141, 142, 13, 14, 143, 144, 61, 62, 63, 49, 64, 65, 189, 190, 191, 192, 193, 171, 172] rfl (by decide +kernel)
set_option maxRecDepth 20000 in
theorem gX11_init_X5_init : GoodIn wsX11_init (wsX5_init) := ggX11_init_X5_init
set_option maxRecDepth 20000 in
theorem ggX11_init_X6_init : GoodIn wsX11_init wsX6_init := goodIn_r _ [117, 118, 2, 3, 86, 119, 120, 121, 122, 13, 14, 123, 124, 61, 62, 63, 49, 64, 65, 194, 195, 196, 197, 171, 172] rfl (by decide +kernel)
set_option maxRecDepth 20000 in
theorem gX11_init_X6_init : GoodIn wsX11_init (wsX6_init) := ggX11_init_X6_init
set_option maxRecDepth 20000 in
theorem ggX11_init_X1_init : GoodIn wsX11_init wsX1_init := goodIn_r _ [148, 149, 2, 3, 150, 86, 151, 152, 198, 199, 200] rfl (by decide +kernel)
set_option maxRecDepth 20000 in
theorem gX11_init_X1_init : GoodIn wsX11_init (wsX1_init) := ggX11_init_X1_init
theorem dX11_init_0 : decode cX11_init 0 = .ok (.aload_n 0, 1) := by decide +kernel
theorem dX11_init_1 : decode cX11_init 1 = .ok (.invokespecial 1, 3) := by decide +kernel
theorem dX11_init_4 : decode cX11_init 4 = .ok (.aload_n 0, 1) := by decide +kernel
theorem dX11_init_5 : decode cX11_init 5 = .ok (.new 7, 3) := by decide +kernel
theorem dX11_init_8 : decode cX11_init 8 = .ok (.dup, 1) := by decide +kernel
theorem dX11_init_9 : decode cX11_init 9 = .ok (.invokespecial 9, 3) := by decide +kernel
theorem dX11_init_12 : decode cX11_init 12 = .ok (.putfield 10, 3) := by decide +kernel
theorem dX11_init_15 : decode cX11_init 15 = .ok (.aload_n 0, 1) := by decide +kernel
theorem dX11_init_16 : decode cX11_init 16 = .ok (.new 16, 3) := by decide +kernel
theorem dX11_init_19 : decode cX11_init 19 = .ok (.dup, 1) := by decide +kernel
theorem dX11_init_20 : decode cX11_init 20 = .ok (.aload_n 0, 1) := by decide +kernel
theorem dX11_init_21 : decode cX11_init 21 = .ok (.getfield 10, 3) := by decide +kernel
theorem dX11_init_24 : decode cX11_init 24 = .ok (.invokespecial 18, 3) := by decide +kernel
theorem dX11_init_27 : decode cX11_init 27 = .ok (.putfield 21, 3) := by decide +kernel
theorem dX11_init_30 : decode cX11_init 30 = .ok (.aload_n 0, 1) := by decide +kernel
theorem dX11_init_31 : decode cX11_init 31 = .ok (.new 25, 3) := by decide +kernel
theorem dX11_init_34 : decode cX11_init 34 = .ok (.dup, 1) := by decide +kernel
theorem dX11_init_35 : decode cX11_init 35 = .ok (.invokespecial 27, 3) := by decide +kernel
theorem dX11_init_38 : decode cX11_init 38 = .ok (.putfield 28, 3) := by decide +kernel
theorem dX11_init_41 : decode cX11_init 41 = .ok (.aload_n 0, 1) := by decide +kernel
theorem dX11_init_42 : decode cX11_init 42 = .ok (.new 32, 3) := by decide +kernel
theorem dX11_init_45 : decode cX11_init 45 = .ok (.dup, 1) := by decide +kernel
theorem dX11_init_46 : decode cX11_init 46 = .ok (.invokespecial 34, 3) := by decide +kernel
theorem dX11_init_49 : decode cX11_init 49 = .ok (.putfield 35, 3) := by decide +kernel
theorem dX11_init_52 : decode cX11_init 52 = .ok (.aload_n 0, 1) := by decide +kernel
theorem dX11_init_53 : decode cX11_init 53 = .ok (.new 32, 3) := by decide +kernel
theorem dX11_init_56 : decode cX11_init 56 = .ok (.dup, 1) := by decide +kernel
theorem dX11_init_57 : decode cX11_init 57 = .ok (.invokespecial 34, 3) := by decide +kernel
theorem dX11_init_60 : decode cX11_init 60 = .ok (.putfield 39, 3) := by decide +kernel
theorem dX11_init_63 : decode cX11_init 63 = .ok (.aload_n 0, 1) := by decide +kernel
theorem dX11_init_64 : decode cX11_init 64 = .ok (.iconst 0, 1) := by decide +kernel
theorem dX11_init_65 : decode cX11_init 65 = .ok (.putfield 42, 3) := by decide +kernel
theorem dX11_init_68 : decode cX11_init 68 = .ok (.aload_n 0, 1) := by decide +kernel
theorem dX11_init_69 : decode cX11_init 69 = .ok (.new 46, 3) := by decide +kernel
theorem dX11_init_72 : decode cX11_init 72 = .ok (.dup, 1) := by decide +kernel
theorem dX11_init_73 : decode cX11_init 73 = .ok (.invokespecial 48, 3) := by decide +kernel
theorem dX11_init_76 : decode cX11_init 76 = .ok (.putfield 49, 3) := by decide +kernel
theorem dX11_init_79 : decode cX11_init 79 = .ok (.aload_n 0, 1) := by decide +kernel
theorem dX11_init_80 : decode cX11_init 80 = .ok (.new 46, 3) := by decide +kernel
theorem dX11_init_83 : decode cX11_init 83 = .ok (.dup, 1) := by decide +kernel
theorem dX11_init_84 : decode cX11_init 84 = .ok (.invokespecial 48, 3) := by decide +kernel
theorem dX11_init_87 : decode cX11_init 87 = .ok (.putfield 53, 3) := by decide +kernel
theorem dX11_init_90 : decode cX11_init 90 = .ok (.aload_n 0, 1) := by decide +kernel
theorem dX11_init_91 : decode cX11_init 91 = .ok (.new 56, 3) := by decide +kernel
theorem dX11_init_94 : decode cX11_init 94 = .ok (.dup, 1) := by decide +kernel
theorem dX11_init_95 : decode cX11_init 95 = .ok (.aload_n 0, 1) := by decide +kernel
theorem dX11_init_96 : decode cX11_init 96 = .ok (.getfield 35, 3) := by decide +kernel
theorem dX11_init_99 : decode cX11_init 99 = .ok (.getfield 58, 3) := by decide +kernel
theorem dX11_init_102 : decode cX11_init 102 = .ok (.invokespecial 61, 3) := by decide +kernel
theorem dX11_init_105 : decode cX11_init 105 = .ok (.putfield 64, 3) := by decide +kernel
theorem dX11_init_108 : decode cX11_init 108 = .ok (.aload_n 0, 1) := by decide +kernel
theorem dX11_init_109 : decode cX11_init 109 = .ok (.new 68, 3) := by decide +kernel
theorem dX11_init_112 : decode cX11_init 112 = .ok (.dup, 1) := by decide +kernel
theorem dX11_init_113 : decode cX11_init 113 = .ok (.invokespecial 70, 3) := by decide +kernel
theorem dX11_init_116 : decode cX11_init 116 = .ok (.putfield 71, 3) := by decide +kernel
theorem dX11_init_119 : decode cX11_init 119 = .ok (.aload_n 0, 1) := by decide +kernel
theorem dX11_init_120 : decode cX11_init 120 = .ok (.new 75, 3) := by decide +kernel
theorem dX11_init_123 : decode cX11_init 123 = .ok (.dup, 1) := by decide +kernel
theorem dX11_init_124 : decode cX11_init 124 = .ok (.invokespecial 77, 3) := by decide +kernel
theorem dX11_init_127 : decode cX11_init 127 = .ok (.putfield 78, 3) := by decide +kernel
theorem dX11_init_130 : decode cX11_init 130 = .ok (.aload_n 0, 1) := by decide +kernel
theorem dX11_init_131 : decode cX11_init 131 = .ok (.new 82, 3) := by decide +kernel
theorem dX11_init_134 : decode cX11_init 134 = .ok (.dup, 1) := by decide +kernel
theorem dX11_init_135 : decode cX11_init 135 = .ok (.aload_n 0, 1) := by decide +kernel
theorem dX11_init_136 : decode cX11_init 136 = .ok (.getfield 35, 3) := by decide +kernel
theorem dX11_init_139 : decode cX11_init 139 = .ok (.getfield 58, 3) := by decide +kernel
theorem dX11_init_142 : decode cX11_init 142 = .ok (.getfield 84, 3) := by decide +kernel
theorem dX11_init_145 : decode cX11_init 145 = .ok (.invokespecial 88, 3) := by decide +kernel
theorem dX11_init_148 : decode cX11_init 148 = .ok (.putfield 91, 3) := by decide +kernel
theorem dX11_init_151 : decode cX11_init 151 = .ok (.return_, 1) := by decide +kernel
set_option maxRecDepth 20000 in
theorem ggX11_feed_X9_addWord : GoodIn wsX11_feed wsX9_addWord := goodIn_r _ [7, 8, 9, 22, 23] rfl (by decide +kernel)
set_option maxRecDepth 20000 in
theorem gX11_feed_X9_addWord : GoodIn wsX11_feed (wsV RX11 99 RX9 yX9_addWord wsX9_addWord) := goodIn_app (goodIn_r _ [3, 4, 5, 6] rfl (by decide +kernel)) ggX11_feed_X9_addWord
theorem dX11_feed_0 : decode cX11_feed 0 = .ok (.aload_n 0, 1) := by decide +kernel
theorem dX11_feed_1 : decode cX11_feed 1 = .ok (.getfield 10, 3) := by decide +kernel
theorem dX11_feed_4 : decode cX11_feed 4 = .ok (.getfield 95, 3) := by decide +kernel
theorem dX11_feed_7 : decode cX11_feed 7 = .ok (.sipush 220, 3) := by decide +kernel
theorem dX11_feed_10 : decode cX11_feed 10 = .ok (.if_icmp .le 5, 3) := by decide +kernel
theorem dX11_feed_13 : decode cX11_feed 13 = .ok (.iconst (-1), 1) := by decide +kernel
theorem dX11_feed_14 : decode cX11_feed 14 = .ok (.ireturn, 1) := by decide +kernel
theorem dX11_feed_15 : decode cX11_feed 15 = .ok (.aload_n 0, 1) := by decide +kernel
theorem dX11_feed_16 : decode cX11_feed 16 = .ok (.getfield 10, 3) := by decide +kernel
theorem dX11_feed_19 : decode cX11_feed 19 = .ok (.iload_n 1, 1) := by decide +kernel
theorem dX11_feed_20 : decode cX11_feed 20 = .ok (.invokevirtual 99, 3) := by decide +kernel
theorem dX11_feed_23 : decode cX11_feed 23 = .ok (.aload_n 0, 1) := by decide +kernel
theorem dX11_feed_24 : decode cX11_feed 24 = .ok (.getfield 10, 3) := by decide +kernel
theorem dX11_feed_27 : decode cX11_feed 27 = .ok (.iload_n 2, 1) := by decide +kernel
theorem dX11_feed_28 : decode cX11_feed 28 = .ok (.invokevirtual 99, 3) := by decide +kernel
theorem dX11_feed_31 : decode cX11_feed 31 = .ok (.aload_n 0, 1) := by decide +kernel
theorem dX11_feed_32 : decode cX11_feed 32 = .ok (.getfield 10, 3) := by decide +kernel
theorem dX11_feed_35 : decode cX11_feed 35 = .ok (.iload_n 3, 1) := by decide +kernel
theorem dX11_feed_36 : decode cX11_feed 36 = .ok (.invokevirtual 99, 3) := by decide +kernel
theorem dX11_feed_39 : decode cX11_feed 39 = .ok (.aload_n 0, 1) := by decide +kernel
theorem dX11_feed_40 : decode cX11_feed 40 = .ok (.getfield 10, 3) := by decide +kernel
theorem dX11_feed_43 : decode cX11_feed 43 = .ok (.iload 4, 2) := by decide +kernel
theorem dX11_feed_45 : decode cX11_feed 45 = .ok (.invokevirtual 99, 3) := by decide +kernel
theorem dX11_feed_48 : decode cX11_feed 48 = .ok (.aload_n 0, 1) := by decide +kernel
theorem dX11_feed_49 : decode cX11_feed 49 = .ok (.getfield 10, 3) := by decide +kernel
theorem dX11_feed_52 : decode cX11_feed 52 = .ok (.iload 5, 2) := by decide +kernel
theorem dX11_feed_54 : decode cX11_feed 54 = .ok (.invokevirtual 99, 3) := by decide +kernel
theorem dX11_feed_57 : decode cX11_feed 57 = .ok (.aload_n 0, 1) := by decide +kernel
theorem dX11_feed_58 : decode cX11_feed 58 = .ok (.getfield 10, 3) := by decide +kernel
theorem dX11_feed_61 : decode cX11_feed 61 = .ok (.getfield 95, 3) := by decide +kernel
theorem dX11_feed_64 : decode cX11_feed 64 = .ok (.ireturn, 1) := by decide +kernel
set_option maxRecDepth 20000 in
theorem ggX11_begin_X11_isWidth : GoodIn wsX11_begin wsX11_isWidth := goodIn_r _ [7] rfl (by decide +kernel)
set_option maxRecDepth 20000 in
theorem gX11_begin_X11_isWidth : GoodIn wsX11_begin (va_wsS RX11 103 yX11_isWidth wsX11_isWidth) := goodIn_app (goodIn_r _ [4, 5, 6] rfl (by decide +kernel)) ggX11_begin_X11_isWidth
set_option maxRecDepth 20000 in
theorem ggX11_begin_X11_isRoom : GoodIn wsX11_begin wsX11_isRoom := goodIn_r _ [10] rfl (by decide +kernel)
set_option maxRecDepth 20000 in
theorem gX11_begin_X11_isRoom : GoodIn wsX11_begin (va_wsS RX11 107 yX11_isRoom wsX11_isRoom) := goodIn_app (goodIn_r _ [8, 9, 6] rfl (by decide +kernel)) ggX11_begin_X11_isRoom
set_option maxRecDepth 20000 in
theorem ggX11_begin_X10_clear : GoodIn wsX11_begin wsX10_clear := goodIn_r _ [15, 16, 17, 18, 19, 20, 21, 22, 23, 52, 53, 54, 55, 56, 57, 58, 59, 60, 61, 62, 63, 64] rfl (by decide +kernel)
set_option maxRecDepth 20000 in
theorem gX11_begin_X10_clear : GoodIn wsX11_begin (wsV RX11 110 RX10 yX10_clear wsX10_clear) := goodIn_app (goodIn_r _ [11, 12, 13, 14] rfl (by decide +kernel)) ggX11_begin_X10_clear
set_option maxRecDepth 20000 in
theorem ggX11_begin_X8_forgetCursors : GoodIn wsX11_begin wsX8_forgetCursors := goodIn_r _ [28, 29, 30, 49, 50, 51, 65, 66, 67, 68, 69] rfl (by decide +kernel)
set_option maxRecDepth 20000 in
theorem gX11_begin_X8_forgetCursors : GoodIn wsX11_begin (wsV RX11 114 RX8 yX8_forgetCursors wsX8_forgetCursors) := goodIn_app (goodIn_r _ [24, 25, 26, 27] rfl (by decide +kernel)) ggX11_begin_X8_forgetCursors
set_option maxRecDepth 20000 in
theorem ggX11_begin_X9_clear : GoodIn wsX11_begin wsX9_clear := goodIn_r _ [35, 36, 70, 71] rfl (by decide +kernel)
set_option maxRecDepth 20000 in
theorem gX11_begin_X9_clear : GoodIn wsX11_begin (wsV RX11 117 RX9 yX9_clear wsX9_clear) := goodIn_app (goodIn_r _ [31, 32, 33, 34] rfl (by decide +kernel)) ggX11_begin_X9_clear
theorem dX11_begin_0 : decode cX11_begin 0 = .ok (.iload_n 1, 1) := by decide +kernel
theorem dX11_begin_1 : decode cX11_begin 1 = .ok (.invokestatic 103, 3) := by decide +kernel
theorem dX11_begin_4 : decode cX11_begin 4 = .ok (.ifCond .eq 10, 3) := by decide +kernel
theorem dX11_begin_7 : decode cX11_begin 7 = .ok (.iload_n 2, 1) := by decide +kernel
theorem dX11_begin_8 : decode cX11_begin 8 = .ok (.invokestatic 107, 3) := by decide +kernel
theorem dX11_begin_11 : decode cX11_begin 11 = .ok (.ifCond .ne 5, 3) := by decide +kernel
theorem dX11_begin_14 : decode cX11_begin 14 = .ok (.iconst (-1), 1) := by decide +kernel
theorem dX11_begin_15 : decode cX11_begin 15 = .ok (.ireturn, 1) := by decide +kernel
theorem dX11_begin_16 : decode cX11_begin 16 = .ok (.aload_n 0, 1) := by decide +kernel
theorem dX11_begin_17 : decode cX11_begin 17 = .ok (.getfield 35, 3) := by decide +kernel
theorem dX11_begin_20 : decode cX11_begin 20 = .ok (.getfield 58, 3) := by decide +kernel
theorem dX11_begin_23 : decode cX11_begin 23 = .ok (.iload_n 1, 1) := by decide +kernel
theorem dX11_begin_24 : decode cX11_begin 24 = .ok (.iload_n 2, 1) := by decide +kernel
theorem dX11_begin_25 : decode cX11_begin 25 = .ok (.invokevirtual 110, 3) := by decide +kernel
theorem dX11_begin_28 : decode cX11_begin 28 = .ok (.aload_n 0, 1) := by decide +kernel
theorem dX11_begin_29 : decode cX11_begin 29 = .ok (.getfield 35, 3) := by decide +kernel
theorem dX11_begin_32 : decode cX11_begin 32 = .ok (.invokevirtual 114, 3) := by decide +kernel
theorem dX11_begin_35 : decode cX11_begin 35 = .ok (.aload_n 0, 1) := by decide +kernel
theorem dX11_begin_36 : decode cX11_begin 36 = .ok (.getfield 10, 3) := by decide +kernel
theorem dX11_begin_39 : decode cX11_begin 39 = .ok (.invokevirtual 117, 3) := by decide +kernel
theorem dX11_begin_42 : decode cX11_begin 42 = .ok (.iconst 0, 1) := by decide +kernel
theorem dX11_begin_43 : decode cX11_begin 43 = .ok (.ireturn, 1) := by decide +kernel
set_option maxRecDepth 20000 in
theorem ggX11_put_X11_isValue : GoodIn wsX11_put wsX11_isValue := goodIn_r _ [7, 8] rfl (by decide +kernel)
set_option maxRecDepth 20000 in
theorem gX11_put_X11_isValue : GoodIn wsX11_put (va_wsS RX11 119 yX11_isValue wsX11_isValue) := goodIn_app (goodIn_r _ [4, 5, 6] rfl (by decide +kernel)) ggX11_put_X11_isValue
set_option maxRecDepth 20000 in
theorem ggX11_put_X11_isKeyTold : GoodIn wsX11_put wsX11_isKeyTold := goodIn_r _ [12, 13, 14, 15, 6, 16, 17, 18, 171, 172, 173, 174, 175, 176, 177, 178, 179, 180, 181, 182, 186, 187] rfl (by decide +kernel)
set_option maxRecDepth 20000 in
theorem gX11_put_X11_isKeyTold : GoodIn wsX11_put (wsV RX11 122 RX11 yX11_isKeyTold wsX11_isKeyTold) := goodIn_app (goodIn_r _ [9, 10, 11, 6] rfl (by decide +kernel)) ggX11_put_X11_isKeyTold
set_option maxRecDepth 20000 in
theorem ggX11_put_X11_readTold : GoodIn wsX11_put wsX11_readTold := goodIn_r _ [22, 3, 17, 23, 24, 25, 26, 27, 28, 29, 30, 31, 32, 33, 34, 35, 36, 37, 6, 38, 39, 40, 41, 42, 43, 44, 45, 46, 47, 171, 172, 173, 174, 175, 176, 177, 178, 179, 180, 181, 182, 188, 189, 186, 187] rfl (by decide +kernel)
set_option maxRecDepth 20000 in
theorem gX11_put_X11_readTold : GoodIn wsX11_put (wsV RX11 125 RX11 yX11_readTold wsX11_readTold) := goodIn_app (goodIn_r _ [19, 20, 21, 6] rfl (by decide +kernel)) ggX11_put_X11_readTold
set_option maxRecDepth 20000 in
theorem ggX11_put_X10_insertKey : GoodIn wsX11_put wsX10_insertKey := goodIn_r _ [52, 53, 54, 55, 56, 57, 58, 59, 60, 61, 62, 63, 64, 65, 66, 67, 68, 69, 70, 71, 72, 73, 74, 75, 76, 77, 78, 79, 80, 81, 82, 83, 84, 85, 86, 87, 88, 26, 89, 28, 43, 90, 91, 92, 93, 94, 95, 96, 97, 98, 99, 100, 101, 102, 103, 104, 105, 106, 107, 108, 109, 110, 111, 112, 113, 114, 115, 51, 116, 117, 118, 119, 120, 121, 122, 123, 124, 125, 126, 127, 128, 129, 130, 131, 132, 133, 134, 135, 136, 137, 138, 139, 140, 141, 142, 143, 144, 145, 146, 147, 148, 149, 150, 151, 152, 153, 154, 155, 156, 157, 158, 159, 160, 161, 162, 163, 164, 165, 166, 167, 168, 169, 170, 190, 191, 192, 193, 194, 195, 196, 197, 198, 199, 200, 201, 202, 188, 189] rfl (by decide +kernel)
set_option maxRecDepth 20000 in
theorem gX11_put_X10_insertKey : GoodIn wsX11_put (wsV RX11 128 RX10 yX10_insertKey wsX10_insertKey) := goodIn_app (goodIn_r _ [48, 49, 50, 51] rfl (by decide +kernel)) ggX11_put_X10_insertKey
theorem dX11_put_0 : decode cX11_put 0 = .ok (.iload_n 2, 1) := by decide +kernel
theorem dX11_put_1 : decode cX11_put 1 = .ok (.invokestatic 119, 3) := by decide +kernel
theorem dX11_put_4 : decode cX11_put 4 = .ok (.ifCond .eq 11, 3) := by decide +kernel
theorem dX11_put_7 : decode cX11_put 7 = .ok (.aload_n 0, 1) := by decide +kernel
theorem dX11_put_8 : decode cX11_put 8 = .ok (.iload_n 1, 1) := by decide +kernel
theorem dX11_put_9 : decode cX11_put 9 = .ok (.invokevirtual 122, 3) := by decide +kernel
theorem dX11_put_12 : decode cX11_put 12 = .ok (.ifCond .ne 5, 3) := by decide +kernel
theorem dX11_put_15 : decode cX11_put 15 = .ok (.iconst (-1), 1) := by decide +kernel
theorem dX11_put_16 : decode cX11_put 16 = .ok (.ireturn, 1) := by decide +kernel
theorem dX11_put_17 : decode cX11_put 17 = .ok (.aload_n 0, 1) := by decide +kernel
theorem dX11_put_18 : decode cX11_put 18 = .ok (.iload_n 1, 1) := by decide +kernel
theorem dX11_put_19 : decode cX11_put 19 = .ok (.invokevirtual 125, 3) := by decide +kernel
theorem dX11_put_22 : decode cX11_put 22 = .ok (.ifCond .eq 21, 3) := by decide +kernel
theorem dX11_put_25 : decode cX11_put 25 = .ok (.aload_n 0, 1) := by decide +kernel
theorem dX11_put_26 : decode cX11_put 26 = .ok (.getfield 35, 3) := by decide +kernel
theorem dX11_put_29 : decode cX11_put 29 = .ok (.getfield 58, 3) := by decide +kernel
theorem dX11_put_32 : decode cX11_put 32 = .ok (.aload_n 0, 1) := by decide +kernel
theorem dX11_put_33 : decode cX11_put 33 = .ok (.getfield 28, 3) := by decide +kernel
theorem dX11_put_36 : decode cX11_put 36 = .ok (.iload_n 2, 1) := by decide +kernel
theorem dX11_put_37 : decode cX11_put 37 = .ok (.invokevirtual 128, 3) := by decide +kernel
theorem dX11_put_40 : decode cX11_put 40 = .ok (.goto 5, 3) := by decide +kernel
theorem dX11_put_43 : decode cX11_put 43 = .ok (.bipush (-2), 2) := by decide +kernel
theorem dX11_put_45 : decode cX11_put 45 = .ok (.ireturn, 1) := by decide +kernel
set_option maxRecDepth 20000 in
theorem ggX11_take_X11_isKeyTold : GoodIn wsX11_take wsX11_isKeyTold := goodIn_r _ [8, 9, 10, 11, 7, 12, 13, 14, 167, 168, 169, 170, 171, 172, 173, 174, 175, 176, 177, 178, 182, 183] rfl (by decide +kernel)
set_option maxRecDepth 20000 in
theorem gX11_take_X11_isKeyTold : GoodIn wsX11_take (wsV RX11 122 RX11 yX11_isKeyTold wsX11_isKeyTold) := goodIn_app (goodIn_r _ [4, 5, 6, 7] rfl (by decide +kernel)) ggX11_take_X11_isKeyTold
set_option maxRecDepth 20000 in
theorem ggX11_take_X11_readTold : GoodIn wsX11_take wsX11_readTold := goodIn_r _ [18, 3, 13, 19, 20, 21, 22, 23, 24, 25, 26, 27, 28, 29, 30, 31, 32, 33, 7, 34, 35, 36, 37, 38, 39, 40, 41, 42, 43, 167, 168, 169, 170, 171, 172, 173, 174, 175, 176, 177, 178, 184, 185, 182, 183] rfl (by decide +kernel)
set_option maxRecDepth 20000 in
theorem gX11_take_X11_readTold : GoodIn wsX11_take (wsV RX11 125 RX11 yX11_readTold wsX11_readTold) := goodIn_app (goodIn_r _ [15, 16, 17, 7] rfl (by decide +kernel)) ggX11_take_X11_readTold
set_option maxRecDepth 20000 in
theorem ggX11_take_X10_removeKey : GoodIn wsX11_take wsX10_removeKey := goodIn_r _ [48, 49, 50, 51, 52, 53, 54, 55, 56, 57, 58, 59, 60, 61, 62, 63, 64, 65, 66, 67, 68, 69, 70, 71, 72, 73, 74, 75, 76, 77, 78, 79, 80, 81, 22, 82, 24, 39, 83, 84, 85, 86, 87, 88, 89, 90, 91, 92, 93, 94, 95, 96, 97, 98, 47, 99, 100, 101, 102, 103, 104, 105, 106, 107, 108, 109, 110, 111, 112, 113, 114, 115, 116, 117, 118, 119, 120, 121, 122, 123, 124, 125, 126, 127, 128, 129, 130, 131, 132, 133, 134, 135, 136, 137, 138, 139, 140, 141, 142, 143, 144, 145, 146, 147, 148, 149, 150, 151, 152, 153, 154, 155, 156, 157, 158, 159, 160, 161, 162, 163, 164, 165, 166, 186, 187, 188, 189, 190, 191, 192, 193, 194, 195, 196, 197, 198, 184, 185] rfl (by decide +kernel)
set_option maxRecDepth 20000 in
theorem gX11_take_X10_removeKey : GoodIn wsX11_take (wsV RX11 132 RX10 yX10_removeKey wsX10_removeKey) := goodIn_app (goodIn_r _ [44, 45, 46, 47] rfl (by decide +kernel)) ggX11_take_X10_removeKey
theorem dX11_take_0 : decode cX11_take 0 = .ok (.aload_n 0, 1) := by decide +kernel
theorem dX11_take_1 : decode cX11_take 1 = .ok (.iload_n 1, 1) := by decide +kernel
theorem dX11_take_2 : decode cX11_take 2 = .ok (.invokevirtual 122, 3) := by decide +kernel
theorem dX11_take_5 : decode cX11_take 5 = .ok (.ifCond .ne 5, 3) := by decide +kernel
theorem dX11_take_8 : decode cX11_take 8 = .ok (.iconst (-1), 1) := by decide +kernel
theorem dX11_take_9 : decode cX11_take 9 = .ok (.ireturn, 1) := by decide +kernel
theorem dX11_take_10 : decode cX11_take 10 = .ok (.aload_n 0, 1) := by decide +kernel
theorem dX11_take_11 : decode cX11_take 11 = .ok (.iload_n 1, 1) := by decide +kernel
theorem dX11_take_12 : decode cX11_take 12 = .ok (.invokevirtual 125, 3) := by decide +kernel
theorem dX11_take_15 : decode cX11_take 15 = .ok (.ifCond .eq 20, 3) := by decide +kernel
theorem dX11_take_18 : decode cX11_take 18 = .ok (.aload_n 0, 1) := by decide +kernel
theorem dX11_take_19 : decode cX11_take 19 = .ok (.getfield 35, 3) := by decide +kernel
theorem dX11_take_22 : decode cX11_take 22 = .ok (.getfield 58, 3) := by decide +kernel
theorem dX11_take_25 : decode cX11_take 25 = .ok (.aload_n 0, 1) := by decide +kernel
theorem dX11_take_26 : decode cX11_take 26 = .ok (.getfield 28, 3) := by decide +kernel
theorem dX11_take_29 : decode cX11_take 29 = .ok (.invokevirtual 132, 3) := by decide +kernel
theorem dX11_take_32 : decode cX11_take 32 = .ok (.goto 5, 3) := by decide +kernel
theorem dX11_take_35 : decode cX11_take 35 = .ok (.bipush (-2), 2) := by decide +kernel
theorem dX11_take_37 : decode cX11_take 37 = .ok (.ireturn, 1) := by decide +kernel
set_option maxRecDepth 20000 in
theorem ggX11_orders_X11_isTextTold : GoodIn wsX11_orders wsX11_isTextTold := goodIn_r _ [10, 11, 12, 277, 278, 279, 280, 281, 282, 283, 284, 285, 286, 287, 288, 296, 297] rfl (by decide +kernel)
set_option maxRecDepth 20000 in
theorem gX11_orders_X11_isTextTold : GoodIn wsX11_orders (wsV RX11 136 RX11 yX11_isTextTold wsX11_isTextTold) := goodIn_app (goodIn_r _ [6, 7, 8, 9] rfl (by decide +kernel)) ggX11_orders_X11_isTextTold
set_option maxRecDepth 20000 in
theorem ggX11_orders_X11_readItems : GoodIn wsX11_orders wsX11_readItems := goodIn_r _ [16, 4, 1, 11, 5, 17, 18, 19, 20, 21, 22, 23, 24, 25, 26, 27, 28, 29, 30, 31, 32, 33, 34, 35, 36, 37, 38, 39, 40, 41, 42, 43, 44, 45, 46, 47, 48, 49, 50, 51, 52, 53, 54, 55, 56, 57, 58, 59, 60, 61, 62, 63, 64, 65, 66, 67, 68, 69, 70, 71, 72, 73, 74, 75, 9, 76, 77, 78, 79, 80, 81, 82, 83, 84, 85, 86, 87, 88, 89, 90, 91, 92, 93, 94, 95, 96, 97, 98, 99, 100, 101, 102, 103, 104, 105, 277, 278, 279, 280, 281, 282, 283, 284, 285, 286, 287, 288, 292, 293, 294, 295, 298, 299, 300, 301, 302, 296, 297, 303, 304] rfl (by decide +kernel)
set_option maxRecDepth 20000 in
theorem gX11_orders_X11_readItems : GoodIn wsX11_orders (wsV RX11 140 RX11 yX11_readItems wsX11_readItems) := goodIn_app (goodIn_r _ [13, 14, 15, 9] rfl (by decide +kernel)) ggX11_orders_X11_readItems
set_option maxRecDepth 20000 in
theorem ggX11_orders_X5_doOn : GoodIn wsX11_orders wsX5_doOn := goodIn_r _ [109, 30, 35, 36, 37, 38, 110, 111, 112, 113, 114, 115, 116, 117, 118, 119, 120, 121, 122, 123, 124, 125, 126, 127, 128, 129, 130, 131, 132, 133, 134, 135, 136, 137, 138, 139, 140, 141, 142, 143, 144, 145, 146, 147, 148, 149, 150, 71, 151, 73, 81, 152, 153, 154, 155, 156, 157, 158, 159, 160, 161, 162, 163, 164, 165, 166, 167, 168, 169, 170, 171, 172, 173, 174, 175, 176, 177, 178, 179, 180, 181, 182, 183, 184, 185, 186, 187, 188, 189, 190, 191, 192, 193, 194, 195, 196, 197, 198, 199, 200, 201, 202, 203, 204, 205, 206, 207, 208, 209, 210, 211, 212, 213, 214, 215, 216, 217, 218, 219, 220, 221, 222, 223, 224, 225, 226, 227, 228, 229, 230, 231, 232, 233, 234, 235, 236, 237, 238, 239, 240, 241, 242, 243, 244, 245, 246, 247, 248, 249, 250, 251, 252, 253, 254, 255, 256, 257, 258, 259, 260, 261, 262, 263, 264, 265, 266, 267, 268, 269, 270, 271, 272, 273, 274, 275, 276, 298, 299, 300, 301, 302, 305, 306, 307, 308, 309, 310, 311, 312, 313, 314, 315, 316, 317, 303, 304] rfl (by decide +kernel)
set_option maxRecDepth 20000 in
theorem gX11_orders_X5_doOn : GoodIn wsX11_orders (wsV RX11 143 RX5 yX5_doOn wsX5_doOn) := goodIn_app (goodIn_r _ [106, 107, 108, 28] rfl (by decide +kernel)) ggX11_orders_X5_doOn
theorem dX11_orders_0 : decode cX11_orders 0 = .ok (.aload_n 0, 1) := by decide +kernel
theorem dX11_orders_1 : decode cX11_orders 1 = .ok (.iload_n 1, 1) := by decide +kernel
theorem dX11_orders_2 : decode cX11_orders 2 = .ok (.iconst 1, 1) := by decide +kernel
theorem dX11_orders_3 : decode cX11_orders 3 = .ok (.sipush 200, 3) := by decide +kernel
theorem dX11_orders_6 : decode cX11_orders 6 = .ok (.invokevirtual 136, 3) := by decide +kernel
theorem dX11_orders_9 : decode cX11_orders 9 = .ok (.ifCond .ne 5, 3) := by decide +kernel
theorem dX11_orders_12 : decode cX11_orders 12 = .ok (.iconst (-1), 1) := by decide +kernel
theorem dX11_orders_13 : decode cX11_orders 13 = .ok (.ireturn, 1) := by decide +kernel
theorem dX11_orders_14 : decode cX11_orders 14 = .ok (.aload_n 0, 1) := by decide +kernel
theorem dX11_orders_15 : decode cX11_orders 15 = .ok (.iload_n 1, 1) := by decide +kernel
theorem dX11_orders_16 : decode cX11_orders 16 = .ok (.invokevirtual 140, 3) := by decide +kernel
theorem dX11_orders_19 : decode cX11_orders 19 = .ok (.ifCond .eq 20, 3) := by decide +kernel
theorem dX11_orders_22 : decode cX11_orders 22 = .ok (.aload_n 0, 1) := by decide +kernel
theorem dX11_orders_23 : decode cX11_orders 23 = .ok (.getfield 71, 3) := by decide +kernel
theorem dX11_orders_26 : decode cX11_orders 26 = .ok (.aload_n 0, 1) := by decide +kernel
theorem dX11_orders_27 : decode cX11_orders 27 = .ok (.getfield 35, 3) := by decide +kernel
theorem dX11_orders_30 : decode cX11_orders 30 = .ok (.getfield 58, 3) := by decide +kernel
theorem dX11_orders_33 : decode cX11_orders 33 = .ok (.invokevirtual 143, 3) := by decide +kernel
theorem dX11_orders_36 : decode cX11_orders 36 = .ok (.goto 10, 3) := by decide +kernel
theorem dX11_orders_39 : decode cX11_orders 39 = .ok (.aload_n 0, 1) := by decide +kernel
theorem dX11_orders_40 : decode cX11_orders 40 = .ok (.getfield 21, 3) := by decide +kernel
theorem dX11_orders_43 : decode cX11_orders 43 = .ok (.getfield 147, 3) := by decide +kernel
theorem dX11_orders_46 : decode cX11_orders 46 = .ok (.ireturn, 1) := by decide +kernel
set_option maxRecDepth 20000 in
theorem ggX11_batch_X11_isTextTold : GoodIn wsX11_batch wsX11_isTextTold := goodIn_r _ [12, 13, 14, 287, 288, 289, 290, 291, 292, 293, 294, 295, 296, 297, 298, 311, 312] rfl (by decide +kernel)
set_option maxRecDepth 20000 in
theorem gX11_batch_X11_isTextTold : GoodIn wsX11_batch (wsV RX11 136 RX11 yX11_isTextTold wsX11_isTextTold) := goodIn_app (goodIn_r _ [8, 9, 10, 11] rfl (by decide +kernel)) ggX11_batch_X11_isTextTold
set_option maxRecDepth 20000 in
theorem ggX11_batch_X11_readItems : GoodIn wsX11_batch wsX11_readItems := goodIn_r _ [18, 1, 6, 13, 2, 19, 20, 21, 22, 23, 24, 25, 26, 27, 28, 29, 30, 31, 32, 33, 34, 35, 36, 37, 38, 39, 40, 41, 42, 43, 44, 45, 46, 47, 48, 49, 50, 51, 52, 53, 54, 55, 56, 57, 58, 59, 60, 61, 62, 63, 64, 65, 66, 67, 68, 69, 70, 71, 72, 73, 74, 75, 76, 77, 11, 78, 79, 80, 81, 82, 83, 84, 85, 86, 87, 88, 89, 90, 91, 92, 93, 94, 95, 96, 97, 98, 99, 100, 101, 102, 103, 104, 105, 106, 107, 287, 288, 289, 290, 291, 292, 293, 294, 295, 296, 297, 298, 299, 300, 301, 302, 306, 307, 308, 309, 310, 311, 312, 313, 314] rfl (by decide +kernel)
set_option maxRecDepth 20000 in
theorem gX11_batch_X11_readItems : GoodIn wsX11_batch (wsV RX11 140 RX11 yX11_readItems wsX11_readItems) := goodIn_app (goodIn_r _ [15, 16, 17, 11] rfl (by decide +kernel)) ggX11_batch_X11_readItems
set_option maxRecDepth 20000 in
theorem ggX11_batch_X10_copyFrom : GoodIn wsX11_batch wsX10_copyFrom := goodIn_r _ [112, 113, 114, 115, 116, 117, 118, 119, 120, 121, 122, 123, 124, 125, 126, 127, 128, 129, 130, 131, 132, 133, 134, 135, 315, 316, 317, 318, 319, 320, 321, 322, 323, 324, 325, 326, 327] rfl (by decide +kernel)
set_option maxRecDepth 20000 in
theorem gX11_batch_X10_copyFrom : GoodIn wsX11_batch (wsV RX11 150 RX10 yX10_copyFrom wsX10_copyFrom) := goodIn_app (goodIn_r _ [108, 109, 110, 111] rfl (by decide +kernel)) ggX11_batch_X10_copyFrom
set_option maxRecDepth 20000 in
theorem ggX11_batch_X5_doOn : GoodIn wsX11_batch wsX5_doOn := goodIn_r _ [139, 32, 37, 38, 39, 40, 140, 141, 142, 111, 143, 113, 144, 114, 115, 116, 117, 118, 119, 145, 146, 147, 129, 148, 135, 149, 150, 151, 152, 153, 154, 155, 156, 157, 158, 159, 160, 161, 133, 162, 163, 164, 165, 131, 166, 167, 168, 73, 169, 75, 83, 170, 171, 172, 173, 174, 175, 176, 177, 178, 179, 180, 181, 134, 182, 183, 184, 185, 186, 187, 188, 189, 132, 190, 191, 192, 193, 194, 195, 196, 197, 198, 124, 199, 200, 201, 202, 203, 204, 205, 206, 120, 207, 208, 209, 210, 211, 212, 213, 214, 215, 216, 217, 218, 219, 220, 221, 222, 223, 224, 225, 226, 227, 228, 229, 230, 231, 232, 121, 122, 233, 234, 235, 236, 237, 238, 239, 240, 241, 242, 243, 244, 245, 246, 247, 248, 249, 250, 251, 252, 253, 254, 255, 256, 257, 258, 259, 260, 261, 262, 263, 264, 265, 266, 267, 268, 269, 270, 271, 272, 273, 274, 123, 275, 276, 277, 278, 279, 280, 281, 282, 125, 283, 284, 285, 286, 306, 307, 308, 309, 310, 315, 316, 317, 318, 319, 320, 321, 322, 323, 324, 325, 326, 327, 313, 314] rfl (by decide +kernel)
set_option maxRecDepth 20000 in
theorem gX11_batch_X5_doOn : GoodIn wsX11_batch (wsV RX11 143 RX5 yX5_doOn wsX5_doOn) := goodIn_app (goodIn_r _ [136, 137, 138, 30] rfl (by decide +kernel)) ggX11_batch_X5_doOn
theorem dX11_batch_0 : decode cX11_batch 0 = .ok (.aload_n 0, 1) := by decide +kernel
theorem dX11_batch_1 : decode cX11_batch 1 = .ok (.iload_n 1, 1) := by decide +kernel
theorem dX11_batch_2 : decode cX11_batch 2 = .ok (.iconst 1, 1) := by decide +kernel
theorem dX11_batch_3 : decode cX11_batch 3 = .ok (.sipush 200, 3) := by decide +kernel
theorem dX11_batch_6 : decode cX11_batch 6 = .ok (.invokevirtual 136, 3) := by decide +kernel
theorem dX11_batch_9 : decode cX11_batch 9 = .ok (.ifCond .ne 5, 3) := by decide +kernel
theorem dX11_batch_12 : decode cX11_batch 12 = .ok (.iconst (-1), 1) := by decide +kernel
theorem dX11_batch_13 : decode cX11_batch 13 = .ok (.ireturn, 1) := by decide +kernel
theorem dX11_batch_14 : decode cX11_batch 14 = .ok (.aload_n 0, 1) := by decide +kernel
theorem dX11_batch_15 : decode cX11_batch 15 = .ok (.iload_n 1, 1) := by decide +kernel
theorem dX11_batch_16 : decode cX11_batch 16 = .ok (.invokevirtual 140, 3) := by decide +kernel
theorem dX11_batch_19 : decode cX11_batch 19 = .ok (.ifCond .ne 11, 3) := by decide +kernel
theorem dX11_batch_22 : decode cX11_batch 22 = .ok (.aload_n 0, 1) := by decide +kernel
theorem dX11_batch_23 : decode cX11_batch 23 = .ok (.getfield 21, 3) := by decide +kernel
theorem dX11_batch_26 : decode cX11_batch 26 = .ok (.getfield 147, 3) := by decide +kernel
theorem dX11_batch_29 : decode cX11_batch 29 = .ok (.ireturn, 1) := by decide +kernel
theorem dX11_batch_30 : decode cX11_batch 30 = .ok (.aload_n 0, 1) := by decide +kernel
theorem dX11_batch_31 : decode cX11_batch 31 = .ok (.getfield 49, 3) := by decide +kernel
theorem dX11_batch_34 : decode cX11_batch 34 = .ok (.aload_n 0, 1) := by decide +kernel
theorem dX11_batch_35 : decode cX11_batch 35 = .ok (.getfield 35, 3) := by decide +kernel
theorem dX11_batch_38 : decode cX11_batch 38 = .ok (.getfield 58, 3) := by decide +kernel
theorem dX11_batch_41 : decode cX11_batch 41 = .ok (.invokevirtual 150, 3) := by decide +kernel
theorem dX11_batch_44 : decode cX11_batch 44 = .ok (.aload_n 0, 1) := by decide +kernel
theorem dX11_batch_45 : decode cX11_batch 45 = .ok (.getfield 71, 3) := by decide +kernel
theorem dX11_batch_48 : decode cX11_batch 48 = .ok (.aload_n 0, 1) := by decide +kernel
theorem dX11_batch_49 : decode cX11_batch 49 = .ok (.getfield 35, 3) := by decide +kernel
theorem dX11_batch_52 : decode cX11_batch 52 = .ok (.getfield 58, 3) := by decide +kernel
theorem dX11_batch_55 : decode cX11_batch 55 = .ok (.invokevirtual 143, 3) := by decide +kernel
theorem dX11_batch_58 : decode cX11_batch 58 = .ok (.istore_n 2, 1) := by decide +kernel
theorem dX11_batch_59 : decode cX11_batch 59 = .ok (.iload_n 2, 1) := by decide +kernel
theorem dX11_batch_60 : decode cX11_batch 60 = .ok (.aload_n 0, 1) := by decide +kernel
theorem dX11_batch_61 : decode cX11_batch 61 = .ok (.getfield 71, 3) := by decide +kernel
theorem dX11_batch_64 : decode cX11_batch 64 = .ok (.getfield 153, 3) := by decide +kernel
theorem dX11_batch_67 : decode cX11_batch 67 = .ok (.if_icmp .ne 5, 3) := by decide +kernel
theorem dX11_batch_70 : decode cX11_batch 70 = .ok (.iload_n 2, 1) := by decide +kernel
theorem dX11_batch_71 : decode cX11_batch 71 = .ok (.ireturn, 1) := by decide +kernel
theorem dX11_batch_72 : decode cX11_batch 72 = .ok (.aload_n 0, 1) := by decide +kernel
theorem dX11_batch_73 : decode cX11_batch 73 = .ok (.getfield 35, 3) := by decide +kernel
theorem dX11_batch_76 : decode cX11_batch 76 = .ok (.getfield 58, 3) := by decide +kernel
theorem dX11_batch_79 : decode cX11_batch 79 = .ok (.aload_n 0, 1) := by decide +kernel
theorem dX11_batch_80 : decode cX11_batch 80 = .ok (.getfield 49, 3) := by decide +kernel
theorem dX11_batch_83 : decode cX11_batch 83 = .ok (.invokevirtual 150, 3) := by decide +kernel
theorem dX11_batch_86 : decode cX11_batch 86 = .ok (.bipush (-3), 2) := by decide +kernel
theorem dX11_batch_88 : decode cX11_batch 88 = .ok (.iload_n 2, 1) := by decide +kernel
theorem dX11_batch_89 : decode cX11_batch 89 = .ok (.isub, 1) := by decide +kernel
theorem dX11_batch_90 : decode cX11_batch 90 = .ok (.ireturn, 1) := by decide +kernel
set_option maxRecDepth 20000 in
theorem ggX11_count_X10_measure : GoodIn wsX11_count wsX10_measure := goodIn_r _ [9, 10, 11, 12, 13, 14, 15, 16, 17, 18, 19, 20, 8, 21, 22, 23, 24, 25, 26, 27, 28, 29, 30, 31, 32, 33, 34, 35, 36, 37, 38, 39, 40, 41, 42, 43, 44, 45, 46, 47, 48, 49, 50, 51, 52, 53, 54, 55, 56, 57, 58, 59, 60, 61, 62, 63, 64, 65, 66, 67, 68, 69, 70, 71, 72, 73, 74, 75, 93, 94, 95, 96, 97, 98, 99, 100, 101, 102, 103, 104, 105] rfl (by decide +kernel)
set_option maxRecDepth 20000 in
theorem gX11_count_X10_measure : GoodIn wsX11_count (wsV RX11 156 RX10 yX10_measure wsX10_measure) := goodIn_app (goodIn_r _ [5, 6, 7, 8] rfl (by decide +kernel)) ggX11_count_X10_measure
theorem dX11_count_0 : decode cX11_count 0 = .ok (.iload_n 1, 1) := by decide +kernel
theorem dX11_count_1 : decode cX11_count 1 = .ok (.bipush 15, 2) := by decide +kernel
theorem dX11_count_3 : decode cX11_count 3 = .ok (.if_icmp .ne 13, 3) := by decide +kernel
theorem dX11_count_6 : decode cX11_count 6 = .ok (.aload_n 0, 1) := by decide +kernel
theorem dX11_count_7 : decode cX11_count 7 = .ok (.getfield 10, 3) := by decide +kernel
theorem dX11_count_10 : decode cX11_count 10 = .ok (.getfield 95, 3) := by decide +kernel
theorem dX11_count_13 : decode cX11_count 13 = .ok (.goto 14, 3) := by decide +kernel
theorem dX11_count_16 : decode cX11_count 16 = .ok (.aload_n 0, 1) := by decide +kernel
theorem dX11_count_17 : decode cX11_count 17 = .ok (.getfield 35, 3) := by decide +kernel
theorem dX11_count_20 : decode cX11_count 20 = .ok (.getfield 58, 3) := by decide +kernel
theorem dX11_count_23 : decode cX11_count 23 = .ok (.iload_n 1, 1) := by decide +kernel
theorem dX11_count_24 : decode cX11_count 24 = .ok (.invokevirtual 156, 3) := by decide +kernel
theorem dX11_count_27 : decode cX11_count 27 = .ok (.ireturn, 1) := by decide +kernel
set_option maxRecDepth 20000 in
theorem ggX11_value_X11_isKeyTold : GoodIn wsX11_value wsX11_isKeyTold := goodIn_r _ [9, 10, 11, 12, 8, 13, 14, 15, 91, 92, 93, 94, 95, 96, 97, 98, 99, 100, 101, 102, 115, 116] rfl (by decide +kernel)
set_option maxRecDepth 20000 in
theorem gX11_value_X11_isKeyTold : GoodIn wsX11_value (wsV RX11 122 RX11 yX11_isKeyTold wsX11_isKeyTold) := goodIn_app (goodIn_r _ [5, 6, 7, 8] rfl (by decide +kernel)) ggX11_value_X11_isKeyTold
set_option maxRecDepth 20000 in
theorem ggX11_value_X11_readTold : GoodIn wsX11_value wsX11_readTold := goodIn_r _ [19, 4, 14, 20, 21, 22, 23, 24, 25, 26, 27, 28, 29, 30, 31, 32, 33, 34, 8, 35, 36, 37, 38, 39, 40, 41, 42, 43, 44, 91, 92, 93, 94, 95, 96, 97, 98, 99, 100, 101, 102, 117, 118, 115, 116] rfl (by decide +kernel)
set_option maxRecDepth 20000 in
theorem gX11_value_X11_readTold : GoodIn wsX11_value (wsV RX11 125 RX11 yX11_readTold wsX11_readTold) := goodIn_app (goodIn_r _ [16, 17, 18, 8] rfl (by decide +kernel)) ggX11_value_X11_readTold
set_option maxRecDepth 20000 in
theorem ggX11_value_X3_find : GoodIn wsX11_value wsX3_find := goodIn_r _ [49, 50, 51, 52, 48, 53, 54, 55, 56, 57, 58, 59, 60, 61, 62, 63, 64, 65, 66, 67, 68, 69, 70, 71, 72, 73, 74, 75, 76, 23, 77, 25, 40, 78, 79, 80, 81, 82, 83, 84, 85, 119, 120, 121, 122, 117, 118] rfl (by decide +kernel)
set_option maxRecDepth 20000 in
theorem gX11_value_X3_find : GoodIn wsX11_value (wsV RX11 160 RX3 yX3_find wsX3_find) := goodIn_app (goodIn_r _ [45, 46, 47, 48] rfl (by decide +kernel)) ggX11_value_X3_find
set_option maxRecDepth 20000 in
theorem ggX11_value_X3_valueOf : GoodIn wsX11_value wsX3_valueOf := goodIn_r _ [89, 54, 90, 119, 120, 121, 122] rfl (by decide +kernel)
set_option maxRecDepth 20000 in
theorem gX11_value_X3_valueOf : GoodIn wsX11_value (wsV RX11 165 RX3 yX3_valueOf wsX3_valueOf) := goodIn_app (goodIn_r _ [86, 87, 88, 48] rfl (by decide +kernel)) ggX11_value_X3_valueOf
theorem dX11_value_0 : decode cX11_value 0 = .ok (.aload_n 0, 1) := by decide +kernel
theorem dX11_value_1 : decode cX11_value 1 = .ok (.iload_n 1, 1) := by decide +kernel
theorem dX11_value_2 : decode cX11_value 2 = .ok (.invokevirtual 122, 3) := by decide +kernel
theorem dX11_value_5 : decode cX11_value 5 = .ok (.ifCond .ne 5, 3) := by decide +kernel
theorem dX11_value_8 : decode cX11_value 8 = .ok (.iconst (-1), 1) := by decide +kernel
theorem dX11_value_9 : decode cX11_value 9 = .ok (.ireturn, 1) := by decide +kernel
theorem dX11_value_10 : decode cX11_value 10 = .ok (.aload_n 0, 1) := by decide +kernel
theorem dX11_value_11 : decode cX11_value 11 = .ok (.iload_n 1, 1) := by decide +kernel
theorem dX11_value_12 : decode cX11_value 12 = .ok (.invokevirtual 125, 3) := by decide +kernel
theorem dX11_value_15 : decode cX11_value 15 = .ok (.ifCond .ne 6, 3) := by decide +kernel
theorem dX11_value_18 : decode cX11_value 18 = .ok (.bipush (-2), 2) := by decide +kernel
theorem dX11_value_20 : decode cX11_value 20 = .ok (.ireturn, 1) := by decide +kernel
theorem dX11_value_21 : decode cX11_value 21 = .ok (.aload_n 0, 1) := by decide +kernel
theorem dX11_value_22 : decode cX11_value 22 = .ok (.getfield 35, 3) := by decide +kernel
theorem dX11_value_25 : decode cX11_value 25 = .ok (.getfield 58, 3) := by decide +kernel
theorem dX11_value_28 : decode cX11_value 28 = .ok (.getfield 84, 3) := by decide +kernel
theorem dX11_value_31 : decode cX11_value 31 = .ok (.aload_n 0, 1) := by decide +kernel
theorem dX11_value_32 : decode cX11_value 32 = .ok (.getfield 28, 3) := by decide +kernel
theorem dX11_value_35 : decode cX11_value 35 = .ok (.invokevirtual 160, 3) := by decide +kernel
theorem dX11_value_38 : decode cX11_value 38 = .ok (.istore_n 2, 1) := by decide +kernel
theorem dX11_value_39 : decode cX11_value 39 = .ok (.iload_n 2, 1) := by decide +kernel
theorem dX11_value_40 : decode cX11_value 40 = .ok (.ifCond .ge 8, 3) := by decide +kernel
theorem dX11_value_43 : decode cX11_value 43 = .ok (.bipush (-3), 2) := by decide +kernel
theorem dX11_value_45 : decode cX11_value 45 = .ok (.goto 17, 3) := by decide +kernel
theorem dX11_value_48 : decode cX11_value 48 = .ok (.aload_n 0, 1) := by decide +kernel
theorem dX11_value_49 : decode cX11_value 49 = .ok (.getfield 35, 3) := by decide +kernel
theorem dX11_value_52 : decode cX11_value 52 = .ok (.getfield 58, 3) := by decide +kernel
theorem dX11_value_55 : decode cX11_value 55 = .ok (.getfield 84, 3) := by decide +kernel
theorem dX11_value_58 : decode cX11_value 58 = .ok (.iload_n 2, 1) := by decide +kernel
theorem dX11_value_59 : decode cX11_value 59 = .ok (.invokevirtual 165, 3) := by decide +kernel
theorem dX11_value_62 : decode cX11_value 62 = .ok (.ireturn, 1) := by decide +kernel
set_option maxRecDepth 20000 in
theorem ggX11_rank_X11_isKeyTold : GoodIn wsX11_rank wsX11_isKeyTold := goodIn_r _ [9, 10, 11, 12, 8, 13, 14, 15, 74, 75, 76, 77, 78, 79, 80, 81, 82, 83, 84, 85, 98, 99] rfl (by decide +kernel)
set_option maxRecDepth 20000 in
theorem gX11_rank_X11_isKeyTold : GoodIn wsX11_rank (wsV RX11 122 RX11 yX11_isKeyTold wsX11_isKeyTold) := goodIn_app (goodIn_r _ [5, 6, 7, 8] rfl (by decide +kernel)) ggX11_rank_X11_isKeyTold
set_option maxRecDepth 20000 in
theorem ggX11_rank_X11_readTold : GoodIn wsX11_rank wsX11_readTold := goodIn_r _ [19, 4, 14, 20, 21, 22, 23, 24, 25, 26, 27, 28, 29, 30, 31, 32, 33, 34, 8, 35, 36, 37, 38, 39, 40, 41, 42, 43, 44, 74, 75, 76, 77, 78, 79, 80, 81, 82, 83, 84, 85, 100, 101, 98, 99] rfl (by decide +kernel)
set_option maxRecDepth 20000 in
theorem gX11_rank_X11_readTold : GoodIn wsX11_rank (wsV RX11 125 RX11 yX11_readTold wsX11_readTold) := goodIn_app (goodIn_r _ [16, 17, 18, 8] rfl (by decide +kernel)) ggX11_rank_X11_readTold
set_option maxRecDepth 20000 in
theorem ggX11_rank_X3_placeOf : GoodIn wsX11_rank wsX3_placeOf := goodIn_r _ [49, 50, 51, 52, 53, 48, 54, 55, 56, 57, 58, 59, 60, 61, 62, 63, 64, 65, 66, 67, 68, 69, 70, 71, 72, 23, 73, 25, 40, 102, 103, 104, 105, 100, 101] rfl (by decide +kernel)
set_option maxRecDepth 20000 in
theorem gX11_rank_X3_placeOf : GoodIn wsX11_rank (wsV RX11 168 RX3 yX3_placeOf wsX3_placeOf) := goodIn_app (goodIn_r _ [45, 46, 47, 48] rfl (by decide +kernel)) ggX11_rank_X3_placeOf
theorem dX11_rank_0 : decode cX11_rank 0 = .ok (.aload_n 0, 1) := by decide +kernel
theorem dX11_rank_1 : decode cX11_rank 1 = .ok (.iload_n 1, 1) := by decide +kernel
theorem dX11_rank_2 : decode cX11_rank 2 = .ok (.invokevirtual 122, 3) := by decide +kernel
theorem dX11_rank_5 : decode cX11_rank 5 = .ok (.ifCond .ne 5, 3) := by decide +kernel
theorem dX11_rank_8 : decode cX11_rank 8 = .ok (.iconst (-1), 1) := by decide +kernel
theorem dX11_rank_9 : decode cX11_rank 9 = .ok (.ireturn, 1) := by decide +kernel
theorem dX11_rank_10 : decode cX11_rank 10 = .ok (.aload_n 0, 1) := by decide +kernel
