theorem dX12_query_59 : decode cX12_query 59 = .ok (.getfield 183, 3) := by decide +kernel
theorem dX12_query_62 : decode cX12_query 62 = .ok (.if_icmp .ge 28, 3) := by decide +kernel
theorem dX12_query_65 : decode cX12_query 65 = .ok (.aload_n 0, 1) := by decide +kernel
theorem dX12_query_66 : decode cX12_query 66 = .ok (.bipush 59, 2) := by decide +kernel
theorem dX12_query_68 : decode cX12_query 68 = .ok (.invokevirtual 210, 3) := by decide +kernel
theorem dX12_query_71 : decode cX12_query 71 = .ok (.ifCond .eq 14, 3) := by decide +kernel
theorem dX12_query_74 : decode cX12_query 74 = .ok (.aload_n 0, 1) := by decide +kernel
theorem dX12_query_75 : decode cX12_query 75 = .ok (.invokevirtual 354, 3) := by decide +kernel
theorem dX12_query_78 : decode cX12_query 78 = .ok (.ifCond .eq 7, 3) := by decide +kernel
theorem dX12_query_81 : decode cX12_query 81 = .ok (.iconst 1, 1) := by decide +kernel
theorem dX12_query_82 : decode cX12_query 82 = .ok (.goto 4, 3) := by decide +kernel
theorem dX12_query_85 : decode cX12_query 85 = .ok (.iconst 0, 1) := by decide +kernel
theorem dX12_query_86 : decode cX12_query 86 = .ok (.istore_n 2, 1) := by decide +kernel
theorem dX12_query_87 : decode cX12_query 87 = .ok (.goto (-37), 3) := by decide +kernel
theorem dX12_query_90 : decode cX12_query 90 = .ok (.iload_n 2, 1) := by decide +kernel
theorem dX12_query_91 : decode cX12_query 91 = .ok (.ifCond .ne 8, 3) := by decide +kernel
theorem dX12_query_94 : decode cX12_query 94 = .ok (.aload_n 0, 1) := by decide +kernel
theorem dX12_query_95 : decode cX12_query 95 = .ok (.getfield 186, 3) := by decide +kernel
theorem dX12_query_98 : decode cX12_query 98 = .ok (.ireturn, 1) := by decide +kernel
theorem dX12_query_99 : decode cX12_query 99 = .ok (.aload_n 0, 1) := by decide +kernel
theorem dX12_query_100 : decode cX12_query 100 = .ok (.getfield 7, 3) := by decide +kernel
theorem dX12_query_103 : decode cX12_query 103 = .ok (.bipush 7, 2) := by decide +kernel
theorem dX12_query_105 : decode cX12_query 105 = .ok (.aload_n 0, 1) := by decide +kernel
theorem dX12_query_106 : decode cX12_query 106 = .ok (.getfield 351, 3) := by decide +kernel
theorem dX12_query_109 : decode cX12_query 109 = .ok (.iastore, 1) := by decide +kernel
theorem dX12_query_110 : decode cX12_query 110 = .ok (.iconst 0, 1) := by decide +kernel
theorem dX12_query_111 : decode cX12_query 111 = .ok (.istore_n 3, 1) := by decide +kernel
theorem dX12_query_112 : decode cX12_query 112 = .ok (.iload_n 3, 1) := by decide +kernel
theorem dX12_query_113 : decode cX12_query 113 = .ok (.bipush 28, 2) := by decide +kernel
theorem dX12_query_115 : decode cX12_query 115 = .ok (.aload_n 0, 1) := by decide +kernel
theorem dX12_query_116 : decode cX12_query 116 = .ok (.getfield 351, 3) := by decide +kernel
theorem dX12_query_119 : decode cX12_query 119 = .ok (.imul, 1) := by decide +kernel
theorem dX12_query_120 : decode cX12_query 120 = .ok (.if_icmp .ge 24, 3) := by decide +kernel
theorem dX12_query_123 : decode cX12_query 123 = .ok (.aload_n 0, 1) := by decide +kernel
theorem dX12_query_124 : decode cX12_query 124 = .ok (.getfield 7, 3) := by decide +kernel
theorem dX12_query_127 : decode cX12_query 127 = .ok (.bipush 16, 2) := by decide +kernel
theorem dX12_query_129 : decode cX12_query 129 = .ok (.iload_n 3, 1) := by decide +kernel
theorem dX12_query_130 : decode cX12_query 130 = .ok (.iadd, 1) := by decide +kernel
theorem dX12_query_131 : decode cX12_query 131 = .ok (.aload_n 0, 1) := by decide +kernel
theorem dX12_query_132 : decode cX12_query 132 = .ok (.getfield 44, 3) := by decide +kernel
theorem dX12_query_135 : decode cX12_query 135 = .ok (.iload_n 3, 1) := by decide +kernel
theorem dX12_query_136 : decode cX12_query 136 = .ok (.iaload, 1) := by decide +kernel
theorem dX12_query_137 : decode cX12_query 137 = .ok (.iastore, 1) := by decide +kernel
theorem dX12_query_138 : decode cX12_query 138 = .ok (.iinc 3 1, 3) := by decide +kernel
theorem dX12_query_141 : decode cX12_query 141 = .ok (.goto (-29), 3) := by decide +kernel
theorem dX12_query_144 : decode cX12_query 144 = .ok (.aload_n 0, 1) := by decide +kernel
theorem dX12_query_145 : decode cX12_query 145 = .ok (.invokevirtual 357, 3) := by decide +kernel
theorem dX12_query_148 : decode cX12_query 148 = .ok (.aload_n 0, 1) := by decide +kernel
theorem dX12_query_149 : decode cX12_query 149 = .ok (.getfield 360, 3) := by decide +kernel
theorem dX12_query_152 : decode cX12_query 152 = .ok (.ireturn, 1) := by decide +kernel
set_option maxRecDepth 20000 in
theorem ggX12_stays_X12_beginsWith : GoodIn wsX12_stays wsX12_beginsWith := goodIn_r _ [6, 7, 8, 9, 10, 11, 5, 12, 1, 13, 14, 15, 16, 17, 18, 19, 20, 21, 22, 23, 24, 25, 26, 27, 28, 29, 30, 31, 32, 33, 34, 35, 36, 37, 38, 39, 40, 41, 42, 43, 44, 45, 46, 47, 48, 49, 50, 51, 52, 53, 54, 55, 56, 57] (by decide +kernel) (by decide +kernel)
set_option maxRecDepth 20000 in
theorem gX12_stays_X12_beginsWith : GoodIn wsX12_stays (wsV RX12 315 RX12 yX12_beginsWith wsX12_beginsWith) := goodIn_app (goodIn_of _ (by decide +kernel)) ggX12_stays_X12_beginsWith
set_option maxRecDepth 20000 in
theorem ggX12_stays_X12_of : GoodIn wsX12_stays wsX12_of := goodIn_r _ [12, 1, 17, 18, 19, 20, 21, 22, 23, 24, 25, 26, 27, 28, 29, 30, 31, 32, 33, 34, 35, 36, 37, 38, 39, 40, 41, 42, 43, 44, 45, 46, 47, 48, 49, 50, 51, 52, 53, 54, 55, 56, 57] (by decide +kernel) (by decide +kernel)
set_option maxRecDepth 20000 in
theorem gX12_stays_X12_of : GoodIn wsX12_stays (wsV RX12 50 RX12 yX12_of wsX12_of) := goodIn_app (goodIn_of _ (by decide +kernel)) ggX12_stays_X12_of
theorem dX12_stays_0 : decode cX12_stays 0 = .ok (.aload_n 0, 1) := by decide +kernel
theorem dX12_stays_1 : decode cX12_stays 1 = .ok (.getfield 7, 3) := by decide +kernel
theorem dX12_stays_4 : decode cX12_stays 4 = .ok (.bipush 16, 2) := by decide +kernel
theorem dX12_stays_6 : decode cX12_stays 6 = .ok (.bipush 28, 2) := by decide +kernel
theorem dX12_stays_8 : decode cX12_stays 8 = .ok (.iload_n 1, 1) := by decide +kernel
theorem dX12_stays_9 : decode cX12_stays 9 = .ok (.imul, 1) := by decide +kernel
theorem dX12_stays_10 : decode cX12_stays 10 = .ok (.iadd, 1) := by decide +kernel
theorem dX12_stays_11 : decode cX12_stays 11 = .ok (.iconst 1, 1) := by decide +kernel
theorem dX12_stays_12 : decode cX12_stays 12 = .ok (.iadd, 1) := by decide +kernel
theorem dX12_stays_13 : decode cX12_stays 13 = .ok (.iaload, 1) := by decide +kernel
theorem dX12_stays_14 : decode cX12_stays 14 = .ok (.istore 4, 2) := by decide +kernel
theorem dX12_stays_16 : decode cX12_stays 16 = .ok (.aload_n 0, 1) := by decide +kernel
theorem dX12_stays_17 : decode cX12_stays 17 = .ok (.getfield 7, 3) := by decide +kernel
theorem dX12_stays_20 : decode cX12_stays 20 = .ok (.bipush 16, 2) := by decide +kernel
theorem dX12_stays_22 : decode cX12_stays 22 = .ok (.bipush 28, 2) := by decide +kernel
theorem dX12_stays_24 : decode cX12_stays 24 = .ok (.iload_n 1, 1) := by decide +kernel
theorem dX12_stays_25 : decode cX12_stays 25 = .ok (.imul, 1) := by decide +kernel
theorem dX12_stays_26 : decode cX12_stays 26 = .ok (.iadd, 1) := by decide +kernel
theorem dX12_stays_27 : decode cX12_stays 27 = .ok (.iaload, 1) := by decide +kernel
theorem dX12_stays_28 : decode cX12_stays 28 = .ok (.lookupswitch 213 #[(60, 107), (62, 90), (100, 189), (101, 141), (107, 176), (108, 124), (111, 158), (112, 84), (116, 201)], 84) := by decide +kernel
theorem dX12_stays_112 : decode cX12_stays 112 = .ok (.aload_n 0, 1) := by decide +kernel
theorem dX12_stays_113 : decode cX12_stays 113 = .ok (.iload_n 2, 1) := by decide +kernel
theorem dX12_stays_114 : decode cX12_stays 114 = .ok (.invokevirtual 315, 3) := by decide +kernel
theorem dX12_stays_117 : decode cX12_stays 117 = .ok (.ireturn, 1) := by decide +kernel
theorem dX12_stays_118 : decode cX12_stays 118 = .ok (.aload_n 0, 1) := by decide +kernel
theorem dX12_stays_119 : decode cX12_stays 119 = .ok (.iload_n 2, 1) := by decide +kernel
theorem dX12_stays_120 : decode cX12_stays 120 = .ok (.iconst 1, 1) := by decide +kernel
theorem dX12_stays_121 : decode cX12_stays 121 = .ok (.invokevirtual 50, 3) := by decide +kernel
theorem dX12_stays_124 : decode cX12_stays 124 = .ok (.iload 4, 2) := by decide +kernel
theorem dX12_stays_126 : decode cX12_stays 126 = .ok (.if_icmp .le 7, 3) := by decide +kernel
theorem dX12_stays_129 : decode cX12_stays 129 = .ok (.iconst 1, 1) := by decide +kernel
theorem dX12_stays_130 : decode cX12_stays 130 = .ok (.goto 4, 3) := by decide +kernel
theorem dX12_stays_133 : decode cX12_stays 133 = .ok (.iconst 0, 1) := by decide +kernel
theorem dX12_stays_134 : decode cX12_stays 134 = .ok (.ireturn, 1) := by decide +kernel
theorem dX12_stays_135 : decode cX12_stays 135 = .ok (.aload_n 0, 1) := by decide +kernel
theorem dX12_stays_136 : decode cX12_stays 136 = .ok (.iload_n 2, 1) := by decide +kernel
theorem dX12_stays_137 : decode cX12_stays 137 = .ok (.iconst 1, 1) := by decide +kernel
theorem dX12_stays_138 : decode cX12_stays 138 = .ok (.invokevirtual 50, 3) := by decide +kernel
theorem dX12_stays_141 : decode cX12_stays 141 = .ok (.iload 4, 2) := by decide +kernel
theorem dX12_stays_143 : decode cX12_stays 143 = .ok (.if_icmp .ge 7, 3) := by decide +kernel
theorem dX12_stays_146 : decode cX12_stays 146 = .ok (.iconst 1, 1) := by decide +kernel
theorem dX12_stays_147 : decode cX12_stays 147 = .ok (.goto 4, 3) := by decide +kernel
theorem dX12_stays_150 : decode cX12_stays 150 = .ok (.iconst 0, 1) := by decide +kernel
theorem dX12_stays_151 : decode cX12_stays 151 = .ok (.ireturn, 1) := by decide +kernel
theorem dX12_stays_152 : decode cX12_stays 152 = .ok (.aload_n 0, 1) := by decide +kernel
theorem dX12_stays_153 : decode cX12_stays 153 = .ok (.iload_n 2, 1) := by decide +kernel
theorem dX12_stays_154 : decode cX12_stays 154 = .ok (.iconst 0, 1) := by decide +kernel
theorem dX12_stays_155 : decode cX12_stays 155 = .ok (.invokevirtual 50, 3) := by decide +kernel
theorem dX12_stays_158 : decode cX12_stays 158 = .ok (.iload 4, 2) := by decide +kernel
theorem dX12_stays_160 : decode cX12_stays 160 = .ok (.if_icmp .lt 7, 3) := by decide +kernel
theorem dX12_stays_163 : decode cX12_stays 163 = .ok (.iconst 1, 1) := by decide +kernel
theorem dX12_stays_164 : decode cX12_stays 164 = .ok (.goto 4, 3) := by decide +kernel
theorem dX12_stays_167 : decode cX12_stays 167 = .ok (.iconst 0, 1) := by decide +kernel
theorem dX12_stays_168 : decode cX12_stays 168 = .ok (.ireturn, 1) := by decide +kernel
theorem dX12_stays_169 : decode cX12_stays 169 = .ok (.aload_n 0, 1) := by decide +kernel
theorem dX12_stays_170 : decode cX12_stays 170 = .ok (.iload_n 2, 1) := by decide +kernel
theorem dX12_stays_171 : decode cX12_stays 171 = .ok (.iconst 1, 1) := by decide +kernel
theorem dX12_stays_172 : decode cX12_stays 172 = .ok (.invokevirtual 50, 3) := by decide +kernel
theorem dX12_stays_175 : decode cX12_stays 175 = .ok (.iconst 2, 1) := by decide +kernel
theorem dX12_stays_176 : decode cX12_stays 176 = .ok (.irem, 1) := by decide +kernel
theorem dX12_stays_177 : decode cX12_stays 177 = .ok (.ifCond .ne 7, 3) := by decide +kernel
theorem dX12_stays_180 : decode cX12_stays 180 = .ok (.iconst 1, 1) := by decide +kernel
theorem dX12_stays_181 : decode cX12_stays 181 = .ok (.goto 4, 3) := by decide +kernel
theorem dX12_stays_184 : decode cX12_stays 184 = .ok (.iconst 0, 1) := by decide +kernel
theorem dX12_stays_185 : decode cX12_stays 185 = .ok (.ireturn, 1) := by decide +kernel
theorem dX12_stays_186 : decode cX12_stays 186 = .ok (.aload_n 0, 1) := by decide +kernel
theorem dX12_stays_187 : decode cX12_stays 187 = .ok (.iload_n 2, 1) := by decide +kernel
theorem dX12_stays_188 : decode cX12_stays 188 = .ok (.iconst 1, 1) := by decide +kernel
theorem dX12_stays_189 : decode cX12_stays 189 = .ok (.invokevirtual 50, 3) := by decide +kernel
theorem dX12_stays_192 : decode cX12_stays 192 = .ok (.iconst 2, 1) := by decide +kernel
theorem dX12_stays_193 : decode cX12_stays 193 = .ok (.irem, 1) := by decide +kernel
theorem dX12_stays_194 : decode cX12_stays 194 = .ok (.iconst 1, 1) := by decide +kernel
theorem dX12_stays_195 : decode cX12_stays 195 = .ok (.if_icmp .ne 7, 3) := by decide +kernel
theorem dX12_stays_198 : decode cX12_stays 198 = .ok (.iconst 1, 1) := by decide +kernel
theorem dX12_stays_199 : decode cX12_stays 199 = .ok (.goto 4, 3) := by decide +kernel
theorem dX12_stays_202 : decode cX12_stays 202 = .ok (.iconst 0, 1) := by decide +kernel
theorem dX12_stays_203 : decode cX12_stays 203 = .ok (.ireturn, 1) := by decide +kernel
theorem dX12_stays_204 : decode cX12_stays 204 = .ok (.iload_n 3, 1) := by decide +kernel
theorem dX12_stays_205 : decode cX12_stays 205 = .ok (.iload 4, 2) := by decide +kernel
theorem dX12_stays_207 : decode cX12_stays 207 = .ok (.irem, 1) := by decide +kernel
theorem dX12_stays_208 : decode cX12_stays 208 = .ok (.ifCond .ne 7, 3) := by decide +kernel
theorem dX12_stays_211 : decode cX12_stays 211 = .ok (.iconst 1, 1) := by decide +kernel
theorem dX12_stays_212 : decode cX12_stays 212 = .ok (.goto 4, 3) := by decide +kernel
theorem dX12_stays_215 : decode cX12_stays 215 = .ok (.iconst 0, 1) := by decide +kernel
theorem dX12_stays_216 : decode cX12_stays 216 = .ok (.ireturn, 1) := by decide +kernel
theorem dX12_stays_217 : decode cX12_stays 217 = .ok (.iload_n 3, 1) := by decide +kernel
theorem dX12_stays_218 : decode cX12_stays 218 = .ok (.iload 4, 2) := by decide +kernel
theorem dX12_stays_220 : decode cX12_stays 220 = .ok (.if_icmp .lt 7, 3) := by decide +kernel
theorem dX12_stays_223 : decode cX12_stays 223 = .ok (.iconst 1, 1) := by decide +kernel
theorem dX12_stays_224 : decode cX12_stays 224 = .ok (.goto 4, 3) := by decide +kernel
theorem dX12_stays_227 : decode cX12_stays 227 = .ok (.iconst 0, 1) := by decide +kernel
theorem dX12_stays_228 : decode cX12_stays 228 = .ok (.ireturn, 1) := by decide +kernel
theorem dX12_stays_229 : decode cX12_stays 229 = .ok (.iload_n 3, 1) := by decide +kernel
theorem dX12_stays_230 : decode cX12_stays 230 = .ok (.iload 4, 2) := by decide +kernel
theorem dX12_stays_232 : decode cX12_stays 232 = .ok (.if_icmp .ge 7, 3) := by decide +kernel
theorem dX12_stays_235 : decode cX12_stays 235 = .ok (.iconst 1, 1) := by decide +kernel
theorem dX12_stays_236 : decode cX12_stays 236 = .ok (.goto 4, 3) := by decide +kernel
theorem dX12_stays_239 : decode cX12_stays 239 = .ok (.iconst 0, 1) := by decide +kernel
theorem dX12_stays_240 : decode cX12_stays 240 = .ok (.ireturn, 1) := by decide +kernel
theorem dX12_stays_241 : decode cX12_stays 241 = .ok (.iconst 1, 1) := by decide +kernel
theorem dX12_stays_242 : decode cX12_stays 242 = .ok (.ireturn, 1) := by decide +kernel
theorem dX12_turns_0 : decode cX12_turns 0 = .ok (.iconst 0, 1) := by decide +kernel
theorem dX12_turns_1 : decode cX12_turns 1 = .ok (.istore_n 1, 1) := by decide +kernel
theorem dX12_turns_2 : decode cX12_turns 2 = .ok (.iload_n 1, 1) := by decide +kernel
theorem dX12_turns_3 : decode cX12_turns 3 = .ok (.aload_n 0, 1) := by decide +kernel
theorem dX12_turns_4 : decode cX12_turns 4 = .ok (.getfield 360, 3) := by decide +kernel
theorem dX12_turns_7 : decode cX12_turns 7 = .ok (.iconst 2, 1) := by decide +kernel
theorem dX12_turns_8 : decode cX12_turns 8 = .ok (.idiv, 1) := by decide +kernel
theorem dX12_turns_9 : decode cX12_turns 9 = .ok (.if_icmp .ge 49, 3) := by decide +kernel
theorem dX12_turns_12 : decode cX12_turns 12 = .ok (.aload_n 0, 1) := by decide +kernel
theorem dX12_turns_13 : decode cX12_turns 13 = .ok (.getfield 47, 3) := by decide +kernel
theorem dX12_turns_16 : decode cX12_turns 16 = .ok (.iload_n 1, 1) := by decide +kernel
theorem dX12_turns_17 : decode cX12_turns 17 = .ok (.iaload, 1) := by decide +kernel
theorem dX12_turns_18 : decode cX12_turns 18 = .ok (.istore_n 2, 1) := by decide +kernel
theorem dX12_turns_19 : decode cX12_turns 19 = .ok (.aload_n 0, 1) := by decide +kernel
theorem dX12_turns_20 : decode cX12_turns 20 = .ok (.getfield 47, 3) := by decide +kernel
theorem dX12_turns_23 : decode cX12_turns 23 = .ok (.iload_n 1, 1) := by decide +kernel
theorem dX12_turns_24 : decode cX12_turns 24 = .ok (.aload_n 0, 1) := by decide +kernel
theorem dX12_turns_25 : decode cX12_turns 25 = .ok (.getfield 47, 3) := by decide +kernel
theorem dX12_turns_28 : decode cX12_turns 28 = .ok (.aload_n 0, 1) := by decide +kernel
theorem dX12_turns_29 : decode cX12_turns 29 = .ok (.getfield 360, 3) := by decide +kernel
theorem dX12_turns_32 : decode cX12_turns 32 = .ok (.iconst 1, 1) := by decide +kernel
theorem dX12_turns_33 : decode cX12_turns 33 = .ok (.isub, 1) := by decide +kernel
theorem dX12_turns_34 : decode cX12_turns 34 = .ok (.iload_n 1, 1) := by decide +kernel
theorem dX12_turns_35 : decode cX12_turns 35 = .ok (.isub, 1) := by decide +kernel
theorem dX12_turns_36 : decode cX12_turns 36 = .ok (.iaload, 1) := by decide +kernel
theorem dX12_turns_37 : decode cX12_turns 37 = .ok (.iastore, 1) := by decide +kernel
theorem dX12_turns_38 : decode cX12_turns 38 = .ok (.aload_n 0, 1) := by decide +kernel
theorem dX12_turns_39 : decode cX12_turns 39 = .ok (.getfield 47, 3) := by decide +kernel
theorem dX12_turns_42 : decode cX12_turns 42 = .ok (.aload_n 0, 1) := by decide +kernel
theorem dX12_turns_43 : decode cX12_turns 43 = .ok (.getfield 360, 3) := by decide +kernel
theorem dX12_turns_46 : decode cX12_turns 46 = .ok (.iconst 1, 1) := by decide +kernel
theorem dX12_turns_47 : decode cX12_turns 47 = .ok (.isub, 1) := by decide +kernel
theorem dX12_turns_48 : decode cX12_turns 48 = .ok (.iload_n 1, 1) := by decide +kernel
theorem dX12_turns_49 : decode cX12_turns 49 = .ok (.isub, 1) := by decide +kernel
theorem dX12_turns_50 : decode cX12_turns 50 = .ok (.iload_n 2, 1) := by decide +kernel
theorem dX12_turns_51 : decode cX12_turns 51 = .ok (.iastore, 1) := by decide +kernel
theorem dX12_turns_52 : decode cX12_turns 52 = .ok (.iinc 1 1, 3) := by decide +kernel
theorem dX12_turns_55 : decode cX12_turns 55 = .ok (.goto (-53), 3) := by decide +kernel
theorem dX12_turns_58 : decode cX12_turns 58 = .ok (.return_, 1) := by decide +kernel
set_option maxRecDepth 20000 in
theorem ggX12_goesStep_X12_stays : GoodIn wsX12_goesStep wsX12_stays := goodIn_r _ [10, 1, 11, 12, 13, 9, 14, 2, 3, 15, 16, 17, 18, 19, 20, 21, 22, 27, 28, 29, 30, 31, 32, 33, 34, 35, 36, 37, 38, 39, 40, 41, 42, 43, 44, 45, 46, 47, 48, 49, 50, 51, 52, 53, 54, 55, 56, 57, 58, 59, 60, 61, 62, 63, 64, 65, 66, 67] (by decide +kernel) (by decide +kernel)
set_option maxRecDepth 20000 in
theorem gX12_goesStep_X12_stays : GoodIn wsX12_goesStep (wsV RX12 363 RX12 yX12_stays wsX12_stays) := goodIn_app (goodIn_of _ (by decide +kernel)) ggX12_goesStep_X12_stays
set_option maxRecDepth 20000 in
theorem ggX12_goesStep_X12_turns : GoodIn wsX12_goesStep wsX12_turns := goodIn_r _ [26, 4, 5, 27, 28, 29, 30, 31, 32, 33, 34, 35, 36, 37, 38, 39, 40, 41, 42, 43, 44, 45, 46, 47, 48, 49, 50, 51, 52, 53, 54, 55, 56, 57, 58, 59, 60, 61, 62, 63, 64, 65, 66, 67] (by decide +kernel) (by decide +kernel)
set_option maxRecDepth 20000 in
theorem gX12_goesStep_X12_turns : GoodIn wsX12_goesStep (wsV RX12 366 RX12 yX12_turns wsX12_turns) := goodIn_app (goodIn_of _ (by decide +kernel)) ggX12_goesStep_X12_turns
theorem dX12_goesStep_0 : decode cX12_goesStep 0 = .ok (.bipush 16, 2) := by decide +kernel
theorem dX12_goesStep_2 : decode cX12_goesStep 2 = .ok (.bipush 28, 2) := by decide +kernel
theorem dX12_goesStep_4 : decode cX12_goesStep 4 = .ok (.iload_n 1, 1) := by decide +kernel
theorem dX12_goesStep_5 : decode cX12_goesStep 5 = .ok (.imul, 1) := by decide +kernel
theorem dX12_goesStep_6 : decode cX12_goesStep 6 = .ok (.iadd, 1) := by decide +kernel
theorem dX12_goesStep_7 : decode cX12_goesStep 7 = .ok (.istore_n 2, 1) := by decide +kernel
theorem dX12_goesStep_8 : decode cX12_goesStep 8 = .ok (.aload_n 0, 1) := by decide +kernel
theorem dX12_goesStep_9 : decode cX12_goesStep 9 = .ok (.aload_n 0, 1) := by decide +kernel
theorem dX12_goesStep_10 : decode cX12_goesStep 10 = .ok (.getfield 7, 3) := by decide +kernel
theorem dX12_goesStep_13 : decode cX12_goesStep 13 = .ok (.iload_n 2, 1) := by decide +kernel
theorem dX12_goesStep_14 : decode cX12_goesStep 14 = .ok (.iconst 2, 1) := by decide +kernel
theorem dX12_goesStep_15 : decode cX12_goesStep 15 = .ok (.iadd, 1) := by decide +kernel
theorem dX12_goesStep_16 : decode cX12_goesStep 16 = .ok (.iaload, 1) := by decide +kernel
theorem dX12_goesStep_17 : decode cX12_goesStep 17 = .ok (.putfield 70, 3) := by decide +kernel
theorem dX12_goesStep_20 : decode cX12_goesStep 20 = .ok (.iconst 0, 1) := by decide +kernel
theorem dX12_goesStep_21 : decode cX12_goesStep 21 = .ok (.istore_n 3, 1) := by decide +kernel
theorem dX12_goesStep_22 : decode cX12_goesStep 22 = .ok (.iload_n 3, 1) := by decide +kernel
theorem dX12_goesStep_23 : decode cX12_goesStep 23 = .ok (.aload_n 0, 1) := by decide +kernel
theorem dX12_goesStep_24 : decode cX12_goesStep 24 = .ok (.getfield 70, 3) := by decide +kernel
theorem dX12_goesStep_27 : decode cX12_goesStep 27 = .ok (.if_icmp .ge 25, 3) := by decide +kernel
theorem dX12_goesStep_30 : decode cX12_goesStep 30 = .ok (.aload_n 0, 1) := by decide +kernel
theorem dX12_goesStep_31 : decode cX12_goesStep 31 = .ok (.getfield 13, 3) := by decide +kernel
theorem dX12_goesStep_34 : decode cX12_goesStep 34 = .ok (.iload_n 3, 1) := by decide +kernel
theorem dX12_goesStep_35 : decode cX12_goesStep 35 = .ok (.aload_n 0, 1) := by decide +kernel
theorem dX12_goesStep_36 : decode cX12_goesStep 36 = .ok (.getfield 7, 3) := by decide +kernel
theorem dX12_goesStep_39 : decode cX12_goesStep 39 = .ok (.iload_n 2, 1) := by decide +kernel
theorem dX12_goesStep_40 : decode cX12_goesStep 40 = .ok (.iconst 3, 1) := by decide +kernel
theorem dX12_goesStep_41 : decode cX12_goesStep 41 = .ok (.iadd, 1) := by decide +kernel
theorem dX12_goesStep_42 : decode cX12_goesStep 42 = .ok (.iload_n 3, 1) := by decide +kernel
theorem dX12_goesStep_43 : decode cX12_goesStep 43 = .ok (.iadd, 1) := by decide +kernel
theorem dX12_goesStep_44 : decode cX12_goesStep 44 = .ok (.iaload, 1) := by decide +kernel
theorem dX12_goesStep_45 : decode cX12_goesStep 45 = .ok (.iastore, 1) := by decide +kernel
theorem dX12_goesStep_46 : decode cX12_goesStep 46 = .ok (.iinc 3 1, 3) := by decide +kernel
theorem dX12_goesStep_49 : decode cX12_goesStep 49 = .ok (.goto (-27), 3) := by decide +kernel
theorem dX12_goesStep_52 : decode cX12_goesStep 52 = .ok (.iconst 0, 1) := by decide +kernel
theorem dX12_goesStep_53 : decode cX12_goesStep 53 = .ok (.istore_n 3, 1) := by decide +kernel
theorem dX12_goesStep_54 : decode cX12_goesStep 54 = .ok (.iconst 0, 1) := by decide +kernel
theorem dX12_goesStep_55 : decode cX12_goesStep 55 = .ok (.istore 4, 2) := by decide +kernel
theorem dX12_goesStep_57 : decode cX12_goesStep 57 = .ok (.iload 4, 2) := by decide +kernel
theorem dX12_goesStep_59 : decode cX12_goesStep 59 = .ok (.aload_n 0, 1) := by decide +kernel
theorem dX12_goesStep_60 : decode cX12_goesStep 60 = .ok (.getfield 360, 3) := by decide +kernel
theorem dX12_goesStep_63 : decode cX12_goesStep 63 = .ok (.if_icmp .ge 46, 3) := by decide +kernel
theorem dX12_goesStep_66 : decode cX12_goesStep 66 = .ok (.aload_n 0, 1) := by decide +kernel
theorem dX12_goesStep_67 : decode cX12_goesStep 67 = .ok (.iload_n 1, 1) := by decide +kernel
theorem dX12_goesStep_68 : decode cX12_goesStep 68 = .ok (.aload_n 0, 1) := by decide +kernel
theorem dX12_goesStep_69 : decode cX12_goesStep 69 = .ok (.getfield 47, 3) := by decide +kernel
theorem dX12_goesStep_72 : decode cX12_goesStep 72 = .ok (.iload 4, 2) := by decide +kernel
theorem dX12_goesStep_74 : decode cX12_goesStep 74 = .ok (.iaload, 1) := by decide +kernel
theorem dX12_goesStep_75 : decode cX12_goesStep 75 = .ok (.iload 4, 2) := by decide +kernel
theorem dX12_goesStep_77 : decode cX12_goesStep 77 = .ok (.invokevirtual 363, 3) := by decide +kernel
theorem dX12_goesStep_80 : decode cX12_goesStep 80 = .ok (.ifCond .ne 6, 3) := by decide +kernel
theorem dX12_goesStep_83 : decode cX12_goesStep 83 = .ok (.goto 20, 3) := by decide +kernel
theorem dX12_goesStep_86 : decode cX12_goesStep 86 = .ok (.aload_n 0, 1) := by decide +kernel
theorem dX12_goesStep_87 : decode cX12_goesStep 87 = .ok (.getfield 47, 3) := by decide +kernel
theorem dX12_goesStep_90 : decode cX12_goesStep 90 = .ok (.iload_n 3, 1) := by decide +kernel
theorem dX12_goesStep_91 : decode cX12_goesStep 91 = .ok (.aload_n 0, 1) := by decide +kernel
theorem dX12_goesStep_92 : decode cX12_goesStep 92 = .ok (.getfield 47, 3) := by decide +kernel
theorem dX12_goesStep_95 : decode cX12_goesStep 95 = .ok (.iload 4, 2) := by decide +kernel
theorem dX12_goesStep_97 : decode cX12_goesStep 97 = .ok (.iaload, 1) := by decide +kernel
theorem dX12_goesStep_98 : decode cX12_goesStep 98 = .ok (.iastore, 1) := by decide +kernel
theorem dX12_goesStep_99 : decode cX12_goesStep 99 = .ok (.iload_n 3, 1) := by decide +kernel
theorem dX12_goesStep_100 : decode cX12_goesStep 100 = .ok (.iconst 1, 1) := by decide +kernel
theorem dX12_goesStep_101 : decode cX12_goesStep 101 = .ok (.iadd, 1) := by decide +kernel
theorem dX12_goesStep_102 : decode cX12_goesStep 102 = .ok (.istore_n 3, 1) := by decide +kernel
theorem dX12_goesStep_103 : decode cX12_goesStep 103 = .ok (.iinc 4 1, 3) := by decide +kernel
theorem dX12_goesStep_106 : decode cX12_goesStep 106 = .ok (.goto (-49), 3) := by decide +kernel
theorem dX12_goesStep_109 : decode cX12_goesStep 109 = .ok (.aload_n 0, 1) := by decide +kernel
theorem dX12_goesStep_110 : decode cX12_goesStep 110 = .ok (.iload_n 3, 1) := by decide +kernel
theorem dX12_goesStep_111 : decode cX12_goesStep 111 = .ok (.putfield 360, 3) := by decide +kernel
theorem dX12_goesStep_114 : decode cX12_goesStep 114 = .ok (.aload_n 0, 1) := by decide +kernel
theorem dX12_goesStep_115 : decode cX12_goesStep 115 = .ok (.getfield 7, 3) := by decide +kernel
theorem dX12_goesStep_118 : decode cX12_goesStep 118 = .ok (.iload_n 2, 1) := by decide +kernel
theorem dX12_goesStep_119 : decode cX12_goesStep 119 = .ok (.iaload, 1) := by decide +kernel
theorem dX12_goesStep_120 : decode cX12_goesStep 120 = .ok (.bipush 114, 2) := by decide +kernel
theorem dX12_goesStep_122 : decode cX12_goesStep 122 = .ok (.if_icmp .ne 7, 3) := by decide +kernel
theorem dX12_goesStep_125 : decode cX12_goesStep 125 = .ok (.aload_n 0, 1) := by decide +kernel
theorem dX12_goesStep_126 : decode cX12_goesStep 126 = .ok (.invokevirtual 366, 3) := by decide +kernel
theorem dX12_goesStep_129 : decode cX12_goesStep 129 = .ok (.return_, 1) := by decide +kernel
set_option maxRecDepth 20000 in
theorem ggX12_finds_X12_many : GoodIn wsX12_finds wsX12_many := goodIn_r _ [8, 3, 35, 36, 37, 38, 39, 40, 41, 42, 43, 44, 45, 46, 47, 48, 49, 50, 51, 52, 53, 54, 55, 56, 57, 58, 59, 60, 61, 62, 63, 64, 65, 66, 67, 68, 69, 70, 71, 72, 73, 74, 75] (by decide +kernel) (by decide +kernel)
set_option maxRecDepth 20000 in
theorem gX12_finds_X12_many : GoodIn wsX12_finds (wsV RX12 62 RX12 yX12_many wsX12_many) := goodIn_app (goodIn_of _ (by decide +kernel)) ggX12_finds_X12_many
set_option maxRecDepth 20000 in
theorem ggX12_finds_X12_goesStep : GoodIn wsX12_finds wsX12_goesStep := goodIn_r _ [12, 3, 13, 14, 1, 2, 15, 16, 17, 7, 18, 19, 20, 21, 22, 23, 24, 25, 26, 27, 28, 29, 30, 31, 32, 33, 34, 35, 36, 37, 38, 39, 40, 41, 42, 43, 44, 45, 46, 47, 48, 49, 50, 51, 52, 53, 54, 55, 56, 57, 58, 59, 60, 61, 62, 63, 64, 65, 66, 67, 68, 69, 70, 71, 72, 73, 74, 75] (by decide +kernel) (by decide +kernel)
set_option maxRecDepth 20000 in
theorem gX12_finds_X12_goesStep : GoodIn wsX12_finds (wsV RX12 369 RX12 yX12_goesStep wsX12_goesStep) := goodIn_app (goodIn_of _ (by decide +kernel)) ggX12_finds_X12_goesStep
theorem dX12_finds_0 : decode cX12_finds 0 = .ok (.aload_n 0, 1) := by decide +kernel
theorem dX12_finds_1 : decode cX12_finds 1 = .ok (.aload_n 0, 1) := by decide +kernel
theorem dX12_finds_2 : decode cX12_finds 2 = .ok (.invokevirtual 62, 3) := by decide +kernel
theorem dX12_finds_5 : decode cX12_finds 5 = .ok (.putfield 360, 3) := by decide +kernel
theorem dX12_finds_8 : decode cX12_finds 8 = .ok (.iconst 0, 1) := by decide +kernel
theorem dX12_finds_9 : decode cX12_finds 9 = .ok (.istore_n 1, 1) := by decide +kernel
theorem dX12_finds_10 : decode cX12_finds 10 = .ok (.iload_n 1, 1) := by decide +kernel
theorem dX12_finds_11 : decode cX12_finds 11 = .ok (.aload_n 0, 1) := by decide +kernel
theorem dX12_finds_12 : decode cX12_finds 12 = .ok (.invokevirtual 62, 3) := by decide +kernel
theorem dX12_finds_15 : decode cX12_finds 15 = .ok (.if_icmp .ge 16, 3) := by decide +kernel
theorem dX12_finds_18 : decode cX12_finds 18 = .ok (.aload_n 0, 1) := by decide +kernel
theorem dX12_finds_19 : decode cX12_finds 19 = .ok (.getfield 47, 3) := by decide +kernel
theorem dX12_finds_22 : decode cX12_finds 22 = .ok (.iload_n 1, 1) := by decide +kernel
theorem dX12_finds_23 : decode cX12_finds 23 = .ok (.iload_n 1, 1) := by decide +kernel
theorem dX12_finds_24 : decode cX12_finds 24 = .ok (.iastore, 1) := by decide +kernel
theorem dX12_finds_25 : decode cX12_finds 25 = .ok (.iinc 1 1, 3) := by decide +kernel
theorem dX12_finds_28 : decode cX12_finds 28 = .ok (.goto (-18), 3) := by decide +kernel
theorem dX12_finds_31 : decode cX12_finds 31 = .ok (.iconst 0, 1) := by decide +kernel
theorem dX12_finds_32 : decode cX12_finds 32 = .ok (.istore_n 1, 1) := by decide +kernel
theorem dX12_finds_33 : decode cX12_finds 33 = .ok (.iload_n 1, 1) := by decide +kernel
theorem dX12_finds_34 : decode cX12_finds 34 = .ok (.aload_n 0, 1) := by decide +kernel
theorem dX12_finds_35 : decode cX12_finds 35 = .ok (.getfield 7, 3) := by decide +kernel
theorem dX12_finds_38 : decode cX12_finds 38 = .ok (.bipush 7, 2) := by decide +kernel
theorem dX12_finds_40 : decode cX12_finds 40 = .ok (.iaload, 1) := by decide +kernel
theorem dX12_finds_41 : decode cX12_finds 41 = .ok (.if_icmp .ge 14, 3) := by decide +kernel
theorem dX12_finds_44 : decode cX12_finds 44 = .ok (.aload_n 0, 1) := by decide +kernel
theorem dX12_finds_45 : decode cX12_finds 45 = .ok (.iload_n 1, 1) := by decide +kernel
theorem dX12_finds_46 : decode cX12_finds 46 = .ok (.invokevirtual 369, 3) := by decide +kernel
theorem dX12_finds_49 : decode cX12_finds 49 = .ok (.iinc 1 1, 3) := by decide +kernel
theorem dX12_finds_52 : decode cX12_finds 52 = .ok (.goto (-19), 3) := by decide +kernel
theorem dX12_finds_55 : decode cX12_finds 55 = .ok (.return_, 1) := by decide +kernel
set_option maxRecDepth 20000 in
theorem ggX12_unlikeValues_X12_of : GoodIn wsX12_unlikeValues wsX12_of := goodIn_r _ [7, 8, 9, 10, 11, 12, 13, 14, 15, 16, 17, 18, 19, 20, 21, 22, 23, 24, 25, 26, 27, 28, 29, 30, 31, 32, 33, 34, 35, 36, 37, 38, 39, 40, 41, 42, 43, 44, 45, 46, 47, 48, 49] (by decide +kernel) (by decide +kernel)
set_option maxRecDepth 20000 in
theorem gX12_unlikeValues_X12_of : GoodIn wsX12_unlikeValues (wsV RX12 50 RX12 yX12_of wsX12_of) := goodIn_app (goodIn_of _ (by decide +kernel)) ggX12_unlikeValues_X12_of
theorem dX12_unlikeValues_0 : decode cX12_unlikeValues 0 = .ok (.iconst 0, 1) := by decide +kernel
theorem dX12_unlikeValues_1 : decode cX12_unlikeValues 1 = .ok (.istore_n 1, 1) := by decide +kernel
theorem dX12_unlikeValues_2 : decode cX12_unlikeValues 2 = .ok (.iconst 0, 1) := by decide +kernel
theorem dX12_unlikeValues_3 : decode cX12_unlikeValues 3 = .ok (.istore_n 2, 1) := by decide +kernel
theorem dX12_unlikeValues_4 : decode cX12_unlikeValues 4 = .ok (.iload_n 2, 1) := by decide +kernel
theorem dX12_unlikeValues_5 : decode cX12_unlikeValues 5 = .ok (.aload_n 0, 1) := by decide +kernel
theorem dX12_unlikeValues_6 : decode cX12_unlikeValues 6 = .ok (.getfield 360, 3) := by decide +kernel
theorem dX12_unlikeValues_9 : decode cX12_unlikeValues 9 = .ok (.if_icmp .ge 70, 3) := by decide +kernel
theorem dX12_unlikeValues_12 : decode cX12_unlikeValues 12 = .ok (.iconst 1, 1) := by decide +kernel
theorem dX12_unlikeValues_13 : decode cX12_unlikeValues 13 = .ok (.istore_n 3, 1) := by decide +kernel
theorem dX12_unlikeValues_14 : decode cX12_unlikeValues 14 = .ok (.iconst 0, 1) := by decide +kernel
theorem dX12_unlikeValues_15 : decode cX12_unlikeValues 15 = .ok (.istore 4, 2) := by decide +kernel
theorem dX12_unlikeValues_17 : decode cX12_unlikeValues 17 = .ok (.iload 4, 2) := by decide +kernel
theorem dX12_unlikeValues_19 : decode cX12_unlikeValues 19 = .ok (.iload_n 2, 1) := by decide +kernel
theorem dX12_unlikeValues_20 : decode cX12_unlikeValues 20 = .ok (.if_icmp .ge 45, 3) := by decide +kernel
theorem dX12_unlikeValues_23 : decode cX12_unlikeValues 23 = .ok (.iload_n 3, 1) := by decide +kernel
theorem dX12_unlikeValues_24 : decode cX12_unlikeValues 24 = .ok (.ifCond .eq 33, 3) := by decide +kernel
theorem dX12_unlikeValues_27 : decode cX12_unlikeValues 27 = .ok (.aload_n 0, 1) := by decide +kernel
theorem dX12_unlikeValues_28 : decode cX12_unlikeValues 28 = .ok (.aload_n 0, 1) := by decide +kernel
theorem dX12_unlikeValues_29 : decode cX12_unlikeValues 29 = .ok (.getfield 47, 3) := by decide +kernel
theorem dX12_unlikeValues_32 : decode cX12_unlikeValues 32 = .ok (.iload 4, 2) := by decide +kernel
theorem dX12_unlikeValues_34 : decode cX12_unlikeValues 34 = .ok (.iaload, 1) := by decide +kernel
theorem dX12_unlikeValues_35 : decode cX12_unlikeValues 35 = .ok (.iconst 1, 1) := by decide +kernel
theorem dX12_unlikeValues_36 : decode cX12_unlikeValues 36 = .ok (.invokevirtual 50, 3) := by decide +kernel
theorem dX12_unlikeValues_39 : decode cX12_unlikeValues 39 = .ok (.aload_n 0, 1) := by decide +kernel
theorem dX12_unlikeValues_40 : decode cX12_unlikeValues 40 = .ok (.aload_n 0, 1) := by decide +kernel
theorem dX12_unlikeValues_41 : decode cX12_unlikeValues 41 = .ok (.getfield 47, 3) := by decide +kernel
theorem dX12_unlikeValues_44 : decode cX12_unlikeValues 44 = .ok (.iload_n 2, 1) := by decide +kernel
theorem dX12_unlikeValues_45 : decode cX12_unlikeValues 45 = .ok (.iaload, 1) := by decide +kernel
theorem dX12_unlikeValues_46 : decode cX12_unlikeValues 46 = .ok (.iconst 1, 1) := by decide +kernel
theorem dX12_unlikeValues_47 : decode cX12_unlikeValues 47 = .ok (.invokevirtual 50, 3) := by decide +kernel
theorem dX12_unlikeValues_50 : decode cX12_unlikeValues 50 = .ok (.if_icmp .eq 7, 3) := by decide +kernel
theorem dX12_unlikeValues_53 : decode cX12_unlikeValues 53 = .ok (.iconst 1, 1) := by decide +kernel
theorem dX12_unlikeValues_54 : decode cX12_unlikeValues 54 = .ok (.goto 4, 3) := by decide +kernel
theorem dX12_unlikeValues_57 : decode cX12_unlikeValues 57 = .ok (.iconst 0, 1) := by decide +kernel
theorem dX12_unlikeValues_58 : decode cX12_unlikeValues 58 = .ok (.istore_n 3, 1) := by decide +kernel
theorem dX12_unlikeValues_59 : decode cX12_unlikeValues 59 = .ok (.iinc 4 1, 3) := by decide +kernel
theorem dX12_unlikeValues_62 : decode cX12_unlikeValues 62 = .ok (.goto (-45), 3) := by decide +kernel
theorem dX12_unlikeValues_65 : decode cX12_unlikeValues 65 = .ok (.iload_n 3, 1) := by decide +kernel
theorem dX12_unlikeValues_66 : decode cX12_unlikeValues 66 = .ok (.ifCond .eq 7, 3) := by decide +kernel
theorem dX12_unlikeValues_69 : decode cX12_unlikeValues 69 = .ok (.iload_n 1, 1) := by decide +kernel
theorem dX12_unlikeValues_70 : decode cX12_unlikeValues 70 = .ok (.iconst 1, 1) := by decide +kernel
theorem dX12_unlikeValues_71 : decode cX12_unlikeValues 71 = .ok (.iadd, 1) := by decide +kernel
theorem dX12_unlikeValues_72 : decode cX12_unlikeValues 72 = .ok (.istore_n 1, 1) := by decide +kernel
theorem dX12_unlikeValues_73 : decode cX12_unlikeValues 73 = .ok (.iinc 2 1, 3) := by decide +kernel
theorem dX12_unlikeValues_76 : decode cX12_unlikeValues 76 = .ok (.goto (-72), 3) := by decide +kernel
theorem dX12_unlikeValues_79 : decode cX12_unlikeValues 79 = .ok (.iload_n 1, 1) := by decide +kernel
theorem dX12_unlikeValues_80 : decode cX12_unlikeValues 80 = .ok (.ireturn, 1) := by decide +kernel
set_option maxRecDepth 20000 in
theorem ggX12_found_X12_in : GoodIn wsX12_found wsX12_in := goodIn_r _ [7] (by decide +kernel) (by decide +kernel)
set_option maxRecDepth 20000 in
theorem gX12_found_X12_in : GoodIn wsX12_found (va_wsS RX12 66 yX12_in wsX12_in) := goodIn_app (goodIn_of _ (by decide +kernel)) ggX12_found_X12_in
set_option maxRecDepth 20000 in
theorem ggX12_found_X12_finds : GoodIn wsX12_found wsX12_finds := goodIn_r _ [11, 2, 3, 12, 13, 14, 15, 6, 16, 17, 18, 19, 20, 21, 22, 23, 24, 25, 26, 27, 28, 29, 30, 31, 32, 33, 34, 35, 36, 37, 38, 39, 40, 41, 42, 53, 54, 55, 56, 57, 58, 59, 60, 61, 62, 63, 64, 65, 66, 67, 68, 69, 70, 71, 72, 73, 74, 75, 76, 77, 78, 79, 80, 81, 82, 83, 84, 85, 86, 87, 88, 89, 90, 91, 92, 93] (by decide +kernel) (by decide +kernel)
set_option maxRecDepth 20000 in
theorem gX12_found_X12_finds : GoodIn wsX12_found (wsV RX12 357 RX12 yX12_finds wsX12_finds) := goodIn_app (goodIn_of _ (by decide +kernel)) ggX12_found_X12_finds
set_option maxRecDepth 20000 in
theorem ggX12_found_X12_of : GoodIn wsX12_found wsX12_of := goodIn_r _ [34, 12, 53, 54, 55, 56, 57, 58, 59, 60, 61, 62, 63, 64, 65, 66, 67, 68, 69, 70, 71, 72, 73, 74, 75, 76, 77, 78, 79, 80, 81, 82, 83, 84, 85, 86, 87, 88, 89, 90, 91, 92, 93] (by decide +kernel) (by decide +kernel)
set_option maxRecDepth 20000 in
theorem gX12_found_X12_of : GoodIn wsX12_found (wsV RX12 50 RX12 yX12_of wsX12_of) := goodIn_app (goodIn_of _ (by decide +kernel)) ggX12_found_X12_of
set_option maxRecDepth 20000 in
theorem ggX12_found_X12_max : GoodIn wsX12_found wsX12_max := goodIn_r _ [45] (by decide +kernel) (by decide +kernel)
set_option maxRecDepth 20000 in
theorem gX12_found_X12_max : GoodIn wsX12_found (va_wsS RX12 279 yX12_max wsX12_max) := goodIn_app (goodIn_of _ (by decide +kernel)) ggX12_found_X12_max
set_option maxRecDepth 20000 in
theorem ggX12_found_X12_min : GoodIn wsX12_found wsX12_min := goodIn_r _ [48] (by decide +kernel) (by decide +kernel)
set_option maxRecDepth 20000 in
theorem gX12_found_X12_min : GoodIn wsX12_found (va_wsS RX12 246 yX12_min wsX12_min) := goodIn_app (goodIn_of _ (by decide +kernel)) ggX12_found_X12_min
set_option maxRecDepth 20000 in
theorem ggX12_found_X12_unlikeValues : GoodIn wsX12_found wsX12_unlikeValues := goodIn_r _ [52, 2, 3, 31, 32, 33, 6, 34, 12, 53, 54, 55, 56, 57, 58, 59, 60, 61, 62, 63, 64, 65, 66, 67, 68, 69, 70, 71, 72, 73, 74, 75, 76, 77, 78, 79, 80, 81, 82, 83, 84, 85, 86, 87, 88, 89, 90, 91, 92, 93] (by decide +kernel) (by decide +kernel)
set_option maxRecDepth 20000 in
theorem gX12_found_X12_unlikeValues : GoodIn wsX12_found (wsV RX12 373 RX12 yX12_unlikeValues wsX12_unlikeValues) := goodIn_app (goodIn_of _ (by decide +kernel)) ggX12_found_X12_unlikeValues
theorem dX12_found_0 : decode cX12_found 0 = .ok (.iload_n 1, 1) := by decide +kernel
theorem dX12_found_1 : decode cX12_found 1 = .ok (.iconst 0, 1) := by decide +kernel
theorem dX12_found_2 : decode cX12_found 2 = .ok (.iconst 5, 1) := by decide +kernel
theorem dX12_found_3 : decode cX12_found 3 = .ok (.invokestatic 66, 3) := by decide +kernel
theorem dX12_found_6 : decode cX12_found 6 = .ok (.ifCond .ne 5, 3) := by decide +kernel
theorem dX12_found_9 : decode cX12_found 9 = .ok (.iconst (-1), 1) := by decide +kernel
theorem dX12_found_10 : decode cX12_found 10 = .ok (.ireturn, 1) := by decide +kernel
theorem dX12_found_11 : decode cX12_found 11 = .ok (.aload_n 0, 1) := by decide +kernel
theorem dX12_found_12 : decode cX12_found 12 = .ok (.invokevirtual 357, 3) := by decide +kernel
theorem dX12_found_15 : decode cX12_found 15 = .ok (.iconst 0, 1) := by decide +kernel
theorem dX12_found_16 : decode cX12_found 16 = .ok (.istore_n 2, 1) := by decide +kernel
theorem dX12_found_17 : decode cX12_found 17 = .ok (.iconst 0, 1) := by decide +kernel
theorem dX12_found_18 : decode cX12_found 18 = .ok (.istore_n 3, 1) := by decide +kernel
theorem dX12_found_19 : decode cX12_found 19 = .ok (.bipush (-2), 2) := by decide +kernel
theorem dX12_found_21 : decode cX12_found 21 = .ok (.istore 4, 2) := by decide +kernel
theorem dX12_found_23 : decode cX12_found 23 = .ok (.ldc_w 372, 3) := by decide +kernel
theorem dX12_found_26 : decode cX12_found 26 = .ok (.istore 5, 2) := by decide +kernel
theorem dX12_found_28 : decode cX12_found 28 = .ok (.iconst 0, 1) := by decide +kernel
theorem dX12_found_29 : decode cX12_found 29 = .ok (.istore 6, 2) := by decide +kernel
theorem dX12_found_31 : decode cX12_found 31 = .ok (.iload 6, 2) := by decide +kernel
theorem dX12_found_33 : decode cX12_found 33 = .ok (.aload_n 0, 1) := by decide +kernel
theorem dX12_found_34 : decode cX12_found 34 = .ok (.getfield 360, 3) := by decide +kernel
theorem dX12_found_37 : decode cX12_found 37 = .ok (.if_icmp .ge 61, 3) := by decide +kernel
theorem dX12_found_40 : decode cX12_found 40 = .ok (.aload_n 0, 1) := by decide +kernel
theorem dX12_found_41 : decode cX12_found 41 = .ok (.aload_n 0, 1) := by decide +kernel
theorem dX12_found_42 : decode cX12_found 42 = .ok (.getfield 47, 3) := by decide +kernel
theorem dX12_found_45 : decode cX12_found 45 = .ok (.iload 6, 2) := by decide +kernel
theorem dX12_found_47 : decode cX12_found 47 = .ok (.iaload, 1) := by decide +kernel
theorem dX12_found_48 : decode cX12_found 48 = .ok (.iconst 1, 1) := by decide +kernel
theorem dX12_found_49 : decode cX12_found 49 = .ok (.invokevirtual 50, 3) := by decide +kernel
theorem dX12_found_52 : decode cX12_found 52 = .ok (.istore 7, 2) := by decide +kernel
theorem dX12_found_54 : decode cX12_found 54 = .ok (.iload_n 2, 1) := by decide +kernel
theorem dX12_found_55 : decode cX12_found 55 = .ok (.iload 7, 2) := by decide +kernel
theorem dX12_found_57 : decode cX12_found 57 = .ok (.iadd, 1) := by decide +kernel
theorem dX12_found_58 : decode cX12_found 58 = .ok (.istore_n 2, 1) := by decide +kernel
theorem dX12_found_59 : decode cX12_found 59 = .ok (.iload_n 3, 1) := by decide +kernel
theorem dX12_found_60 : decode cX12_found 60 = .ok (.aload_n 0, 1) := by decide +kernel
theorem dX12_found_61 : decode cX12_found 61 = .ok (.aload_n 0, 1) := by decide +kernel
theorem dX12_found_62 : decode cX12_found 62 = .ok (.getfield 47, 3) := by decide +kernel
theorem dX12_found_65 : decode cX12_found 65 = .ok (.iload 6, 2) := by decide +kernel
theorem dX12_found_67 : decode cX12_found 67 = .ok (.iaload, 1) := by decide +kernel
theorem dX12_found_68 : decode cX12_found 68 = .ok (.iconst 0, 1) := by decide +kernel
theorem dX12_found_69 : decode cX12_found 69 = .ok (.invokevirtual 50, 3) := by decide +kernel
theorem dX12_found_72 : decode cX12_found 72 = .ok (.iadd, 1) := by decide +kernel
theorem dX12_found_73 : decode cX12_found 73 = .ok (.istore_n 3, 1) := by decide +kernel
theorem dX12_found_74 : decode cX12_found 74 = .ok (.iload 4, 2) := by decide +kernel
theorem dX12_found_76 : decode cX12_found 76 = .ok (.iload 7, 2) := by decide +kernel
theorem dX12_found_78 : decode cX12_found 78 = .ok (.invokestatic 279, 3) := by decide +kernel
theorem dX12_found_81 : decode cX12_found 81 = .ok (.istore 4, 2) := by decide +kernel
theorem dX12_found_83 : decode cX12_found 83 = .ok (.iload 5, 2) := by decide +kernel
theorem dX12_found_85 : decode cX12_found 85 = .ok (.iload 7, 2) := by decide +kernel
theorem dX12_found_87 : decode cX12_found 87 = .ok (.invokestatic 246, 3) := by decide +kernel
theorem dX12_found_90 : decode cX12_found 90 = .ok (.istore 5, 2) := by decide +kernel
theorem dX12_found_92 : decode cX12_found 92 = .ok (.iinc 6 1, 3) := by decide +kernel
theorem dX12_found_95 : decode cX12_found 95 = .ok (.goto (-64), 3) := by decide +kernel
theorem dX12_found_98 : decode cX12_found 98 = .ok (.iload_n 1, 1) := by decide +kernel
theorem dX12_found_99 : decode cX12_found 99 = .ok (.tableswitch 61 0 4 #[33, 38, 40, 43, 59], 33) := by decide +kernel
theorem dX12_found_132 : decode cX12_found 132 = .ok (.aload_n 0, 1) := by decide +kernel
theorem dX12_found_133 : decode cX12_found 133 = .ok (.getfield 360, 3) := by decide +kernel
theorem dX12_found_136 : decode cX12_found 136 = .ok (.ireturn, 1) := by decide +kernel
theorem dX12_found_137 : decode cX12_found 137 = .ok (.iload_n 2, 1) := by decide +kernel
theorem dX12_found_138 : decode cX12_found 138 = .ok (.ireturn, 1) := by decide +kernel
theorem dX12_found_139 : decode cX12_found 139 = .ok (.iload 4, 2) := by decide +kernel
theorem dX12_found_141 : decode cX12_found 141 = .ok (.ireturn, 1) := by decide +kernel
theorem dX12_found_142 : decode cX12_found 142 = .ok (.iload 5, 2) := by decide +kernel
theorem dX12_found_144 : decode cX12_found 144 = .ok (.ldc_w 372, 3) := by decide +kernel
theorem dX12_found_147 : decode cX12_found 147 = .ok (.if_icmp .ne 8, 3) := by decide +kernel
theorem dX12_found_150 : decode cX12_found 150 = .ok (.bipush (-2), 2) := by decide +kernel
theorem dX12_found_152 : decode cX12_found 152 = .ok (.goto 5, 3) := by decide +kernel
theorem dX12_found_155 : decode cX12_found 155 = .ok (.iload 5, 2) := by decide +kernel
theorem dX12_found_157 : decode cX12_found 157 = .ok (.ireturn, 1) := by decide +kernel
theorem dX12_found_158 : decode cX12_found 158 = .ok (.iload_n 3, 1) := by decide +kernel
theorem dX12_found_159 : decode cX12_found 159 = .ok (.ireturn, 1) := by decide +kernel
theorem dX12_found_160 : decode cX12_found 160 = .ok (.aload_n 0, 1) := by decide +kernel
theorem dX12_found_161 : decode cX12_found 161 = .ok (.invokevirtual 373, 3) := by decide +kernel
theorem dX12_found_164 : decode cX12_found 164 = .ok (.ireturn, 1) := by decide +kernel
set_option maxRecDepth 20000 in
theorem ggX12_foundAt_X12_finds : GoodIn wsX12_foundAt wsX12_finds := goodIn_r _ [7, 1, 2, 8, 9, 10, 11, 6, 12, 13, 14, 15, 16, 17, 18, 19, 20, 21, 22, 23, 24, 25, 26, 27, 28, 29, 30, 31, 32, 33, 34, 35, 36, 37, 38, 39, 40, 41, 42, 43, 44, 45, 46, 47, 48, 49, 50, 51, 52, 53, 54, 55, 56, 57, 58, 59, 60, 61, 62, 63, 64, 65, 66, 67, 68, 69, 70, 71, 72, 73, 74, 75, 76, 77, 78, 79] (by decide +kernel) (by decide +kernel)
set_option maxRecDepth 20000 in
theorem gX12_foundAt_X12_finds : GoodIn wsX12_foundAt (wsV RX12 357 RX12 yX12_finds wsX12_finds) := goodIn_app (goodIn_of _ (by decide +kernel)) ggX12_foundAt_X12_finds
theorem dX12_foundAt_0 : decode cX12_foundAt 0 = .ok (.iload_n 1, 1) := by decide +kernel
theorem dX12_foundAt_1 : decode cX12_foundAt 1 = .ok (.ifCond .ge 5, 3) := by decide +kernel
theorem dX12_foundAt_4 : decode cX12_foundAt 4 = .ok (.iconst (-1), 1) := by decide +kernel
theorem dX12_foundAt_5 : decode cX12_foundAt 5 = .ok (.ireturn, 1) := by decide +kernel
theorem dX12_foundAt_6 : decode cX12_foundAt 6 = .ok (.aload_n 0, 1) := by decide +kernel
theorem dX12_foundAt_7 : decode cX12_foundAt 7 = .ok (.invokevirtual 357, 3) := by decide +kernel
theorem dX12_foundAt_10 : decode cX12_foundAt 10 = .ok (.iload_n 1, 1) := by decide +kernel
theorem dX12_foundAt_11 : decode cX12_foundAt 11 = .ok (.aload_n 0, 1) := by decide +kernel
theorem dX12_foundAt_12 : decode cX12_foundAt 12 = .ok (.getfield 360, 3) := by decide +kernel
theorem dX12_foundAt_15 : decode cX12_foundAt 15 = .ok (.if_icmp .ge 12, 3) := by decide +kernel
theorem dX12_foundAt_18 : decode cX12_foundAt 18 = .ok (.aload_n 0, 1) := by decide +kernel
theorem dX12_foundAt_19 : decode cX12_foundAt 19 = .ok (.getfield 47, 3) := by decide +kernel
theorem dX12_foundAt_22 : decode cX12_foundAt 22 = .ok (.iload_n 1, 1) := by decide +kernel
theorem dX12_foundAt_23 : decode cX12_foundAt 23 = .ok (.iaload, 1) := by decide +kernel
theorem dX12_foundAt_24 : decode cX12_foundAt 24 = .ok (.goto 5, 3) := by decide +kernel
theorem dX12_foundAt_27 : decode cX12_foundAt 27 = .ok (.bipush (-4), 2) := by decide +kernel
theorem dX12_foundAt_29 : decode cX12_foundAt 29 = .ok (.ireturn, 1) := by decide +kernel
set_option maxRecDepth 20000 in
theorem ggX12_takeFound_X12_finds : GoodIn wsX12_takeFound wsX12_finds := goodIn_r _ [7, 1, 2, 8, 9, 10, 11, 6, 12, 13, 14, 15, 16, 17, 18, 19, 20, 21, 22, 23, 24, 25, 26, 27, 28, 29, 30, 31, 32, 33, 34, 35, 36, 37, 38, 107, 108, 109, 110, 111, 112, 113, 114, 115, 116, 117, 118, 119, 120, 121, 122, 123, 124, 125, 126, 127, 128, 129, 130, 131, 132, 133, 134, 135, 136, 137, 138, 139, 140, 141, 142, 143, 144, 145, 146, 147] (by decide +kernel) (by decide +kernel)
set_option maxRecDepth 20000 in
theorem gX12_takeFound_X12_finds : GoodIn wsX12_takeFound (wsV RX12 357 RX12 yX12_finds wsX12_finds) := goodIn_app (goodIn_of _ (by decide +kernel)) ggX12_takeFound_X12_finds
set_option maxRecDepth 20000 in
theorem ggX12_takeFound_X12_goes : GoodIn wsX12_takeFound wsX12_goes := goodIn_r _ [42, 8, 43, 44, 45, 46, 47, 6, 48, 17, 49, 50, 51, 52, 18, 27, 28, 29, 30, 31, 32, 33, 34, 53, 54, 55, 56, 9, 10, 11, 12, 57, 58, 59, 60, 61, 62, 63, 64, 65, 66, 67, 68, 69, 70, 71, 72, 73, 74, 75, 76, 77, 78, 79, 80, 81, 82, 83, 84, 85, 86, 87, 88, 89, 90, 91, 92, 93, 94, 95, 96, 97, 98, 99, 100, 101, 102, 103, 104, 105, 106, 107, 108, 109, 110, 111, 112, 113, 114, 115, 116, 117, 118, 119, 120, 121, 122, 123, 124, 125, 126, 127, 128, 129, 130, 131, 132, 133, 134, 135, 136, 137, 138, 139, 140, 141, 142, 143, 144, 145, 146, 147] (by decide +kernel) (by decide +kernel)
set_option maxRecDepth 20000 in
theorem gX12_takeFound_X12_goes : GoodIn wsX12_takeFound (wsV RX12 174 RX12 yX12_goes wsX12_goes) := goodIn_app (goodIn_of _ (by decide +kernel)) ggX12_takeFound_X12_goes
theorem dX12_takeFound_0 : decode cX12_takeFound 0 = .ok (.aload_n 0, 1) := by decide +kernel
theorem dX12_takeFound_1 : decode cX12_takeFound 1 = .ok (.invokevirtual 357, 3) := by decide +kernel
theorem dX12_takeFound_4 : decode cX12_takeFound 4 = .ok (.aload_n 0, 1) := by decide +kernel
theorem dX12_takeFound_5 : decode cX12_takeFound 5 = .ok (.getfield 360, 3) := by decide +kernel
theorem dX12_takeFound_8 : decode cX12_takeFound 8 = .ok (.istore_n 1, 1) := by decide +kernel
theorem dX12_takeFound_9 : decode cX12_takeFound 9 = .ok (.iconst 0, 1) := by decide +kernel
theorem dX12_takeFound_10 : decode cX12_takeFound 10 = .ok (.istore_n 2, 1) := by decide +kernel
theorem dX12_takeFound_11 : decode cX12_takeFound 11 = .ok (.iload_n 2, 1) := by decide +kernel
theorem dX12_takeFound_12 : decode cX12_takeFound 12 = .ok (.iload_n 1, 1) := by decide +kernel
theorem dX12_takeFound_13 : decode cX12_takeFound 13 = .ok (.if_icmp .ge 65, 3) := by decide +kernel
theorem dX12_takeFound_16 : decode cX12_takeFound 16 = .ok (.aload_n 0, 1) := by decide +kernel
theorem dX12_takeFound_17 : decode cX12_takeFound 17 = .ok (.getfield 47, 3) := by decide +kernel
theorem dX12_takeFound_20 : decode cX12_takeFound 20 = .ok (.iload_n 2, 1) := by decide +kernel
theorem dX12_takeFound_21 : decode cX12_takeFound 21 = .ok (.iaload, 1) := by decide +kernel
theorem dX12_takeFound_22 : decode cX12_takeFound 22 = .ok (.istore_n 3, 1) := by decide +kernel
theorem dX12_takeFound_23 : decode cX12_takeFound 23 = .ok (.aload_n 0, 1) := by decide +kernel
theorem dX12_takeFound_24 : decode cX12_takeFound 24 = .ok (.iload_n 3, 1) := by decide +kernel
theorem dX12_takeFound_25 : decode cX12_takeFound 25 = .ok (.invokevirtual 174, 3) := by decide +kernel
theorem dX12_takeFound_28 : decode cX12_takeFound 28 = .ok (.iload_n 2, 1) := by decide +kernel
theorem dX12_takeFound_29 : decode cX12_takeFound 29 = .ok (.iconst 1, 1) := by decide +kernel
theorem dX12_takeFound_30 : decode cX12_takeFound 30 = .ok (.iadd, 1) := by decide +kernel
theorem dX12_takeFound_31 : decode cX12_takeFound 31 = .ok (.istore 4, 2) := by decide +kernel
theorem dX12_takeFound_33 : decode cX12_takeFound 33 = .ok (.iload 4, 2) := by decide +kernel
theorem dX12_takeFound_35 : decode cX12_takeFound 35 = .ok (.iload_n 1, 1) := by decide +kernel
theorem dX12_takeFound_36 : decode cX12_takeFound 36 = .ok (.if_icmp .ge 36, 3) := by decide +kernel
theorem dX12_takeFound_39 : decode cX12_takeFound 39 = .ok (.aload_n 0, 1) := by decide +kernel
theorem dX12_takeFound_40 : decode cX12_takeFound 40 = .ok (.getfield 47, 3) := by decide +kernel
theorem dX12_takeFound_43 : decode cX12_takeFound 43 = .ok (.iload 4, 2) := by decide +kernel
theorem dX12_takeFound_45 : decode cX12_takeFound 45 = .ok (.iaload, 1) := by decide +kernel
theorem dX12_takeFound_46 : decode cX12_takeFound 46 = .ok (.iload_n 3, 1) := by decide +kernel
theorem dX12_takeFound_47 : decode cX12_takeFound 47 = .ok (.if_icmp .le 19, 3) := by decide +kernel
theorem dX12_takeFound_50 : decode cX12_takeFound 50 = .ok (.aload_n 0, 1) := by decide +kernel
theorem dX12_takeFound_51 : decode cX12_takeFound 51 = .ok (.getfield 47, 3) := by decide +kernel
theorem dX12_takeFound_54 : decode cX12_takeFound 54 = .ok (.iload 4, 2) := by decide +kernel
theorem dX12_takeFound_56 : decode cX12_takeFound 56 = .ok (.aload_n 0, 1) := by decide +kernel
theorem dX12_takeFound_57 : decode cX12_takeFound 57 = .ok (.getfield 47, 3) := by decide +kernel
theorem dX12_takeFound_60 : decode cX12_takeFound 60 = .ok (.iload 4, 2) := by decide +kernel
theorem dX12_takeFound_62 : decode cX12_takeFound 62 = .ok (.iaload, 1) := by decide +kernel
theorem dX12_takeFound_63 : decode cX12_takeFound 63 = .ok (.iconst 1, 1) := by decide +kernel
theorem dX12_takeFound_64 : decode cX12_takeFound 64 = .ok (.isub, 1) := by decide +kernel
theorem dX12_takeFound_65 : decode cX12_takeFound 65 = .ok (.iastore, 1) := by decide +kernel
theorem dX12_takeFound_66 : decode cX12_takeFound 66 = .ok (.iinc 4 1, 3) := by decide +kernel
theorem dX12_takeFound_69 : decode cX12_takeFound 69 = .ok (.goto (-36), 3) := by decide +kernel
theorem dX12_takeFound_72 : decode cX12_takeFound 72 = .ok (.iinc 2 1, 3) := by decide +kernel
theorem dX12_takeFound_75 : decode cX12_takeFound 75 = .ok (.goto (-64), 3) := by decide +kernel
theorem dX12_takeFound_78 : decode cX12_takeFound 78 = .ok (.iload_n 1, 1) := by decide +kernel
theorem dX12_takeFound_79 : decode cX12_takeFound 79 = .ok (.ireturn, 1) := by decide +kernel
set_option maxRecDepth 20000 in
theorem ggX12_change_X12_in : GoodIn wsX12_change wsX12_in := goodIn_r _ [8] (by decide +kernel) (by decide +kernel)
set_option maxRecDepth 20000 in
theorem gX12_change_X12_in : GoodIn wsX12_change (va_wsS RX12 66 yX12_in wsX12_in) := goodIn_app (goodIn_of _ (by decide +kernel)) ggX12_change_X12_in
set_option maxRecDepth 20000 in
theorem ggX12_change_X12_finds : GoodIn wsX12_change wsX12_finds := goodIn_r _ [12, 2, 3, 13, 14, 15, 16, 7, 17, 18, 19, 20, 21, 22, 23, 24, 25, 26, 27, 28, 29, 30, 31, 32, 33, 34, 35, 36, 37, 38, 39, 40, 41, 42, 43, 48, 49, 50, 51, 52, 53, 54, 55, 56, 57, 58, 59, 60, 61, 62, 63, 64, 65, 66, 67, 68, 69, 70, 71, 72, 73, 74, 75, 76, 77, 78, 79, 80, 81, 82, 83, 84, 85, 86, 87, 88] (by decide +kernel) (by decide +kernel)
set_option maxRecDepth 20000 in
theorem gX12_change_X12_finds : GoodIn wsX12_change (wsV RX12 357 RX12 yX12_finds wsX12_finds) := goodIn_app (goodIn_of _ (by decide +kernel)) ggX12_change_X12_finds
set_option maxRecDepth 20000 in
theorem ggX12_change_X12_of : GoodIn wsX12_change wsX12_of := goodIn_r _ [35, 13, 48, 49, 50, 51, 52, 53, 54, 55, 56, 57, 58, 59, 60, 61, 62, 63, 64, 65, 66, 67, 68, 69, 70, 71, 72, 73, 74, 75, 76, 77, 78, 79, 80, 81, 82, 83, 84, 85, 86, 87, 88] (by decide +kernel) (by decide +kernel)
set_option maxRecDepth 20000 in
theorem gX12_change_X12_of : GoodIn wsX12_change (wsV RX12 50 RX12 yX12_of wsX12_of) := goodIn_app (goodIn_of _ (by decide +kernel)) ggX12_change_X12_of
set_option maxRecDepth 20000 in
theorem ggX12_change_X12_sets : GoodIn wsX12_change wsX12_sets := goodIn_r _ [47, 13, 48, 49, 50, 51, 52, 53, 54, 55, 56, 57, 58, 59, 60, 61, 62, 63, 64, 65, 66, 67, 68, 69, 70, 71, 72, 73, 74, 75, 76, 77, 78, 79, 80, 81, 82, 83, 84, 85, 86, 87, 88] (by decide +kernel) (by decide +kernel)
set_option maxRecDepth 20000 in
theorem gX12_change_X12_sets : GoodIn wsX12_change (wsV RX12 58 RX12 yX12_sets wsX12_sets) := goodIn_app (goodIn_of _ (by decide +kernel)) ggX12_change_X12_sets
theorem dX12_change_0 : decode cX12_change 0 = .ok (.iload_n 1, 1) := by decide +kernel
theorem dX12_change_1 : decode cX12_change 1 = .ok (.iconst 0, 1) := by decide +kernel
theorem dX12_change_2 : decode cX12_change 2 = .ok (.iconst 2, 1) := by decide +kernel
theorem dX12_change_3 : decode cX12_change 3 = .ok (.invokestatic 66, 3) := by decide +kernel
theorem dX12_change_6 : decode cX12_change 6 = .ok (.ifCond .eq 13, 3) := by decide +kernel
theorem dX12_change_9 : decode cX12_change 9 = .ok (.iload_n 2, 1) := by decide +kernel
theorem dX12_change_10 : decode cX12_change 10 = .ok (.iconst 0, 1) := by decide +kernel
theorem dX12_change_11 : decode cX12_change 11 = .ok (.ldc 160, 2) := by decide +kernel
theorem dX12_change_13 : decode cX12_change 13 = .ok (.invokestatic 66, 3) := by decide +kernel
theorem dX12_change_16 : decode cX12_change 16 = .ok (.ifCond .ne 5, 3) := by decide +kernel
theorem dX12_change_19 : decode cX12_change 19 = .ok (.iconst (-1), 1) := by decide +kernel
theorem dX12_change_20 : decode cX12_change 20 = .ok (.ireturn, 1) := by decide +kernel
theorem dX12_change_21 : decode cX12_change 21 = .ok (.aload_n 0, 1) := by decide +kernel
theorem dX12_change_22 : decode cX12_change 22 = .ok (.invokevirtual 357, 3) := by decide +kernel
theorem dX12_change_25 : decode cX12_change 25 = .ok (.iconst 0, 1) := by decide +kernel
theorem dX12_change_26 : decode cX12_change 26 = .ok (.istore_n 3, 1) := by decide +kernel
theorem dX12_change_27 : decode cX12_change 27 = .ok (.iload_n 3, 1) := by decide +kernel
theorem dX12_change_28 : decode cX12_change 28 = .ok (.aload_n 0, 1) := by decide +kernel
theorem dX12_change_29 : decode cX12_change 29 = .ok (.getfield 360, 3) := by decide +kernel
theorem dX12_change_32 : decode cX12_change 32 = .ok (.if_icmp .ge 80, 3) := by decide +kernel
theorem dX12_change_35 : decode cX12_change 35 = .ok (.aload_n 0, 1) := by decide +kernel
theorem dX12_change_36 : decode cX12_change 36 = .ok (.aload_n 0, 1) := by decide +kernel
theorem dX12_change_37 : decode cX12_change 37 = .ok (.getfield 47, 3) := by decide +kernel
theorem dX12_change_40 : decode cX12_change 40 = .ok (.iload_n 3, 1) := by decide +kernel
theorem dX12_change_41 : decode cX12_change 41 = .ok (.iaload, 1) := by decide +kernel
theorem dX12_change_42 : decode cX12_change 42 = .ok (.iconst 1, 1) := by decide +kernel
theorem dX12_change_43 : decode cX12_change 43 = .ok (.invokevirtual 50, 3) := by decide +kernel
theorem dX12_change_46 : decode cX12_change 46 = .ok (.i2l, 1) := by decide +kernel
theorem dX12_change_47 : decode cX12_change 47 = .ok (.lstore 4, 2) := by decide +kernel
theorem dX12_change_49 : decode cX12_change 49 = .ok (.iload_n 1, 1) := by decide +kernel
theorem dX12_change_50 : decode cX12_change 50 = .ok (.ifCond .ne 11, 3) := by decide +kernel
theorem dX12_change_53 : decode cX12_change 53 = .ok (.lload 4, 2) := by decide +kernel
theorem dX12_change_55 : decode cX12_change 55 = .ok (.iload_n 2, 1) := by decide +kernel
theorem dX12_change_56 : decode cX12_change 56 = .ok (.i2l, 1) := by decide +kernel
theorem dX12_change_57 : decode cX12_change 57 = .ok (.ladd, 1) := by decide +kernel
theorem dX12_change_58 : decode cX12_change 58 = .ok (.goto 18, 3) := by decide +kernel
theorem dX12_change_61 : decode cX12_change 61 = .ok (.iload_n 1, 1) := by decide +kernel
theorem dX12_change_62 : decode cX12_change 62 = .ok (.iconst 1, 1) := by decide +kernel
theorem dX12_change_63 : decode cX12_change 63 = .ok (.if_icmp .ne 11, 3) := by decide +kernel
theorem dX12_change_66 : decode cX12_change 66 = .ok (.lload 4, 2) := by decide +kernel
theorem dX12_change_68 : decode cX12_change 68 = .ok (.iload_n 2, 1) := by decide +kernel
theorem dX12_change_69 : decode cX12_change 69 = .ok (.i2l, 1) := by decide +kernel
theorem dX12_change_70 : decode cX12_change 70 = .ok (.lmul, 1) := by decide +kernel
theorem dX12_change_71 : decode cX12_change 71 = .ok (.goto 5, 3) := by decide +kernel
theorem dX12_change_74 : decode cX12_change 74 = .ok (.iload_n 2, 1) := by decide +kernel
theorem dX12_change_75 : decode cX12_change 75 = .ok (.i2l, 1) := by decide +kernel
theorem dX12_change_76 : decode cX12_change 76 = .ok (.lstore 6, 2) := by decide +kernel
theorem dX12_change_78 : decode cX12_change 78 = .ok (.aload_n 0, 1) := by decide +kernel
theorem dX12_change_79 : decode cX12_change 79 = .ok (.aload_n 0, 1) := by decide +kernel
theorem dX12_change_80 : decode cX12_change 80 = .ok (.getfield 47, 3) := by decide +kernel
theorem dX12_change_83 : decode cX12_change 83 = .ok (.iload_n 3, 1) := by decide +kernel
theorem dX12_change_84 : decode cX12_change 84 = .ok (.iaload, 1) := by decide +kernel
theorem dX12_change_85 : decode cX12_change 85 = .ok (.iconst 1, 1) := by decide +kernel
theorem dX12_change_86 : decode cX12_change 86 = .ok (.lload 6, 2) := by decide +kernel
theorem dX12_change_88 : decode cX12_change 88 = .ok (.ldc2_w 376, 3) := by decide +kernel
theorem dX12_change_91 : decode cX12_change 91 = .ok (.lcmp, 1) := by decide +kernel
theorem dX12_change_92 : decode cX12_change 92 = .ok (.ifCond .le 8, 3) := by decide +kernel
theorem dX12_change_95 : decode cX12_change 95 = .ok (.ldc 160, 2) := by decide +kernel
theorem dX12_change_97 : decode cX12_change 97 = .ok (.goto 6, 3) := by decide +kernel
theorem dX12_change_100 : decode cX12_change 100 = .ok (.lload 6, 2) := by decide +kernel
theorem dX12_change_102 : decode cX12_change 102 = .ok (.l2i, 1) := by decide +kernel
theorem dX12_change_103 : decode cX12_change 103 = .ok (.invokevirtual 58, 3) := by decide +kernel
theorem dX12_change_106 : decode cX12_change 106 = .ok (.iinc 3 1, 3) := by decide +kernel
theorem dX12_change_109 : decode cX12_change 109 = .ok (.goto (-82), 3) := by decide +kernel
theorem dX12_change_112 : decode cX12_change 112 = .ok (.aload_n 0, 1) := by decide +kernel
theorem dX12_change_113 : decode cX12_change 113 = .ok (.getfield 360, 3) := by decide +kernel
theorem dX12_change_116 : decode cX12_change 116 = .ok (.ireturn, 1) := by decide +kernel
set_option maxRecDepth 20000 in
theorem ggX12_comesAnew_X12_copies : GoodIn wsX12_comesAnew wsX12_copies := goodIn_r _ [8, 1, 94, 95, 96, 97, 98, 99, 100, 101, 102, 103, 104, 105, 106, 107, 108, 109, 110, 111, 112, 113, 114, 115, 116, 117, 118, 119, 120, 121, 122, 123, 124, 125, 126, 127, 128, 129, 130, 131, 132, 133, 134] (by decide +kernel) (by decide +kernel)
set_option maxRecDepth 20000 in
theorem gX12_comesAnew_X12_copies : GoodIn wsX12_comesAnew (wsV RX12 237 RX12 yX12_copies wsX12_copies) := goodIn_app (goodIn_of _ (by decide +kernel)) ggX12_comesAnew_X12_copies
set_option maxRecDepth 20000 in
theorem ggX12_comesAnew_X12_many : GoodIn wsX12_comesAnew wsX12_many := goodIn_r _ [12, 1, 94, 95, 96, 97, 98, 99, 100, 101, 102, 103, 104, 105, 106, 107, 108, 109, 110, 111, 112, 113, 114, 115, 116, 117, 118, 119, 120, 121, 122, 123, 124, 125, 126, 127, 128, 129, 130, 131, 132, 133, 134] (by decide +kernel) (by decide +kernel)
set_option maxRecDepth 20000 in
theorem gX12_comesAnew_X12_many : GoodIn wsX12_comesAnew (wsV RX12 62 RX12 yX12_many wsX12_many) := goodIn_app (goodIn_of _ (by decide +kernel)) ggX12_comesAnew_X12_many
set_option maxRecDepth 20000 in
theorem ggX12_comesAnew_X12_empties : GoodIn wsX12_comesAnew wsX12_empties := goodIn_r _ [16, 1, 94, 95, 96, 97, 98, 99, 100, 101, 102, 103, 104, 105, 106, 107, 108, 109, 110, 111, 112, 113, 114, 115, 116, 117, 118, 119, 120, 121, 122, 123, 124, 125, 126, 127, 128, 129, 130, 131, 132, 133, 134] (by decide +kernel) (by decide +kernel)
set_option maxRecDepth 20000 in
theorem gX12_comesAnew_X12_empties : GoodIn wsX12_comesAnew (wsV RX12 144 RX12 yX12_empties wsX12_empties) := goodIn_app (goodIn_of _ (by decide +kernel)) ggX12_comesAnew_X12_empties
set_option maxRecDepth 20000 in
theorem ggX12_comesAnew_X12_comes : GoodIn wsX12_comesAnew wsX12_comes := goodIn_r _ [20, 21, 22, 23, 1, 24, 25, 26, 7, 27, 2, 28, 29, 30, 31, 32, 33, 9, 10, 11, 12, 34, 35, 36, 37, 3, 38, 39, 40, 41, 42, 43, 44, 45, 46, 47, 48, 49, 50, 51, 52, 53, 54, 55, 56, 57, 58, 59, 60, 61, 62, 63, 64, 65, 66, 67, 68, 69, 70, 71, 72, 73, 74, 75, 76, 77, 78, 79, 80, 81, 82, 83, 84, 85, 86, 87, 88, 89, 90, 91, 92, 93, 94, 95, 96, 97, 98, 99, 100, 101, 102, 103, 104, 105, 106, 107, 108, 109, 110, 111, 112, 113, 114, 115, 116, 117, 118, 119, 120, 121, 122, 123, 124, 125, 126, 127, 128, 129, 130, 131, 132, 133, 134] (by decide +kernel) (by decide +kernel)
set_option maxRecDepth 20000 in
theorem gX12_comesAnew_X12_comes : GoodIn wsX12_comesAnew (wsV RX12 171 RX12 yX12_comes wsX12_comes) := goodIn_app (goodIn_of _ (by decide +kernel)) ggX12_comesAnew_X12_comes
theorem dX12_comesAnew_0 : decode cX12_comesAnew 0 = .ok (.aload_n 0, 1) := by decide +kernel
theorem dX12_comesAnew_1 : decode cX12_comesAnew 1 = .ok (.iconst 0, 1) := by decide +kernel
theorem dX12_comesAnew_2 : decode cX12_comesAnew 2 = .ok (.iconst 2, 1) := by decide +kernel
theorem dX12_comesAnew_3 : decode cX12_comesAnew 3 = .ok (.invokevirtual 237, 3) := by decide +kernel
theorem dX12_comesAnew_6 : decode cX12_comesAnew 6 = .ok (.aload_n 0, 1) := by decide +kernel
theorem dX12_comesAnew_7 : decode cX12_comesAnew 7 = .ok (.invokevirtual 62, 3) := by decide +kernel
theorem dX12_comesAnew_10 : decode cX12_comesAnew 10 = .ok (.istore_n 3, 1) := by decide +kernel
theorem dX12_comesAnew_11 : decode cX12_comesAnew 11 = .ok (.aload_n 0, 1) := by decide +kernel
theorem dX12_comesAnew_12 : decode cX12_comesAnew 12 = .ok (.iload_n 1, 1) := by decide +kernel
theorem dX12_comesAnew_13 : decode cX12_comesAnew 13 = .ok (.iload_n 2, 1) := by decide +kernel
theorem dX12_comesAnew_14 : decode cX12_comesAnew 14 = .ok (.invokevirtual 144, 3) := by decide +kernel
theorem dX12_comesAnew_17 : decode cX12_comesAnew 17 = .ok (.iconst 0, 1) := by decide +kernel
theorem dX12_comesAnew_18 : decode cX12_comesAnew 18 = .ok (.istore 4, 2) := by decide +kernel
theorem dX12_comesAnew_20 : decode cX12_comesAnew 20 = .ok (.iload 4, 2) := by decide +kernel
theorem dX12_comesAnew_22 : decode cX12_comesAnew 22 = .ok (.iload_n 3, 1) := by decide +kernel
theorem dX12_comesAnew_23 : decode cX12_comesAnew 23 = .ok (.if_icmp .ge 83, 3) := by decide +kernel
theorem dX12_comesAnew_26 : decode cX12_comesAnew 26 = .ok (.sipush 9052, 3) := by decide +kernel
theorem dX12_comesAnew_29 : decode cX12_comesAnew 29 = .ok (.bipush 27, 2) := by decide +kernel
theorem dX12_comesAnew_31 : decode cX12_comesAnew 31 = .ok (.iload 4, 2) := by decide +kernel
theorem dX12_comesAnew_33 : decode cX12_comesAnew 33 = .ok (.imul, 1) := by decide +kernel
theorem dX12_comesAnew_34 : decode cX12_comesAnew 34 = .ok (.iadd, 1) := by decide +kernel
theorem dX12_comesAnew_35 : decode cX12_comesAnew 35 = .ok (.istore 5, 2) := by decide +kernel
theorem dX12_comesAnew_37 : decode cX12_comesAnew 37 = .ok (.aload_n 0, 1) := by decide +kernel
theorem dX12_comesAnew_38 : decode cX12_comesAnew 38 = .ok (.aload_n 0, 1) := by decide +kernel
theorem dX12_comesAnew_39 : decode cX12_comesAnew 39 = .ok (.getfield 7, 3) := by decide +kernel
theorem dX12_comesAnew_42 : decode cX12_comesAnew 42 = .ok (.iload 5, 2) := by decide +kernel
theorem dX12_comesAnew_44 : decode cX12_comesAnew 44 = .ok (.iconst 0, 1) := by decide +kernel
theorem dX12_comesAnew_45 : decode cX12_comesAnew 45 = .ok (.iadd, 1) := by decide +kernel
theorem dX12_comesAnew_46 : decode cX12_comesAnew 46 = .ok (.iaload, 1) := by decide +kernel
theorem dX12_comesAnew_47 : decode cX12_comesAnew 47 = .ok (.putfield 70, 3) := by decide +kernel
theorem dX12_comesAnew_50 : decode cX12_comesAnew 50 = .ok (.iconst 0, 1) := by decide +kernel
theorem dX12_comesAnew_51 : decode cX12_comesAnew 51 = .ok (.istore 6, 2) := by decide +kernel
theorem dX12_comesAnew_53 : decode cX12_comesAnew 53 = .ok (.iload 6, 2) := by decide +kernel
theorem dX12_comesAnew_55 : decode cX12_comesAnew 55 = .ok (.aload_n 0, 1) := by decide +kernel
theorem dX12_comesAnew_56 : decode cX12_comesAnew 56 = .ok (.getfield 70, 3) := by decide +kernel
theorem dX12_comesAnew_59 : decode cX12_comesAnew 59 = .ok (.if_icmp .ge 28, 3) := by decide +kernel
theorem dX12_comesAnew_62 : decode cX12_comesAnew 62 = .ok (.aload_n 0, 1) := by decide +kernel
theorem dX12_comesAnew_63 : decode cX12_comesAnew 63 = .ok (.getfield 13, 3) := by decide +kernel
theorem dX12_comesAnew_66 : decode cX12_comesAnew 66 = .ok (.iload 6, 2) := by decide +kernel
theorem dX12_comesAnew_68 : decode cX12_comesAnew 68 = .ok (.aload_n 0, 1) := by decide +kernel
theorem dX12_comesAnew_69 : decode cX12_comesAnew 69 = .ok (.getfield 7, 3) := by decide +kernel
theorem dX12_comesAnew_72 : decode cX12_comesAnew 72 = .ok (.iload 5, 2) := by decide +kernel
theorem dX12_comesAnew_74 : decode cX12_comesAnew 74 = .ok (.iconst 3, 1) := by decide +kernel
theorem dX12_comesAnew_75 : decode cX12_comesAnew 75 = .ok (.iadd, 1) := by decide +kernel
theorem dX12_comesAnew_76 : decode cX12_comesAnew 76 = .ok (.iload 6, 2) := by decide +kernel
theorem dX12_comesAnew_78 : decode cX12_comesAnew 78 = .ok (.iadd, 1) := by decide +kernel
theorem dX12_comesAnew_79 : decode cX12_comesAnew 79 = .ok (.iaload, 1) := by decide +kernel
theorem dX12_comesAnew_80 : decode cX12_comesAnew 80 = .ok (.iastore, 1) := by decide +kernel
theorem dX12_comesAnew_81 : decode cX12_comesAnew 81 = .ok (.iinc 6 1, 3) := by decide +kernel
theorem dX12_comesAnew_84 : decode cX12_comesAnew 84 = .ok (.goto (-31), 3) := by decide +kernel
theorem dX12_comesAnew_87 : decode cX12_comesAnew 87 = .ok (.aload_n 0, 1) := by decide +kernel
theorem dX12_comesAnew_88 : decode cX12_comesAnew 88 = .ok (.aload_n 0, 1) := by decide +kernel
theorem dX12_comesAnew_89 : decode cX12_comesAnew 89 = .ok (.getfield 7, 3) := by decide +kernel
theorem dX12_comesAnew_92 : decode cX12_comesAnew 92 = .ok (.iload 5, 2) := by decide +kernel
theorem dX12_comesAnew_94 : decode cX12_comesAnew 94 = .ok (.iconst 1, 1) := by decide +kernel
theorem dX12_comesAnew_95 : decode cX12_comesAnew 95 = .ok (.iadd, 1) := by decide +kernel
theorem dX12_comesAnew_96 : decode cX12_comesAnew 96 = .ok (.iaload, 1) := by decide +kernel
theorem dX12_comesAnew_97 : decode cX12_comesAnew 97 = .ok (.invokevirtual 171, 3) := by decide +kernel
theorem dX12_comesAnew_100 : decode cX12_comesAnew 100 = .ok (.iinc 4 1, 3) := by decide +kernel
theorem dX12_comesAnew_103 : decode cX12_comesAnew 103 = .ok (.goto (-83), 3) := by decide +kernel
theorem dX12_comesAnew_106 : decode cX12_comesAnew 106 = .ok (.return_, 1) := by decide +kernel
set_option maxRecDepth 20000 in
theorem ggX12_tried_X12_in : GoodIn wsX12_tried wsX12_in := goodIn_r _ [4] (by decide +kernel) (by decide +kernel)
set_option maxRecDepth 20000 in
theorem gX12_tried_X12_in : GoodIn wsX12_tried (va_wsS RX12 66 yX12_in wsX12_in) := goodIn_app (goodIn_of _ (by decide +kernel)) ggX12_tried_X12_in
set_option maxRecDepth 20000 in
theorem ggX12_tried_X12_comesAnew : GoodIn wsX12_tried wsX12_comesAnew := goodIn_r _ [8, 9, 10, 11, 12, 13, 14, 3, 15, 16, 17, 18, 19, 20, 21, 22, 23, 24, 25, 26, 27, 28, 29, 30, 31, 32, 33, 34, 35, 36, 37, 38, 39, 40, 41, 42, 43, 44, 45, 46, 47, 48, 49, 50, 51, 52, 53, 54, 55, 56, 57, 58, 59, 60, 61, 62, 63, 64, 65, 66, 67, 68, 69, 70, 71, 72, 73, 74, 75, 76, 77, 78, 79, 80, 81, 82, 83, 84, 85, 86, 87, 88, 89, 90, 91, 92, 93, 94, 95, 96, 97, 98, 99, 100, 154, 155, 156, 157, 158, 159, 160, 161, 162, 163, 164, 165, 166, 167, 168, 169, 170, 171, 172, 173, 174, 175, 176, 177, 178, 179, 180, 181, 182, 183, 184, 185, 186, 187, 188, 189, 190, 191, 192, 193, 194] (by decide +kernel) (by decide +kernel)
set_option maxRecDepth 20000 in
theorem gX12_tried_X12_comesAnew : GoodIn wsX12_tried (wsV RX12 378 RX12 yX12_comesAnew wsX12_comesAnew) := goodIn_app (goodIn_of _ (by decide +kernel)) ggX12_tried_X12_comesAnew
set_option maxRecDepth 20000 in
theorem ggX12_tried_X12_sumOf : GoodIn wsX12_tried wsX12_sumOf := goodIn_r _ [104, 105, 106, 107, 108, 109, 110, 111, 9, 112, 113, 114, 3, 115, 16, 17, 18, 19, 45, 46, 47, 48, 116, 117, 118, 119, 35, 36, 120, 121, 122, 123, 10, 11, 49, 50, 51, 52, 37, 38, 39, 40, 41, 42, 43, 44, 69, 70, 71, 72, 28, 73, 30, 74, 75, 76, 77, 124, 125, 126, 127, 128, 129, 130, 131, 90, 91, 92, 93, 94, 95, 96, 132, 133, 134, 135, 136, 137, 138, 139, 140, 141, 142, 143, 144, 145, 146, 147, 148, 149, 150, 151, 152, 153, 154, 155, 156, 157, 158, 159, 160, 161, 162, 163, 164, 165, 166, 167, 168, 169, 170, 171, 172, 173, 174, 175, 176, 177, 178, 179, 180, 181, 182, 183, 184, 185, 186, 187, 188, 189, 190, 191, 192, 193, 194] (by decide +kernel) (by decide +kernel)
set_option maxRecDepth 20000 in
theorem gX12_tried_X12_sumOf : GoodIn wsX12_tried (wsV RX12 294 RX12 yX12_sumOf wsX12_sumOf) := goodIn_app (goodIn_of _ (by decide +kernel)) ggX12_tried_X12_sumOf
set_option maxRecDepth 20000 in
theorem ggX12_tried_X12_copies : GoodIn wsX12_tried wsX12_copies := goodIn_r _ [15, 9, 154, 155, 156, 157, 158, 159, 160, 161, 162, 163, 164, 165, 166, 167, 168, 169, 170, 171, 172, 173, 174, 175, 176, 177, 178, 179, 180, 181, 182, 183, 184, 185, 186, 187, 188, 189, 190, 191, 192, 193, 194] (by decide +kernel) (by decide +kernel)
set_option maxRecDepth 20000 in
theorem gX12_tried_X12_copies : GoodIn wsX12_tried (wsV RX12 237 RX12 yX12_copies wsX12_copies) := goodIn_app (goodIn_of _ (by decide +kernel)) ggX12_tried_X12_copies
theorem dX12_tried_0 : decode cX12_tried 0 = .ok (.iload_n 1, 1) := by decide +kernel
theorem dX12_tried_1 : decode cX12_tried 1 = .ok (.iconst 1, 1) := by decide +kernel
theorem dX12_tried_2 : decode cX12_tried 2 = .ok (.bipush 8, 2) := by decide +kernel
theorem dX12_tried_4 : decode cX12_tried 4 = .ok (.invokestatic 66, 3) := by decide +kernel
theorem dX12_tried_7 : decode cX12_tried 7 = .ok (.ifCond .eq 23, 3) := by decide +kernel
theorem dX12_tried_10 : decode cX12_tried 10 = .ok (.iload_n 2, 1) := by decide +kernel
theorem dX12_tried_11 : decode cX12_tried 11 = .ok (.iconst 2, 1) := by decide +kernel
theorem dX12_tried_12 : decode cX12_tried 12 = .ok (.bipush 8, 2) := by decide +kernel
theorem dX12_tried_14 : decode cX12_tried 14 = .ok (.invokestatic 66, 3) := by decide +kernel
theorem dX12_tried_17 : decode cX12_tried 17 = .ok (.ifCond .eq 13, 3) := by decide +kernel
theorem dX12_tried_20 : decode cX12_tried 20 = .ok (.iload_n 3, 1) := by decide +kernel
theorem dX12_tried_21 : decode cX12_tried 21 = .ok (.iconst 3, 1) := by decide +kernel
theorem dX12_tried_22 : decode cX12_tried 22 = .ok (.bipush 13, 2) := by decide +kernel
theorem dX12_tried_24 : decode cX12_tried 24 = .ok (.invokestatic 66, 3) := by decide +kernel
theorem dX12_tried_27 : decode cX12_tried 27 = .ok (.ifCond .ne 5, 3) := by decide +kernel
theorem dX12_tried_30 : decode cX12_tried 30 = .ok (.iconst (-1), 1) := by decide +kernel
theorem dX12_tried_31 : decode cX12_tried 31 = .ok (.ireturn, 1) := by decide +kernel
theorem dX12_tried_32 : decode cX12_tried 32 = .ok (.aload_n 0, 1) := by decide +kernel
theorem dX12_tried_33 : decode cX12_tried 33 = .ok (.iload_n 1, 1) := by decide +kernel
theorem dX12_tried_34 : decode cX12_tried 34 = .ok (.iload_n 2, 1) := by decide +kernel
theorem dX12_tried_35 : decode cX12_tried 35 = .ok (.invokevirtual 378, 3) := by decide +kernel
theorem dX12_tried_38 : decode cX12_tried 38 = .ok (.aload_n 0, 1) := by decide +kernel
theorem dX12_tried_39 : decode cX12_tried 39 = .ok (.iload_n 3, 1) := by decide +kernel
theorem dX12_tried_40 : decode cX12_tried 40 = .ok (.invokevirtual 294, 3) := by decide +kernel
theorem dX12_tried_43 : decode cX12_tried 43 = .ok (.istore 4, 2) := by decide +kernel
theorem dX12_tried_45 : decode cX12_tried 45 = .ok (.aload_n 0, 1) := by decide +kernel
theorem dX12_tried_46 : decode cX12_tried 46 = .ok (.iconst 2, 1) := by decide +kernel
theorem dX12_tried_47 : decode cX12_tried 47 = .ok (.iconst 0, 1) := by decide +kernel
theorem dX12_tried_48 : decode cX12_tried 48 = .ok (.invokevirtual 237, 3) := by decide +kernel
theorem dX12_tried_51 : decode cX12_tried 51 = .ok (.iload 4, 2) := by decide +kernel
theorem dX12_tried_53 : decode cX12_tried 53 = .ok (.ireturn, 1) := by decide +kernel
set_option maxRecDepth 20000 in
theorem ggX12_best_X12_in : GoodIn wsX12_best wsX12_in := goodIn_r _ [6] (by decide +kernel) (by decide +kernel)
set_option maxRecDepth 20000 in
theorem gX12_best_X12_in : GoodIn wsX12_best (va_wsS RX12 66 yX12_in wsX12_in) := goodIn_app (goodIn_of _ (by decide +kernel)) ggX12_best_X12_in
set_option maxRecDepth 20000 in
theorem ggX12_best_X12_tried : GoodIn wsX12_best wsX12_tried := goodIn_r _ [10, 3, 4, 5, 6, 11, 12, 13, 14, 2, 15, 16, 17, 18, 19, 20, 21, 22, 23, 24, 25, 26, 27, 28, 29, 30, 31, 32, 33, 34, 35, 36, 37, 38, 39, 40, 41, 42, 43, 44, 45, 46, 47, 48, 49, 50, 51, 52, 53, 54, 55, 56, 57, 58, 59, 60, 61, 62, 63, 64, 65, 66, 67, 68, 69, 70, 71, 72, 73, 74, 75, 76, 77, 78, 79, 80, 81, 82, 83, 84, 85, 86, 87, 88, 89, 90, 91, 92, 93, 94, 95, 96, 97, 98, 99, 100, 101, 102, 103, 104, 105, 106, 107, 108, 109, 110, 111, 112, 113, 114, 115, 116, 117, 118, 119, 120, 121, 122, 123, 124, 125, 126, 127, 128, 129, 130, 131, 132, 133, 134, 135, 136, 137, 138, 139, 140, 141, 142, 143, 144, 145, 146, 147, 148, 149, 150, 151, 152, 153, 154, 155, 156, 157, 158, 159, 160, 161, 162, 163, 164, 165, 166, 167, 168, 169, 170, 171, 172, 173, 174, 175, 176, 177, 178, 179, 180, 181, 182, 183, 184, 185, 186, 187, 188, 189, 190, 191, 192, 193, 194, 195, 196, 197, 198, 199] (by decide +kernel) (by decide +kernel)
set_option maxRecDepth 20000 in
theorem gX12_best_X12_tried : GoodIn wsX12_best (wsV RX12 381 RX12 yX12_tried wsX12_tried) := goodIn_app (goodIn_of _ (by decide +kernel)) ggX12_best_X12_tried
set_option maxRecDepth 20000 in
theorem ggX12_best_X12_min : GoodIn wsX12_best wsX12_min := goodIn_r _ [154] (by decide +kernel) (by decide +kernel)
set_option maxRecDepth 20000 in
theorem gX12_best_X12_min : GoodIn wsX12_best (va_wsS RX12 246 yX12_min wsX12_min) := goodIn_app (goodIn_of _ (by decide +kernel)) ggX12_best_X12_min
theorem dX12_best_0 : decode cX12_best 0 = .ok (.iload_n 1, 1) := by decide +kernel
theorem dX12_best_1 : decode cX12_best 1 = .ok (.iconst 0, 1) := by decide +kernel
theorem dX12_best_2 : decode cX12_best 2 = .ok (.iconst 1, 1) := by decide +kernel
theorem dX12_best_3 : decode cX12_best 3 = .ok (.invokestatic 66, 3) := by decide +kernel
theorem dX12_best_6 : decode cX12_best 6 = .ok (.ifCond .ne 5, 3) := by decide +kernel
theorem dX12_best_9 : decode cX12_best 9 = .ok (.iconst (-1), 1) := by decide +kernel
theorem dX12_best_10 : decode cX12_best 10 = .ok (.ireturn, 1) := by decide +kernel
theorem dX12_best_11 : decode cX12_best 11 = .ok (.iconst 1, 1) := by decide +kernel
theorem dX12_best_12 : decode cX12_best 12 = .ok (.istore_n 2, 1) := by decide +kernel
theorem dX12_best_13 : decode cX12_best 13 = .ok (.ldc_w 372, 3) := by decide +kernel
theorem dX12_best_16 : decode cX12_best 16 = .ok (.istore_n 3, 1) := by decide +kernel
theorem dX12_best_17 : decode cX12_best 17 = .ok (.iconst 1, 1) := by decide +kernel
theorem dX12_best_18 : decode cX12_best 18 = .ok (.istore 4, 2) := by decide +kernel
theorem dX12_best_20 : decode cX12_best 20 = .ok (.iload 4, 2) := by decide +kernel
theorem dX12_best_22 : decode cX12_best 22 = .ok (.bipush 8, 2) := by decide +kernel
theorem dX12_best_24 : decode cX12_best 24 = .ok (.if_icmp .gt 41, 3) := by decide +kernel
theorem dX12_best_27 : decode cX12_best 27 = .ok (.aload_n 0, 1) := by decide +kernel
theorem dX12_best_28 : decode cX12_best 28 = .ok (.iload 4, 2) := by decide +kernel
theorem dX12_best_30 : decode cX12_best 30 = .ok (.aload_n 0, 1) := by decide +kernel
theorem dX12_best_31 : decode cX12_best 31 = .ok (.getfield 7, 3) := by decide +kernel
theorem dX12_best_34 : decode cX12_best 34 = .ok (.iconst 2, 1) := by decide +kernel
theorem dX12_best_35 : decode cX12_best 35 = .ok (.iaload, 1) := by decide +kernel
theorem dX12_best_36 : decode cX12_best 36 = .ok (.bipush 13, 2) := by decide +kernel
theorem dX12_best_38 : decode cX12_best 38 = .ok (.invokevirtual 381, 3) := by decide +kernel
theorem dX12_best_41 : decode cX12_best 41 = .ok (.istore 5, 2) := by decide +kernel
theorem dX12_best_43 : decode cX12_best 43 = .ok (.iload 5, 2) := by decide +kernel
theorem dX12_best_45 : decode cX12_best 45 = .ok (.iload_n 3, 1) := by decide +kernel
theorem dX12_best_46 : decode cX12_best 46 = .ok (.if_icmp .ge 6, 3) := by decide +kernel
theorem dX12_best_49 : decode cX12_best 49 = .ok (.iload 4, 2) := by decide +kernel
theorem dX12_best_51 : decode cX12_best 51 = .ok (.istore_n 2, 1) := by decide +kernel
theorem dX12_best_52 : decode cX12_best 52 = .ok (.iload_n 3, 1) := by decide +kernel
theorem dX12_best_53 : decode cX12_best 53 = .ok (.iload 5, 2) := by decide +kernel
theorem dX12_best_55 : decode cX12_best 55 = .ok (.invokestatic 246, 3) := by decide +kernel
theorem dX12_best_58 : decode cX12_best 58 = .ok (.istore_n 3, 1) := by decide +kernel
theorem dX12_best_59 : decode cX12_best 59 = .ok (.iinc 4 1, 3) := by decide +kernel
theorem dX12_best_62 : decode cX12_best 62 = .ok (.goto (-42), 3) := by decide +kernel
theorem dX12_best_65 : decode cX12_best 65 = .ok (.iload_n 1, 1) := by decide +kernel
theorem dX12_best_66 : decode cX12_best 66 = .ok (.ifCond .ne 7, 3) := by decide +kernel
theorem dX12_best_69 : decode cX12_best 69 = .ok (.iload_n 2, 1) := by decide +kernel
theorem dX12_best_70 : decode cX12_best 70 = .ok (.goto 4, 3) := by decide +kernel
theorem dX12_best_73 : decode cX12_best 73 = .ok (.iload_n 3, 1) := by decide +kernel
theorem dX12_best_74 : decode cX12_best 74 = .ok (.ireturn, 1) := by decide +kernel
set_option maxRecDepth 20000 in
theorem ggX12_keep_X12_copies : GoodIn wsX12_keep wsX12_copies := goodIn_r _ [6, 7, 12, 13, 14, 15, 16, 17, 18, 19, 20, 21, 22, 23, 24, 25, 26, 27, 28, 29, 30, 31, 32, 33, 34, 35, 36, 37, 38, 39, 40, 41, 42, 43, 44, 45, 46, 47, 48, 49, 50, 51, 52] (by decide +kernel) (by decide +kernel)
set_option maxRecDepth 20000 in
theorem gX12_keep_X12_copies : GoodIn wsX12_keep (wsV RX12 237 RX12 yX12_copies wsX12_copies) := goodIn_app (goodIn_of _ (by decide +kernel)) ggX12_keep_X12_copies
set_option maxRecDepth 20000 in
theorem ggX12_keep_X12_many : GoodIn wsX12_keep wsX12_many := goodIn_r _ [11, 7, 12, 13, 14, 15, 16, 17, 18, 19, 20, 21, 22, 23, 24, 25, 26, 27, 28, 29, 30, 31, 32, 33, 34, 35, 36, 37, 38, 39, 40, 41, 42, 43, 44, 45, 46, 47, 48, 49, 50, 51, 52] (by decide +kernel) (by decide +kernel)
set_option maxRecDepth 20000 in
theorem gX12_keep_X12_many : GoodIn wsX12_keep (wsV RX12 62 RX12 yX12_many wsX12_many) := goodIn_app (goodIn_of _ (by decide +kernel)) ggX12_keep_X12_many
theorem dX12_keep_0 : decode cX12_keep 0 = .ok (.aload_n 0, 1) := by decide +kernel
theorem dX12_keep_1 : decode cX12_keep 1 = .ok (.iconst 1, 1) := by decide +kernel
theorem dX12_keep_2 : decode cX12_keep 2 = .ok (.putfield 385, 3) := by decide +kernel
theorem dX12_keep_5 : decode cX12_keep 5 = .ok (.aload_n 0, 1) := by decide +kernel
theorem dX12_keep_6 : decode cX12_keep 6 = .ok (.iconst 0, 1) := by decide +kernel
theorem dX12_keep_7 : decode cX12_keep 7 = .ok (.iconst 1, 1) := by decide +kernel
theorem dX12_keep_8 : decode cX12_keep 8 = .ok (.invokevirtual 237, 3) := by decide +kernel
theorem dX12_keep_11 : decode cX12_keep 11 = .ok (.aload_n 0, 1) := by decide +kernel
theorem dX12_keep_12 : decode cX12_keep 12 = .ok (.invokevirtual 62, 3) := by decide +kernel
theorem dX12_keep_15 : decode cX12_keep 15 = .ok (.ireturn, 1) := by decide +kernel
set_option maxRecDepth 20000 in
theorem ggX12_undo_X12_copies : GoodIn wsX12_undo wsX12_copies := goodIn_r _ [6, 7, 8, 9, 10, 11, 12, 13, 14, 15, 16, 17, 18, 19, 20, 21, 22, 23, 24, 25, 26, 27, 28, 29, 30, 31, 32, 33, 34, 35, 36, 37, 38, 39, 40, 41, 42, 43, 44, 45, 46, 47, 48] (by decide +kernel) (by decide +kernel)
set_option maxRecDepth 20000 in
theorem gX12_undo_X12_copies : GoodIn wsX12_undo (wsV RX12 237 RX12 yX12_copies wsX12_copies) := goodIn_app (goodIn_of _ (by decide +kernel)) ggX12_undo_X12_copies
theorem dX12_undo_0 : decode cX12_undo 0 = .ok (.aload_n 0, 1) := by decide +kernel
theorem dX12_undo_1 : decode cX12_undo 1 = .ok (.getfield 385, 3) := by decide +kernel
theorem dX12_undo_4 : decode cX12_undo 4 = .ok (.ifCond .ne 5, 3) := by decide +kernel
theorem dX12_undo_7 : decode cX12_undo 7 = .ok (.iconst 0, 1) := by decide +kernel
theorem dX12_undo_8 : decode cX12_undo 8 = .ok (.ireturn, 1) := by decide +kernel
theorem dX12_undo_9 : decode cX12_undo 9 = .ok (.aload_n 0, 1) := by decide +kernel
theorem dX12_undo_10 : decode cX12_undo 10 = .ok (.iconst 1, 1) := by decide +kernel
theorem dX12_undo_11 : decode cX12_undo 11 = .ok (.iconst 0, 1) := by decide +kernel
theorem dX12_undo_12 : decode cX12_undo 12 = .ok (.invokevirtual 237, 3) := by decide +kernel
theorem dX12_undo_15 : decode cX12_undo 15 = .ok (.iconst 1, 1) := by decide +kernel
theorem dX12_undo_16 : decode cX12_undo 16 = .ok (.ireturn, 1) := by decide +kernel
theorem dX12_keptOf_0 : decode cX12_keptOf 0 = .ok (.aload_n 0, 1) := by decide +kernel
theorem dX12_keptOf_1 : decode cX12_keptOf 1 = .ok (.getfield 7, 3) := by decide +kernel
theorem dX12_keptOf_4 : decode cX12_keptOf 4 = .ok (.sipush 4646, 3) := by decide +kernel
theorem dX12_keptOf_7 : decode cX12_keptOf 7 = .ok (.bipush 27, 2) := by decide +kernel
theorem dX12_keptOf_9 : decode cX12_keptOf 9 = .ok (.iload_n 1, 1) := by decide +kernel
theorem dX12_keptOf_10 : decode cX12_keptOf 10 = .ok (.imul, 1) := by decide +kernel
theorem dX12_keptOf_11 : decode cX12_keptOf 11 = .ok (.iadd, 1) := by decide +kernel
theorem dX12_keptOf_12 : decode cX12_keptOf 12 = .ok (.iload_n 2, 1) := by decide +kernel
theorem dX12_keptOf_13 : decode cX12_keptOf 13 = .ok (.iadd, 1) := by decide +kernel
theorem dX12_keptOf_14 : decode cX12_keptOf 14 = .ok (.iaload, 1) := by decide +kernel
theorem dX12_keptOf_15 : decode cX12_keptOf 15 = .ok (.ireturn, 1) := by decide +kernel
set_option maxRecDepth 20000 in
theorem ggX12_keptAs_X12_keptOf : GoodIn wsX12_keptAs wsX12_keptOf := goodIn_r _ [6, 1, 15, 16, 17, 18, 19, 20, 21, 22, 23, 24, 25, 26, 27, 28, 29, 30, 31, 32, 33, 34, 35, 36, 37, 38, 39, 40, 41, 42, 43, 44, 45, 46, 47, 48, 49, 50, 51, 52, 53, 54, 55] (by decide +kernel) (by decide +kernel)
set_option maxRecDepth 20000 in
theorem gX12_keptAs_X12_keptOf : GoodIn wsX12_keptAs (wsV RX12 389 RX12 yX12_keptOf wsX12_keptOf) := goodIn_app (goodIn_of _ (by decide +kernel)) ggX12_keptAs_X12_keptOf
set_option maxRecDepth 20000 in
theorem ggX12_keptAs_X12_of : GoodIn wsX12_keptAs wsX12_of := goodIn_r _ [10, 1, 15, 16, 17, 18, 19, 20, 21, 22, 23, 24, 25, 26, 27, 28, 29, 30, 31, 32, 33, 34, 35, 36, 37, 38, 39, 40, 41, 42, 43, 44, 45, 46, 47, 48, 49, 50, 51, 52, 53, 54, 55] (by decide +kernel) (by decide +kernel)
set_option maxRecDepth 20000 in
theorem gX12_keptAs_X12_of : GoodIn wsX12_keptAs (wsV RX12 50 RX12 yX12_of wsX12_of) := goodIn_app (goodIn_of _ (by decide +kernel)) ggX12_keptAs_X12_of
set_option maxRecDepth 20000 in
theorem ggX12_keptAs_X12_byteOf : GoodIn wsX12_keptAs wsX12_byteOf := goodIn_r _ [14, 1, 15, 16, 17, 18, 19, 20, 21, 22, 23, 24, 25, 26, 27, 28, 29, 30, 31, 32, 33, 34, 35, 36, 37, 38, 39, 40, 41, 42, 43, 44, 45, 46, 47, 48, 49, 50, 51, 52, 53, 54, 55] (by decide +kernel) (by decide +kernel)
set_option maxRecDepth 20000 in
theorem gX12_keptAs_X12_byteOf : GoodIn wsX12_keptAs (wsV RX12 74 RX12 yX12_byteOf wsX12_byteOf) := goodIn_app (goodIn_of _ (by decide +kernel)) ggX12_keptAs_X12_byteOf
theorem dX12_keptAs_0 : decode cX12_keptAs 0 = .ok (.iconst 0, 1) := by decide +kernel
theorem dX12_keptAs_1 : decode cX12_keptAs 1 = .ok (.istore_n 2, 1) := by decide +kernel
theorem dX12_keptAs_2 : decode cX12_keptAs 2 = .ok (.iload_n 2, 1) := by decide +kernel
theorem dX12_keptAs_3 : decode cX12_keptAs 3 = .ok (.aload_n 0, 1) := by decide +kernel
theorem dX12_keptAs_4 : decode cX12_keptAs 4 = .ok (.getfield 7, 3) := by decide +kernel
theorem dX12_keptAs_7 : decode cX12_keptAs 7 = .ok (.sipush 4406, 3) := by decide +kernel
theorem dX12_keptAs_10 : decode cX12_keptAs 10 = .ok (.iaload, 1) := by decide +kernel
theorem dX12_keptAs_11 : decode cX12_keptAs 11 = .ok (.if_icmp .ge 85, 3) := by decide +kernel
theorem dX12_keptAs_14 : decode cX12_keptAs 14 = .ok (.aload_n 0, 1) := by decide +kernel
theorem dX12_keptAs_15 : decode cX12_keptAs 15 = .ok (.iload_n 2, 1) := by decide +kernel
theorem dX12_keptAs_16 : decode cX12_keptAs 16 = .ok (.iconst 0, 1) := by decide +kernel
theorem dX12_keptAs_17 : decode cX12_keptAs 17 = .ok (.invokevirtual 389, 3) := by decide +kernel
theorem dX12_keptAs_20 : decode cX12_keptAs 20 = .ok (.aload_n 0, 1) := by decide +kernel
theorem dX12_keptAs_21 : decode cX12_keptAs 21 = .ok (.iload_n 1, 1) := by decide +kernel
theorem dX12_keptAs_22 : decode cX12_keptAs 22 = .ok (.iconst 0, 1) := by decide +kernel
theorem dX12_keptAs_23 : decode cX12_keptAs 23 = .ok (.invokevirtual 50, 3) := by decide +kernel
theorem dX12_keptAs_26 : decode cX12_keptAs 26 = .ok (.if_icmp .ne 7, 3) := by decide +kernel
theorem dX12_keptAs_29 : decode cX12_keptAs 29 = .ok (.iconst 1, 1) := by decide +kernel
theorem dX12_keptAs_30 : decode cX12_keptAs 30 = .ok (.goto 4, 3) := by decide +kernel
theorem dX12_keptAs_33 : decode cX12_keptAs 33 = .ok (.iconst 0, 1) := by decide +kernel
theorem dX12_keptAs_34 : decode cX12_keptAs 34 = .ok (.istore_n 3, 1) := by decide +kernel
theorem dX12_keptAs_35 : decode cX12_keptAs 35 = .ok (.iconst 0, 1) := by decide +kernel
theorem dX12_keptAs_36 : decode cX12_keptAs 36 = .ok (.istore 4, 2) := by decide +kernel
theorem dX12_keptAs_38 : decode cX12_keptAs 38 = .ok (.iload 4, 2) := by decide +kernel
theorem dX12_keptAs_40 : decode cX12_keptAs 40 = .ok (.aload_n 0, 1) := by decide +kernel
theorem dX12_keptAs_41 : decode cX12_keptAs 41 = .ok (.iload_n 1, 1) := by decide +kernel
theorem dX12_keptAs_42 : decode cX12_keptAs 42 = .ok (.iconst 0, 1) := by decide +kernel
theorem dX12_keptAs_43 : decode cX12_keptAs 43 = .ok (.invokevirtual 50, 3) := by decide +kernel
theorem dX12_keptAs_46 : decode cX12_keptAs 46 = .ok (.if_icmp .ge 38, 3) := by decide +kernel
theorem dX12_keptAs_49 : decode cX12_keptAs 49 = .ok (.iload_n 3, 1) := by decide +kernel
theorem dX12_keptAs_50 : decode cX12_keptAs 50 = .ok (.ifCond .eq 34, 3) := by decide +kernel
theorem dX12_keptAs_53 : decode cX12_keptAs 53 = .ok (.aload_n 0, 1) := by decide +kernel
theorem dX12_keptAs_54 : decode cX12_keptAs 54 = .ok (.iload_n 2, 1) := by decide +kernel
theorem dX12_keptAs_55 : decode cX12_keptAs 55 = .ok (.iconst 3, 1) := by decide +kernel
theorem dX12_keptAs_56 : decode cX12_keptAs 56 = .ok (.iload 4, 2) := by decide +kernel
theorem dX12_keptAs_58 : decode cX12_keptAs 58 = .ok (.iadd, 1) := by decide +kernel
theorem dX12_keptAs_59 : decode cX12_keptAs 59 = .ok (.invokevirtual 389, 3) := by decide +kernel
theorem dX12_keptAs_62 : decode cX12_keptAs 62 = .ok (.aload_n 0, 1) := by decide +kernel
theorem dX12_keptAs_63 : decode cX12_keptAs 63 = .ok (.iload_n 1, 1) := by decide +kernel
theorem dX12_keptAs_64 : decode cX12_keptAs 64 = .ok (.iload 4, 2) := by decide +kernel
theorem dX12_keptAs_66 : decode cX12_keptAs 66 = .ok (.invokevirtual 74, 3) := by decide +kernel
theorem dX12_keptAs_69 : decode cX12_keptAs 69 = .ok (.if_icmp .ne 7, 3) := by decide +kernel
theorem dX12_keptAs_72 : decode cX12_keptAs 72 = .ok (.iconst 1, 1) := by decide +kernel
theorem dX12_keptAs_73 : decode cX12_keptAs 73 = .ok (.goto 4, 3) := by decide +kernel
theorem dX12_keptAs_76 : decode cX12_keptAs 76 = .ok (.iconst 0, 1) := by decide +kernel
theorem dX12_keptAs_77 : decode cX12_keptAs 77 = .ok (.istore_n 3, 1) := by decide +kernel
theorem dX12_keptAs_78 : decode cX12_keptAs 78 = .ok (.iinc 4 1, 3) := by decide +kernel
theorem dX12_keptAs_81 : decode cX12_keptAs 81 = .ok (.goto (-43), 3) := by decide +kernel
theorem dX12_keptAs_84 : decode cX12_keptAs 84 = .ok (.iload_n 3, 1) := by decide +kernel
theorem dX12_keptAs_85 : decode cX12_keptAs 85 = .ok (.ifCond .eq 5, 3) := by decide +kernel
theorem dX12_keptAs_88 : decode cX12_keptAs 88 = .ok (.iload_n 2, 1) := by decide +kernel
theorem dX12_keptAs_89 : decode cX12_keptAs 89 = .ok (.ireturn, 1) := by decide +kernel
theorem dX12_keptAs_90 : decode cX12_keptAs 90 = .ok (.iinc 2 1, 3) := by decide +kernel
theorem dX12_keptAs_93 : decode cX12_keptAs 93 = .ok (.goto (-91), 3) := by decide +kernel
theorem dX12_keptAs_96 : decode cX12_keptAs 96 = .ok (.iconst (-1), 1) := by decide +kernel
theorem dX12_keptAs_97 : decode cX12_keptAs 97 = .ok (.ireturn, 1) := by decide +kernel
set_option maxRecDepth 20000 in
theorem ggX12_unlike_X12_in : GoodIn wsX12_unlike wsX12_in := goodIn_r _ [6] (by decide +kernel) (by decide +kernel)
set_option maxRecDepth 20000 in
theorem gX12_unlike_X12_in : GoodIn wsX12_unlike (va_wsS RX12 66 yX12_in wsX12_in) := goodIn_app (goodIn_of _ (by decide +kernel)) ggX12_unlike_X12_in
set_option maxRecDepth 20000 in
theorem ggX12_unlike_X12_many : GoodIn wsX12_unlike wsX12_many := goodIn_r _ [10, 2, 27, 28, 29, 30, 31, 32, 33, 34, 35, 36, 37, 38, 39, 40, 41, 42, 43, 44, 45, 46, 47, 48, 49, 50, 51, 52, 53, 54, 55, 56, 57, 58, 59, 60, 61, 62, 63, 64, 65, 66, 67] (by decide +kernel) (by decide +kernel)
set_option maxRecDepth 20000 in
theorem gX12_unlike_X12_many : GoodIn wsX12_unlike (wsV RX12 62 RX12 yX12_many wsX12_many) := goodIn_app (goodIn_of _ (by decide +kernel)) ggX12_unlike_X12_many
set_option maxRecDepth 20000 in
theorem ggX12_unlike_X12_keptAs : GoodIn wsX12_unlike wsX12_keptAs := goodIn_r _ [14, 2, 15, 16, 17, 5, 18, 19, 20, 21, 22, 23, 24, 25, 26, 27, 28, 29, 30, 31, 32, 33, 34, 35, 36, 37, 38, 39, 40, 41, 42, 43, 44, 45, 46, 47, 48, 49, 50, 51, 52, 53, 54, 55, 56, 57, 58, 59, 60, 61, 62, 63, 64, 65, 66, 67] (by decide +kernel) (by decide +kernel)
set_option maxRecDepth 20000 in
theorem gX12_unlike_X12_keptAs : GoodIn wsX12_unlike (wsV RX12 392 RX12 yX12_keptAs wsX12_keptAs) := goodIn_app (goodIn_of _ (by decide +kernel)) ggX12_unlike_X12_keptAs
set_option maxRecDepth 20000 in
theorem ggX12_unlike_X12_keptOf : GoodIn wsX12_unlike wsX12_keptOf := goodIn_r _ [18, 2, 27, 28, 29, 30, 31, 32, 33, 34, 35, 36, 37, 38, 39, 40, 41, 42, 43, 44, 45, 46, 47, 48, 49, 50, 51, 52, 53, 54, 55, 56, 57, 58, 59, 60, 61, 62, 63, 64, 65, 66, 67] (by decide +kernel) (by decide +kernel)
set_option maxRecDepth 20000 in
theorem gX12_unlike_X12_keptOf : GoodIn wsX12_unlike (wsV RX12 389 RX12 yX12_keptOf wsX12_keptOf) := goodIn_app (goodIn_of _ (by decide +kernel)) ggX12_unlike_X12_keptOf
set_option maxRecDepth 20000 in
theorem ggX12_unlike_X12_of : GoodIn wsX12_unlike wsX12_of := goodIn_r _ [22, 2, 27, 28, 29, 30, 31, 32, 33, 34, 35, 36, 37, 38, 39, 40, 41, 42, 43, 44, 45, 46, 47, 48, 49, 50, 51, 52, 53, 54, 55, 56, 57, 58, 59, 60, 61, 62, 63, 64, 65, 66, 67] (by decide +kernel) (by decide +kernel)
set_option maxRecDepth 20000 in
theorem gX12_unlike_X12_of : GoodIn wsX12_unlike (wsV RX12 50 RX12 yX12_of wsX12_of) := goodIn_app (goodIn_of _ (by decide +kernel)) ggX12_unlike_X12_of
theorem dX12_unlike_0 : decode cX12_unlike 0 = .ok (.iload_n 1, 1) := by decide +kernel
theorem dX12_unlike_1 : decode cX12_unlike 1 = .ok (.iconst 0, 1) := by decide +kernel
theorem dX12_unlike_2 : decode cX12_unlike 2 = .ok (.iconst 2, 1) := by decide +kernel
theorem dX12_unlike_3 : decode cX12_unlike 3 = .ok (.invokestatic 66, 3) := by decide +kernel
theorem dX12_unlike_6 : decode cX12_unlike 6 = .ok (.ifCond .ne 5, 3) := by decide +kernel
theorem dX12_unlike_9 : decode cX12_unlike 9 = .ok (.iconst (-1), 1) := by decide +kernel
theorem dX12_unlike_10 : decode cX12_unlike 10 = .ok (.ireturn, 1) := by decide +kernel
theorem dX12_unlike_11 : decode cX12_unlike 11 = .ok (.aload_n 0, 1) := by decide +kernel
theorem dX12_unlike_12 : decode cX12_unlike 12 = .ok (.getfield 385, 3) := by decide +kernel
theorem dX12_unlike_15 : decode cX12_unlike 15 = .ok (.ifCond .ne 6, 3) := by decide +kernel
theorem dX12_unlike_18 : decode cX12_unlike 18 = .ok (.bipush (-2), 2) := by decide +kernel
theorem dX12_unlike_20 : decode cX12_unlike 20 = .ok (.ireturn, 1) := by decide +kernel
theorem dX12_unlike_21 : decode cX12_unlike 21 = .ok (.iconst 0, 1) := by decide +kernel
theorem dX12_unlike_22 : decode cX12_unlike 22 = .ok (.istore_n 2, 1) := by decide +kernel
theorem dX12_unlike_23 : decode cX12_unlike 23 = .ok (.iconst 0, 1) := by decide +kernel
theorem dX12_unlike_24 : decode cX12_unlike 24 = .ok (.istore_n 3, 1) := by decide +kernel
theorem dX12_unlike_25 : decode cX12_unlike 25 = .ok (.iconst 0, 1) := by decide +kernel
theorem dX12_unlike_26 : decode cX12_unlike 26 = .ok (.istore 4, 2) := by decide +kernel
theorem dX12_unlike_28 : decode cX12_unlike 28 = .ok (.iload 4, 2) := by decide +kernel
theorem dX12_unlike_30 : decode cX12_unlike 30 = .ok (.aload_n 0, 1) := by decide +kernel
theorem dX12_unlike_31 : decode cX12_unlike 31 = .ok (.invokevirtual 62, 3) := by decide +kernel
theorem dX12_unlike_34 : decode cX12_unlike 34 = .ok (.if_icmp .ge 51, 3) := by decide +kernel
theorem dX12_unlike_37 : decode cX12_unlike 37 = .ok (.aload_n 0, 1) := by decide +kernel
theorem dX12_unlike_38 : decode cX12_unlike 38 = .ok (.iload 4, 2) := by decide +kernel
theorem dX12_unlike_40 : decode cX12_unlike 40 = .ok (.invokevirtual 392, 3) := by decide +kernel
theorem dX12_unlike_43 : decode cX12_unlike 43 = .ok (.istore 5, 2) := by decide +kernel
theorem dX12_unlike_45 : decode cX12_unlike 45 = .ok (.iload 5, 2) := by decide +kernel
theorem dX12_unlike_47 : decode cX12_unlike 47 = .ok (.iconst (-1), 1) := by decide +kernel
theorem dX12_unlike_48 : decode cX12_unlike 48 = .ok (.if_icmp .ne 6, 3) := by decide +kernel
theorem dX12_unlike_51 : decode cX12_unlike 51 = .ok (.goto 28, 3) := by decide +kernel
theorem dX12_unlike_54 : decode cX12_unlike 54 = .ok (.iload_n 2, 1) := by decide +kernel
theorem dX12_unlike_55 : decode cX12_unlike 55 = .ok (.iconst 1, 1) := by decide +kernel
theorem dX12_unlike_56 : decode cX12_unlike 56 = .ok (.iadd, 1) := by decide +kernel
theorem dX12_unlike_57 : decode cX12_unlike 57 = .ok (.istore_n 2, 1) := by decide +kernel
theorem dX12_unlike_58 : decode cX12_unlike 58 = .ok (.aload_n 0, 1) := by decide +kernel
theorem dX12_unlike_59 : decode cX12_unlike 59 = .ok (.iload 5, 2) := by decide +kernel
theorem dX12_unlike_61 : decode cX12_unlike 61 = .ok (.iconst 1, 1) := by decide +kernel
theorem dX12_unlike_62 : decode cX12_unlike 62 = .ok (.invokevirtual 389, 3) := by decide +kernel
theorem dX12_unlike_65 : decode cX12_unlike 65 = .ok (.aload_n 0, 1) := by decide +kernel
theorem dX12_unlike_66 : decode cX12_unlike 66 = .ok (.iload 4, 2) := by decide +kernel
theorem dX12_unlike_68 : decode cX12_unlike 68 = .ok (.iconst 1, 1) := by decide +kernel
theorem dX12_unlike_69 : decode cX12_unlike 69 = .ok (.invokevirtual 50, 3) := by decide +kernel
theorem dX12_unlike_72 : decode cX12_unlike 72 = .ok (.if_icmp .eq 7, 3) := by decide +kernel
theorem dX12_unlike_75 : decode cX12_unlike 75 = .ok (.iload_n 3, 1) := by decide +kernel
theorem dX12_unlike_76 : decode cX12_unlike 76 = .ok (.iconst 1, 1) := by decide +kernel
theorem dX12_unlike_77 : decode cX12_unlike 77 = .ok (.iadd, 1) := by decide +kernel
theorem dX12_unlike_78 : decode cX12_unlike 78 = .ok (.istore_n 3, 1) := by decide +kernel
theorem dX12_unlike_79 : decode cX12_unlike 79 = .ok (.iinc 4 1, 3) := by decide +kernel
theorem dX12_unlike_82 : decode cX12_unlike 82 = .ok (.goto (-54), 3) := by decide +kernel
theorem dX12_unlike_85 : decode cX12_unlike 85 = .ok (.iload_n 1, 1) := by decide +kernel
theorem dX12_unlike_86 : decode cX12_unlike 86 = .ok (.ifCond .ne 12, 3) := by decide +kernel
theorem dX12_unlike_89 : decode cX12_unlike 89 = .ok (.aload_n 0, 1) := by decide +kernel
theorem dX12_unlike_90 : decode cX12_unlike 90 = .ok (.invokevirtual 62, 3) := by decide +kernel
theorem dX12_unlike_93 : decode cX12_unlike 93 = .ok (.iload_n 2, 1) := by decide +kernel
theorem dX12_unlike_94 : decode cX12_unlike 94 = .ok (.isub, 1) := by decide +kernel
theorem dX12_unlike_95 : decode cX12_unlike 95 = .ok (.goto 22, 3) := by decide +kernel
theorem dX12_unlike_98 : decode cX12_unlike 98 = .ok (.iload_n 1, 1) := by decide +kernel
theorem dX12_unlike_99 : decode cX12_unlike 99 = .ok (.iconst 1, 1) := by decide +kernel
theorem dX12_unlike_100 : decode cX12_unlike 100 = .ok (.if_icmp .ne 16, 3) := by decide +kernel
theorem dX12_unlike_103 : decode cX12_unlike 103 = .ok (.aload_n 0, 1) := by decide +kernel
theorem dX12_unlike_104 : decode cX12_unlike 104 = .ok (.getfield 7, 3) := by decide +kernel
theorem dX12_unlike_107 : decode cX12_unlike 107 = .ok (.sipush 4406, 3) := by decide +kernel
theorem dX12_unlike_110 : decode cX12_unlike 110 = .ok (.iaload, 1) := by decide +kernel
theorem dX12_unlike_111 : decode cX12_unlike 111 = .ok (.iload_n 2, 1) := by decide +kernel
theorem dX12_unlike_112 : decode cX12_unlike 112 = .ok (.isub, 1) := by decide +kernel
theorem dX12_unlike_113 : decode cX12_unlike 113 = .ok (.goto 4, 3) := by decide +kernel
theorem dX12_unlike_116 : decode cX12_unlike 116 = .ok (.iload_n 3, 1) := by decide +kernel
theorem dX12_unlike_117 : decode cX12_unlike 117 = .ok (.ireturn, 1) := by decide +kernel
set_option maxRecDepth 20000 in
theorem ggX12_check_X12_in : GoodIn wsX12_check wsX12_in := goodIn_r _ [6] (by decide +kernel) (by decide +kernel)
set_option maxRecDepth 20000 in
theorem gX12_check_X12_in : GoodIn wsX12_check (va_wsS RX12 66 yX12_in wsX12_in) := goodIn_app (goodIn_of _ (by decide +kernel)) ggX12_check_X12_in
set_option maxRecDepth 20000 in
theorem ggX12_check_X12_many : GoodIn wsX12_check wsX12_many := goodIn_r _ [10, 11, 20, 21, 22, 23, 24, 25, 26, 27, 28, 29, 30, 31, 32, 33, 34, 35, 36, 37, 38, 39, 40, 41, 42, 43, 44, 45, 46, 47, 48, 49, 50, 51, 52, 53, 54, 55, 56, 57, 58, 59, 60] (by decide +kernel) (by decide +kernel)
set_option maxRecDepth 20000 in
theorem gX12_check_X12_many : GoodIn wsX12_check (wsV RX12 62 RX12 yX12_many wsX12_many) := goodIn_app (goodIn_of _ (by decide +kernel)) ggX12_check_X12_many
set_option maxRecDepth 20000 in
theorem ggX12_check_X12_of : GoodIn wsX12_check wsX12_of := goodIn_r _ [15, 11, 20, 21, 22, 23, 24, 25, 26, 27, 28, 29, 30, 31, 32, 33, 34, 35, 36, 37, 38, 39, 40, 41, 42, 43, 44, 45, 46, 47, 48, 49, 50, 51, 52, 53, 54, 55, 56, 57, 58, 59, 60] (by decide +kernel) (by decide +kernel)
set_option maxRecDepth 20000 in
theorem gX12_check_X12_of : GoodIn wsX12_check (wsV RX12 50 RX12 yX12_of wsX12_of) := goodIn_app (goodIn_of _ (by decide +kernel)) ggX12_check_X12_of
set_option maxRecDepth 20000 in
theorem ggX12_check_X12_byteOf : GoodIn wsX12_check wsX12_byteOf := goodIn_r _ [19, 11, 20, 21, 22, 23, 24, 25, 26, 27, 28, 29, 30, 31, 32, 33, 34, 35, 36, 37, 38, 39, 40, 41, 42, 43, 44, 45, 46, 47, 48, 49, 50, 51, 52, 53, 54, 55, 56, 57, 58, 59, 60] (by decide +kernel) (by decide +kernel)
set_option maxRecDepth 20000 in
theorem gX12_check_X12_byteOf : GoodIn wsX12_check (wsV RX12 74 RX12 yX12_byteOf wsX12_byteOf) := goodIn_app (goodIn_of _ (by decide +kernel)) ggX12_check_X12_byteOf
theorem dX12_check_0 : decode cX12_check 0 = .ok (.iload_n 1, 1) := by decide +kernel
theorem dX12_check_1 : decode cX12_check 1 = .ok (.iconst 0, 1) := by decide +kernel
theorem dX12_check_2 : decode cX12_check 2 = .ok (.bipush 24, 2) := by decide +kernel
theorem dX12_check_4 : decode cX12_check 4 = .ok (.invokestatic 66, 3) := by decide +kernel
theorem dX12_check_7 : decode cX12_check 7 = .ok (.ifCond .eq 11, 3) := by decide +kernel
theorem dX12_check_10 : decode cX12_check 10 = .ok (.iload_n 1, 1) := by decide +kernel
theorem dX12_check_11 : decode cX12_check 11 = .ok (.aload_n 0, 1) := by decide +kernel
theorem dX12_check_12 : decode cX12_check 12 = .ok (.getfield 147, 3) := by decide +kernel
theorem dX12_check_15 : decode cX12_check 15 = .ok (.if_icmp .le 6, 3) := by decide +kernel
theorem dX12_check_18 : decode cX12_check 18 = .ok (.bipush (-2), 2) := by decide +kernel
theorem dX12_check_20 : decode cX12_check 20 = .ok (.ireturn, 1) := by decide +kernel
theorem dX12_check_21 : decode cX12_check 21 = .ok (.iconst (-1), 1) := by decide +kernel
theorem dX12_check_22 : decode cX12_check 22 = .ok (.istore_n 2, 1) := by decide +kernel
theorem dX12_check_23 : decode cX12_check 23 = .ok (.iload_n 1, 1) := by decide +kernel
theorem dX12_check_24 : decode cX12_check 24 = .ok (.iconst 1, 1) := by decide +kernel
theorem dX12_check_25 : decode cX12_check 25 = .ok (.isub, 1) := by decide +kernel
theorem dX12_check_26 : decode cX12_check 26 = .ok (.istore_n 3, 1) := by decide +kernel
theorem dX12_check_27 : decode cX12_check 27 = .ok (.iload_n 3, 1) := by decide +kernel
theorem dX12_check_28 : decode cX12_check 28 = .ok (.ifCond .lt 47, 3) := by decide +kernel
theorem dX12_check_31 : decode cX12_check 31 = .ok (.aload_n 0, 1) := by decide +kernel
theorem dX12_check_32 : decode cX12_check 32 = .ok (.invokevirtual 62, 3) := by decide +kernel
theorem dX12_check_35 : decode cX12_check 35 = .ok (.ifCond .eq 32, 3) := by decide +kernel
theorem dX12_check_38 : decode cX12_check 38 = .ok (.iload_n 3, 1) := by decide +kernel
theorem dX12_check_39 : decode cX12_check 39 = .ok (.aload_n 0, 1) := by decide +kernel
theorem dX12_check_40 : decode cX12_check 40 = .ok (.iconst 0, 1) := by decide +kernel
theorem dX12_check_41 : decode cX12_check 41 = .ok (.iconst 0, 1) := by decide +kernel
theorem dX12_check_42 : decode cX12_check 42 = .ok (.invokevirtual 50, 3) := by decide +kernel
theorem dX12_check_45 : decode cX12_check 45 = .ok (.if_icmp .ge 22, 3) := by decide +kernel
theorem dX12_check_48 : decode cX12_check 48 = .ok (.aload_n 0, 1) := by decide +kernel
theorem dX12_check_49 : decode cX12_check 49 = .ok (.getfield 22, 3) := by decide +kernel
theorem dX12_check_52 : decode cX12_check 52 = .ok (.iload_n 3, 1) := by decide +kernel
theorem dX12_check_53 : decode cX12_check 53 = .ok (.baload, 1) := by decide +kernel
theorem dX12_check_54 : decode cX12_check 54 = .ok (.sipush 255, 3) := by decide +kernel
theorem dX12_check_57 : decode cX12_check 57 = .ok (.iand, 1) := by decide +kernel
theorem dX12_check_58 : decode cX12_check 58 = .ok (.aload_n 0, 1) := by decide +kernel
theorem dX12_check_59 : decode cX12_check 59 = .ok (.iconst 0, 1) := by decide +kernel
theorem dX12_check_60 : decode cX12_check 60 = .ok (.iload_n 3, 1) := by decide +kernel
theorem dX12_check_61 : decode cX12_check 61 = .ok (.invokevirtual 74, 3) := by decide +kernel
theorem dX12_check_64 : decode cX12_check 64 = .ok (.if_icmp .eq 5, 3) := by decide +kernel
theorem dX12_check_67 : decode cX12_check 67 = .ok (.iload_n 3, 1) := by decide +kernel
theorem dX12_check_68 : decode cX12_check 68 = .ok (.istore_n 2, 1) := by decide +kernel
theorem dX12_check_69 : decode cX12_check 69 = .ok (.iinc 3 (-1), 3) := by decide +kernel
theorem dX12_check_72 : decode cX12_check 72 = .ok (.goto (-45), 3) := by decide +kernel
theorem dX12_check_75 : decode cX12_check 75 = .ok (.aload_n 0, 1) := by decide +kernel
theorem dX12_check_76 : decode cX12_check 76 = .ok (.iconst 0, 1) := by decide +kernel
theorem dX12_check_77 : decode cX12_check 77 = .ok (.putfield 147, 3) := by decide +kernel
theorem dX12_check_80 : decode cX12_check 80 = .ok (.iload_n 2, 1) := by decide +kernel
theorem dX12_check_81 : decode cX12_check 81 = .ok (.ireturn, 1) := by decide +kernel
theorem dJ9_max_7cf53_0 : decode cJ9_max_7cf53 0 = .ok (.iload_n 0, 1) := by decide +kernel
theorem dJ9_max_7cf53_1 : decode cJ9_max_7cf53 1 = .ok (.iload_n 1, 1) := by decide +kernel
theorem dJ9_max_7cf53_2 : decode cJ9_max_7cf53 2 = .ok (.if_icmp .lt 7, 3) := by decide +kernel
theorem dJ9_max_7cf53_5 : decode cJ9_max_7cf53 5 = .ok (.iload_n 0, 1) := by decide +kernel
theorem dJ9_max_7cf53_6 : decode cJ9_max_7cf53 6 = .ok (.goto 4, 3) := by decide +kernel
theorem dJ9_max_7cf53_9 : decode cJ9_max_7cf53 9 = .ok (.iload_n 1, 1) := by decide +kernel
theorem dJ9_max_7cf53_10 : decode cJ9_max_7cf53 10 = .ok (.ireturn, 1) := by decide +kernel
theorem dJ9_max_f86c9_0 : decode cJ9_max_f86c9 0 = .ok (.lload_n 0, 1) := by decide +kernel
theorem dJ9_max_f86c9_1 : decode cJ9_max_f86c9 1 = .ok (.lload_n 2, 1) := by decide +kernel
theorem dJ9_max_f86c9_2 : decode cJ9_max_f86c9 2 = .ok (.lcmp, 1) := by decide +kernel
theorem dJ9_max_f86c9_3 : decode cJ9_max_f86c9 3 = .ok (.ifCond .lt 7, 3) := by decide +kernel
theorem dJ9_max_f86c9_6 : decode cJ9_max_f86c9 6 = .ok (.lload_n 0, 1) := by decide +kernel
theorem dJ9_max_f86c9_7 : decode cJ9_max_f86c9 7 = .ok (.goto 4, 3) := by decide +kernel
theorem dJ9_max_f86c9_10 : decode cJ9_max_f86c9 10 = .ok (.lload_n 2, 1) := by decide +kernel
theorem dJ9_max_f86c9_11 : decode cJ9_max_f86c9 11 = .ok (.lreturn, 1) := by decide +kernel
theorem dJ9_min_7cf53_0 : decode cJ9_min_7cf53 0 = .ok (.iload_n 0, 1) := by decide +kernel
theorem dJ9_min_7cf53_1 : decode cJ9_min_7cf53 1 = .ok (.iload_n 1, 1) := by decide +kernel
theorem dJ9_min_7cf53_2 : decode cJ9_min_7cf53 2 = .ok (.if_icmp .gt 7, 3) := by decide +kernel
theorem dJ9_min_7cf53_5 : decode cJ9_min_7cf53 5 = .ok (.iload_n 0, 1) := by decide +kernel
theorem dJ9_min_7cf53_6 : decode cJ9_min_7cf53 6 = .ok (.goto 4, 3) := by decide +kernel
theorem dJ9_min_7cf53_9 : decode cJ9_min_7cf53 9 = .ok (.iload_n 1, 1) := by decide +kernel
theorem dJ9_min_7cf53_10 : decode cJ9_min_7cf53 10 = .ok (.ireturn, 1) := by decide +kernel
theorem dJ9_min_f86c9_0 : decode cJ9_min_f86c9 0 = .ok (.lload_n 0, 1) := by decide +kernel
theorem dJ9_min_f86c9_1 : decode cJ9_min_f86c9 1 = .ok (.lload_n 2, 1) := by decide +kernel
theorem dJ9_min_f86c9_2 : decode cJ9_min_f86c9 2 = .ok (.lcmp, 1) := by decide +kernel
theorem dJ9_min_f86c9_3 : decode cJ9_min_f86c9 3 = .ok (.ifCond .gt 7, 3) := by decide +kernel
theorem dJ9_min_f86c9_6 : decode cJ9_min_f86c9 6 = .ok (.lload_n 0, 1) := by decide +kernel
theorem dJ9_min_f86c9_7 : decode cJ9_min_f86c9 7 = .ok (.goto 4, 3) := by decide +kernel
theorem dJ9_min_f86c9_10 : decode cJ9_min_f86c9 10 = .ok (.lload_n 2, 1) := by decide +kernel
theorem dJ9_min_f86c9_11 : decode cJ9_min_f86c9 11 = .ok (.lreturn, 1) := by decide +kernel
set_option maxRecDepth 20000 in
theorem ggL_law_X11_init : GoodIn wsL_law wsX11_init := goodIn_r _ [8, 9, 10, 11, 12, 13, 14, 15, 16, 17, 18, 19, 20, 21, 22, 23, 24, 25, 26, 27, 28, 29, 30, 31, 32, 33, 34, 35, 36, 37, 38, 39, 40, 41, 42, 43, 44, 45, 46, 47, 48, 49, 50, 51, 52, 53, 54, 55, 56, 57, 58, 59, 60, 61, 62, 63, 64, 65, 66, 67, 68, 69, 70, 71, 72, 73, 74, 75, 76, 77, 78, 79, 80, 81, 82, 83, 84, 85, 86, 87, 88, 89, 90, 91, 92, 93, 94, 95, 96, 97, 98, 99, 100, 101, 102, 103, 104, 105, 106, 107, 108, 109, 110, 111, 112, 113, 114, 115, 116, 117, 118, 119, 120, 121, 122, 123, 124, 125, 126, 127, 128, 129, 130, 131, 132, 133, 134, 135, 136, 137, 138, 139, 140, 141, 142, 143, 144, 145, 146, 147, 148, 149, 150, 151, 152, 153, 154, 155, 156, 157, 158, 159, 160, 1438, 1439, 1385, 1386, 1387, 1388, 1389, 1390, 1391, 1392, 1393, 1394, 1395, 1396, 1440, 1441, 1442, 1443, 1444, 1445, 1446, 1447, 1448, 1449, 1450, 1451, 1452, 1453, 1454, 1455, 1456, 1457, 1458, 1459, 1460, 1461, 1462, 1463, 1464, 1465, 1466, 1467, 1468, 1469, 1470, 1471, 1472, 1473, 1474, 1475, 1476, 1477, 1478, 1479, 1480, 1481, 1482] (by decide +kernel) (by decide +kernel)
set_option maxRecDepth 20000 in
theorem gL_law_X11_init : GoodIn wsL_law (wsX11_init) := ggL_law_X11_init
set_option maxRecDepth 20000 in
theorem ggL_law_X12_init : GoodIn wsL_law wsX12_init := goodIn_r _ [163, 164, 10, 11, 94, 165, 166, 167, 168, 57, 169, 170, 171, 172, 173, 174, 175, 176, 177, 1397, 1398, 1399, 1400, 1401, 1402, 1403, 1404, 1405, 1406, 1407, 1408, 1409, 1410, 1411, 1412, 1413, 1414, 1415, 1416, 1417, 1418, 1419, 1420, 1421, 1422, 1423, 1424, 1425, 1426, 1427, 1428, 1429, 1430, 1431, 1432, 1433, 1434, 1435, 1436, 1437] (by decide +kernel) (by decide +kernel)
set_option maxRecDepth 20000 in
theorem gL_law_X12_init : GoodIn wsL_law (wsX12_init) := ggL_law_X12_init
set_option maxRecDepth 20000 in
theorem ggL_law_X11_feed : GoodIn wsL_law wsX11_feed := goodIn_r _ [181, 15, 182, 183, 184, 185, 14, 186, 59, 58, 1385, 1386, 1387, 1388, 1389, 1390, 1391, 1392, 1393, 1394, 1395, 1396, 1438, 1439] (by decide +kernel) (by decide +kernel)
set_option maxRecDepth 20000 in
theorem gL_law_X11_feed : GoodIn wsL_law (wsV RL 13 RX11 yX11_feed wsX11_feed) := goodIn_app (goodIn_of _ (by decide +kernel)) ggL_law_X11_feed
set_option maxRecDepth 20000 in
theorem ggL_law_X12_feed : GoodIn wsL_law wsX12_feed := goodIn_r _ [190, 191, 192, 193, 194, 5, 195, 169, 1397, 1398, 1399, 1400, 1401, 1402, 1403, 1404, 1405, 1406, 1407, 1408, 1409, 1410, 1411, 1412, 1413, 1414, 1415, 1416, 1417, 1418, 1419, 1420, 1421, 1422, 1423, 1424, 1425, 1426, 1427, 1428, 1429, 1430, 1431, 1432, 1433, 1434, 1435, 1436, 1437] (by decide +kernel) (by decide +kernel)
set_option maxRecDepth 20000 in
theorem gL_law_X12_feed : GoodIn wsL_law (wsV RL 17 RX12 yX12_feed wsX12_feed) := goodIn_app (goodIn_of _ (by decide +kernel)) ggL_law_X12_feed
set_option maxRecDepth 20000 in
theorem ggL_law_X11_begin : GoodIn wsL_law wsX11_begin := goodIn_r _ [199, 27, 38, 15, 200, 201, 2, 202, 203, 204, 205, 206, 207, 208, 32, 209, 93, 210, 98, 99, 100, 101, 102, 103, 211, 212, 213, 26, 214, 81, 215, 216, 217, 218, 14, 219, 59, 1385, 1386, 1387, 1388, 1389, 1390, 1391, 1392, 1393, 1394, 1395, 1396, 1446, 1447, 1448, 1449, 1450, 1451, 1452, 1453, 1454, 1455, 1456, 1457, 1479, 1480, 1481, 1482, 1474, 1475, 1476, 1477, 1478, 1438, 1439] (by decide +kernel) (by decide +kernel)
set_option maxRecDepth 20000 in
theorem gL_law_X11_begin : GoodIn wsL_law (wsV RL 18 RX11 yX11_begin wsX11_begin) := goodIn_app (goodIn_of _ (by decide +kernel)) ggL_law_X11_begin
set_option maxRecDepth 20000 in
theorem ggL_law_X12_begin : GoodIn wsL_law wsX12_begin := goodIn_r _ [223, 165, 224, 225, 5, 226, 227, 228, 229, 230, 1397, 1398, 1399, 1400, 1401, 1402, 1403, 1404, 1405, 1406, 1407, 1408, 1409, 1410, 1411, 1412, 1413, 1414, 1415, 1416, 1417, 1418, 1419, 1420, 1421, 1422, 1423, 1424, 1425, 1426, 1427, 1428, 1429, 1430, 1431, 1432, 1433, 1434, 1435, 1436, 1437] (by decide +kernel) (by decide +kernel)
set_option maxRecDepth 20000 in
theorem gL_law_X12_begin : GoodIn wsL_law (wsV RL 22 RX12 yX12_begin wsX12_begin) := goodIn_app (goodIn_of _ (by decide +kernel)) ggL_law_X12_begin
set_option maxRecDepth 20000 in
theorem ggL_law_X11_put : GoodIn wsL_law wsX11_put := goodIn_r _ [234, 27, 38, 23, 235, 236, 2, 237, 238, 239, 240, 241, 242, 243, 244, 245, 246, 15, 182, 247, 248, 249, 250, 251, 252, 253, 22, 254, 73, 255, 256, 257, 14, 258, 59, 58, 259, 260, 261, 262, 263, 264, 265, 72, 216, 217, 218, 219, 266, 267, 268, 32, 269, 93, 210, 95, 270, 271, 272, 273, 97, 274, 275, 276, 92, 277, 111, 278, 279, 280, 281, 282, 283, 284, 285, 286, 287, 288, 289, 290, 109, 291, 292, 293, 294, 108, 295, 296, 297, 298, 299, 300, 301, 302, 303, 304, 305, 306, 307, 308, 309, 310, 110, 311, 312, 313, 314, 315, 316, 317, 318, 319, 320, 321, 322, 323, 324, 325, 326, 327, 328, 102, 329, 330, 331, 332, 333, 334, 335, 336, 98, 337, 338, 339, 340, 341, 342, 343, 344, 345, 346, 347, 348, 349, 350, 351, 352, 353, 354, 355, 356, 357, 358, 359, 360, 361, 362, 99, 100, 363, 364, 365, 366, 367, 368, 369, 370, 371, 372, 373, 374, 1385, 1386, 1387, 1388, 1389, 1390, 1391, 1392, 1393, 1394, 1395, 1396, 1446, 1447, 1448, 1438, 1439, 1444, 1445, 1449, 1450, 1451, 1452, 1453, 1454, 1455, 1456, 1457, 1479, 1480, 1481, 1482] (by decide +kernel) (by decide +kernel)
set_option maxRecDepth 20000 in
theorem gL_law_X11_put : GoodIn wsL_law (wsV RL 23 RX11 yX11_put wsX11_put) := goodIn_app (goodIn_of _ (by decide +kernel)) ggL_law_X11_put
set_option maxRecDepth 20000 in
theorem ggL_law_X12_put : GoodIn wsL_law wsX12_put := goodIn_r _ [378, 379, 380, 381, 382, 5, 383, 191, 224, 225, 226, 384, 385, 386, 387, 388, 166, 169, 389, 390, 391, 392, 393, 394, 395, 396, 397, 398, 399, 400, 401, 402, 403, 404, 405, 406, 407, 165, 408, 409, 410, 411, 412, 413, 414, 415, 416, 417, 418, 419, 420, 421, 422, 423, 424, 425, 426, 427, 428, 429, 167, 430, 431, 432, 433, 434, 435, 436, 437, 438, 439, 440, 441, 442, 443, 444, 445, 446, 447, 448, 449, 450, 451, 168, 452, 453, 454, 455, 456, 457, 458, 459, 460, 461, 462, 463, 464, 465, 466, 467, 468, 469, 470, 471, 472, 473, 474, 475, 476, 477, 478, 1397, 1398, 1399, 1400, 1401, 1402, 1403, 1404, 1405, 1406, 1407, 1408, 1409, 1410, 1411, 1412, 1413, 1414, 1415, 1416, 1417, 1418, 1419, 1420, 1421, 1422, 1423, 1424, 1425, 1426, 1427, 1428, 1429, 1430, 1431, 1432, 1433, 1434, 1435, 1436, 1437] (by decide +kernel) (by decide +kernel)
set_option maxRecDepth 20000 in
theorem gL_law_X12_put : GoodIn wsL_law (wsV RL 26 RX12 yX12_put wsX12_put) := goodIn_app (goodIn_of _ (by decide +kernel)) ggL_law_X12_put
set_option maxRecDepth 20000 in
theorem ggL_law_X11_take : GoodIn wsL_law wsX11_take := goodIn_r _ [482, 27, 38, 23, 239, 240, 241, 2, 242, 243, 244, 245, 246, 15, 182, 247, 248, 249, 250, 251, 252, 253, 22, 254, 73, 255, 256, 257, 14, 258, 59, 58, 259, 260, 261, 262, 263, 264, 265, 72, 216, 217, 218, 219, 483, 484, 485, 32, 486, 93, 487, 488, 489, 92, 490, 491, 275, 276, 277, 111, 278, 279, 280, 281, 282, 283, 284, 285, 286, 287, 288, 289, 290, 109, 291, 292, 293, 294, 108, 295, 296, 297, 298, 492, 300, 301, 302, 303, 304, 305, 306, 307, 308, 309, 310, 110, 493, 494, 495, 496, 210, 95, 270, 271, 272, 273, 97, 342, 343, 344, 345, 346, 326, 327, 328, 347, 348, 349, 350, 355, 356, 357, 358, 497, 498, 499, 500, 501, 502, 503, 504, 505, 506, 507, 508, 319, 351, 352, 353, 354, 509, 510, 511, 512, 99, 101, 363, 364, 365, 366, 513, 514, 515, 516, 329, 330, 331, 332, 371, 372, 373, 374, 517, 518, 519, 520, 103, 1385, 1386, 1387, 1388, 1389, 1390, 1391, 1392, 1393, 1394, 1395, 1396, 1446, 1447, 1448, 1438, 1439, 1444, 1445, 1449, 1450, 1451, 1452, 1453, 1454, 1455, 1456, 1457, 1479, 1480, 1481, 1482] (by decide +kernel) (by decide +kernel)
set_option maxRecDepth 20000 in
theorem gL_law_X11_take : GoodIn wsL_law (wsV RL 27 RX11 yX11_take wsX11_take) := goodIn_app (goodIn_of _ (by decide +kernel)) ggL_law_X11_take
set_option maxRecDepth 20000 in
theorem ggL_law_X12_take : GoodIn wsL_law wsX12_take := goodIn_r _ [524, 380, 381, 382, 5, 383, 191, 224, 225, 226, 384, 385, 386, 387, 388, 166, 169, 389, 390, 391, 525, 526, 527, 528, 396, 397, 398, 399, 400, 401, 402, 403, 404, 405, 406, 407, 165, 408, 409, 410, 411, 412, 413, 414, 415, 416, 417, 418, 419, 529, 530, 531, 532, 434, 435, 533, 534, 535, 536, 537, 538, 539, 540, 436, 437, 438, 439, 440, 441, 442, 443, 468, 469, 470, 471, 472, 473, 474, 444, 445, 446, 447, 420, 421, 422, 423, 541, 542, 543, 544, 167, 428, 448, 449, 450, 451, 168, 452, 453, 454, 455, 460, 461, 462, 463, 464, 465, 466, 467, 475, 476, 477, 478, 545, 546, 547, 548, 1397, 1398, 1399, 1400, 1401, 1402, 1403, 1404, 1405, 1406, 1407, 1408, 1409, 1410, 1411, 1412, 1413, 1414, 1415, 1416, 1417, 1418, 1419, 1420, 1421, 1422, 1423, 1424, 1425, 1426, 1427, 1428, 1429, 1430, 1431, 1432, 1433, 1434, 1435, 1436, 1437] (by decide +kernel) (by decide +kernel)
set_option maxRecDepth 20000 in
theorem gL_law_X12_take : GoodIn wsL_law (wsV RL 31 RX12 yX12_take wsX12_take) := goodIn_app (goodIn_of _ (by decide +kernel)) ggL_law_X12_take
set_option maxRecDepth 20000 in
theorem ggL_law_X11_orders : GoodIn wsL_law wsX11_orders := goodIn_r _ [552, 43, 27, 38, 19, 553, 243, 244, 245, 2, 246, 15, 182, 554, 555, 556, 557, 558, 559, 560, 18, 561, 65, 66, 67, 562, 563, 564, 42, 565, 151, 566, 567, 568, 569, 146, 149, 147, 150, 570, 571, 572, 573, 64, 574, 256, 257, 14, 258, 59, 58, 575, 576, 577, 578, 579, 580, 581, 582, 583, 584, 585, 586, 587, 588, 589, 590, 591, 592, 252, 253, 22, 254, 73, 593, 260, 261, 594, 263, 264, 265, 72, 595, 596, 597, 598, 599, 600, 601, 602, 603, 604, 605, 606, 607, 608, 609, 610, 611, 612, 613, 614, 216, 217, 218, 219, 615, 616, 617, 618, 619, 267, 268, 32, 269, 93, 210, 95, 270, 271, 272, 273, 97, 274, 275, 276, 92, 277, 111, 278, 279, 280, 281, 282, 283, 284, 285, 286, 287, 288, 289, 290, 109, 291, 292, 293, 294, 108, 295, 296, 297, 298, 299, 300, 301, 302, 303, 304, 305, 306, 307, 308, 309, 310, 110, 311, 312, 313, 314, 315, 316, 317, 318, 319, 320, 321, 322, 323, 324, 325, 326, 327, 328, 102, 329, 330, 331, 332, 333, 334, 335, 336, 98, 337, 338, 339, 340, 341, 342, 343, 344, 345, 346, 347, 348, 349, 350, 351, 352, 353, 354, 355, 356, 357, 358, 359, 360, 361, 362, 99, 100, 363, 364, 365, 366, 367, 368, 369, 370, 371, 372, 373, 374, 620, 484, 485, 486, 487, 488, 489, 490, 491, 492, 493, 494, 495, 496, 497, 498, 499, 500, 501, 502, 503, 504, 505, 506, 507, 508, 509, 510, 511, 512, 101, 513, 514, 515, 516, 517, 518, 519, 520, 103, 621, 622, 623, 624, 1385, 1386, 1387, 1388, 1389, 1390, 1391, 1392, 1393, 1394, 1395, 1396, 1446, 1447, 1448, 1440, 1441, 1442, 1443, 1438, 1439, 1462, 1463, 1464, 1465, 1466, 1444, 1445, 1449, 1450, 1451, 1452, 1453, 1454, 1455, 1456, 1457, 1479, 1480, 1481, 1482] (by decide +kernel) (by decide +kernel)
set_option maxRecDepth 20000 in
theorem gL_law_X11_orders : GoodIn wsL_law (wsV RL 32 RX11 yX11_orders wsX11_orders) := goodIn_app (goodIn_of _ (by decide +kernel)) ggL_law_X11_orders
set_option maxRecDepth 20000 in
theorem ggL_law_X12_orders : GoodIn wsL_law wsX12_orders := goodIn_r _ [628, 629, 630, 631, 632, 5, 633, 191, 224, 225, 226, 634, 635, 636, 637, 638, 639, 640, 641, 642, 643, 644, 170, 172, 645, 173, 646, 171, 647, 174, 175, 648, 649, 650, 651, 652, 653, 654, 655, 169, 656, 657, 658, 659, 389, 390, 391, 660, 661, 662, 663, 664, 665, 666, 667, 668, 669, 670, 671, 672, 673, 674, 675, 676, 677, 678, 679, 680, 681, 682, 683, 388, 166, 400, 401, 402, 403, 404, 405, 406, 407, 165, 408, 409, 410, 411, 412, 413, 414, 415, 416, 417, 418, 419, 396, 397, 398, 399, 529, 530, 531, 532, 434, 435, 533, 534, 535, 536, 537, 538, 539, 540, 436, 437, 438, 439, 440, 441, 442, 443, 468, 469, 470, 471, 472, 473, 474, 444, 445, 446, 447, 420, 421, 422, 423, 541, 542, 543, 544, 167, 428, 448, 449, 450, 451, 168, 452, 453, 454, 455, 460, 461, 462, 463, 464, 465, 466, 467, 475, 476, 477, 478, 545, 546, 547, 548, 392, 393, 394, 395, 424, 425, 426, 427, 429, 430, 431, 432, 433, 456, 457, 458, 459, 525, 526, 527, 528, 1397, 1398, 1399, 1400, 1401, 1402, 1403, 1404, 1405, 1406, 1407, 1408, 1409, 1410, 1411, 1412, 1413, 1414, 1415, 1416, 1417, 1418, 1419, 1420, 1421, 1422, 1423, 1424, 1425, 1426, 1427, 1428, 1429, 1430, 1431, 1432, 1433, 1434, 1435, 1436, 1437] (by decide +kernel) (by decide +kernel)
set_option maxRecDepth 20000 in
theorem gL_law_X12_orders : GoodIn wsL_law (wsV RL 35 RX12 yX12_orders wsX12_orders) := goodIn_app (goodIn_of _ (by decide +kernel)) ggL_law_X12_orders
set_option maxRecDepth 20000 in
theorem ggL_law_X11_batch : GoodIn wsL_law wsX11_batch := goodIn_r _ [687, 19, 553, 33, 27, 38, 43, 688, 243, 244, 245, 2, 246, 15, 182, 554, 555, 556, 557, 558, 559, 560, 18, 561, 65, 66, 67, 562, 563, 564, 42, 565, 151, 566, 567, 568, 569, 146, 149, 147, 150, 570, 571, 572, 573, 64, 574, 256, 257, 14, 258, 59, 58, 575, 576, 577, 578, 579, 580, 581, 582, 583, 584, 585, 586, 587, 588, 589, 590, 591, 592, 252, 253, 22, 254, 73, 593, 260, 261, 594, 263, 264, 265, 72, 595, 596, 597, 598, 599, 600, 601, 602, 603, 604, 605, 606, 607, 608, 609, 610, 611, 612, 613, 614, 216, 217, 218, 219, 689, 690, 691, 32, 692, 93, 95, 270, 271, 272, 273, 97, 98, 99, 100, 101, 102, 103, 693, 694, 695, 92, 696, 108, 319, 109, 110, 111, 615, 616, 617, 618, 619, 267, 268, 269, 210, 274, 275, 276, 277, 278, 279, 280, 281, 282, 283, 284, 285, 286, 287, 288, 289, 290, 291, 292, 293, 294, 295, 296, 297, 298, 299, 300, 301, 302, 303, 304, 305, 306, 307, 308, 309, 310, 311, 312, 313, 314, 315, 316, 317, 318, 320, 321, 322, 323, 324, 325, 326, 327, 328, 329, 330, 331, 332, 333, 334, 335, 336, 337, 338, 339, 340, 341, 342, 343, 344, 345, 346, 347, 348, 349, 350, 351, 352, 353, 354, 355, 356, 357, 358, 359, 360, 361, 362, 363, 364, 365, 366, 367, 368, 369, 370, 371, 372, 373, 374, 620, 484, 485, 486, 487, 488, 489, 490, 491, 492, 493, 494, 495, 496, 497, 498, 499, 500, 501, 502, 503, 504, 505, 506, 507, 508, 509, 510, 511, 512, 513, 514, 515, 516, 517, 518, 519, 520, 621, 622, 623, 624, 1385, 1386, 1387, 1388, 1389, 1390, 1391, 1392, 1393, 1394, 1395, 1396, 1440, 1441, 1442, 1443, 1446, 1447, 1448, 1462, 1463, 1464, 1465, 1466, 1438, 1439, 1444, 1445, 1449, 1450, 1451, 1452, 1453, 1454, 1455, 1456, 1457, 1479, 1480, 1481, 1482] (by decide +kernel) (by decide +kernel)
set_option maxRecDepth 20000 in
theorem gL_law_X11_batch : GoodIn wsL_law (wsV RL 36 RX11 yX11_batch wsX11_batch) := goodIn_app (goodIn_of _ (by decide +kernel)) ggL_law_X11_batch
set_option maxRecDepth 20000 in
theorem ggL_law_X12_batch : GoodIn wsL_law wsX12_batch := goodIn_r _ [700, 629, 640, 630, 631, 632, 5, 633, 191, 224, 225, 226, 634, 635, 636, 637, 638, 639, 641, 642, 643, 644, 170, 172, 645, 173, 646, 171, 647, 174, 175, 648, 649, 650, 651, 652, 653, 654, 655, 169, 656, 657, 658, 659, 389, 390, 391, 660, 661, 662, 663, 664, 665, 666, 667, 701, 702, 703, 704, 165, 668, 669, 670, 671, 672, 673, 674, 675, 676, 677, 678, 679, 680, 681, 682, 683, 388, 166, 400, 401, 402, 403, 404, 405, 406, 407, 408, 409, 410, 411, 412, 413, 414, 415, 416, 417, 418, 419, 396, 397, 398, 399, 529, 530, 531, 532, 434, 435, 533, 534, 535, 536, 537, 538, 539, 540, 436, 437, 438, 439, 440, 441, 442, 443, 468, 469, 470, 471, 472, 473, 474, 444, 445, 446, 447, 420, 421, 422, 423, 541, 542, 543, 544, 167, 428, 448, 449, 450, 451, 168, 452, 453, 454, 455, 460, 461, 462, 463, 464, 465, 466, 467, 475, 476, 477, 478, 545, 546, 547, 548, 392, 393, 394, 395, 424, 425, 426, 427, 429, 430, 431, 432, 433, 456, 457, 458, 459, 525, 526, 527, 528, 1397, 1398, 1399, 1400, 1401, 1402, 1403, 1404, 1405, 1406, 1407, 1408, 1409, 1410, 1411, 1412, 1413, 1414, 1415, 1416, 1417, 1418, 1419, 1420, 1421, 1422, 1423, 1424, 1425, 1426, 1427, 1428, 1429, 1430, 1431, 1432, 1433, 1434, 1435, 1436, 1437] (by decide +kernel) (by decide +kernel)
set_option maxRecDepth 20000 in
theorem gL_law_X12_batch : GoodIn wsL_law (wsV RL 39 RX12 yX12_batch wsX12_batch) := goodIn_app (goodIn_of _ (by decide +kernel)) ggL_law_X12_batch
set_option maxRecDepth 20000 in
theorem ggL_law_X11_count : GoodIn wsL_law wsX11_count := goodIn_r _ [708, 15, 182, 27, 38, 709, 710, 711, 32, 712, 93, 210, 98, 99, 100, 101, 102, 103, 713, 714, 715, 716, 343, 344, 345, 346, 326, 327, 285, 328, 347, 348, 349, 350, 95, 717, 718, 719, 720, 329, 330, 331, 332, 97, 721, 722, 723, 724, 725, 726, 727, 728, 341, 288, 289, 92, 290, 111, 109, 729, 730, 731, 732, 733, 734, 735, 736, 737, 738, 739, 740, 741, 308, 309, 310, 110, 1385, 1386, 1387, 1388, 1389, 1390, 1391, 1392, 1393, 1394, 1395, 1396, 1438, 1439, 1446, 1447, 1448, 1449, 1450, 1451, 1452, 1453, 1454, 1455, 1456, 1457, 1479, 1480, 1481, 1482] (by decide +kernel) (by decide +kernel)
set_option maxRecDepth 20000 in
theorem gL_law_X11_count : GoodIn wsL_law (wsV RL 40 RX11 yX11_count wsX11_count) := goodIn_app (goodIn_of _ (by decide +kernel)) ggL_law_X11_count
set_option maxRecDepth 20000 in
theorem ggL_law_X12_count : GoodIn wsL_law wsX12_count := goodIn_r _ [745, 165, 191, 224, 225, 5, 226, 746, 747, 748, 749, 750, 751, 752, 753, 754, 755, 756, 757, 758, 759, 760, 404, 405, 406, 407, 412, 413, 414, 415, 761, 762, 763, 764, 434, 435, 537, 538, 539, 540, 388, 166, 416, 417, 418, 419, 436, 437, 438, 439, 440, 441, 442, 443, 448, 449, 450, 451, 428, 168, 167, 452, 453, 454, 455, 765, 766, 767, 768, 769, 770, 771, 772, 468, 469, 470, 471, 472, 473, 474, 773, 774, 775, 776, 777, 778, 779, 780, 781, 782, 783, 784, 785, 786, 787, 788, 789, 790, 791, 792, 793, 794, 795, 796, 797, 798, 1397, 1398, 1399, 1400, 1401, 1402, 1403, 1404, 1405, 1406, 1407, 1408, 1409, 1410, 1411, 1412, 1413, 1414, 1415, 1416, 1417, 1418, 1419, 1420, 1421, 1422, 1423, 1424, 1425, 1426, 1427, 1428, 1429, 1430, 1431, 1432, 1433, 1434, 1435, 1436, 1437] (by decide +kernel) (by decide +kernel)
set_option maxRecDepth 20000 in
theorem gL_law_X12_count : GoodIn wsL_law (wsV RL 43 RX12 yX12_count wsX12_count) := goodIn_app (goodIn_of _ (by decide +kernel)) ggL_law_X12_count
set_option maxRecDepth 20000 in
theorem ggL_law_X11_value : GoodIn wsL_law wsX11_value := goodIn_r _ [802, 27, 38, 51, 23, 239, 240, 241, 2, 242, 243, 244, 245, 246, 15, 182, 247, 248, 249, 250, 251, 252, 253, 22, 254, 73, 255, 256, 257, 14, 258, 59, 58, 259, 260, 261, 262, 263, 264, 265, 72, 216, 217, 218, 219, 803, 488, 489, 92, 490, 491, 275, 276, 277, 111, 278, 279, 280, 281, 282, 283, 284, 285, 286, 287, 288, 289, 290, 109, 291, 292, 293, 294, 108, 295, 296, 297, 298, 492, 300, 301, 302, 303, 304, 305, 306, 804, 308, 309, 310, 110, 1385, 1386, 1387, 1388, 1389, 1390, 1391, 1392, 1393, 1394, 1395, 1396, 1446, 1447, 1448, 1449, 1450, 1451, 1452, 1453, 1454, 1455, 1456, 1457, 1438, 1439, 1444, 1445, 1479, 1480, 1481, 1482] (by decide +kernel) (by decide +kernel)
set_option maxRecDepth 20000 in
theorem gL_law_X11_value : GoodIn wsL_law (wsV RL 44 RX11 yX11_value wsX11_value) := goodIn_app (goodIn_of _ (by decide +kernel)) ggL_law_X11_value
set_option maxRecDepth 20000 in
theorem ggL_law_X12_value : GoodIn wsL_law wsX12_value := goodIn_r _ [808, 380, 381, 382, 5, 383, 191, 224, 225, 226, 384, 385, 386, 387, 388, 166, 169, 389, 390, 391, 396, 397, 398, 399, 400, 401, 402, 403, 404, 405, 406, 407, 165, 408, 409, 410, 411, 412, 413, 414, 415, 416, 417, 418, 419, 1397, 1398, 1399, 1400, 1401, 1402, 1403, 1404, 1405, 1406, 1407, 1408, 1409, 1410, 1411, 1412, 1413, 1414, 1415, 1416, 1417, 1418, 1419, 1420, 1421, 1422, 1423, 1424, 1425, 1426, 1427, 1428, 1429, 1430, 1431, 1432, 1433, 1434, 1435, 1436, 1437] (by decide +kernel) (by decide +kernel)
set_option maxRecDepth 20000 in
theorem gL_law_X12_value : GoodIn wsL_law (wsV RL 47 RX12 yX12_value wsX12_value) := goodIn_app (goodIn_of _ (by decide +kernel)) ggL_law_X12_value
set_option maxRecDepth 20000 in
theorem ggL_law_X11_rank : GoodIn wsL_law wsX11_rank := goodIn_r _ [812, 27, 38, 51, 23, 239, 240, 241, 2, 242, 243, 244, 245, 246, 15, 182, 247, 248, 249, 250, 251, 252, 253, 22, 254, 73, 255, 256, 257, 14, 258, 59, 58, 259, 260, 261, 262, 263, 264, 265, 72, 216, 217, 218, 219, 813, 275, 276, 92, 277, 111, 278, 279, 280, 281, 282, 283, 284, 285, 286, 287, 288, 289, 290, 109, 291, 292, 293, 294, 108, 295, 296, 297, 298, 1385, 1386, 1387, 1388, 1389, 1390, 1391, 1392, 1393, 1394, 1395, 1396, 1446, 1447, 1448, 1449, 1450, 1451, 1452, 1453, 1454, 1455, 1456, 1457, 1438, 1439, 1444, 1445, 1479, 1480, 1481, 1482] (by decide +kernel) (by decide +kernel)
set_option maxRecDepth 20000 in
theorem gL_law_X11_rank : GoodIn wsL_law (wsV RL 48 RX11 yX11_rank wsX11_rank) := goodIn_app (goodIn_of _ (by decide +kernel)) ggL_law_X11_rank
set_option maxRecDepth 20000 in
theorem ggL_law_X12_rank : GoodIn wsL_law wsX12_rank := goodIn_r _ [817, 380, 381, 382, 5, 383, 191, 224, 225, 226, 384, 385, 386, 387, 388, 166, 169, 389, 390, 391, 400, 401, 402, 403, 404, 405, 406, 407, 165, 408, 409, 410, 411, 412, 413, 414, 415, 416, 417, 418, 419, 1397, 1398, 1399, 1400, 1401, 1402, 1403, 1404, 1405, 1406, 1407, 1408, 1409, 1410, 1411, 1412, 1413, 1414, 1415, 1416, 1417, 1418, 1419, 1420, 1421, 1422, 1423, 1424, 1425, 1426, 1427, 1428, 1429, 1430, 1431, 1432, 1433, 1434, 1435, 1436, 1437] (by decide +kernel) (by decide +kernel)
set_option maxRecDepth 20000 in
theorem gL_law_X12_rank : GoodIn wsL_law (wsV RL 51 RX12 yX12_rank wsX12_rank) := goodIn_app (goodIn_of _ (by decide +kernel)) ggL_law_X12_rank
set_option maxRecDepth 20000 in
theorem ggL_law_X11_key : GoodIn wsL_law wsX11_key := goodIn_r _ [821, 27, 38, 51, 822, 304, 305, 92, 306, 111, 823, 288, 289, 290, 109, 804, 308, 309, 310, 110, 824, 825, 826, 32, 827, 343, 344, 345, 346, 326, 327, 285, 328, 347, 348, 349, 350, 93, 210, 95, 329, 330, 331, 332, 97, 828, 292, 293, 294, 108, 1385, 1386, 1387, 1388, 1389, 1390, 1391, 1392, 1393, 1394, 1395, 1396, 1446, 1447, 1448, 1449, 1450, 1451, 1452, 1453, 1454, 1455, 1456, 1457, 1479, 1480, 1481, 1482] (by decide +kernel) (by decide +kernel)
set_option maxRecDepth 20000 in
theorem gL_law_X11_key : GoodIn wsL_law (wsV RL 52 RX11 yX11_key wsX11_key) := goodIn_app (goodIn_of _ (by decide +kernel)) ggL_law_X11_key
set_option maxRecDepth 20000 in
theorem ggL_law_X12_key : GoodIn wsL_law wsX12_key := goodIn_r _ [832, 833, 834, 835, 5, 836, 404, 405, 406, 407, 165, 224, 225, 226, 412, 413, 414, 415, 837, 838, 839, 840, 167, 533, 534, 535, 536, 388, 435, 434, 537, 538, 539, 540, 166, 416, 417, 418, 419, 436, 437, 438, 439, 440, 441, 442, 443, 448, 449, 450, 451, 428, 168, 452, 453, 454, 455, 460, 461, 462, 463, 468, 469, 470, 471, 472, 473, 474, 1397, 1398, 1399, 1400, 1401, 1402, 1403, 1404, 1405, 1406, 1407, 1408, 1409, 1410, 1411, 1412, 1413, 1414, 1415, 1416, 1417, 1418, 1419, 1420, 1421, 1422, 1423, 1424, 1425, 1426, 1427, 1428, 1429, 1430, 1431, 1432, 1433, 1434, 1435, 1436, 1437] (by decide +kernel) (by decide +kernel)
set_option maxRecDepth 20000 in
theorem gL_law_X12_key : GoodIn wsL_law (wsV RL 55 RX12 yX12_key wsX12_key) := goodIn_app (goodIn_of _ (by decide +kernel)) ggL_law_X12_key
set_option maxRecDepth 20000 in
theorem ggL_law_X11_near : GoodIn wsL_law wsX11_near := goodIn_r _ [844, 27, 38, 51, 23, 239, 240, 241, 2, 242, 243, 244, 245, 246, 15, 182, 247, 248, 249, 250, 251, 252, 253, 22, 254, 73, 255, 256, 257, 14, 258, 59, 58, 259, 260, 261, 262, 263, 264, 265, 72, 216, 217, 218, 219, 813, 275, 276, 92, 277, 111, 278, 279, 280, 281, 282, 283, 284, 285, 286, 287, 288, 289, 290, 109, 291, 292, 293, 294, 108, 295, 296, 297, 298, 845, 300, 301, 302, 303, 304, 305, 306, 846, 847, 848, 849, 822, 1385, 1386, 1387, 1388, 1389, 1390, 1391, 1392, 1393, 1394, 1395, 1396, 1446, 1447, 1448, 1449, 1450, 1451, 1452, 1453, 1454, 1455, 1456, 1457, 1438, 1439, 1444, 1445, 1479, 1480, 1481, 1482] (by decide +kernel) (by decide +kernel)
set_option maxRecDepth 20000 in
theorem gL_law_X11_near : GoodIn wsL_law (wsV RL 56 RX11 yX11_near wsX11_near) := goodIn_app (goodIn_of _ (by decide +kernel)) ggL_law_X11_near
set_option maxRecDepth 20000 in
theorem ggL_law_X12_near : GoodIn wsL_law wsX12_near := goodIn_r _ [853, 380, 381, 382, 5, 383, 191, 224, 225, 226, 384, 385, 386, 387, 388, 166, 169, 389, 390, 391, 400, 401, 402, 403, 404, 405, 406, 407, 165, 408, 409, 410, 411, 412, 413, 414, 415, 416, 417, 418, 419, 396, 397, 398, 399, 833, 834, 835, 836, 1397, 1398, 1399, 1400, 1401, 1402, 1403, 1404, 1405, 1406, 1407, 1408, 1409, 1410, 1411, 1412, 1413, 1414, 1415, 1416, 1417, 1418, 1419, 1420, 1421, 1422, 1423, 1424, 1425, 1426, 1427, 1428, 1429, 1430, 1431, 1432, 1433, 1434, 1435, 1436, 1437] (by decide +kernel) (by decide +kernel)
set_option maxRecDepth 20000 in
theorem gL_law_X12_near : GoodIn wsL_law (wsV RL 59 RX12 yX12_near wsX12_near) := goodIn_app (goodIn_of _ (by decide +kernel)) ggL_law_X12_near
set_option maxRecDepth 20000 in
theorem ggL_law_X11_begins : GoodIn wsL_law wsX11_begins := goodIn_r _ [857, 27, 38, 51, 23, 239, 240, 241, 2, 242, 243, 244, 245, 246, 15, 182, 247, 248, 249, 250, 251, 252, 253, 22, 254, 73, 255, 256, 257, 14, 258, 59, 58, 259, 260, 261, 262, 263, 264, 265, 72, 216, 217, 218, 219, 813, 275, 276, 92, 277, 111, 278, 279, 280, 281, 282, 283, 284, 285, 286, 287, 288, 289, 290, 109, 291, 292, 293, 294, 108, 295, 296, 297, 298, 858, 859, 860, 861, 862, 863, 864, 865, 866, 738, 739, 740, 741, 308, 309, 310, 110, 1385, 1386, 1387, 1388, 1389, 1390, 1391, 1392, 1393, 1394, 1395, 1396, 1446, 1447, 1448, 1449, 1450, 1451, 1452, 1453, 1454, 1455, 1456, 1457, 1438, 1439, 1444, 1445, 1479, 1480, 1481, 1482] (by decide +kernel) (by decide +kernel)
set_option maxRecDepth 20000 in
theorem gL_law_X11_begins : GoodIn wsL_law (wsV RL 60 RX11 yX11_begins wsX11_begins) := goodIn_app (goodIn_of _ (by decide +kernel)) ggL_law_X11_begins
set_option maxRecDepth 20000 in
theorem ggL_law_X12_begins : GoodIn wsL_law wsX12_begins := goodIn_r _ [870, 380, 381, 382, 5, 383, 191, 224, 225, 226, 384, 385, 386, 387, 388, 166, 169, 389, 390, 391, 404, 405, 406, 407, 165, 871, 872, 873, 874, 412, 413, 414, 415, 416, 417, 418, 419, 1397, 1398, 1399, 1400, 1401, 1402, 1403, 1404, 1405, 1406, 1407, 1408, 1409, 1410, 1411, 1412, 1413, 1414, 1415, 1416, 1417, 1418, 1419, 1420, 1421, 1422, 1423, 1424, 1425, 1426, 1427, 1428, 1429, 1430, 1431, 1432, 1433, 1434, 1435, 1436, 1437] (by decide +kernel) (by decide +kernel)
set_option maxRecDepth 20000 in
theorem gL_law_X12_begins : GoodIn wsL_law (wsV RL 63 RX12 yX12_begins wsX12_begins) := goodIn_app (goodIn_of _ (by decide +kernel)) ggL_law_X12_begins
set_option maxRecDepth 20000 in
theorem ggL_law_X11_alike : GoodIn wsL_law wsX11_alike := goodIn_r _ [878, 27, 38, 51, 822, 304, 305, 92, 306, 111, 879, 338, 339, 340, 283, 284, 285, 286, 287, 288, 289, 290, 109, 291, 292, 293, 294, 108, 1385, 1386, 1387, 1388, 1389, 1390, 1391, 1392, 1393, 1394, 1395, 1396, 1446, 1447, 1448, 1449, 1450, 1451, 1452, 1453, 1454, 1455, 1456, 1457, 1479, 1480, 1481, 1482] (by decide +kernel) (by decide +kernel)
set_option maxRecDepth 20000 in
theorem gL_law_X11_alike : GoodIn wsL_law (wsV RL 64 RX11 yX11_alike wsX11_alike) := goodIn_app (goodIn_of _ (by decide +kernel)) ggL_law_X11_alike
set_option maxRecDepth 20000 in
theorem ggL_law_X12_alike : GoodIn wsL_law wsX12_alike := goodIn_r _ [883, 833, 834, 835, 5, 836, 404, 405, 406, 407, 165, 224, 225, 226, 412, 413, 414, 415, 416, 417, 418, 419, 1397, 1398, 1399, 1400, 1401, 1402, 1403, 1404, 1405, 1406, 1407, 1408, 1409, 1410, 1411, 1412, 1413, 1414, 1415, 1416, 1417, 1418, 1419, 1420, 1421, 1422, 1423, 1424, 1425, 1426, 1427, 1428, 1429, 1430, 1431, 1432, 1433, 1434, 1435, 1436, 1437] (by decide +kernel) (by decide +kernel)
set_option maxRecDepth 20000 in
theorem gL_law_X12_alike : GoodIn wsL_law (wsV RL 67 RX12 yX12_alike wsX12_alike) := goodIn_app (goodIn_of _ (by decide +kernel)) ggL_law_X12_alike
set_option maxRecDepth 20000 in
theorem ggL_law_X11_cursor : GoodIn wsL_law wsX11_cursor := goodIn_r _ [887, 27, 888, 23, 889, 890, 2, 891, 239, 240, 241, 242, 243, 244, 245, 246, 15, 182, 247, 248, 249, 250, 251, 252, 253, 22, 254, 73, 255, 256, 257, 14, 258, 59, 58, 259, 260, 261, 262, 263, 264, 265, 72, 216, 217, 218, 219, 892, 893, 894, 83, 895, 117, 118, 119, 120, 121, 896, 897, 898, 899, 900, 271, 272, 273, 1385, 1386, 1387, 1388, 1389, 1390, 1391, 1392, 1393, 1394, 1395, 1396, 1446, 1447, 1448, 1438, 1439, 1444, 1445, 1474, 1475, 1476, 1477, 1478] (by decide +kernel) (by decide +kernel)
set_option maxRecDepth 20000 in
theorem gL_law_X11_cursor : GoodIn wsL_law (wsV RL 68 RX11 yX11_cursor wsX11_cursor) := goodIn_app (goodIn_of _ (by decide +kernel)) ggL_law_X11_cursor
set_option maxRecDepth 20000 in
theorem ggL_law_X12_cursor : GoodIn wsL_law wsX12_cursor := goodIn_r _ [904, 165, 905, 906, 5, 907, 224, 225, 226, 380, 381, 382, 383, 191, 384, 385, 386, 387, 388, 166, 169, 389, 390, 391, 908, 909, 910, 911, 912, 913, 914, 915, 1397, 1398, 1399, 1400, 1401, 1402, 1403, 1404, 1405, 1406, 1407, 1408, 1409, 1410, 1411, 1412, 1413, 1414, 1415, 1416, 1417, 1418, 1419, 1420, 1421, 1422, 1423, 1424, 1425, 1426, 1427, 1428, 1429, 1430, 1431, 1432, 1433, 1434, 1435, 1436, 1437] (by decide +kernel) (by decide +kernel)
set_option maxRecDepth 20000 in
theorem gL_law_X12_cursor : GoodIn wsL_law (wsV RL 71 RX12 yX12_cursor wsX12_cursor) := goodIn_app (goodIn_of _ (by decide +kernel)) ggL_law_X12_cursor
set_option maxRecDepth 20000 in
theorem ggL_law_X11_step : GoodIn wsL_law wsX11_step := goodIn_r _ [919, 27, 888, 920, 38, 889, 890, 2, 891, 921, 922, 923, 83, 924, 925, 117, 121, 926, 327, 285, 328, 119, 120, 927, 275, 276, 92, 277, 111, 278, 279, 280, 281, 282, 283, 284, 286, 287, 288, 289, 290, 109, 291, 292, 293, 294, 108, 295, 296, 297, 22, 298, 73, 72, 928, 300, 301, 302, 303, 304, 305, 306, 929, 847, 848, 849, 930, 931, 932, 933, 32, 934, 347, 348, 349, 350, 93, 210, 95, 343, 344, 345, 346, 326, 329, 330, 331, 332, 97, 935, 936, 937, 938, 320, 319, 271, 272, 273, 1385, 1386, 1387, 1388, 1389, 1390, 1391, 1392, 1393, 1394, 1395, 1396, 1446, 1447, 1448, 1474, 1475, 1476, 1477, 1478, 1449, 1450, 1451, 1452, 1453, 1454, 1455, 1456, 1457, 1479, 1480, 1481, 1482, 1444, 1445] (by decide +kernel) (by decide +kernel)
set_option maxRecDepth 20000 in
theorem gL_law_X11_step : GoodIn wsL_law (wsV RL 72 RX11 yX11_step wsX11_step) := goodIn_app (goodIn_of _ (by decide +kernel)) ggL_law_X11_step
set_option maxRecDepth 20000 in
theorem ggL_law_X12_step : GoodIn wsL_law wsX12_step := goodIn_r _ [942, 165, 905, 906, 5, 907, 224, 225, 226, 912, 913, 914, 915, 943, 944, 945, 946, 388, 166, 400, 401, 402, 403, 404, 405, 406, 407, 408, 409, 410, 411, 412, 413, 414, 415, 416, 417, 418, 419, 396, 397, 398, 399, 833, 834, 835, 836, 947, 948, 949, 950, 951, 952, 953, 954, 955, 956, 957, 434, 167, 533, 534, 535, 536, 435, 537, 538, 539, 540, 436, 437, 438, 439, 440, 441, 442, 443, 448, 449, 450, 451, 428, 168, 452, 453, 454, 455, 460, 461, 462, 463, 464, 465, 466, 467, 468, 469, 470, 471, 472, 473, 474, 908, 909, 910, 911, 1397, 1398, 1399, 1400, 1401, 1402, 1403, 1404, 1405, 1406, 1407, 1408, 1409, 1410, 1411, 1412, 1413, 1414, 1415, 1416, 1417, 1418, 1419, 1420, 1421, 1422, 1423, 1424, 1425, 1426, 1427, 1428, 1429, 1430, 1431, 1432, 1433, 1434, 1435, 1436, 1437] (by decide +kernel) (by decide +kernel)
set_option maxRecDepth 20000 in
theorem gL_law_X12_step : GoodIn wsL_law (wsV RL 76 RX12 yX12_step wsX12_step) := goodIn_app (goodIn_of _ (by decide +kernel)) ggL_law_X12_step
set_option maxRecDepth 20000 in
theorem ggL_law_X11_cursorIs : GoodIn wsL_law wsX11_cursorIs := goodIn_r _ [961, 27, 888, 920, 38, 51, 962, 963, 964, 965, 966, 889, 890, 2, 891, 803, 488, 489, 92, 490, 491, 275, 276, 277, 111, 278, 279, 280, 281, 282, 283, 284, 285, 286, 287, 288, 289, 290, 109, 291, 292, 293, 294, 108, 295, 296, 297, 22, 298, 73, 72, 492, 300, 301, 302, 303, 304, 305, 306, 967, 1385, 1386, 1387, 1388, 1389, 1390, 1391, 1392, 1393, 1394, 1395, 1396, 1446, 1447, 1448, 1474, 1475, 1476, 1477, 1478, 1449, 1450, 1451, 1452, 1453, 1454, 1455, 1456, 1457, 1444, 1445, 1479, 1480, 1481, 1482] (by decide +kernel) (by decide +kernel)
set_option maxRecDepth 20000 in
theorem gL_law_X11_cursorIs : GoodIn wsL_law (wsV RL 77 RX11 yX11_cursorIs wsX11_cursorIs) := goodIn_app (goodIn_of _ (by decide +kernel)) ggL_law_X11_cursorIs
set_option maxRecDepth 20000 in
theorem ggL_law_X12_cursorIs : GoodIn wsL_law wsX12_cursorIs := goodIn_r _ [971, 165, 905, 906, 5, 907, 224, 225, 226, 912, 913, 914, 915, 943, 944, 945, 946, 388, 166, 396, 397, 398, 399, 400, 401, 402, 403, 404, 405, 406, 407, 408, 409, 410, 411, 412, 413, 414, 415, 416, 417, 418, 419, 1397, 1398, 1399, 1400, 1401, 1402, 1403, 1404, 1405, 1406, 1407, 1408, 1409, 1410, 1411, 1412, 1413, 1414, 1415, 1416, 1417, 1418, 1419, 1420, 1421, 1422, 1423, 1424, 1425, 1426, 1427, 1428, 1429, 1430, 1431, 1432, 1433, 1434, 1435, 1436, 1437] (by decide +kernel) (by decide +kernel)
set_option maxRecDepth 20000 in
theorem gL_law_X12_cursorIs : GoodIn wsL_law (wsV RL 80 RX12 yX12_cursorIs wsX12_cursorIs) := goodIn_app (goodIn_of _ (by decide +kernel)) ggL_law_X12_cursorIs
set_option maxRecDepth 20000 in
theorem ggL_law_X11_full : GoodIn wsL_law wsX11_full := goodIn_r _ [975, 27, 38, 976, 977, 978, 32, 979, 93, 210, 329, 330, 331, 332, 97, 347, 348, 349, 350, 95, 343, 344, 345, 346, 326, 327, 285, 328, 363, 364, 365, 366, 355, 356, 357, 358, 1385, 1386, 1387, 1388, 1389, 1390, 1391, 1392, 1393, 1394, 1395, 1396, 1446, 1447, 1448, 1449, 1450, 1451, 1452, 1453, 1454, 1455, 1456, 1457, 1479, 1480, 1481, 1482] (by decide +kernel) (by decide +kernel)
set_option maxRecDepth 20000 in
theorem gL_law_X11_full : GoodIn wsL_law (wsV RL 81 RX11 yX11_full wsX11_full) := goodIn_app (goodIn_of _ (by decide +kernel)) ggL_law_X11_full
set_option maxRecDepth 20000 in
theorem ggL_law_X12_full : GoodIn wsL_law wsX12_full := goodIn_r _ [983, 165, 224, 225, 5, 226, 404, 405, 406, 407, 412, 413, 414, 415, 761, 762, 763, 764, 434, 435, 537, 538, 539, 540, 388, 166, 416, 417, 418, 419, 436, 437, 438, 439, 440, 441, 442, 443, 448, 449, 450, 451, 428, 168, 167, 452, 453, 454, 455, 984, 985, 986, 987, 468, 469, 470, 471, 472, 473, 474, 475, 476, 477, 478, 1397, 1398, 1399, 1400, 1401, 1402, 1403, 1404, 1405, 1406, 1407, 1408, 1409, 1410, 1411, 1412, 1413, 1414, 1415, 1416, 1417, 1418, 1419, 1420, 1421, 1422, 1423, 1424, 1425, 1426, 1427, 1428, 1429, 1430, 1431, 1432, 1433, 1434, 1435, 1436, 1437] (by decide +kernel) (by decide +kernel)
set_option maxRecDepth 20000 in
theorem gL_law_X12_full : GoodIn wsL_law (wsV RL 84 RX12 yX12_full wsX12_full) := goodIn_app (goodIn_of _ (by decide +kernel)) ggL_law_X12_full
set_option maxRecDepth 20000 in
theorem ggL_law_X11_closest : GoodIn wsL_law wsX11_closest := goodIn_r _ [991, 27, 38, 51, 992, 993, 994, 995, 92, 996, 111, 997, 338, 339, 340, 283, 284, 285, 286, 287, 288, 289, 290, 109, 291, 292, 293, 294, 108, 879, 1385, 1386, 1387, 1388, 1389, 1390, 1391, 1392, 1393, 1394, 1395, 1396, 1446, 1447, 1448, 1449, 1450, 1451, 1452, 1453, 1454, 1455, 1456, 1457, 1479, 1480, 1481, 1482] (by decide +kernel) (by decide +kernel)
set_option maxRecDepth 20000 in
theorem gL_law_X11_closest : GoodIn wsL_law (wsV RL 85 RX11 yX11_closest wsX11_closest) := goodIn_app (goodIn_of _ (by decide +kernel)) ggL_law_X11_closest
set_option maxRecDepth 20000 in
theorem ggL_law_X12_closest : GoodIn wsL_law wsX12_closest := goodIn_r _ [1001, 224, 225, 5, 226, 404, 405, 406, 407, 165, 1002, 881, 882, 883, 833, 834, 835, 836, 412, 413, 414, 415, 416, 417, 418, 419, 1397, 1398, 1399, 1400, 1401, 1402, 1403, 1404, 1405, 1406, 1407, 1408, 1409, 1410, 1411, 1412, 1413, 1414, 1415, 1416, 1417, 1418, 1419, 1420, 1421, 1422, 1423, 1424, 1425, 1426, 1427, 1428, 1429, 1430, 1431, 1432, 1433, 1434, 1435, 1436, 1437] (by decide +kernel) (by decide +kernel)
set_option maxRecDepth 20000 in
theorem gL_law_X12_closest : GoodIn wsL_law (wsV RL 88 RX12 yX12_closest wsX12_closest) := goodIn_app (goodIn_of _ (by decide +kernel)) ggL_law_X12_closest
set_option maxRecDepth 20000 in
theorem ggL_law_X11_layer : GoodIn wsL_law wsX11_layer := goodIn_r _ [1006, 39, 1007, 1008, 1009, 37, 1010, 139, 140, 138, 1011, 1012, 141, 1013, 344, 345, 32, 346, 326, 327, 285, 328, 347, 348, 349, 350, 93, 210, 95, 1014, 1015, 1016, 1017, 1018, 325, 284, 286, 1019, 1020, 1021, 1022, 1023, 1024, 1025, 1026, 1027, 1028, 1029, 1030, 1031, 1032, 1033, 1034, 1035, 1036, 1037, 1038, 1039, 1040, 1041, 1042, 1043, 1044, 330, 331, 332, 97, 1045, 1046, 1047, 1048, 1049, 1050, 1051, 1052, 1053, 364, 365, 366, 355, 356, 357, 358, 1385, 1386, 1387, 1388, 1389, 1390, 1391, 1392, 1393, 1394, 1395, 1396, 1458, 1459, 1460, 1461, 1449, 1450, 1451, 1452, 1453, 1454, 1455, 1456, 1457, 1479, 1480, 1481, 1482] (by decide +kernel) (by decide +kernel)
set_option maxRecDepth 20000 in
theorem gL_law_X11_layer : GoodIn wsL_law (wsV RL 89 RX11 yX11_layer wsX11_layer) := goodIn_app (goodIn_of _ (by decide +kernel)) ggL_law_X11_layer
set_option maxRecDepth 20000 in
theorem ggL_law_X12_layer : GoodIn wsL_law wsX12_layer := goodIn_r _ [1057, 1058, 435, 434, 165, 428, 224, 225, 5, 226, 1059, 1060, 1061, 1062, 388, 404, 405, 406, 407, 537, 538, 539, 540, 166, 412, 413, 414, 415, 416, 417, 418, 419, 761, 762, 763, 764, 436, 437, 438, 439, 440, 441, 442, 443, 448, 449, 450, 451, 168, 167, 452, 453, 454, 455, 769, 770, 771, 772, 468, 469, 470, 471, 472, 473, 474, 1063, 1064, 1065, 1066, 475, 476, 477, 478, 1397, 1398, 1399, 1400, 1401, 1402, 1403, 1404, 1405, 1406, 1407, 1408, 1409, 1410, 1411, 1412, 1413, 1414, 1415, 1416, 1417, 1418, 1419, 1420, 1421, 1422, 1423, 1424, 1425, 1426, 1427, 1428, 1429, 1430, 1431, 1432, 1433, 1434, 1435, 1436, 1437] (by decide +kernel) (by decide +kernel)
set_option maxRecDepth 20000 in
theorem gL_law_X12_layer : GoodIn wsL_law (wsV RL 92 RX12 yX12_layer wsX12_layer) := goodIn_app (goodIn_of _ (by decide +kernel)) ggL_law_X12_layer
set_option maxRecDepth 20000 in
theorem ggL_law_X11_entry : GoodIn wsL_law wsX11_entry := goodIn_r _ [1070, 39, 1071, 1072, 2, 1073, 1007, 1008, 1009, 37, 1010, 139, 140, 138, 1011, 1012, 141, 1013, 344, 345, 32, 346, 326, 327, 285, 328, 347, 348, 349, 350, 93, 210, 95, 1014, 1015, 1016, 1017, 1018, 325, 284, 286, 1074, 1075, 1076, 1077, 1028, 1029, 1030, 1031, 1078, 1079, 1080, 1081, 1082, 1083, 1084, 1085, 1086, 726, 727, 728, 98, 341, 288, 289, 92, 290, 111, 109, 343, 1087, 1088, 1089, 1090, 1023, 1091, 1092, 1093, 1020, 1021, 1022, 1094, 308, 309, 310, 110, 1095, 1096, 1097, 1098, 1036, 1037, 1038, 1039, 1040, 1041, 1042, 1043, 1044, 330, 331, 332, 97, 1099, 1100, 1101, 1102, 1103, 292, 293, 294, 108, 1104, 1105, 1106, 1107, 1385, 1386, 1387, 1388, 1389, 1390, 1391, 1392, 1393, 1394, 1395, 1396, 1458, 1459, 1460, 1461, 1449, 1450, 1451, 1452, 1453, 1454, 1455, 1456, 1457, 1479, 1480, 1481, 1482] (by decide +kernel) (by decide +kernel)
set_option maxRecDepth 20000 in
theorem gL_law_X11_entry : GoodIn wsL_law (wsV RL 93 RX11 yX11_entry wsX11_entry) := goodIn_app (goodIn_of _ (by decide +kernel)) ggL_law_X11_entry
set_option maxRecDepth 20000 in
theorem ggL_law_X12_entry : GoodIn wsL_law wsX12_entry := goodIn_r _ [1111, 1058, 428, 167, 165, 168, 224, 225, 5, 226, 1059, 1060, 1061, 1062, 388, 404, 405, 406, 407, 537, 538, 539, 540, 166, 412, 413, 414, 415, 416, 417, 418, 419, 761, 762, 763, 764, 434, 435, 436, 437, 438, 439, 440, 441, 442, 443, 448, 449, 450, 451, 452, 453, 454, 455, 791, 792, 793, 794, 784, 785, 786, 787, 788, 789, 790, 1112, 1113, 1114, 1115, 468, 469, 470, 471, 472, 473, 474, 1397, 1398, 1399, 1400, 1401, 1402, 1403, 1404, 1405, 1406, 1407, 1408, 1409, 1410, 1411, 1412, 1413, 1414, 1415, 1416, 1417, 1418, 1419, 1420, 1421, 1422, 1423, 1424, 1425, 1426, 1427, 1428, 1429, 1430, 1431, 1432, 1433, 1434, 1435, 1436, 1437] (by decide +kernel) (by decide +kernel)
set_option maxRecDepth 20000 in
theorem gL_law_X12_entry : GoodIn wsL_law (wsV RL 97 RX12 yX12_entry wsX12_entry) := goodIn_app (goodIn_of _ (by decide +kernel)) ggL_law_X12_entry
set_option maxRecDepth 20000 in
theorem ggL_law_X11_query : GoodIn wsL_law wsX11_query := goodIn_r _ [1119, 19, 47, 15, 553, 27, 1120, 52, 1121, 243, 244, 245, 2, 246, 182, 558, 559, 560, 18, 561, 65, 66, 67, 1122, 1123, 1124, 46, 1125, 131, 1126, 611, 612, 613, 1127, 1128, 1129, 1130, 127, 130, 128, 1131, 571, 572, 573, 64, 574, 256, 257, 14, 258, 59, 58, 1132, 584, 585, 586, 1133, 588, 589, 590, 591, 592, 252, 253, 22, 254, 73, 593, 260, 261, 594, 263, 264, 265, 72, 595, 576, 577, 578, 579, 580, 581, 582, 1134, 1135, 1136, 1137, 1138, 601, 602, 603, 604, 605, 1139, 1140, 1141, 607, 608, 609, 610, 614, 597, 598, 599, 216, 217, 218, 219, 1142, 1143, 1144, 1145, 1146, 271, 272, 273, 1147, 897, 898, 899, 900, 1148, 1149, 1150, 50, 1151, 158, 1152, 160, 159, 1153, 1154, 1155, 1156, 1157, 1158, 1159, 1160, 1161, 1162, 1163, 1164, 1165, 1166, 1167, 1168, 1169, 1170, 863, 864, 92, 865, 282, 287, 288, 289, 290, 111, 109, 291, 292, 293, 294, 108, 295, 296, 297, 298, 1171, 308, 309, 310, 110, 1172, 1385, 1386, 1387, 1388, 1389, 1390, 1391, 1392, 1393, 1394, 1395, 1396, 1440, 1441, 1442, 1443, 1446, 1447, 1448, 1471, 1472, 1473, 1438, 1439, 1467, 1468, 1469, 1470, 1444, 1445, 1479, 1480, 1481, 1482] (by decide +kernel) (by decide +kernel)
set_option maxRecDepth 20000 in
theorem gL_law_X11_query : GoodIn wsL_law (wsV RL 98 RX11 yX11_query wsX11_query) := goodIn_app (goodIn_of _ (by decide +kernel)) ggL_law_X11_query
set_option maxRecDepth 20000 in
theorem ggL_law_X12_query : GoodIn wsL_law wsX12_query := goodIn_r _ [1176, 638, 639, 191, 1177, 629, 165, 176, 1178, 630, 631, 632, 5, 633, 224, 225, 226, 1179, 1180, 1181, 1182, 647, 646, 169, 645, 648, 649, 650, 651, 652, 653, 654, 655, 664, 665, 666, 667, 656, 657, 658, 659, 389, 390, 391, 660, 661, 662, 663, 1183, 1184, 1185, 1186, 177, 404, 405, 406, 407, 1187, 1188, 1189, 1190, 388, 166, 1191, 1192, 1193, 1194, 871, 872, 873, 874, 412, 413, 414, 415, 416, 417, 418, 419, 1195, 1196, 1197, 1198, 1397, 1398, 1399, 1400, 1401, 1402, 1403, 1404, 1405, 1406, 1407, 1408, 1409, 1410, 1411, 1412, 1413, 1414, 1415, 1416, 1417, 1418, 1419, 1420, 1421, 1422, 1423, 1424, 1425, 1426, 1427, 1428, 1429, 1430, 1431, 1432, 1433, 1434, 1435, 1436, 1437] (by decide +kernel) (by decide +kernel)
set_option maxRecDepth 20000 in
theorem gL_law_X12_query : GoodIn wsL_law (wsV RL 101 RX12 yX12_query wsX12_query) := goodIn_app (goodIn_of _ (by decide +kernel)) ggL_law_X12_query
set_option maxRecDepth 20000 in
theorem ggL_law_X11_found : GoodIn wsL_law wsX11_found := goodIn_r _ [1202, 52, 27, 1120, 1121, 1148, 1149, 1150, 50, 1151, 158, 1152, 160, 159, 1153, 1154, 1155, 1156, 46, 1157, 131, 127, 1158, 1159, 1160, 1161, 1162, 1163, 1164, 1165, 1166, 1167, 1168, 1169, 128, 130, 1170, 863, 864, 92, 865, 282, 287, 288, 289, 290, 111, 109, 291, 292, 293, 294, 108, 295, 296, 297, 22, 298, 73, 72, 1171, 308, 309, 310, 110, 1172, 1203, 1204, 1205, 1206, 1207, 1208, 1209, 1210, 1211, 1212, 327, 285, 328, 1213, 1214, 1215, 1216, 1217, 1218, 284, 286, 1219, 1220, 1221, 1222, 1223, 1224, 1225, 1226, 1227, 1228, 1229, 1230, 1231, 1385, 1386, 1387, 1388, 1389, 1390, 1391, 1392, 1393, 1394, 1395, 1396, 1446, 1447, 1448, 1471, 1472, 1473, 1479, 1480, 1481, 1482, 1467, 1468, 1469, 1470, 1444, 1445] (by decide +kernel) (by decide +kernel)
set_option maxRecDepth 20000 in
theorem gL_law_X11_found : GoodIn wsL_law (wsV RL 102 RX11 yX11_found wsX11_found) := goodIn_app (goodIn_of _ (by decide +kernel)) ggL_law_X11_found
set_option maxRecDepth 20000 in
theorem ggL_law_X12_found : GoodIn wsL_law wsX12_found := goodIn_r _ [1235, 1236, 1178, 177, 224, 225, 5, 226, 1183, 1184, 1185, 1186, 165, 404, 405, 406, 407, 1187, 1188, 1189, 1190, 388, 166, 1191, 1192, 1193, 1194, 871, 872, 873, 874, 412, 413, 414, 415, 416, 417, 418, 419, 1195, 1196, 1197, 1198, 777, 778, 779, 788, 789, 790, 1237, 1238, 1239, 1240, 1397, 1398, 1399, 1400, 1401, 1402, 1403, 1404, 1405, 1406, 1407, 1408, 1409, 1410, 1411, 1412, 1413, 1414, 1415, 1416, 1417, 1418, 1419, 1420, 1421, 1422, 1423, 1424, 1425, 1426, 1427, 1428, 1429, 1430, 1431, 1432, 1433, 1434, 1435, 1436, 1437] (by decide +kernel) (by decide +kernel)
set_option maxRecDepth 20000 in
theorem gL_law_X12_found : GoodIn wsL_law (wsV RL 105 RX12 yX12_found wsX12_found) := goodIn_app (goodIn_of _ (by decide +kernel)) ggL_law_X12_found
set_option maxRecDepth 20000 in
theorem ggL_law_X11_foundAt : GoodIn wsL_law wsX11_foundAt := goodIn_r _ [1244, 52, 27, 1120, 1121, 1148, 1149, 1150, 50, 1151, 158, 1152, 160, 159, 1153, 1154, 1155, 1156, 46, 1157, 131, 127, 1158, 1159, 1160, 1161, 1162, 1163, 1164, 1165, 1166, 1167, 1168, 1169, 128, 130, 1170, 863, 864, 92, 865, 282, 287, 288, 289, 290, 111, 109, 291, 292, 293, 294, 108, 295, 296, 297, 22, 298, 73, 72, 1171, 308, 309, 310, 110, 1172, 1245, 1246, 1247, 1248, 1385, 1386, 1387, 1388, 1389, 1390, 1391, 1392, 1393, 1394, 1395, 1396, 1446, 1447, 1448, 1471, 1472, 1473, 1479, 1480, 1481, 1482, 1467, 1468, 1469, 1470, 1444, 1445] (by decide +kernel) (by decide +kernel)
set_option maxRecDepth 20000 in
theorem gL_law_X11_foundAt : GoodIn wsL_law (wsV RL 106 RX11 yX11_foundAt wsX11_foundAt) := goodIn_app (goodIn_of _ (by decide +kernel)) ggL_law_X11_foundAt
set_option maxRecDepth 20000 in
theorem ggL_law_X12_foundAt : GoodIn wsL_law wsX12_foundAt := goodIn_r _ [1252, 1178, 177, 1183, 1184, 1185, 5, 1186, 165, 404, 405, 406, 407, 1187, 1188, 1189, 1190, 388, 166, 1191, 1192, 1193, 1194, 871, 872, 873, 874, 412, 413, 414, 415, 416, 417, 418, 419, 1195, 1196, 1197, 1198, 1397, 1398, 1399, 1400, 1401, 1402, 1403, 1404, 1405, 1406, 1407, 1408, 1409, 1410, 1411, 1412, 1413, 1414, 1415, 1416, 1417, 1418, 1419, 1420, 1421, 1422, 1423, 1424, 1425, 1426, 1427, 1428, 1429, 1430, 1431, 1432, 1433, 1434, 1435, 1436, 1437] (by decide +kernel) (by decide +kernel)
set_option maxRecDepth 20000 in
theorem gL_law_X12_foundAt : GoodIn wsL_law (wsV RL 109 RX12 yX12_foundAt wsX12_foundAt) := goodIn_app (goodIn_of _ (by decide +kernel)) ggL_law_X12_foundAt
set_option maxRecDepth 20000 in
theorem ggL_law_X11_takeFound : GoodIn wsL_law wsX11_takeFound := goodIn_r _ [1256, 52, 27, 1120, 1121, 38, 1148, 1149, 1150, 50, 1151, 158, 1152, 160, 159, 1153, 1154, 1155, 1156, 46, 1157, 131, 127, 1158, 1159, 1160, 1161, 1162, 1163, 1164, 1165, 1166, 1167, 1168, 1169, 128, 130, 1170, 863, 864, 92, 865, 282, 287, 288, 289, 290, 111, 109, 291, 292, 293, 294, 108, 295, 296, 297, 22, 298, 73, 72, 1171, 308, 309, 310, 110, 1172, 1245, 1246, 1247, 1248, 1257, 494, 495, 32, 496, 93, 210, 95, 270, 271, 272, 273, 97, 342, 304, 305, 306, 343, 344, 345, 346, 326, 327, 285, 328, 347, 348, 349, 350, 355, 356, 357, 358, 497, 498, 499, 500, 501, 502, 503, 504, 505, 506, 507, 508, 319, 303, 351, 352, 353, 354, 509, 510, 511, 512, 99, 101, 363, 364, 365, 366, 513, 514, 515, 516, 329, 330, 331, 332, 371, 372, 373, 374, 517, 518, 519, 520, 103, 1258, 1259, 1260, 1261, 1385, 1386, 1387, 1388, 1389, 1390, 1391, 1392, 1393, 1394, 1395, 1396, 1446, 1447, 1448, 1471, 1472, 1473, 1479, 1480, 1481, 1482, 1467, 1468, 1469, 1470, 1444, 1445, 1449, 1450, 1451, 1452, 1453, 1454, 1455, 1456, 1457] (by decide +kernel) (by decide +kernel)
set_option maxRecDepth 20000 in
theorem gL_law_X11_takeFound : GoodIn wsL_law (wsV RL 110 RX11 yX11_takeFound wsX11_takeFound) := goodIn_app (goodIn_of _ (by decide +kernel)) ggL_law_X11_takeFound
set_option maxRecDepth 20000 in
theorem ggL_law_X12_takeFound : GoodIn wsL_law wsX12_takeFound := goodIn_r _ [1265, 1178, 177, 1183, 1184, 1185, 5, 1186, 165, 404, 405, 406, 407, 1187, 1188, 1189, 1190, 388, 166, 1191, 1192, 1193, 1194, 871, 872, 873, 874, 412, 413, 414, 415, 416, 417, 418, 419, 1195, 1196, 1197, 1198, 529, 530, 531, 532, 434, 435, 533, 534, 535, 536, 537, 538, 539, 540, 436, 437, 438, 439, 440, 441, 442, 443, 468, 469, 470, 471, 472, 473, 474, 444, 445, 446, 447, 420, 421, 422, 423, 541, 542, 543, 544, 167, 428, 448, 449, 450, 451, 168, 452, 453, 454, 455, 460, 461, 462, 463, 464, 465, 466, 467, 475, 476, 477, 478, 545, 546, 547, 548, 1397, 1398, 1399, 1400, 1401, 1402, 1403, 1404, 1405, 1406, 1407, 1408, 1409, 1410, 1411, 1412, 1413, 1414, 1415, 1416, 1417, 1418, 1419, 1420, 1421, 1422, 1423, 1424, 1425, 1426, 1427, 1428, 1429, 1430, 1431, 1432, 1433, 1434, 1435, 1436, 1437] (by decide +kernel) (by decide +kernel)
set_option maxRecDepth 20000 in
theorem gL_law_X12_takeFound : GoodIn wsL_law (wsV RL 114 RX12 yX12_takeFound wsX12_takeFound) := goodIn_app (goodIn_of _ (by decide +kernel)) ggL_law_X12_takeFound
set_option maxRecDepth 20000 in
theorem ggL_law_X11_change : GoodIn wsL_law wsX11_change := goodIn_r _ [1269, 52, 27, 1120, 1121, 38, 51, 235, 236, 2, 237, 238, 1148, 1149, 1150, 50, 1151, 158, 1152, 160, 159, 1153, 1154, 1155, 1156, 46, 1157, 131, 127, 1158, 1159, 1160, 1161, 1162, 1163, 1164, 1165, 1166, 1167, 1168, 1169, 128, 130, 1170, 863, 864, 92, 865, 282, 287, 288, 289, 290, 111, 109, 291, 292, 293, 294, 108, 295, 296, 297, 22, 298, 73, 72, 1171, 308, 309, 310, 110, 1172, 1245, 1246, 1247, 1248, 804, 1270, 1271, 1272, 1273, 1274, 1275, 285, 1276, 1277, 1278, 1279, 1280, 312, 313, 314, 303, 304, 305, 306, 1385, 1386, 1387, 1388, 1389, 1390, 1391, 1392, 1393, 1394, 1395, 1396, 1446, 1447, 1448, 1471, 1472, 1473, 1449, 1450, 1451, 1452, 1453, 1454, 1455, 1456, 1457, 1479, 1480, 1481, 1482, 1467, 1468, 1469, 1470, 1444, 1445] (by decide +kernel) (by decide +kernel)
set_option maxRecDepth 20000 in
theorem gL_law_X11_change : GoodIn wsL_law (wsV RL 115 RX11 yX11_change wsX11_change) := goodIn_app (goodIn_of _ (by decide +kernel)) ggL_law_X11_change
set_option maxRecDepth 20000 in
theorem ggL_law_X12_change : GoodIn wsL_law wsX12_change := goodIn_r _ [1284, 379, 1178, 177, 1285, 224, 225, 5, 226, 1183, 1184, 1185, 1186, 165, 404, 405, 406, 407, 1187, 1188, 1189, 1190, 388, 166, 1191, 1192, 1193, 1194, 871, 872, 873, 874, 412, 413, 414, 415, 416, 417, 418, 419, 1195, 1196, 1197, 1198, 420, 421, 422, 423, 1397, 1398, 1399, 1400, 1401, 1402, 1403, 1404, 1405, 1406, 1407, 1408, 1409, 1410, 1411, 1412, 1413, 1414, 1415, 1416, 1417, 1418, 1419, 1420, 1421, 1422, 1423, 1424, 1425, 1426, 1427, 1428, 1429, 1430, 1431, 1432, 1433, 1434, 1435, 1436, 1437] (by decide +kernel) (by decide +kernel)
set_option maxRecDepth 20000 in
theorem gL_law_X12_change : GoodIn wsL_law (wsV RL 118 RX12 yX12_change wsX12_change) := goodIn_app (goodIn_of _ (by decide +kernel)) ggL_law_X12_change
set_option maxRecDepth 20000 in
theorem ggL_law_X11_tried : GoodIn wsL_law wsX11_tried := goodIn_r _ [1289, 34, 27, 38, 51, 200, 201, 2, 202, 203, 204, 205, 1290, 1291, 1292, 32, 1293, 210, 93, 1294, 207, 208, 209, 98, 99, 100, 101, 102, 103, 1295, 1296, 1297, 92, 1298, 111, 108, 319, 271, 272, 273, 109, 110, 303, 304, 305, 306, 321, 322, 323, 324, 95, 97, 325, 284, 285, 286, 326, 327, 328, 329, 330, 331, 332, 333, 334, 335, 336, 337, 338, 339, 340, 283, 287, 288, 289, 290, 291, 292, 293, 294, 341, 342, 343, 344, 345, 346, 347, 348, 349, 350, 351, 352, 353, 354, 355, 356, 357, 358, 359, 360, 361, 362, 363, 364, 365, 366, 367, 368, 369, 370, 371, 372, 373, 374, 709, 710, 711, 712, 713, 714, 715, 716, 717, 718, 719, 720, 721, 722, 723, 724, 725, 726, 727, 728, 729, 730, 731, 732, 733, 734, 735, 736, 737, 738, 739, 740, 741, 308, 309, 310, 1385, 1386, 1387, 1388, 1389, 1390, 1391, 1392, 1393, 1394, 1395, 1396, 1446, 1447, 1448, 1449, 1450, 1451, 1452, 1453, 1454, 1455, 1456, 1457, 1479, 1480, 1481, 1482] (by decide +kernel) (by decide +kernel)
set_option maxRecDepth 20000 in
theorem gL_law_X11_tried : GoodIn wsL_law (wsV RL 119 RX11 yX11_tried wsX11_tried) := goodIn_app (goodIn_of _ (by decide +kernel)) ggL_law_X11_tried
set_option maxRecDepth 20000 in
theorem ggL_law_X12_tried : GoodIn wsL_law wsX12_tried := goodIn_r _ [1302, 224, 225, 5, 226, 1303, 1304, 1305, 1306, 165, 388, 166, 701, 702, 703, 704, 404, 405, 406, 407, 227, 228, 229, 230, 424, 425, 426, 427, 428, 429, 167, 430, 431, 432, 433, 434, 435, 436, 437, 438, 439, 440, 441, 442, 443, 412, 413, 414, 415, 416, 417, 418, 419, 444, 445, 446, 447, 420, 421, 422, 423, 408, 409, 410, 411, 400, 401, 402, 403, 448, 449, 450, 451, 168, 452, 453, 454, 455, 456, 457, 458, 459, 460, 461, 462, 463, 464, 465, 466, 467, 468, 469, 470, 471, 472, 473, 474, 475, 476, 477, 478, 746, 747, 748, 749, 750, 751, 752, 753, 754, 755, 756, 757, 758, 759, 760, 761, 762, 763, 764, 537, 538, 539, 540, 765, 766, 767, 768, 769, 770, 771, 772, 773, 774, 775, 776, 777, 778, 779, 780, 781, 782, 783, 784, 785, 786, 787, 788, 789, 790, 791, 792, 793, 794, 1397, 1398, 1399, 1400, 1401, 1402, 1403, 1404, 1405, 1406, 1407, 1408, 1409, 1410, 1411, 1412, 1413, 1414, 1415, 1416, 1417, 1418, 1419, 1420, 1421, 1422, 1423, 1424, 1425, 1426, 1427, 1428, 1429, 1430, 1431, 1432, 1433, 1434, 1435, 1436, 1437] (by decide +kernel) (by decide +kernel)
set_option maxRecDepth 20000 in
theorem gL_law_X12_tried : GoodIn wsL_law (wsV RL 122 RX12 yX12_tried wsX12_tried) := goodIn_app (goodIn_of _ (by decide +kernel)) ggL_law_X12_tried
set_option maxRecDepth 20000 in
theorem ggL_law_X11_best : GoodIn wsL_law wsX11_best := goodIn_r _ [1310, 34, 27, 38, 51, 1311, 1290, 1291, 1292, 32, 1293, 210, 93, 1294, 207, 208, 209, 98, 99, 100, 101, 102, 103, 1295, 1296, 1297, 92, 1298, 111, 108, 319, 271, 272, 273, 109, 110, 303, 304, 305, 306, 321, 322, 323, 324, 95, 97, 325, 284, 285, 286, 326, 327, 328, 329, 330, 331, 332, 333, 334, 335, 336, 337, 338, 339, 340, 283, 287, 288, 289, 290, 291, 292, 293, 294, 341, 342, 343, 344, 345, 346, 347, 348, 349, 350, 351, 352, 353, 354, 355, 356, 357, 358, 359, 360, 361, 362, 363, 364, 365, 366, 367, 368, 369, 370, 371, 372, 373, 374, 1312, 734, 735, 736, 713, 714, 715, 716, 717, 718, 719, 720, 1385, 1386, 1387, 1388, 1389, 1390, 1391, 1392, 1393, 1394, 1395, 1396, 1446, 1447, 1448, 1449, 1450, 1451, 1452, 1453, 1454, 1455, 1456, 1457, 1479, 1480, 1481, 1482] (by decide +kernel) (by decide +kernel)
set_option maxRecDepth 20000 in
theorem gL_law_X11_best : GoodIn wsL_law (wsV RL 123 RX11 yX11_best wsX11_best) := goodIn_app (goodIn_of _ (by decide +kernel)) ggL_law_X11_best
set_option maxRecDepth 20000 in
theorem ggL_law_X12_best : GoodIn wsL_law wsX12_best := goodIn_r _ [1316, 1236, 165, 224, 225, 5, 226, 1317, 1300, 1301, 1302, 1303, 1304, 1305, 1306, 388, 166, 701, 702, 703, 704, 404, 405, 406, 407, 227, 228, 229, 230, 424, 425, 426, 427, 428, 429, 167, 430, 431, 432, 433, 434, 435, 436, 437, 438, 439, 440, 441, 442, 443, 412, 413, 414, 415, 416, 417, 418, 419, 444, 445, 446, 447, 420, 421, 422, 423, 408, 409, 410, 411, 400, 401, 402, 403, 448, 449, 450, 451, 168, 452, 453, 454, 455, 456, 457, 458, 459, 460, 461, 462, 463, 464, 465, 466, 467, 468, 469, 470, 471, 472, 473, 474, 475, 476, 477, 478, 746, 747, 748, 749, 750, 751, 752, 753, 754, 755, 756, 757, 758, 759, 760, 761, 762, 763, 764, 537, 538, 539, 540, 765, 766, 767, 768, 769, 770, 771, 772, 773, 774, 775, 776, 777, 778, 779, 780, 781, 782, 783, 784, 785, 786, 787, 788, 789, 790, 791, 792, 793, 794, 1397, 1398, 1399, 1400, 1401, 1402, 1403, 1404, 1405, 1406, 1407, 1408, 1409, 1410, 1411, 1412, 1413, 1414, 1415, 1416, 1417, 1418, 1419, 1420, 1421, 1422, 1423, 1424, 1425, 1426, 1427, 1428, 1429, 1430, 1431, 1432, 1433, 1434, 1435, 1436, 1437] (by decide +kernel) (by decide +kernel)
set_option maxRecDepth 20000 in
theorem gL_law_X12_best : GoodIn wsL_law (wsV RL 126 RX12 yX12_best wsX12_best) := goodIn_app (goodIn_of _ (by decide +kernel)) ggL_law_X12_best
set_option maxRecDepth 20000 in
theorem ggL_law_X11_keep : GoodIn wsL_law wsX11_keep := goodIn_r _ [1321, 28, 27, 29, 38, 51, 992, 1322, 1323, 1324, 26, 1325, 79, 81, 85, 1326, 690, 691, 32, 692, 93, 95, 270, 271, 272, 273, 97, 98, 99, 100, 101, 102, 103, 693, 694, 695, 92, 696, 108, 319, 109, 110, 111, 1327, 1328, 1329, 83, 1330, 117, 118, 119, 120, 121, 896, 897, 898, 22, 899, 72, 900, 73, 1331, 1143, 1144, 46, 1145, 127, 1146, 128, 130, 131, 1147, 1385, 1386, 1387, 1388, 1389, 1390, 1391, 1392, 1393, 1394, 1395, 1396, 1446, 1447, 1448, 1449, 1450, 1451, 1452, 1453, 1454, 1455, 1456, 1457, 1479, 1480, 1481, 1482, 1474, 1475, 1476, 1477, 1478, 1444, 1445, 1467, 1468, 1469, 1470] (by decide +kernel) (by decide +kernel)
set_option maxRecDepth 20000 in
theorem gL_law_X11_keep : GoodIn wsL_law (wsV RL 127 RX11 yX11_keep wsX11_keep) := goodIn_app (goodIn_of _ (by decide +kernel)) ggL_law_X11_keep
set_option maxRecDepth 20000 in
theorem ggL_law_X12_keep : GoodIn wsL_law wsX12_keep := goodIn_r _ [1335, 1336, 701, 702, 703, 5, 704, 165, 404, 405, 406, 407, 1397, 1398, 1399, 1400, 1401, 1402, 1403, 1404, 1405, 1406, 1407, 1408, 1409, 1410, 1411, 1412, 1413, 1414, 1415, 1416, 1417, 1418, 1419, 1420, 1421, 1422, 1423, 1424, 1425, 1426, 1427, 1428, 1429, 1430, 1431, 1432, 1433, 1434, 1435, 1436, 1437] (by decide +kernel) (by decide +kernel)
set_option maxRecDepth 20000 in
theorem gL_law_X12_keep : GoodIn wsL_law (wsV RL 130 RX12 yX12_keep wsX12_keep) := goodIn_app (goodIn_of _ (by decide +kernel)) ggL_law_X12_keep
set_option maxRecDepth 20000 in
theorem ggL_law_X11_undo : GoodIn wsL_law wsX11_undo := goodIn_r _ [1340, 29, 27, 28, 1322, 1323, 1324, 26, 1325, 79, 81, 85, 1326, 690, 691, 32, 692, 93, 95, 270, 271, 272, 273, 97, 98, 99, 100, 101, 102, 103, 693, 694, 695, 92, 696, 108, 319, 109, 110, 111, 1327, 1328, 1329, 83, 1330, 117, 118, 119, 120, 121, 896, 897, 898, 22, 899, 72, 900, 73, 1331, 1143, 1144, 46, 1145, 127, 1146, 128, 130, 131, 1147, 1385, 1386, 1387, 1388, 1389, 1390, 1391, 1392, 1393, 1394, 1395, 1396, 1446, 1447, 1448, 1449, 1450, 1451, 1452, 1453, 1454, 1455, 1456, 1457, 1479, 1480, 1481, 1482, 1474, 1475, 1476, 1477, 1478, 1444, 1445, 1467, 1468, 1469, 1470] (by decide +kernel) (by decide +kernel)
set_option maxRecDepth 20000 in
theorem gL_law_X11_undo : GoodIn wsL_law (wsV RL 131 RX11 yX11_undo wsX11_undo) := goodIn_app (goodIn_of _ (by decide +kernel)) ggL_law_X11_undo
set_option maxRecDepth 20000 in
theorem ggL_law_X12_undo : GoodIn wsL_law wsX12_undo := goodIn_r _ [1344, 1336, 701, 702, 703, 5, 704, 165, 1397, 1398, 1399, 1400, 1401, 1402, 1403, 1404, 1405, 1406, 1407, 1408, 1409, 1410, 1411, 1412, 1413, 1414, 1415, 1416, 1417, 1418, 1419, 1420, 1421, 1422, 1423, 1424, 1425, 1426, 1427, 1428, 1429, 1430, 1431, 1432, 1433, 1434, 1435, 1436, 1437] (by decide +kernel) (by decide +kernel)
set_option maxRecDepth 20000 in
theorem gL_law_X12_undo : GoodIn wsL_law (wsV RL 135 RX12 yX12_undo wsX12_undo) := goodIn_app (goodIn_of _ (by decide +kernel)) ggL_law_X12_undo
set_option maxRecDepth 20000 in
theorem ggL_law_X11_unlike : GoodIn wsL_law wsX11_unlike := goodIn_r _ [1348, 29, 28, 38, 51, 27, 1349, 1350, 1351, 92, 1352, 111, 1353, 1354, 1355, 1356, 1357, 1358, 1359, 1360, 283, 284, 285, 286, 287, 288, 289, 290, 109, 291, 292, 293, 294, 108, 741, 308, 309, 310, 110, 1361, 1362, 1363, 1364, 1385, 1386, 1387, 1388, 1389, 1390, 1391, 1392, 1393, 1394, 1395, 1396, 1446, 1447, 1448, 1449, 1450, 1451, 1452, 1453, 1454, 1455, 1456, 1457, 1479, 1480, 1481, 1482] (by decide +kernel) (by decide +kernel)
set_option maxRecDepth 20000 in
theorem gL_law_X11_unlike : GoodIn wsL_law (wsV RL 136 RX11 yX11_unlike wsX11_unlike) := goodIn_app (goodIn_of _ (by decide +kernel)) ggL_law_X11_unlike
set_option maxRecDepth 20000 in
theorem ggL_law_X12_unlike : GoodIn wsL_law wsX12_unlike := goodIn_r _ [1368, 1336, 165, 224, 225, 5, 226, 404, 405, 406, 407, 1369, 1370, 1371, 1372, 1373, 1374, 1375, 1376, 412, 413, 414, 415, 416, 417, 418, 419, 1397, 1398, 1399, 1400, 1401, 1402, 1403, 1404, 1405, 1406, 1407, 1408, 1409, 1410, 1411, 1412, 1413, 1414, 1415, 1416, 1417, 1418, 1419, 1420, 1421, 1422, 1423, 1424, 1425, 1426, 1427, 1428, 1429, 1430, 1431, 1432, 1433, 1434, 1435, 1436, 1437] (by decide +kernel) (by decide +kernel)
set_option maxRecDepth 20000 in
theorem gL_law_X12_unlike : GoodIn wsL_law (wsV RL 139 RX12 yX12_unlike wsX12_unlike) := goodIn_app (goodIn_of _ (by decide +kernel)) ggL_law_X12_unlike
set_option maxRecDepth 20000 in
theorem ggL_law_X11_check : GoodIn wsL_law wsX11_check := goodIn_r _ [1380, 27, 38, 51, 15, 243, 244, 245, 2, 246, 182, 823, 288, 289, 92, 290, 111, 109, 828, 292, 293, 294, 108, 255, 256, 257, 14, 258, 59, 58, 216, 217, 218, 219, 1385, 1386, 1387, 1388, 1389, 1390, 1391, 1392, 1393, 1394, 1395, 1396, 1446, 1447, 1448, 1449, 1450, 1451, 1452, 1453, 1454, 1455, 1456, 1457, 1438, 1439, 1479, 1480, 1481, 1482] (by decide +kernel) (by decide +kernel)
set_option maxRecDepth 20000 in
theorem gL_law_X11_check : GoodIn wsL_law (wsV RL 140 RX11 yX11_check wsX11_check) := goodIn_app (goodIn_of _ (by decide +kernel)) ggL_law_X11_check
set_option maxRecDepth 20000 in
theorem ggL_law_X12_check : GoodIn wsL_law wsX12_check := goodIn_r _ [1384, 191, 169, 224, 225, 5, 226, 404, 405, 406, 407, 165, 412, 413, 414, 415, 416, 417, 418, 419, 1397, 1398, 1399, 1400, 1401, 1402, 1403, 1404, 1405, 1406, 1407, 1408, 1409, 1410, 1411, 1412, 1413, 1414, 1415, 1416, 1417, 1418, 1419, 1420, 1421, 1422, 1423, 1424, 1425, 1426, 1427, 1428, 1429, 1430, 1431, 1432, 1433, 1434, 1435, 1436, 1437] (by decide +kernel) (by decide +kernel)
set_option maxRecDepth 20000 in
theorem gL_law_X12_check : GoodIn wsL_law (wsV RL 143 RX12 yX12_check wsX12_check) := goodIn_app (goodIn_of _ (by decide +kernel)) ggL_law_X12_check
theorem dL_law_0 : decode cL_law 0 = .ok (.new 7, 3) := by decide +kernel
theorem dL_law_3 : decode cL_law 3 = .ok (.dup, 1) := by decide +kernel
theorem dL_law_4 : decode cL_law 4 = .ok (.invokespecial 9, 3) := by decide +kernel
theorem dL_law_7 : decode cL_law 7 = .ok (.astore_n 1, 1) := by decide +kernel
theorem dL_law_8 : decode cL_law 8 = .ok (.new 10, 3) := by decide +kernel
theorem dL_law_11 : decode cL_law 11 = .ok (.dup, 1) := by decide +kernel
theorem dL_law_12 : decode cL_law 12 = .ok (.invokespecial 12, 3) := by decide +kernel
theorem dL_law_15 : decode cL_law 15 = .ok (.astore_n 2, 1) := by decide +kernel
theorem dL_law_16 : decode cL_law 16 = .ok (.iconst 0, 1) := by decide +kernel
theorem dL_law_17 : decode cL_law 17 = .ok (.istore_n 3, 1) := by decide +kernel
theorem dL_law_18 : decode cL_law 18 = .ok (.iload_n 3, 1) := by decide +kernel
theorem dL_law_19 : decode cL_law 19 = .ok (.aload_n 0, 1) := by decide +kernel
theorem dL_law_20 : decode cL_law 20 = .ok (.arraylength, 1) := by decide +kernel
theorem dL_law_21 : decode cL_law 21 = .ok (.bipush 6, 2) := by decide +kernel
theorem dL_law_23 : decode cL_law 23 = .ok (.isub, 1) := by decide +kernel
theorem dL_law_24 : decode cL_law 24 = .ok (.if_icmp .gt 1043, 3) := by decide +kernel
theorem dL_law_27 : decode cL_law 27 = .ok (.aload_n 0, 1) := by decide +kernel
theorem dL_law_28 : decode cL_law 28 = .ok (.iload_n 3, 1) := by decide +kernel
theorem dL_law_29 : decode cL_law 29 = .ok (.iaload, 1) := by decide +kernel
theorem dL_law_30 : decode cL_law 30 = .ok (.bipush 31, 2) := by decide +kernel
theorem dL_law_32 : decode cL_law 32 = .ok (.iand, 1) := by decide +kernel
theorem dL_law_33 : decode cL_law 33 = .ok (.tableswitch 1028 0 30 #[139, 202, 235, 268, 291, 314, 337, 360, 383, 406, 439, 472, 505, 538, 571, 620, 653, 676, 699, 732, 775, 798, 821, 844, 857, 890, 933, 956, 969, 982, 1005], 139) := by decide +kernel
theorem dL_law_172 : decode cL_law 172 = .ok (.aload_n 1, 1) := by decide +kernel
theorem dL_law_173 : decode cL_law 173 = .ok (.aload_n 0, 1) := by decide +kernel
theorem dL_law_174 : decode cL_law 174 = .ok (.iload_n 3, 1) := by decide +kernel
theorem dL_law_175 : decode cL_law 175 = .ok (.iconst 1, 1) := by decide +kernel
theorem dL_law_176 : decode cL_law 176 = .ok (.iadd, 1) := by decide +kernel
theorem dL_law_177 : decode cL_law 177 = .ok (.iaload, 1) := by decide +kernel
theorem dL_law_178 : decode cL_law 178 = .ok (.aload_n 0, 1) := by decide +kernel
theorem dL_law_179 : decode cL_law 179 = .ok (.iload_n 3, 1) := by decide +kernel
theorem dL_law_180 : decode cL_law 180 = .ok (.iconst 2, 1) := by decide +kernel
theorem dL_law_181 : decode cL_law 181 = .ok (.iadd, 1) := by decide +kernel
theorem dL_law_182 : decode cL_law 182 = .ok (.iaload, 1) := by decide +kernel
theorem dL_law_183 : decode cL_law 183 = .ok (.aload_n 0, 1) := by decide +kernel
theorem dL_law_184 : decode cL_law 184 = .ok (.iload_n 3, 1) := by decide +kernel
theorem dL_law_185 : decode cL_law 185 = .ok (.iconst 3, 1) := by decide +kernel
theorem dL_law_186 : decode cL_law 186 = .ok (.iadd, 1) := by decide +kernel
theorem dL_law_187 : decode cL_law 187 = .ok (.iaload, 1) := by decide +kernel
theorem dL_law_188 : decode cL_law 188 = .ok (.aload_n 0, 1) := by decide +kernel
theorem dL_law_189 : decode cL_law 189 = .ok (.iload_n 3, 1) := by decide +kernel
theorem dL_law_190 : decode cL_law 190 = .ok (.iconst 4, 1) := by decide +kernel
theorem dL_law_191 : decode cL_law 191 = .ok (.iadd, 1) := by decide +kernel
theorem dL_law_192 : decode cL_law 192 = .ok (.iaload, 1) := by decide +kernel
theorem dL_law_193 : decode cL_law 193 = .ok (.aload_n 0, 1) := by decide +kernel
theorem dL_law_194 : decode cL_law 194 = .ok (.iload_n 3, 1) := by decide +kernel
theorem dL_law_195 : decode cL_law 195 = .ok (.iconst 5, 1) := by decide +kernel
theorem dL_law_196 : decode cL_law 196 = .ok (.iadd, 1) := by decide +kernel
theorem dL_law_197 : decode cL_law 197 = .ok (.iaload, 1) := by decide +kernel
theorem dL_law_198 : decode cL_law 198 = .ok (.invokevirtual 13, 3) := by decide +kernel
theorem dL_law_201 : decode cL_law 201 = .ok (.pop, 1) := by decide +kernel
theorem dL_law_202 : decode cL_law 202 = .ok (.aload_n 2, 1) := by decide +kernel
theorem dL_law_203 : decode cL_law 203 = .ok (.aload_n 0, 1) := by decide +kernel
theorem dL_law_204 : decode cL_law 204 = .ok (.iload_n 3, 1) := by decide +kernel
theorem dL_law_205 : decode cL_law 205 = .ok (.iconst 1, 1) := by decide +kernel
theorem dL_law_206 : decode cL_law 206 = .ok (.iadd, 1) := by decide +kernel
theorem dL_law_207 : decode cL_law 207 = .ok (.iaload, 1) := by decide +kernel
theorem dL_law_208 : decode cL_law 208 = .ok (.aload_n 0, 1) := by decide +kernel
theorem dL_law_209 : decode cL_law 209 = .ok (.iload_n 3, 1) := by decide +kernel
theorem dL_law_210 : decode cL_law 210 = .ok (.iconst 2, 1) := by decide +kernel
theorem dL_law_211 : decode cL_law 211 = .ok (.iadd, 1) := by decide +kernel
theorem dL_law_212 : decode cL_law 212 = .ok (.iaload, 1) := by decide +kernel
theorem dL_law_213 : decode cL_law 213 = .ok (.aload_n 0, 1) := by decide +kernel
theorem dL_law_214 : decode cL_law 214 = .ok (.iload_n 3, 1) := by decide +kernel
theorem dL_law_215 : decode cL_law 215 = .ok (.iconst 3, 1) := by decide +kernel
theorem dL_law_216 : decode cL_law 216 = .ok (.iadd, 1) := by decide +kernel
theorem dL_law_217 : decode cL_law 217 = .ok (.iaload, 1) := by decide +kernel
theorem dL_law_218 : decode cL_law 218 = .ok (.aload_n 0, 1) := by decide +kernel
theorem dL_law_219 : decode cL_law 219 = .ok (.iload_n 3, 1) := by decide +kernel
theorem dL_law_220 : decode cL_law 220 = .ok (.iconst 4, 1) := by decide +kernel
theorem dL_law_221 : decode cL_law 221 = .ok (.iadd, 1) := by decide +kernel
theorem dL_law_222 : decode cL_law 222 = .ok (.iaload, 1) := by decide +kernel
theorem dL_law_223 : decode cL_law 223 = .ok (.aload_n 0, 1) := by decide +kernel
theorem dL_law_224 : decode cL_law 224 = .ok (.iload_n 3, 1) := by decide +kernel
theorem dL_law_225 : decode cL_law 225 = .ok (.iconst 5, 1) := by decide +kernel
theorem dL_law_226 : decode cL_law 226 = .ok (.iadd, 1) := by decide +kernel
theorem dL_law_227 : decode cL_law 227 = .ok (.iaload, 1) := by decide +kernel
theorem dL_law_228 : decode cL_law 228 = .ok (.invokevirtual 17, 3) := by decide +kernel
theorem dL_law_231 : decode cL_law 231 = .ok (.pop, 1) := by decide +kernel
theorem dL_law_232 : decode cL_law 232 = .ok (.goto 829, 3) := by decide +kernel
theorem dL_law_235 : decode cL_law 235 = .ok (.aload_n 1, 1) := by decide +kernel
theorem dL_law_236 : decode cL_law 236 = .ok (.aload_n 0, 1) := by decide +kernel
theorem dL_law_237 : decode cL_law 237 = .ok (.iload_n 3, 1) := by decide +kernel
theorem dL_law_238 : decode cL_law 238 = .ok (.iconst 1, 1) := by decide +kernel
theorem dL_law_239 : decode cL_law 239 = .ok (.iadd, 1) := by decide +kernel
theorem dL_law_240 : decode cL_law 240 = .ok (.iaload, 1) := by decide +kernel
theorem dL_law_241 : decode cL_law 241 = .ok (.aload_n 0, 1) := by decide +kernel
theorem dL_law_242 : decode cL_law 242 = .ok (.iload_n 3, 1) := by decide +kernel
theorem dL_law_243 : decode cL_law 243 = .ok (.iconst 2, 1) := by decide +kernel
theorem dL_law_244 : decode cL_law 244 = .ok (.iadd, 1) := by decide +kernel
theorem dL_law_245 : decode cL_law 245 = .ok (.iaload, 1) := by decide +kernel
theorem dL_law_246 : decode cL_law 246 = .ok (.invokevirtual 18, 3) := by decide +kernel
theorem dL_law_249 : decode cL_law 249 = .ok (.aload_n 2, 1) := by decide +kernel
theorem dL_law_250 : decode cL_law 250 = .ok (.aload_n 0, 1) := by decide +kernel
theorem dL_law_251 : decode cL_law 251 = .ok (.iload_n 3, 1) := by decide +kernel
theorem dL_law_252 : decode cL_law 252 = .ok (.iconst 1, 1) := by decide +kernel
theorem dL_law_253 : decode cL_law 253 = .ok (.iadd, 1) := by decide +kernel
theorem dL_law_254 : decode cL_law 254 = .ok (.iaload, 1) := by decide +kernel
theorem dL_law_255 : decode cL_law 255 = .ok (.aload_n 0, 1) := by decide +kernel
theorem dL_law_256 : decode cL_law 256 = .ok (.iload_n 3, 1) := by decide +kernel
theorem dL_law_257 : decode cL_law 257 = .ok (.iconst 2, 1) := by decide +kernel
theorem dL_law_258 : decode cL_law 258 = .ok (.iadd, 1) := by decide +kernel
theorem dL_law_259 : decode cL_law 259 = .ok (.iaload, 1) := by decide +kernel
theorem dL_law_260 : decode cL_law 260 = .ok (.invokevirtual 22, 3) := by decide +kernel
theorem dL_law_263 : decode cL_law 263 = .ok (.if_icmp .eq 798, 3) := by decide +kernel
theorem dL_law_266 : decode cL_law 266 = .ok (.iconst 0, 1) := by decide +kernel
theorem dL_law_267 : decode cL_law 267 = .ok (.ireturn, 1) := by decide +kernel
theorem dL_law_268 : decode cL_law 268 = .ok (.aload_n 1, 1) := by decide +kernel
theorem dL_law_269 : decode cL_law 269 = .ok (.aload_n 0, 1) := by decide +kernel
theorem dL_law_270 : decode cL_law 270 = .ok (.iload_n 3, 1) := by decide +kernel
theorem dL_law_271 : decode cL_law 271 = .ok (.iconst 1, 1) := by decide +kernel
theorem dL_law_272 : decode cL_law 272 = .ok (.iadd, 1) := by decide +kernel
theorem dL_law_273 : decode cL_law 273 = .ok (.iaload, 1) := by decide +kernel
theorem dL_law_274 : decode cL_law 274 = .ok (.aload_n 0, 1) := by decide +kernel
theorem dL_law_275 : decode cL_law 275 = .ok (.iload_n 3, 1) := by decide +kernel
theorem dL_law_276 : decode cL_law 276 = .ok (.iconst 2, 1) := by decide +kernel
theorem dL_law_277 : decode cL_law 277 = .ok (.iadd, 1) := by decide +kernel
theorem dL_law_278 : decode cL_law 278 = .ok (.iaload, 1) := by decide +kernel
theorem dL_law_279 : decode cL_law 279 = .ok (.invokevirtual 23, 3) := by decide +kernel
theorem dL_law_282 : decode cL_law 282 = .ok (.pop, 1) := by decide +kernel
theorem dL_law_283 : decode cL_law 283 = .ok (.aload_n 2, 1) := by decide +kernel
theorem dL_law_284 : decode cL_law 284 = .ok (.aload_n 0, 1) := by decide +kernel
theorem dL_law_285 : decode cL_law 285 = .ok (.iload_n 3, 1) := by decide +kernel
theorem dL_law_286 : decode cL_law 286 = .ok (.iconst 1, 1) := by decide +kernel
theorem dL_law_287 : decode cL_law 287 = .ok (.iadd, 1) := by decide +kernel
theorem dL_law_288 : decode cL_law 288 = .ok (.iaload, 1) := by decide +kernel
theorem dL_law_289 : decode cL_law 289 = .ok (.aload_n 0, 1) := by decide +kernel
theorem dL_law_290 : decode cL_law 290 = .ok (.iload_n 3, 1) := by decide +kernel
theorem dL_law_291 : decode cL_law 291 = .ok (.iconst 2, 1) := by decide +kernel
theorem dL_law_292 : decode cL_law 292 = .ok (.iadd, 1) := by decide +kernel
theorem dL_law_293 : decode cL_law 293 = .ok (.iaload, 1) := by decide +kernel
theorem dL_law_294 : decode cL_law 294 = .ok (.invokevirtual 26, 3) := by decide +kernel
theorem dL_law_297 : decode cL_law 297 = .ok (.pop, 1) := by decide +kernel
theorem dL_law_298 : decode cL_law 298 = .ok (.goto 763, 3) := by decide +kernel
theorem dL_law_301 : decode cL_law 301 = .ok (.aload_n 1, 1) := by decide +kernel
theorem dL_law_302 : decode cL_law 302 = .ok (.aload_n 0, 1) := by decide +kernel
theorem dL_law_303 : decode cL_law 303 = .ok (.iload_n 3, 1) := by decide +kernel
theorem dL_law_304 : decode cL_law 304 = .ok (.iconst 1, 1) := by decide +kernel
theorem dL_law_305 : decode cL_law 305 = .ok (.iadd, 1) := by decide +kernel
theorem dL_law_306 : decode cL_law 306 = .ok (.iaload, 1) := by decide +kernel
theorem dL_law_307 : decode cL_law 307 = .ok (.invokevirtual 27, 3) := by decide +kernel
theorem dL_law_310 : decode cL_law 310 = .ok (.pop, 1) := by decide +kernel
theorem dL_law_311 : decode cL_law 311 = .ok (.aload_n 2, 1) := by decide +kernel
theorem dL_law_312 : decode cL_law 312 = .ok (.aload_n 0, 1) := by decide +kernel
theorem dL_law_313 : decode cL_law 313 = .ok (.iload_n 3, 1) := by decide +kernel
theorem dL_law_314 : decode cL_law 314 = .ok (.iconst 1, 1) := by decide +kernel
theorem dL_law_315 : decode cL_law 315 = .ok (.iadd, 1) := by decide +kernel
theorem dL_law_316 : decode cL_law 316 = .ok (.iaload, 1) := by decide +kernel
theorem dL_law_317 : decode cL_law 317 = .ok (.invokevirtual 31, 3) := by decide +kernel
theorem dL_law_320 : decode cL_law 320 = .ok (.pop, 1) := by decide +kernel
theorem dL_law_321 : decode cL_law 321 = .ok (.goto 740, 3) := by decide +kernel
theorem dL_law_324 : decode cL_law 324 = .ok (.aload_n 1, 1) := by decide +kernel
theorem dL_law_325 : decode cL_law 325 = .ok (.aload_n 0, 1) := by decide +kernel
theorem dL_law_326 : decode cL_law 326 = .ok (.iload_n 3, 1) := by decide +kernel
theorem dL_law_327 : decode cL_law 327 = .ok (.iconst 1, 1) := by decide +kernel
theorem dL_law_328 : decode cL_law 328 = .ok (.iadd, 1) := by decide +kernel
theorem dL_law_329 : decode cL_law 329 = .ok (.iaload, 1) := by decide +kernel
theorem dL_law_330 : decode cL_law 330 = .ok (.invokevirtual 32, 3) := by decide +kernel
theorem dL_law_333 : decode cL_law 333 = .ok (.pop, 1) := by decide +kernel
theorem dL_law_334 : decode cL_law 334 = .ok (.aload_n 2, 1) := by decide +kernel
theorem dL_law_335 : decode cL_law 335 = .ok (.aload_n 0, 1) := by decide +kernel
theorem dL_law_336 : decode cL_law 336 = .ok (.iload_n 3, 1) := by decide +kernel
theorem dL_law_337 : decode cL_law 337 = .ok (.iconst 1, 1) := by decide +kernel
theorem dL_law_338 : decode cL_law 338 = .ok (.iadd, 1) := by decide +kernel
theorem dL_law_339 : decode cL_law 339 = .ok (.iaload, 1) := by decide +kernel
theorem dL_law_340 : decode cL_law 340 = .ok (.invokevirtual 35, 3) := by decide +kernel
theorem dL_law_343 : decode cL_law 343 = .ok (.pop, 1) := by decide +kernel
theorem dL_law_344 : decode cL_law 344 = .ok (.goto 717, 3) := by decide +kernel
theorem dL_law_347 : decode cL_law 347 = .ok (.aload_n 1, 1) := by decide +kernel
theorem dL_law_348 : decode cL_law 348 = .ok (.aload_n 0, 1) := by decide +kernel
theorem dL_law_349 : decode cL_law 349 = .ok (.iload_n 3, 1) := by decide +kernel
theorem dL_law_350 : decode cL_law 350 = .ok (.iconst 1, 1) := by decide +kernel
theorem dL_law_351 : decode cL_law 351 = .ok (.iadd, 1) := by decide +kernel
theorem dL_law_352 : decode cL_law 352 = .ok (.iaload, 1) := by decide +kernel
theorem dL_law_353 : decode cL_law 353 = .ok (.invokevirtual 36, 3) := by decide +kernel
theorem dL_law_356 : decode cL_law 356 = .ok (.pop, 1) := by decide +kernel
theorem dL_law_357 : decode cL_law 357 = .ok (.aload_n 2, 1) := by decide +kernel
theorem dL_law_358 : decode cL_law 358 = .ok (.aload_n 0, 1) := by decide +kernel
theorem dL_law_359 : decode cL_law 359 = .ok (.iload_n 3, 1) := by decide +kernel
theorem dL_law_360 : decode cL_law 360 = .ok (.iconst 1, 1) := by decide +kernel
theorem dL_law_361 : decode cL_law 361 = .ok (.iadd, 1) := by decide +kernel
theorem dL_law_362 : decode cL_law 362 = .ok (.iaload, 1) := by decide +kernel
theorem dL_law_363 : decode cL_law 363 = .ok (.invokevirtual 39, 3) := by decide +kernel
theorem dL_law_366 : decode cL_law 366 = .ok (.pop, 1) := by decide +kernel
theorem dL_law_367 : decode cL_law 367 = .ok (.goto 694, 3) := by decide +kernel
theorem dL_law_370 : decode cL_law 370 = .ok (.aload_n 1, 1) := by decide +kernel
theorem dL_law_371 : decode cL_law 371 = .ok (.aload_n 0, 1) := by decide +kernel
theorem dL_law_372 : decode cL_law 372 = .ok (.iload_n 3, 1) := by decide +kernel
theorem dL_law_373 : decode cL_law 373 = .ok (.iconst 1, 1) := by decide +kernel
theorem dL_law_374 : decode cL_law 374 = .ok (.iadd, 1) := by decide +kernel
theorem dL_law_375 : decode cL_law 375 = .ok (.iaload, 1) := by decide +kernel
theorem dL_law_376 : decode cL_law 376 = .ok (.invokevirtual 40, 3) := by decide +kernel
theorem dL_law_379 : decode cL_law 379 = .ok (.pop, 1) := by decide +kernel
theorem dL_law_380 : decode cL_law 380 = .ok (.aload_n 2, 1) := by decide +kernel
theorem dL_law_381 : decode cL_law 381 = .ok (.aload_n 0, 1) := by decide +kernel
theorem dL_law_382 : decode cL_law 382 = .ok (.iload_n 3, 1) := by decide +kernel
theorem dL_law_383 : decode cL_law 383 = .ok (.iconst 1, 1) := by decide +kernel
theorem dL_law_384 : decode cL_law 384 = .ok (.iadd, 1) := by decide +kernel
theorem dL_law_385 : decode cL_law 385 = .ok (.iaload, 1) := by decide +kernel
theorem dL_law_386 : decode cL_law 386 = .ok (.invokevirtual 43, 3) := by decide +kernel
theorem dL_law_389 : decode cL_law 389 = .ok (.pop, 1) := by decide +kernel
theorem dL_law_390 : decode cL_law 390 = .ok (.goto 671, 3) := by decide +kernel
theorem dL_law_393 : decode cL_law 393 = .ok (.aload_n 1, 1) := by decide +kernel
theorem dL_law_394 : decode cL_law 394 = .ok (.aload_n 0, 1) := by decide +kernel
theorem dL_law_395 : decode cL_law 395 = .ok (.iload_n 3, 1) := by decide +kernel
theorem dL_law_396 : decode cL_law 396 = .ok (.iconst 1, 1) := by decide +kernel
theorem dL_law_397 : decode cL_law 397 = .ok (.iadd, 1) := by decide +kernel
theorem dL_law_398 : decode cL_law 398 = .ok (.iaload, 1) := by decide +kernel
theorem dL_law_399 : decode cL_law 399 = .ok (.invokevirtual 44, 3) := by decide +kernel
theorem dL_law_402 : decode cL_law 402 = .ok (.pop, 1) := by decide +kernel
theorem dL_law_403 : decode cL_law 403 = .ok (.aload_n 2, 1) := by decide +kernel
theorem dL_law_404 : decode cL_law 404 = .ok (.aload_n 0, 1) := by decide +kernel
theorem dL_law_405 : decode cL_law 405 = .ok (.iload_n 3, 1) := by decide +kernel
theorem dL_law_406 : decode cL_law 406 = .ok (.iconst 1, 1) := by decide +kernel
theorem dL_law_407 : decode cL_law 407 = .ok (.iadd, 1) := by decide +kernel
theorem dL_law_408 : decode cL_law 408 = .ok (.iaload, 1) := by decide +kernel
theorem dL_law_409 : decode cL_law 409 = .ok (.invokevirtual 47, 3) := by decide +kernel
theorem dL_law_412 : decode cL_law 412 = .ok (.pop, 1) := by decide +kernel
theorem dL_law_413 : decode cL_law 413 = .ok (.goto 648, 3) := by decide +kernel
theorem dL_law_416 : decode cL_law 416 = .ok (.aload_n 1, 1) := by decide +kernel
theorem dL_law_417 : decode cL_law 417 = .ok (.aload_n 0, 1) := by decide +kernel
theorem dL_law_418 : decode cL_law 418 = .ok (.iload_n 3, 1) := by decide +kernel
theorem dL_law_419 : decode cL_law 419 = .ok (.iconst 1, 1) := by decide +kernel
theorem dL_law_420 : decode cL_law 420 = .ok (.iadd, 1) := by decide +kernel
theorem dL_law_421 : decode cL_law 421 = .ok (.iaload, 1) := by decide +kernel
theorem dL_law_422 : decode cL_law 422 = .ok (.invokevirtual 48, 3) := by decide +kernel
theorem dL_law_425 : decode cL_law 425 = .ok (.pop, 1) := by decide +kernel
theorem dL_law_426 : decode cL_law 426 = .ok (.aload_n 2, 1) := by decide +kernel
theorem dL_law_427 : decode cL_law 427 = .ok (.aload_n 0, 1) := by decide +kernel
theorem dL_law_428 : decode cL_law 428 = .ok (.iload_n 3, 1) := by decide +kernel
theorem dL_law_429 : decode cL_law 429 = .ok (.iconst 1, 1) := by decide +kernel
theorem dL_law_430 : decode cL_law 430 = .ok (.iadd, 1) := by decide +kernel
theorem dL_law_431 : decode cL_law 431 = .ok (.iaload, 1) := by decide +kernel
theorem dL_law_432 : decode cL_law 432 = .ok (.invokevirtual 51, 3) := by decide +kernel
theorem dL_law_435 : decode cL_law 435 = .ok (.pop, 1) := by decide +kernel
theorem dL_law_436 : decode cL_law 436 = .ok (.goto 625, 3) := by decide +kernel
theorem dL_law_439 : decode cL_law 439 = .ok (.aload_n 1, 1) := by decide +kernel
theorem dL_law_440 : decode cL_law 440 = .ok (.aload_n 0, 1) := by decide +kernel
theorem dL_law_441 : decode cL_law 441 = .ok (.iload_n 3, 1) := by decide +kernel
theorem dL_law_442 : decode cL_law 442 = .ok (.iconst 1, 1) := by decide +kernel
theorem dL_law_443 : decode cL_law 443 = .ok (.iadd, 1) := by decide +kernel
theorem dL_law_444 : decode cL_law 444 = .ok (.iaload, 1) := by decide +kernel
theorem dL_law_445 : decode cL_law 445 = .ok (.aload_n 0, 1) := by decide +kernel
theorem dL_law_446 : decode cL_law 446 = .ok (.iload_n 3, 1) := by decide +kernel
theorem dL_law_447 : decode cL_law 447 = .ok (.iconst 2, 1) := by decide +kernel
theorem dL_law_448 : decode cL_law 448 = .ok (.iadd, 1) := by decide +kernel
theorem dL_law_449 : decode cL_law 449 = .ok (.iaload, 1) := by decide +kernel
theorem dL_law_450 : decode cL_law 450 = .ok (.invokevirtual 52, 3) := by decide +kernel
theorem dL_law_453 : decode cL_law 453 = .ok (.pop, 1) := by decide +kernel
theorem dL_law_454 : decode cL_law 454 = .ok (.aload_n 2, 1) := by decide +kernel
theorem dL_law_455 : decode cL_law 455 = .ok (.aload_n 0, 1) := by decide +kernel
theorem dL_law_456 : decode cL_law 456 = .ok (.iload_n 3, 1) := by decide +kernel
theorem dL_law_457 : decode cL_law 457 = .ok (.iconst 1, 1) := by decide +kernel
theorem dL_law_458 : decode cL_law 458 = .ok (.iadd, 1) := by decide +kernel
theorem dL_law_459 : decode cL_law 459 = .ok (.iaload, 1) := by decide +kernel
theorem dL_law_460 : decode cL_law 460 = .ok (.aload_n 0, 1) := by decide +kernel
theorem dL_law_461 : decode cL_law 461 = .ok (.iload_n 3, 1) := by decide +kernel
theorem dL_law_462 : decode cL_law 462 = .ok (.iconst 2, 1) := by decide +kernel
theorem dL_law_463 : decode cL_law 463 = .ok (.iadd, 1) := by decide +kernel
theorem dL_law_464 : decode cL_law 464 = .ok (.iaload, 1) := by decide +kernel
theorem dL_law_465 : decode cL_law 465 = .ok (.invokevirtual 55, 3) := by decide +kernel
theorem dL_law_468 : decode cL_law 468 = .ok (.pop, 1) := by decide +kernel
theorem dL_law_469 : decode cL_law 469 = .ok (.goto 592, 3) := by decide +kernel
theorem dL_law_472 : decode cL_law 472 = .ok (.aload_n 1, 1) := by decide +kernel
theorem dL_law_473 : decode cL_law 473 = .ok (.aload_n 0, 1) := by decide +kernel
theorem dL_law_474 : decode cL_law 474 = .ok (.iload_n 3, 1) := by decide +kernel
theorem dL_law_475 : decode cL_law 475 = .ok (.iconst 1, 1) := by decide +kernel
theorem dL_law_476 : decode cL_law 476 = .ok (.iadd, 1) := by decide +kernel
theorem dL_law_477 : decode cL_law 477 = .ok (.iaload, 1) := by decide +kernel
theorem dL_law_478 : decode cL_law 478 = .ok (.aload_n 0, 1) := by decide +kernel
theorem dL_law_479 : decode cL_law 479 = .ok (.iload_n 3, 1) := by decide +kernel
theorem dL_law_480 : decode cL_law 480 = .ok (.iconst 2, 1) := by decide +kernel
theorem dL_law_481 : decode cL_law 481 = .ok (.iadd, 1) := by decide +kernel
theorem dL_law_482 : decode cL_law 482 = .ok (.iaload, 1) := by decide +kernel
theorem dL_law_483 : decode cL_law 483 = .ok (.invokevirtual 56, 3) := by decide +kernel
theorem dL_law_486 : decode cL_law 486 = .ok (.pop, 1) := by decide +kernel
theorem dL_law_487 : decode cL_law 487 = .ok (.aload_n 2, 1) := by decide +kernel
theorem dL_law_488 : decode cL_law 488 = .ok (.aload_n 0, 1) := by decide +kernel
theorem dL_law_489 : decode cL_law 489 = .ok (.iload_n 3, 1) := by decide +kernel
theorem dL_law_490 : decode cL_law 490 = .ok (.iconst 1, 1) := by decide +kernel
theorem dL_law_491 : decode cL_law 491 = .ok (.iadd, 1) := by decide +kernel
theorem dL_law_492 : decode cL_law 492 = .ok (.iaload, 1) := by decide +kernel
theorem dL_law_493 : decode cL_law 493 = .ok (.aload_n 0, 1) := by decide +kernel
theorem dL_law_494 : decode cL_law 494 = .ok (.iload_n 3, 1) := by decide +kernel
theorem dL_law_495 : decode cL_law 495 = .ok (.iconst 2, 1) := by decide +kernel
theorem dL_law_496 : decode cL_law 496 = .ok (.iadd, 1) := by decide +kernel
theorem dL_law_497 : decode cL_law 497 = .ok (.iaload, 1) := by decide +kernel
theorem dL_law_498 : decode cL_law 498 = .ok (.invokevirtual 59, 3) := by decide +kernel
theorem dL_law_501 : decode cL_law 501 = .ok (.pop, 1) := by decide +kernel
theorem dL_law_502 : decode cL_law 502 = .ok (.goto 559, 3) := by decide +kernel
theorem dL_law_505 : decode cL_law 505 = .ok (.aload_n 1, 1) := by decide +kernel
theorem dL_law_506 : decode cL_law 506 = .ok (.aload_n 0, 1) := by decide +kernel
theorem dL_law_507 : decode cL_law 507 = .ok (.iload_n 3, 1) := by decide +kernel
theorem dL_law_508 : decode cL_law 508 = .ok (.iconst 1, 1) := by decide +kernel
theorem dL_law_509 : decode cL_law 509 = .ok (.iadd, 1) := by decide +kernel
theorem dL_law_510 : decode cL_law 510 = .ok (.iaload, 1) := by decide +kernel
theorem dL_law_511 : decode cL_law 511 = .ok (.aload_n 0, 1) := by decide +kernel
theorem dL_law_512 : decode cL_law 512 = .ok (.iload_n 3, 1) := by decide +kernel
theorem dL_law_513 : decode cL_law 513 = .ok (.iconst 2, 1) := by decide +kernel
theorem dL_law_514 : decode cL_law 514 = .ok (.iadd, 1) := by decide +kernel
theorem dL_law_515 : decode cL_law 515 = .ok (.iaload, 1) := by decide +kernel
theorem dL_law_516 : decode cL_law 516 = .ok (.invokevirtual 60, 3) := by decide +kernel
theorem dL_law_519 : decode cL_law 519 = .ok (.pop, 1) := by decide +kernel
theorem dL_law_520 : decode cL_law 520 = .ok (.aload_n 2, 1) := by decide +kernel
theorem dL_law_521 : decode cL_law 521 = .ok (.aload_n 0, 1) := by decide +kernel
theorem dL_law_522 : decode cL_law 522 = .ok (.iload_n 3, 1) := by decide +kernel
theorem dL_law_523 : decode cL_law 523 = .ok (.iconst 1, 1) := by decide +kernel
theorem dL_law_524 : decode cL_law 524 = .ok (.iadd, 1) := by decide +kernel
theorem dL_law_525 : decode cL_law 525 = .ok (.iaload, 1) := by decide +kernel
theorem dL_law_526 : decode cL_law 526 = .ok (.aload_n 0, 1) := by decide +kernel
theorem dL_law_527 : decode cL_law 527 = .ok (.iload_n 3, 1) := by decide +kernel
theorem dL_law_528 : decode cL_law 528 = .ok (.iconst 2, 1) := by decide +kernel
theorem dL_law_529 : decode cL_law 529 = .ok (.iadd, 1) := by decide +kernel
theorem dL_law_530 : decode cL_law 530 = .ok (.iaload, 1) := by decide +kernel
theorem dL_law_531 : decode cL_law 531 = .ok (.invokevirtual 63, 3) := by decide +kernel
theorem dL_law_534 : decode cL_law 534 = .ok (.pop, 1) := by decide +kernel
theorem dL_law_535 : decode cL_law 535 = .ok (.goto 526, 3) := by decide +kernel
theorem dL_law_538 : decode cL_law 538 = .ok (.aload_n 1, 1) := by decide +kernel
theorem dL_law_539 : decode cL_law 539 = .ok (.aload_n 0, 1) := by decide +kernel
theorem dL_law_540 : decode cL_law 540 = .ok (.iload_n 3, 1) := by decide +kernel
theorem dL_law_541 : decode cL_law 541 = .ok (.iconst 1, 1) := by decide +kernel
theorem dL_law_542 : decode cL_law 542 = .ok (.iadd, 1) := by decide +kernel
theorem dL_law_543 : decode cL_law 543 = .ok (.iaload, 1) := by decide +kernel
theorem dL_law_544 : decode cL_law 544 = .ok (.aload_n 0, 1) := by decide +kernel
theorem dL_law_545 : decode cL_law 545 = .ok (.iload_n 3, 1) := by decide +kernel
theorem dL_law_546 : decode cL_law 546 = .ok (.iconst 2, 1) := by decide +kernel
theorem dL_law_547 : decode cL_law 547 = .ok (.iadd, 1) := by decide +kernel
theorem dL_law_548 : decode cL_law 548 = .ok (.iaload, 1) := by decide +kernel
theorem dL_law_549 : decode cL_law 549 = .ok (.invokevirtual 64, 3) := by decide +kernel
theorem dL_law_552 : decode cL_law 552 = .ok (.pop, 1) := by decide +kernel
theorem dL_law_553 : decode cL_law 553 = .ok (.aload_n 2, 1) := by decide +kernel
theorem dL_law_554 : decode cL_law 554 = .ok (.aload_n 0, 1) := by decide +kernel
theorem dL_law_555 : decode cL_law 555 = .ok (.iload_n 3, 1) := by decide +kernel
theorem dL_law_556 : decode cL_law 556 = .ok (.iconst 1, 1) := by decide +kernel
theorem dL_law_557 : decode cL_law 557 = .ok (.iadd, 1) := by decide +kernel
theorem dL_law_558 : decode cL_law 558 = .ok (.iaload, 1) := by decide +kernel
theorem dL_law_559 : decode cL_law 559 = .ok (.aload_n 0, 1) := by decide +kernel
theorem dL_law_560 : decode cL_law 560 = .ok (.iload_n 3, 1) := by decide +kernel
theorem dL_law_561 : decode cL_law 561 = .ok (.iconst 2, 1) := by decide +kernel
theorem dL_law_562 : decode cL_law 562 = .ok (.iadd, 1) := by decide +kernel
theorem dL_law_563 : decode cL_law 563 = .ok (.iaload, 1) := by decide +kernel
theorem dL_law_564 : decode cL_law 564 = .ok (.invokevirtual 67, 3) := by decide +kernel
theorem dL_law_567 : decode cL_law 567 = .ok (.pop, 1) := by decide +kernel
theorem dL_law_568 : decode cL_law 568 = .ok (.goto 493, 3) := by decide +kernel
theorem dL_law_571 : decode cL_law 571 = .ok (.aload_n 1, 1) := by decide +kernel
theorem dL_law_572 : decode cL_law 572 = .ok (.aload_n 0, 1) := by decide +kernel
theorem dL_law_573 : decode cL_law 573 = .ok (.iload_n 3, 1) := by decide +kernel
theorem dL_law_574 : decode cL_law 574 = .ok (.iconst 1, 1) := by decide +kernel
theorem dL_law_575 : decode cL_law 575 = .ok (.iadd, 1) := by decide +kernel
theorem dL_law_576 : decode cL_law 576 = .ok (.iaload, 1) := by decide +kernel
theorem dL_law_577 : decode cL_law 577 = .ok (.aload_n 0, 1) := by decide +kernel
theorem dL_law_578 : decode cL_law 578 = .ok (.iload_n 3, 1) := by decide +kernel
theorem dL_law_579 : decode cL_law 579 = .ok (.iconst 2, 1) := by decide +kernel
theorem dL_law_580 : decode cL_law 580 = .ok (.iadd, 1) := by decide +kernel
theorem dL_law_581 : decode cL_law 581 = .ok (.iaload, 1) := by decide +kernel
theorem dL_law_582 : decode cL_law 582 = .ok (.invokevirtual 68, 3) := by decide +kernel
theorem dL_law_585 : decode cL_law 585 = .ok (.pop, 1) := by decide +kernel
theorem dL_law_586 : decode cL_law 586 = .ok (.aload_n 2, 1) := by decide +kernel
theorem dL_law_587 : decode cL_law 587 = .ok (.aload_n 0, 1) := by decide +kernel
theorem dL_law_588 : decode cL_law 588 = .ok (.iload_n 3, 1) := by decide +kernel
theorem dL_law_589 : decode cL_law 589 = .ok (.iconst 1, 1) := by decide +kernel
theorem dL_law_590 : decode cL_law 590 = .ok (.iadd, 1) := by decide +kernel
theorem dL_law_591 : decode cL_law 591 = .ok (.iaload, 1) := by decide +kernel
theorem dL_law_592 : decode cL_law 592 = .ok (.aload_n 0, 1) := by decide +kernel
theorem dL_law_593 : decode cL_law 593 = .ok (.iload_n 3, 1) := by decide +kernel
theorem dL_law_594 : decode cL_law 594 = .ok (.iconst 2, 1) := by decide +kernel
theorem dL_law_595 : decode cL_law 595 = .ok (.iadd, 1) := by decide +kernel
theorem dL_law_596 : decode cL_law 596 = .ok (.iaload, 1) := by decide +kernel
theorem dL_law_597 : decode cL_law 597 = .ok (.invokevirtual 71, 3) := by decide +kernel
theorem dL_law_600 : decode cL_law 600 = .ok (.pop, 1) := by decide +kernel
theorem dL_law_601 : decode cL_law 601 = .ok (.goto 460, 3) := by decide +kernel
theorem dL_law_604 : decode cL_law 604 = .ok (.aload_n 1, 1) := by decide +kernel
theorem dL_law_605 : decode cL_law 605 = .ok (.aload_n 0, 1) := by decide +kernel
theorem dL_law_606 : decode cL_law 606 = .ok (.iload_n 3, 1) := by decide +kernel
theorem dL_law_607 : decode cL_law 607 = .ok (.iconst 1, 1) := by decide +kernel
theorem dL_law_608 : decode cL_law 608 = .ok (.iadd, 1) := by decide +kernel
theorem dL_law_609 : decode cL_law 609 = .ok (.iaload, 1) := by decide +kernel
theorem dL_law_610 : decode cL_law 610 = .ok (.aload_n 0, 1) := by decide +kernel
theorem dL_law_611 : decode cL_law 611 = .ok (.iload_n 3, 1) := by decide +kernel
theorem dL_law_612 : decode cL_law 612 = .ok (.iconst 2, 1) := by decide +kernel
theorem dL_law_613 : decode cL_law 613 = .ok (.iadd, 1) := by decide +kernel
theorem dL_law_614 : decode cL_law 614 = .ok (.iaload, 1) := by decide +kernel
theorem dL_law_615 : decode cL_law 615 = .ok (.ifCond .eq 7, 3) := by decide +kernel
theorem dL_law_618 : decode cL_law 618 = .ok (.iconst 1, 1) := by decide +kernel
theorem dL_law_619 : decode cL_law 619 = .ok (.goto 4, 3) := by decide +kernel
theorem dL_law_622 : decode cL_law 622 = .ok (.iconst 0, 1) := by decide +kernel
theorem dL_law_623 : decode cL_law 623 = .ok (.invokevirtual 72, 3) := by decide +kernel
theorem dL_law_626 : decode cL_law 626 = .ok (.pop, 1) := by decide +kernel
theorem dL_law_627 : decode cL_law 627 = .ok (.aload_n 2, 1) := by decide +kernel
theorem dL_law_628 : decode cL_law 628 = .ok (.aload_n 0, 1) := by decide +kernel
theorem dL_law_629 : decode cL_law 629 = .ok (.iload_n 3, 1) := by decide +kernel
theorem dL_law_630 : decode cL_law 630 = .ok (.iconst 1, 1) := by decide +kernel
theorem dL_law_631 : decode cL_law 631 = .ok (.iadd, 1) := by decide +kernel
theorem dL_law_632 : decode cL_law 632 = .ok (.iaload, 1) := by decide +kernel
theorem dL_law_633 : decode cL_law 633 = .ok (.aload_n 0, 1) := by decide +kernel
theorem dL_law_634 : decode cL_law 634 = .ok (.iload_n 3, 1) := by decide +kernel
theorem dL_law_635 : decode cL_law 635 = .ok (.iconst 2, 1) := by decide +kernel
theorem dL_law_636 : decode cL_law 636 = .ok (.iadd, 1) := by decide +kernel
theorem dL_law_637 : decode cL_law 637 = .ok (.iaload, 1) := by decide +kernel
theorem dL_law_638 : decode cL_law 638 = .ok (.ifCond .eq 7, 3) := by decide +kernel
theorem dL_law_641 : decode cL_law 641 = .ok (.iconst 1, 1) := by decide +kernel
theorem dL_law_642 : decode cL_law 642 = .ok (.goto 4, 3) := by decide +kernel
theorem dL_law_645 : decode cL_law 645 = .ok (.iconst 0, 1) := by decide +kernel
theorem dL_law_646 : decode cL_law 646 = .ok (.invokevirtual 76, 3) := by decide +kernel
theorem dL_law_649 : decode cL_law 649 = .ok (.pop, 1) := by decide +kernel
theorem dL_law_650 : decode cL_law 650 = .ok (.goto 411, 3) := by decide +kernel
theorem dL_law_653 : decode cL_law 653 = .ok (.aload_n 1, 1) := by decide +kernel
theorem dL_law_654 : decode cL_law 654 = .ok (.aload_n 0, 1) := by decide +kernel
theorem dL_law_655 : decode cL_law 655 = .ok (.iload_n 3, 1) := by decide +kernel
theorem dL_law_656 : decode cL_law 656 = .ok (.iconst 1, 1) := by decide +kernel
theorem dL_law_657 : decode cL_law 657 = .ok (.iadd, 1) := by decide +kernel
theorem dL_law_658 : decode cL_law 658 = .ok (.iaload, 1) := by decide +kernel
theorem dL_law_659 : decode cL_law 659 = .ok (.aload_n 0, 1) := by decide +kernel
theorem dL_law_660 : decode cL_law 660 = .ok (.iload_n 3, 1) := by decide +kernel
theorem dL_law_661 : decode cL_law 661 = .ok (.iconst 2, 1) := by decide +kernel
theorem dL_law_662 : decode cL_law 662 = .ok (.iadd, 1) := by decide +kernel
theorem dL_law_663 : decode cL_law 663 = .ok (.iaload, 1) := by decide +kernel
theorem dL_law_664 : decode cL_law 664 = .ok (.invokevirtual 77, 3) := by decide +kernel
theorem dL_law_667 : decode cL_law 667 = .ok (.pop, 1) := by decide +kernel
theorem dL_law_668 : decode cL_law 668 = .ok (.aload_n 2, 1) := by decide +kernel
theorem dL_law_669 : decode cL_law 669 = .ok (.aload_n 0, 1) := by decide +kernel
theorem dL_law_670 : decode cL_law 670 = .ok (.iload_n 3, 1) := by decide +kernel
theorem dL_law_671 : decode cL_law 671 = .ok (.iconst 1, 1) := by decide +kernel
theorem dL_law_672 : decode cL_law 672 = .ok (.iadd, 1) := by decide +kernel
theorem dL_law_673 : decode cL_law 673 = .ok (.iaload, 1) := by decide +kernel
theorem dL_law_674 : decode cL_law 674 = .ok (.aload_n 0, 1) := by decide +kernel
theorem dL_law_675 : decode cL_law 675 = .ok (.iload_n 3, 1) := by decide +kernel
theorem dL_law_676 : decode cL_law 676 = .ok (.iconst 2, 1) := by decide +kernel
theorem dL_law_677 : decode cL_law 677 = .ok (.iadd, 1) := by decide +kernel
theorem dL_law_678 : decode cL_law 678 = .ok (.iaload, 1) := by decide +kernel
theorem dL_law_679 : decode cL_law 679 = .ok (.invokevirtual 80, 3) := by decide +kernel
theorem dL_law_682 : decode cL_law 682 = .ok (.pop, 1) := by decide +kernel
theorem dL_law_683 : decode cL_law 683 = .ok (.goto 378, 3) := by decide +kernel
theorem dL_law_686 : decode cL_law 686 = .ok (.aload_n 1, 1) := by decide +kernel
theorem dL_law_687 : decode cL_law 687 = .ok (.aload_n 0, 1) := by decide +kernel
theorem dL_law_688 : decode cL_law 688 = .ok (.iload_n 3, 1) := by decide +kernel
theorem dL_law_689 : decode cL_law 689 = .ok (.iconst 1, 1) := by decide +kernel
theorem dL_law_690 : decode cL_law 690 = .ok (.iadd, 1) := by decide +kernel
theorem dL_law_691 : decode cL_law 691 = .ok (.iaload, 1) := by decide +kernel
theorem dL_law_692 : decode cL_law 692 = .ok (.invokevirtual 81, 3) := by decide +kernel
theorem dL_law_695 : decode cL_law 695 = .ok (.pop, 1) := by decide +kernel
theorem dL_law_696 : decode cL_law 696 = .ok (.aload_n 2, 1) := by decide +kernel
theorem dL_law_697 : decode cL_law 697 = .ok (.aload_n 0, 1) := by decide +kernel
theorem dL_law_698 : decode cL_law 698 = .ok (.iload_n 3, 1) := by decide +kernel
theorem dL_law_699 : decode cL_law 699 = .ok (.iconst 1, 1) := by decide +kernel
theorem dL_law_700 : decode cL_law 700 = .ok (.iadd, 1) := by decide +kernel
theorem dL_law_701 : decode cL_law 701 = .ok (.iaload, 1) := by decide +kernel
theorem dL_law_702 : decode cL_law 702 = .ok (.invokevirtual 84, 3) := by decide +kernel
theorem dL_law_705 : decode cL_law 705 = .ok (.pop, 1) := by decide +kernel
theorem dL_law_706 : decode cL_law 706 = .ok (.goto 355, 3) := by decide +kernel
theorem dL_law_709 : decode cL_law 709 = .ok (.aload_n 1, 1) := by decide +kernel
theorem dL_law_710 : decode cL_law 710 = .ok (.aload_n 0, 1) := by decide +kernel
theorem dL_law_711 : decode cL_law 711 = .ok (.iload_n 3, 1) := by decide +kernel
theorem dL_law_712 : decode cL_law 712 = .ok (.iconst 1, 1) := by decide +kernel
theorem dL_law_713 : decode cL_law 713 = .ok (.iadd, 1) := by decide +kernel
theorem dL_law_714 : decode cL_law 714 = .ok (.iaload, 1) := by decide +kernel
theorem dL_law_715 : decode cL_law 715 = .ok (.invokevirtual 85, 3) := by decide +kernel
theorem dL_law_718 : decode cL_law 718 = .ok (.pop, 1) := by decide +kernel
theorem dL_law_719 : decode cL_law 719 = .ok (.aload_n 2, 1) := by decide +kernel
theorem dL_law_720 : decode cL_law 720 = .ok (.aload_n 0, 1) := by decide +kernel
theorem dL_law_721 : decode cL_law 721 = .ok (.iload_n 3, 1) := by decide +kernel
theorem dL_law_722 : decode cL_law 722 = .ok (.iconst 1, 1) := by decide +kernel
theorem dL_law_723 : decode cL_law 723 = .ok (.iadd, 1) := by decide +kernel
theorem dL_law_724 : decode cL_law 724 = .ok (.iaload, 1) := by decide +kernel
theorem dL_law_725 : decode cL_law 725 = .ok (.invokevirtual 88, 3) := by decide +kernel
theorem dL_law_728 : decode cL_law 728 = .ok (.pop, 1) := by decide +kernel
theorem dL_law_729 : decode cL_law 729 = .ok (.goto 332, 3) := by decide +kernel
theorem dL_law_732 : decode cL_law 732 = .ok (.aload_n 1, 1) := by decide +kernel
theorem dL_law_733 : decode cL_law 733 = .ok (.aload_n 0, 1) := by decide +kernel
theorem dL_law_734 : decode cL_law 734 = .ok (.iload_n 3, 1) := by decide +kernel
theorem dL_law_735 : decode cL_law 735 = .ok (.iconst 1, 1) := by decide +kernel
theorem dL_law_736 : decode cL_law 736 = .ok (.iadd, 1) := by decide +kernel
theorem dL_law_737 : decode cL_law 737 = .ok (.iaload, 1) := by decide +kernel
theorem dL_law_738 : decode cL_law 738 = .ok (.aload_n 0, 1) := by decide +kernel
theorem dL_law_739 : decode cL_law 739 = .ok (.iload_n 3, 1) := by decide +kernel
theorem dL_law_740 : decode cL_law 740 = .ok (.iconst 2, 1) := by decide +kernel
theorem dL_law_741 : decode cL_law 741 = .ok (.iadd, 1) := by decide +kernel
theorem dL_law_742 : decode cL_law 742 = .ok (.iaload, 1) := by decide +kernel
theorem dL_law_743 : decode cL_law 743 = .ok (.invokevirtual 89, 3) := by decide +kernel
theorem dL_law_746 : decode cL_law 746 = .ok (.pop, 1) := by decide +kernel
theorem dL_law_747 : decode cL_law 747 = .ok (.aload_n 2, 1) := by decide +kernel
theorem dL_law_748 : decode cL_law 748 = .ok (.aload_n 0, 1) := by decide +kernel
theorem dL_law_749 : decode cL_law 749 = .ok (.iload_n 3, 1) := by decide +kernel
theorem dL_law_750 : decode cL_law 750 = .ok (.iconst 1, 1) := by decide +kernel
theorem dL_law_751 : decode cL_law 751 = .ok (.iadd, 1) := by decide +kernel
theorem dL_law_752 : decode cL_law 752 = .ok (.iaload, 1) := by decide +kernel
theorem dL_law_753 : decode cL_law 753 = .ok (.aload_n 0, 1) := by decide +kernel
theorem dL_law_754 : decode cL_law 754 = .ok (.iload_n 3, 1) := by decide +kernel
theorem dL_law_755 : decode cL_law 755 = .ok (.iconst 2, 1) := by decide +kernel
theorem dL_law_756 : decode cL_law 756 = .ok (.iadd, 1) := by decide +kernel
theorem dL_law_757 : decode cL_law 757 = .ok (.iaload, 1) := by decide +kernel
theorem dL_law_758 : decode cL_law 758 = .ok (.invokevirtual 92, 3) := by decide +kernel
theorem dL_law_761 : decode cL_law 761 = .ok (.pop, 1) := by decide +kernel
theorem dL_law_762 : decode cL_law 762 = .ok (.goto 299, 3) := by decide +kernel
theorem dL_law_765 : decode cL_law 765 = .ok (.aload_n 1, 1) := by decide +kernel
theorem dL_law_766 : decode cL_law 766 = .ok (.aload_n 0, 1) := by decide +kernel
theorem dL_law_767 : decode cL_law 767 = .ok (.iload_n 3, 1) := by decide +kernel
theorem dL_law_768 : decode cL_law 768 = .ok (.iconst 1, 1) := by decide +kernel
theorem dL_law_769 : decode cL_law 769 = .ok (.iadd, 1) := by decide +kernel
theorem dL_law_770 : decode cL_law 770 = .ok (.iaload, 1) := by decide +kernel
theorem dL_law_771 : decode cL_law 771 = .ok (.aload_n 0, 1) := by decide +kernel
theorem dL_law_772 : decode cL_law 772 = .ok (.iload_n 3, 1) := by decide +kernel
theorem dL_law_773 : decode cL_law 773 = .ok (.iconst 2, 1) := by decide +kernel
theorem dL_law_774 : decode cL_law 774 = .ok (.iadd, 1) := by decide +kernel
theorem dL_law_775 : decode cL_law 775 = .ok (.iaload, 1) := by decide +kernel
theorem dL_law_776 : decode cL_law 776 = .ok (.aload_n 0, 1) := by decide +kernel
theorem dL_law_777 : decode cL_law 777 = .ok (.iload_n 3, 1) := by decide +kernel
theorem dL_law_778 : decode cL_law 778 = .ok (.iconst 3, 1) := by decide +kernel
theorem dL_law_779 : decode cL_law 779 = .ok (.iadd, 1) := by decide +kernel
theorem dL_law_780 : decode cL_law 780 = .ok (.iaload, 1) := by decide +kernel
theorem dL_law_781 : decode cL_law 781 = .ok (.invokevirtual 93, 3) := by decide +kernel
theorem dL_law_784 : decode cL_law 784 = .ok (.pop, 1) := by decide +kernel
theorem dL_law_785 : decode cL_law 785 = .ok (.aload_n 2, 1) := by decide +kernel
theorem dL_law_786 : decode cL_law 786 = .ok (.aload_n 0, 1) := by decide +kernel
theorem dL_law_787 : decode cL_law 787 = .ok (.iload_n 3, 1) := by decide +kernel
theorem dL_law_788 : decode cL_law 788 = .ok (.iconst 1, 1) := by decide +kernel
theorem dL_law_789 : decode cL_law 789 = .ok (.iadd, 1) := by decide +kernel
theorem dL_law_790 : decode cL_law 790 = .ok (.iaload, 1) := by decide +kernel
theorem dL_law_791 : decode cL_law 791 = .ok (.aload_n 0, 1) := by decide +kernel
theorem dL_law_792 : decode cL_law 792 = .ok (.iload_n 3, 1) := by decide +kernel
theorem dL_law_793 : decode cL_law 793 = .ok (.iconst 2, 1) := by decide +kernel
theorem dL_law_794 : decode cL_law 794 = .ok (.iadd, 1) := by decide +kernel
theorem dL_law_795 : decode cL_law 795 = .ok (.iaload, 1) := by decide +kernel
theorem dL_law_796 : decode cL_law 796 = .ok (.aload_n 0, 1) := by decide +kernel
theorem dL_law_797 : decode cL_law 797 = .ok (.iload_n 3, 1) := by decide +kernel
theorem dL_law_798 : decode cL_law 798 = .ok (.iconst 3, 1) := by decide +kernel
theorem dL_law_799 : decode cL_law 799 = .ok (.iadd, 1) := by decide +kernel
theorem dL_law_800 : decode cL_law 800 = .ok (.iaload, 1) := by decide +kernel
theorem dL_law_801 : decode cL_law 801 = .ok (.invokevirtual 97, 3) := by decide +kernel
theorem dL_law_804 : decode cL_law 804 = .ok (.pop, 1) := by decide +kernel
theorem dL_law_805 : decode cL_law 805 = .ok (.goto 256, 3) := by decide +kernel
theorem dL_law_808 : decode cL_law 808 = .ok (.aload_n 1, 1) := by decide +kernel
theorem dL_law_809 : decode cL_law 809 = .ok (.aload_n 0, 1) := by decide +kernel
theorem dL_law_810 : decode cL_law 810 = .ok (.iload_n 3, 1) := by decide +kernel
theorem dL_law_811 : decode cL_law 811 = .ok (.iconst 1, 1) := by decide +kernel
theorem dL_law_812 : decode cL_law 812 = .ok (.iadd, 1) := by decide +kernel
theorem dL_law_813 : decode cL_law 813 = .ok (.iaload, 1) := by decide +kernel
theorem dL_law_814 : decode cL_law 814 = .ok (.invokevirtual 98, 3) := by decide +kernel
theorem dL_law_817 : decode cL_law 817 = .ok (.pop, 1) := by decide +kernel
theorem dL_law_818 : decode cL_law 818 = .ok (.aload_n 2, 1) := by decide +kernel
theorem dL_law_819 : decode cL_law 819 = .ok (.aload_n 0, 1) := by decide +kernel
theorem dL_law_820 : decode cL_law 820 = .ok (.iload_n 3, 1) := by decide +kernel
theorem dL_law_821 : decode cL_law 821 = .ok (.iconst 1, 1) := by decide +kernel
theorem dL_law_822 : decode cL_law 822 = .ok (.iadd, 1) := by decide +kernel
theorem dL_law_823 : decode cL_law 823 = .ok (.iaload, 1) := by decide +kernel
theorem dL_law_824 : decode cL_law 824 = .ok (.invokevirtual 101, 3) := by decide +kernel
theorem dL_law_827 : decode cL_law 827 = .ok (.pop, 1) := by decide +kernel
theorem dL_law_828 : decode cL_law 828 = .ok (.goto 233, 3) := by decide +kernel
theorem dL_law_831 : decode cL_law 831 = .ok (.aload_n 1, 1) := by decide +kernel
theorem dL_law_832 : decode cL_law 832 = .ok (.aload_n 0, 1) := by decide +kernel
theorem dL_law_833 : decode cL_law 833 = .ok (.iload_n 3, 1) := by decide +kernel
theorem dL_law_834 : decode cL_law 834 = .ok (.iconst 1, 1) := by decide +kernel
theorem dL_law_835 : decode cL_law 835 = .ok (.iadd, 1) := by decide +kernel
theorem dL_law_836 : decode cL_law 836 = .ok (.iaload, 1) := by decide +kernel
theorem dL_law_837 : decode cL_law 837 = .ok (.invokevirtual 102, 3) := by decide +kernel
theorem dL_law_840 : decode cL_law 840 = .ok (.pop, 1) := by decide +kernel
theorem dL_law_841 : decode cL_law 841 = .ok (.aload_n 2, 1) := by decide +kernel
theorem dL_law_842 : decode cL_law 842 = .ok (.aload_n 0, 1) := by decide +kernel
theorem dL_law_843 : decode cL_law 843 = .ok (.iload_n 3, 1) := by decide +kernel
theorem dL_law_844 : decode cL_law 844 = .ok (.iconst 1, 1) := by decide +kernel
theorem dL_law_845 : decode cL_law 845 = .ok (.iadd, 1) := by decide +kernel
theorem dL_law_846 : decode cL_law 846 = .ok (.iaload, 1) := by decide +kernel
theorem dL_law_847 : decode cL_law 847 = .ok (.invokevirtual 105, 3) := by decide +kernel
theorem dL_law_850 : decode cL_law 850 = .ok (.pop, 1) := by decide +kernel
theorem dL_law_851 : decode cL_law 851 = .ok (.goto 210, 3) := by decide +kernel
theorem dL_law_854 : decode cL_law 854 = .ok (.aload_n 1, 1) := by decide +kernel
theorem dL_law_855 : decode cL_law 855 = .ok (.aload_n 0, 1) := by decide +kernel
theorem dL_law_856 : decode cL_law 856 = .ok (.iload_n 3, 1) := by decide +kernel
theorem dL_law_857 : decode cL_law 857 = .ok (.iconst 1, 1) := by decide +kernel
theorem dL_law_858 : decode cL_law 858 = .ok (.iadd, 1) := by decide +kernel
theorem dL_law_859 : decode cL_law 859 = .ok (.iaload, 1) := by decide +kernel
theorem dL_law_860 : decode cL_law 860 = .ok (.invokevirtual 106, 3) := by decide +kernel
theorem dL_law_863 : decode cL_law 863 = .ok (.pop, 1) := by decide +kernel
theorem dL_law_864 : decode cL_law 864 = .ok (.aload_n 2, 1) := by decide +kernel
theorem dL_law_865 : decode cL_law 865 = .ok (.aload_n 0, 1) := by decide +kernel
theorem dL_law_866 : decode cL_law 866 = .ok (.iload_n 3, 1) := by decide +kernel
theorem dL_law_867 : decode cL_law 867 = .ok (.iconst 1, 1) := by decide +kernel
theorem dL_law_868 : decode cL_law 868 = .ok (.iadd, 1) := by decide +kernel
theorem dL_law_869 : decode cL_law 869 = .ok (.iaload, 1) := by decide +kernel
theorem dL_law_870 : decode cL_law 870 = .ok (.invokevirtual 109, 3) := by decide +kernel
theorem dL_law_873 : decode cL_law 873 = .ok (.pop, 1) := by decide +kernel
theorem dL_law_874 : decode cL_law 874 = .ok (.goto 187, 3) := by decide +kernel
theorem dL_law_877 : decode cL_law 877 = .ok (.aload_n 1, 1) := by decide +kernel
theorem dL_law_878 : decode cL_law 878 = .ok (.invokevirtual 110, 3) := by decide +kernel
theorem dL_law_881 : decode cL_law 881 = .ok (.pop, 1) := by decide +kernel
theorem dL_law_882 : decode cL_law 882 = .ok (.aload_n 2, 1) := by decide +kernel
theorem dL_law_883 : decode cL_law 883 = .ok (.invokevirtual 114, 3) := by decide +kernel
theorem dL_law_886 : decode cL_law 886 = .ok (.pop, 1) := by decide +kernel
theorem dL_law_887 : decode cL_law 887 = .ok (.goto 174, 3) := by decide +kernel
theorem dL_law_890 : decode cL_law 890 = .ok (.aload_n 1, 1) := by decide +kernel
theorem dL_law_891 : decode cL_law 891 = .ok (.aload_n 0, 1) := by decide +kernel
theorem dL_law_892 : decode cL_law 892 = .ok (.iload_n 3, 1) := by decide +kernel
theorem dL_law_893 : decode cL_law 893 = .ok (.iconst 1, 1) := by decide +kernel
theorem dL_law_894 : decode cL_law 894 = .ok (.iadd, 1) := by decide +kernel
theorem dL_law_895 : decode cL_law 895 = .ok (.iaload, 1) := by decide +kernel
theorem dL_law_896 : decode cL_law 896 = .ok (.aload_n 0, 1) := by decide +kernel
theorem dL_law_897 : decode cL_law 897 = .ok (.iload_n 3, 1) := by decide +kernel
theorem dL_law_898 : decode cL_law 898 = .ok (.iconst 2, 1) := by decide +kernel
theorem dL_law_899 : decode cL_law 899 = .ok (.iadd, 1) := by decide +kernel
theorem dL_law_900 : decode cL_law 900 = .ok (.iaload, 1) := by decide +kernel
theorem dL_law_901 : decode cL_law 901 = .ok (.invokevirtual 115, 3) := by decide +kernel
theorem dL_law_904 : decode cL_law 904 = .ok (.pop, 1) := by decide +kernel
theorem dL_law_905 : decode cL_law 905 = .ok (.aload_n 2, 1) := by decide +kernel
theorem dL_law_906 : decode cL_law 906 = .ok (.aload_n 0, 1) := by decide +kernel
theorem dL_law_907 : decode cL_law 907 = .ok (.iload_n 3, 1) := by decide +kernel
theorem dL_law_908 : decode cL_law 908 = .ok (.iconst 1, 1) := by decide +kernel
theorem dL_law_909 : decode cL_law 909 = .ok (.iadd, 1) := by decide +kernel
theorem dL_law_910 : decode cL_law 910 = .ok (.iaload, 1) := by decide +kernel
theorem dL_law_911 : decode cL_law 911 = .ok (.aload_n 0, 1) := by decide +kernel
theorem dL_law_912 : decode cL_law 912 = .ok (.iload_n 3, 1) := by decide +kernel
theorem dL_law_913 : decode cL_law 913 = .ok (.iconst 2, 1) := by decide +kernel
theorem dL_law_914 : decode cL_law 914 = .ok (.iadd, 1) := by decide +kernel
theorem dL_law_915 : decode cL_law 915 = .ok (.iaload, 1) := by decide +kernel
theorem dL_law_916 : decode cL_law 916 = .ok (.invokevirtual 118, 3) := by decide +kernel
theorem dL_law_919 : decode cL_law 919 = .ok (.pop, 1) := by decide +kernel
theorem dL_law_920 : decode cL_law 920 = .ok (.goto 141, 3) := by decide +kernel
theorem dL_law_923 : decode cL_law 923 = .ok (.aload_n 1, 1) := by decide +kernel
theorem dL_law_924 : decode cL_law 924 = .ok (.aload_n 0, 1) := by decide +kernel
theorem dL_law_925 : decode cL_law 925 = .ok (.iload_n 3, 1) := by decide +kernel
theorem dL_law_926 : decode cL_law 926 = .ok (.iconst 1, 1) := by decide +kernel
theorem dL_law_927 : decode cL_law 927 = .ok (.iadd, 1) := by decide +kernel
theorem dL_law_928 : decode cL_law 928 = .ok (.iaload, 1) := by decide +kernel
theorem dL_law_929 : decode cL_law 929 = .ok (.aload_n 0, 1) := by decide +kernel
theorem dL_law_930 : decode cL_law 930 = .ok (.iload_n 3, 1) := by decide +kernel
theorem dL_law_931 : decode cL_law 931 = .ok (.iconst 2, 1) := by decide +kernel
theorem dL_law_932 : decode cL_law 932 = .ok (.iadd, 1) := by decide +kernel
theorem dL_law_933 : decode cL_law 933 = .ok (.iaload, 1) := by decide +kernel
theorem dL_law_934 : decode cL_law 934 = .ok (.aload_n 0, 1) := by decide +kernel
theorem dL_law_935 : decode cL_law 935 = .ok (.iload_n 3, 1) := by decide +kernel
theorem dL_law_936 : decode cL_law 936 = .ok (.iconst 3, 1) := by decide +kernel
theorem dL_law_937 : decode cL_law 937 = .ok (.iadd, 1) := by decide +kernel
theorem dL_law_938 : decode cL_law 938 = .ok (.iaload, 1) := by decide +kernel
theorem dL_law_939 : decode cL_law 939 = .ok (.invokevirtual 119, 3) := by decide +kernel
theorem dL_law_942 : decode cL_law 942 = .ok (.pop, 1) := by decide +kernel
theorem dL_law_943 : decode cL_law 943 = .ok (.aload_n 2, 1) := by decide +kernel
theorem dL_law_944 : decode cL_law 944 = .ok (.aload_n 0, 1) := by decide +kernel
theorem dL_law_945 : decode cL_law 945 = .ok (.iload_n 3, 1) := by decide +kernel
theorem dL_law_946 : decode cL_law 946 = .ok (.iconst 1, 1) := by decide +kernel
theorem dL_law_947 : decode cL_law 947 = .ok (.iadd, 1) := by decide +kernel
theorem dL_law_948 : decode cL_law 948 = .ok (.iaload, 1) := by decide +kernel
theorem dL_law_949 : decode cL_law 949 = .ok (.aload_n 0, 1) := by decide +kernel
theorem dL_law_950 : decode cL_law 950 = .ok (.iload_n 3, 1) := by decide +kernel
theorem dL_law_951 : decode cL_law 951 = .ok (.iconst 2, 1) := by decide +kernel
theorem dL_law_952 : decode cL_law 952 = .ok (.iadd, 1) := by decide +kernel
theorem dL_law_953 : decode cL_law 953 = .ok (.iaload, 1) := by decide +kernel
theorem dL_law_954 : decode cL_law 954 = .ok (.aload_n 0, 1) := by decide +kernel
theorem dL_law_955 : decode cL_law 955 = .ok (.iload_n 3, 1) := by decide +kernel
theorem dL_law_956 : decode cL_law 956 = .ok (.iconst 3, 1) := by decide +kernel
theorem dL_law_957 : decode cL_law 957 = .ok (.iadd, 1) := by decide +kernel
theorem dL_law_958 : decode cL_law 958 = .ok (.iaload, 1) := by decide +kernel
theorem dL_law_959 : decode cL_law 959 = .ok (.invokevirtual 122, 3) := by decide +kernel
theorem dL_law_962 : decode cL_law 962 = .ok (.pop, 1) := by decide +kernel
theorem dL_law_963 : decode cL_law 963 = .ok (.goto 98, 3) := by decide +kernel
theorem dL_law_966 : decode cL_law 966 = .ok (.aload_n 1, 1) := by decide +kernel
theorem dL_law_967 : decode cL_law 967 = .ok (.aload_n 0, 1) := by decide +kernel
theorem dL_law_968 : decode cL_law 968 = .ok (.iload_n 3, 1) := by decide +kernel
theorem dL_law_969 : decode cL_law 969 = .ok (.iconst 1, 1) := by decide +kernel
theorem dL_law_970 : decode cL_law 970 = .ok (.iadd, 1) := by decide +kernel
theorem dL_law_971 : decode cL_law 971 = .ok (.iaload, 1) := by decide +kernel
theorem dL_law_972 : decode cL_law 972 = .ok (.invokevirtual 123, 3) := by decide +kernel
theorem dL_law_975 : decode cL_law 975 = .ok (.pop, 1) := by decide +kernel
theorem dL_law_976 : decode cL_law 976 = .ok (.aload_n 2, 1) := by decide +kernel
theorem dL_law_977 : decode cL_law 977 = .ok (.aload_n 0, 1) := by decide +kernel
theorem dL_law_978 : decode cL_law 978 = .ok (.iload_n 3, 1) := by decide +kernel
theorem dL_law_979 : decode cL_law 979 = .ok (.iconst 1, 1) := by decide +kernel
theorem dL_law_980 : decode cL_law 980 = .ok (.iadd, 1) := by decide +kernel
theorem dL_law_981 : decode cL_law 981 = .ok (.iaload, 1) := by decide +kernel
theorem dL_law_982 : decode cL_law 982 = .ok (.invokevirtual 126, 3) := by decide +kernel
theorem dL_law_985 : decode cL_law 985 = .ok (.pop, 1) := by decide +kernel
theorem dL_law_986 : decode cL_law 986 = .ok (.goto 75, 3) := by decide +kernel
theorem dL_law_989 : decode cL_law 989 = .ok (.aload_n 1, 1) := by decide +kernel
theorem dL_law_990 : decode cL_law 990 = .ok (.invokevirtual 127, 3) := by decide +kernel
theorem dL_law_993 : decode cL_law 993 = .ok (.pop, 1) := by decide +kernel
theorem dL_law_994 : decode cL_law 994 = .ok (.aload_n 2, 1) := by decide +kernel
theorem dL_law_995 : decode cL_law 995 = .ok (.invokevirtual 130, 3) := by decide +kernel
theorem dL_law_998 : decode cL_law 998 = .ok (.pop, 1) := by decide +kernel
theorem dL_law_999 : decode cL_law 999 = .ok (.goto 62, 3) := by decide +kernel
theorem dL_law_1002 : decode cL_law 1002 = .ok (.aload_n 1, 1) := by decide +kernel
theorem dL_law_1003 : decode cL_law 1003 = .ok (.invokevirtual 131, 3) := by decide +kernel
theorem dL_law_1006 : decode cL_law 1006 = .ok (.pop, 1) := by decide +kernel
theorem dL_law_1007 : decode cL_law 1007 = .ok (.aload_n 2, 1) := by decide +kernel
theorem dL_law_1008 : decode cL_law 1008 = .ok (.invokevirtual 135, 3) := by decide +kernel
theorem dL_law_1011 : decode cL_law 1011 = .ok (.pop, 1) := by decide +kernel
theorem dL_law_1012 : decode cL_law 1012 = .ok (.goto 49, 3) := by decide +kernel
theorem dL_law_1015 : decode cL_law 1015 = .ok (.aload_n 1, 1) := by decide +kernel
theorem dL_law_1016 : decode cL_law 1016 = .ok (.aload_n 0, 1) := by decide +kernel
theorem dL_law_1017 : decode cL_law 1017 = .ok (.iload_n 3, 1) := by decide +kernel
theorem dL_law_1018 : decode cL_law 1018 = .ok (.iconst 1, 1) := by decide +kernel
theorem dL_law_1019 : decode cL_law 1019 = .ok (.iadd, 1) := by decide +kernel
theorem dL_law_1020 : decode cL_law 1020 = .ok (.iaload, 1) := by decide +kernel
theorem dL_law_1021 : decode cL_law 1021 = .ok (.invokevirtual 136, 3) := by decide +kernel
theorem dL_law_1024 : decode cL_law 1024 = .ok (.pop, 1) := by decide +kernel
theorem dL_law_1025 : decode cL_law 1025 = .ok (.aload_n 2, 1) := by decide +kernel
theorem dL_law_1026 : decode cL_law 1026 = .ok (.aload_n 0, 1) := by decide +kernel
theorem dL_law_1027 : decode cL_law 1027 = .ok (.iload_n 3, 1) := by decide +kernel
theorem dL_law_1028 : decode cL_law 1028 = .ok (.iconst 1, 1) := by decide +kernel
theorem dL_law_1029 : decode cL_law 1029 = .ok (.iadd, 1) := by decide +kernel
theorem dL_law_1030 : decode cL_law 1030 = .ok (.iaload, 1) := by decide +kernel
theorem dL_law_1031 : decode cL_law 1031 = .ok (.invokevirtual 139, 3) := by decide +kernel
theorem dL_law_1034 : decode cL_law 1034 = .ok (.pop, 1) := by decide +kernel
theorem dL_law_1035 : decode cL_law 1035 = .ok (.goto 26, 3) := by decide +kernel
theorem dL_law_1038 : decode cL_law 1038 = .ok (.aload_n 1, 1) := by decide +kernel
theorem dL_law_1039 : decode cL_law 1039 = .ok (.aload_n 0, 1) := by decide +kernel
theorem dL_law_1040 : decode cL_law 1040 = .ok (.iload_n 3, 1) := by decide +kernel
theorem dL_law_1041 : decode cL_law 1041 = .ok (.iconst 1, 1) := by decide +kernel
theorem dL_law_1042 : decode cL_law 1042 = .ok (.iadd, 1) := by decide +kernel
theorem dL_law_1043 : decode cL_law 1043 = .ok (.iaload, 1) := by decide +kernel
theorem dL_law_1044 : decode cL_law 1044 = .ok (.invokevirtual 140, 3) := by decide +kernel
theorem dL_law_1047 : decode cL_law 1047 = .ok (.pop, 1) := by decide +kernel
theorem dL_law_1048 : decode cL_law 1048 = .ok (.aload_n 2, 1) := by decide +kernel
theorem dL_law_1049 : decode cL_law 1049 = .ok (.aload_n 0, 1) := by decide +kernel
theorem dL_law_1050 : decode cL_law 1050 = .ok (.iload_n 3, 1) := by decide +kernel
theorem dL_law_1051 : decode cL_law 1051 = .ok (.iconst 1, 1) := by decide +kernel
theorem dL_law_1052 : decode cL_law 1052 = .ok (.iadd, 1) := by decide +kernel
theorem dL_law_1053 : decode cL_law 1053 = .ok (.iaload, 1) := by decide +kernel
theorem dL_law_1054 : decode cL_law 1054 = .ok (.invokevirtual 143, 3) := by decide +kernel
theorem dL_law_1057 : decode cL_law 1057 = .ok (.pop, 1) := by decide +kernel
theorem dL_law_1058 : decode cL_law 1058 = .ok (.goto 3, 3) := by decide +kernel
theorem dL_law_1061 : decode cL_law 1061 = .ok (.iinc 3 6, 3) := by decide +kernel
theorem dL_law_1064 : decode cL_law 1064 = .ok (.goto (-1046), 3) := by decide +kernel
theorem dL_law_1067 : decode cL_law 1067 = .ok (.iconst 1, 1) := by decide +kernel
theorem dL_law_1068 : decode cL_law 1068 = .ok (.ireturn, 1) := by decide +kernel
abbrev vwCl : List vw_C := [(RX0, TX0, 5), (RX1, TX1, 3), (RX2, TX2, 2), (RX3, TX3, 4), (RX4, TX4, 4), (RX5, TX5, 5), (RX6, TX6, 4), (RX7, TX7, 4), (RX8, TX8, 3), (RX9, TX9, 2), (RX10, TX10, 9), (RX11, TX11, 12), (RX12, TX12, 41)]

