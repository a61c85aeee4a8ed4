theorem dX4_bad_0 : decode cX4_bad 0 = .ok (.aload_n 0, 1) := by decide +kernel
theorem dX4_bad_1 : decode cX4_bad 1 = .ok (.getfield 79, 3) := by decide +kernel
theorem dX4_bad_4 : decode cX4_bad 4 = .ok (.ifCond .ne 16, 3) := by decide +kernel
theorem dX4_bad_7 : decode cX4_bad 7 = .ok (.aload_n 0, 1) := by decide +kernel
theorem dX4_bad_8 : decode cX4_bad 8 = .ok (.iload_n 1, 1) := by decide +kernel
theorem dX4_bad_9 : decode cX4_bad 9 = .ok (.putfield 79, 3) := by decide +kernel
theorem dX4_bad_12 : decode cX4_bad 12 = .ok (.aload_n 0, 1) := by decide +kernel
theorem dX4_bad_13 : decode cX4_bad 13 = .ok (.aload_n 0, 1) := by decide +kernel
theorem dX4_bad_14 : decode cX4_bad 14 = .ok (.getfield 82, 3) := by decide +kernel
theorem dX4_bad_17 : decode cX4_bad 17 = .ok (.putfield 85, 3) := by decide +kernel
theorem dX4_bad_20 : decode cX4_bad 20 = .ok (.return_, 1) := by decide +kernel
set_option maxRecDepth 20000 in
theorem ggX4_nextToken_X4_in : GoodIn wsX4_nextToken wsX4_in := goodIn_r _ [15] (by decide +kernel) (by decide +kernel)
set_option maxRecDepth 20000 in
theorem gX4_nextToken_X4_in : GoodIn wsX4_nextToken (va_wsS RX4 58 yX4_in wsX4_in) := goodIn_app (goodIn_of _ (by decide +kernel)) ggX4_nextToken_X4_in
theorem dX4_nextToken_0 : decode cX4_nextToken 0 = .ok (.aload_n 0, 1) := by decide +kernel
theorem dX4_nextToken_1 : decode cX4_nextToken 1 = .ok (.aload_n 0, 1) := by decide +kernel
theorem dX4_nextToken_2 : decode cX4_nextToken 2 = .ok (.getfield 88, 3) := by decide +kernel
theorem dX4_nextToken_5 : decode cX4_nextToken 5 = .ok (.putfield 82, 3) := by decide +kernel
theorem dX4_nextToken_8 : decode cX4_nextToken 8 = .ok (.aload_n 0, 1) := by decide +kernel
theorem dX4_nextToken_9 : decode cX4_nextToken 9 = .ok (.aload_n 0, 1) := by decide +kernel
theorem dX4_nextToken_10 : decode cX4_nextToken 10 = .ok (.getfield 88, 3) := by decide +kernel
theorem dX4_nextToken_13 : decode cX4_nextToken 13 = .ok (.aload_n 0, 1) := by decide +kernel
theorem dX4_nextToken_14 : decode cX4_nextToken 14 = .ok (.getfield 75, 3) := by decide +kernel
theorem dX4_nextToken_17 : decode cX4_nextToken 17 = .ok (.if_icmp .ge 15, 3) := by decide +kernel
theorem dX4_nextToken_20 : decode cX4_nextToken 20 = .ok (.aload_n 0, 1) := by decide +kernel
theorem dX4_nextToken_21 : decode cX4_nextToken 21 = .ok (.getfield 31, 3) := by decide +kernel
theorem dX4_nextToken_24 : decode cX4_nextToken 24 = .ok (.aload_n 0, 1) := by decide +kernel
theorem dX4_nextToken_25 : decode cX4_nextToken 25 = .ok (.getfield 88, 3) := by decide +kernel
theorem dX4_nextToken_28 : decode cX4_nextToken 28 = .ok (.iaload, 1) := by decide +kernel
theorem dX4_nextToken_29 : decode cX4_nextToken 29 = .ok (.goto 5, 3) := by decide +kernel
theorem dX4_nextToken_32 : decode cX4_nextToken 32 = .ok (.ldc 91, 2) := by decide +kernel
theorem dX4_nextToken_34 : decode cX4_nextToken 34 = .ok (.putfield 92, 3) := by decide +kernel
theorem dX4_nextToken_37 : decode cX4_nextToken 37 = .ok (.aload_n 0, 1) := by decide +kernel
theorem dX4_nextToken_38 : decode cX4_nextToken 38 = .ok (.aload_n 0, 1) := by decide +kernel
theorem dX4_nextToken_39 : decode cX4_nextToken 39 = .ok (.getfield 88, 3) := by decide +kernel
theorem dX4_nextToken_42 : decode cX4_nextToken 42 = .ok (.aload_n 0, 1) := by decide +kernel
theorem dX4_nextToken_43 : decode cX4_nextToken 43 = .ok (.getfield 75, 3) := by decide +kernel
theorem dX4_nextToken_46 : decode cX4_nextToken 46 = .ok (.if_icmp .ne 7, 3) := by decide +kernel
theorem dX4_nextToken_49 : decode cX4_nextToken 49 = .ok (.iconst 1, 1) := by decide +kernel
theorem dX4_nextToken_50 : decode cX4_nextToken 50 = .ok (.goto 68, 3) := by decide +kernel
theorem dX4_nextToken_53 : decode cX4_nextToken 53 = .ok (.aload_n 0, 1) := by decide +kernel
theorem dX4_nextToken_54 : decode cX4_nextToken 54 = .ok (.getfield 92, 3) := by decide +kernel
theorem dX4_nextToken_57 : decode cX4_nextToken 57 = .ok (.i2l, 1) := by decide +kernel
theorem dX4_nextToken_58 : decode cX4_nextToken 58 = .ok (.ldc2_w 95, 3) := by decide +kernel
theorem dX4_nextToken_61 : decode cX4_nextToken 61 = .ok (.ldc2_w 97, 3) := by decide +kernel
theorem dX4_nextToken_64 : decode cX4_nextToken 64 = .ok (.invokestatic 58, 3) := by decide +kernel
theorem dX4_nextToken_67 : decode cX4_nextToken 67 = .ok (.ifCond .eq 7, 3) := by decide +kernel
theorem dX4_nextToken_70 : decode cX4_nextToken 70 = .ok (.iconst 2, 1) := by decide +kernel
theorem dX4_nextToken_71 : decode cX4_nextToken 71 = .ok (.goto 47, 3) := by decide +kernel
theorem dX4_nextToken_74 : decode cX4_nextToken 74 = .ok (.aload_n 0, 1) := by decide +kernel
theorem dX4_nextToken_75 : decode cX4_nextToken 75 = .ok (.getfield 92, 3) := by decide +kernel
theorem dX4_nextToken_78 : decode cX4_nextToken 78 = .ok (.i2l, 1) := by decide +kernel
theorem dX4_nextToken_79 : decode cX4_nextToken 79 = .ok (.ldc2_w 99, 3) := by decide +kernel
theorem dX4_nextToken_82 : decode cX4_nextToken 82 = .ok (.ldc2_w 101, 3) := by decide +kernel
theorem dX4_nextToken_85 : decode cX4_nextToken 85 = .ok (.invokestatic 58, 3) := by decide +kernel
theorem dX4_nextToken_88 : decode cX4_nextToken 88 = .ok (.ifCond .eq 7, 3) := by decide +kernel
theorem dX4_nextToken_91 : decode cX4_nextToken 91 = .ok (.iconst 3, 1) := by decide +kernel
theorem dX4_nextToken_92 : decode cX4_nextToken 92 = .ok (.goto 26, 3) := by decide +kernel
theorem dX4_nextToken_95 : decode cX4_nextToken 95 = .ok (.aload_n 0, 1) := by decide +kernel
theorem dX4_nextToken_96 : decode cX4_nextToken 96 = .ok (.getfield 92, 3) := by decide +kernel
theorem dX4_nextToken_99 : decode cX4_nextToken 99 = .ok (.bipush 44, 2) := by decide +kernel
theorem dX4_nextToken_101 : decode cX4_nextToken 101 = .ok (.if_icmp .eq 12, 3) := by decide +kernel
theorem dX4_nextToken_104 : decode cX4_nextToken 104 = .ok (.aload_n 0, 1) := by decide +kernel
theorem dX4_nextToken_105 : decode cX4_nextToken 105 = .ok (.getfield 92, 3) := by decide +kernel
theorem dX4_nextToken_108 : decode cX4_nextToken 108 = .ok (.bipush 59, 2) := by decide +kernel
theorem dX4_nextToken_110 : decode cX4_nextToken 110 = .ok (.if_icmp .ne 7, 3) := by decide +kernel
theorem dX4_nextToken_113 : decode cX4_nextToken 113 = .ok (.iconst 4, 1) := by decide +kernel
theorem dX4_nextToken_114 : decode cX4_nextToken 114 = .ok (.goto 4, 3) := by decide +kernel
theorem dX4_nextToken_117 : decode cX4_nextToken 117 = .ok (.iconst 0, 1) := by decide +kernel
theorem dX4_nextToken_118 : decode cX4_nextToken 118 = .ok (.putfield 103, 3) := by decide +kernel
theorem dX4_nextToken_121 : decode cX4_nextToken 121 = .ok (.aload_n 0, 1) := by decide +kernel
theorem dX4_nextToken_122 : decode cX4_nextToken 122 = .ok (.dup, 1) := by decide +kernel
theorem dX4_nextToken_123 : decode cX4_nextToken 123 = .ok (.getfield 88, 3) := by decide +kernel
theorem dX4_nextToken_126 : decode cX4_nextToken 126 = .ok (.aload_n 0, 1) := by decide +kernel
theorem dX4_nextToken_127 : decode cX4_nextToken 127 = .ok (.getfield 88, 3) := by decide +kernel
theorem dX4_nextToken_130 : decode cX4_nextToken 130 = .ok (.aload_n 0, 1) := by decide +kernel
theorem dX4_nextToken_131 : decode cX4_nextToken 131 = .ok (.getfield 75, 3) := by decide +kernel
theorem dX4_nextToken_134 : decode cX4_nextToken 134 = .ok (.if_icmp .ge 7, 3) := by decide +kernel
theorem dX4_nextToken_137 : decode cX4_nextToken 137 = .ok (.iconst 1, 1) := by decide +kernel
theorem dX4_nextToken_138 : decode cX4_nextToken 138 = .ok (.goto 4, 3) := by decide +kernel
theorem dX4_nextToken_141 : decode cX4_nextToken 141 = .ok (.iconst 0, 1) := by decide +kernel
theorem dX4_nextToken_142 : decode cX4_nextToken 142 = .ok (.iadd, 1) := by decide +kernel
theorem dX4_nextToken_143 : decode cX4_nextToken 143 = .ok (.putfield 88, 3) := by decide +kernel
theorem dX4_nextToken_146 : decode cX4_nextToken 146 = .ok (.aload_n 0, 1) := by decide +kernel
theorem dX4_nextToken_147 : decode cX4_nextToken 147 = .ok (.getfield 103, 3) := by decide +kernel
theorem dX4_nextToken_150 : decode cX4_nextToken 150 = .ok (.iconst 3, 1) := by decide +kernel
theorem dX4_nextToken_151 : decode cX4_nextToken 151 = .ok (.if_icmp .ne 126, 3) := by decide +kernel
theorem dX4_nextToken_154 : decode cX4_nextToken 154 = .ok (.aload_n 0, 1) := by decide +kernel
theorem dX4_nextToken_155 : decode cX4_nextToken 155 = .ok (.dup, 1) := by decide +kernel
theorem dX4_nextToken_156 : decode cX4_nextToken 156 = .ok (.getfield 92, 3) := by decide +kernel
theorem dX4_nextToken_159 : decode cX4_nextToken 159 = .ok (.bipush 48, 2) := by decide +kernel
theorem dX4_nextToken_161 : decode cX4_nextToken 161 = .ok (.isub, 1) := by decide +kernel
theorem dX4_nextToken_162 : decode cX4_nextToken 162 = .ok (.putfield 92, 3) := by decide +kernel
theorem dX4_nextToken_165 : decode cX4_nextToken 165 = .ok (.aload_n 0, 1) := by decide +kernel
theorem dX4_nextToken_166 : decode cX4_nextToken 166 = .ok (.getfield 88, 3) := by decide +kernel
theorem dX4_nextToken_169 : decode cX4_nextToken 169 = .ok (.aload_n 0, 1) := by decide +kernel
theorem dX4_nextToken_170 : decode cX4_nextToken 170 = .ok (.getfield 75, 3) := by decide +kernel
theorem dX4_nextToken_173 : decode cX4_nextToken 173 = .ok (.if_icmp .ge 82, 3) := by decide +kernel
theorem dX4_nextToken_176 : decode cX4_nextToken 176 = .ok (.aload_n 0, 1) := by decide +kernel
theorem dX4_nextToken_177 : decode cX4_nextToken 177 = .ok (.getfield 31, 3) := by decide +kernel
theorem dX4_nextToken_180 : decode cX4_nextToken 180 = .ok (.aload_n 0, 1) := by decide +kernel
theorem dX4_nextToken_181 : decode cX4_nextToken 181 = .ok (.getfield 88, 3) := by decide +kernel
theorem dX4_nextToken_184 : decode cX4_nextToken 184 = .ok (.iaload, 1) := by decide +kernel
theorem dX4_nextToken_185 : decode cX4_nextToken 185 = .ok (.i2l, 1) := by decide +kernel
theorem dX4_nextToken_186 : decode cX4_nextToken 186 = .ok (.ldc2_w 99, 3) := by decide +kernel
theorem dX4_nextToken_189 : decode cX4_nextToken 189 = .ok (.ldc2_w 101, 3) := by decide +kernel
theorem dX4_nextToken_192 : decode cX4_nextToken 192 = .ok (.invokestatic 58, 3) := by decide +kernel
theorem dX4_nextToken_195 : decode cX4_nextToken 195 = .ok (.ifCond .eq 60, 3) := by decide +kernel
theorem dX4_nextToken_198 : decode cX4_nextToken 198 = .ok (.aload_n 0, 1) := by decide +kernel
theorem dX4_nextToken_199 : decode cX4_nextToken 199 = .ok (.aload_n 0, 1) := by decide +kernel
theorem dX4_nextToken_200 : decode cX4_nextToken 200 = .ok (.getfield 88, 3) := by decide +kernel
theorem dX4_nextToken_203 : decode cX4_nextToken 203 = .ok (.aload_n 0, 1) := by decide +kernel
theorem dX4_nextToken_204 : decode cX4_nextToken 204 = .ok (.getfield 82, 3) := by decide +kernel
theorem dX4_nextToken_207 : decode cX4_nextToken 207 = .ok (.isub, 1) := by decide +kernel
theorem dX4_nextToken_208 : decode cX4_nextToken 208 = .ok (.iconst 2, 1) := by decide +kernel
theorem dX4_nextToken_209 : decode cX4_nextToken 209 = .ok (.if_icmp .ge 26, 3) := by decide +kernel
theorem dX4_nextToken_212 : decode cX4_nextToken 212 = .ok (.bipush 10, 2) := by decide +kernel
theorem dX4_nextToken_214 : decode cX4_nextToken 214 = .ok (.aload_n 0, 1) := by decide +kernel
theorem dX4_nextToken_215 : decode cX4_nextToken 215 = .ok (.getfield 92, 3) := by decide +kernel
theorem dX4_nextToken_218 : decode cX4_nextToken 218 = .ok (.imul, 1) := by decide +kernel
theorem dX4_nextToken_219 : decode cX4_nextToken 219 = .ok (.aload_n 0, 1) := by decide +kernel
theorem dX4_nextToken_220 : decode cX4_nextToken 220 = .ok (.getfield 31, 3) := by decide +kernel
theorem dX4_nextToken_223 : decode cX4_nextToken 223 = .ok (.aload_n 0, 1) := by decide +kernel
theorem dX4_nextToken_224 : decode cX4_nextToken 224 = .ok (.getfield 88, 3) := by decide +kernel
theorem dX4_nextToken_227 : decode cX4_nextToken 227 = .ok (.iaload, 1) := by decide +kernel
theorem dX4_nextToken_228 : decode cX4_nextToken 228 = .ok (.iadd, 1) := by decide +kernel
theorem dX4_nextToken_229 : decode cX4_nextToken 229 = .ok (.bipush 48, 2) := by decide +kernel
theorem dX4_nextToken_231 : decode cX4_nextToken 231 = .ok (.isub, 1) := by decide +kernel
theorem dX4_nextToken_232 : decode cX4_nextToken 232 = .ok (.goto 7, 3) := by decide +kernel
theorem dX4_nextToken_235 : decode cX4_nextToken 235 = .ok (.aload_n 0, 1) := by decide +kernel
theorem dX4_nextToken_236 : decode cX4_nextToken 236 = .ok (.getfield 92, 3) := by decide +kernel
theorem dX4_nextToken_239 : decode cX4_nextToken 239 = .ok (.putfield 92, 3) := by decide +kernel
theorem dX4_nextToken_242 : decode cX4_nextToken 242 = .ok (.aload_n 0, 1) := by decide +kernel
theorem dX4_nextToken_243 : decode cX4_nextToken 243 = .ok (.dup, 1) := by decide +kernel
theorem dX4_nextToken_244 : decode cX4_nextToken 244 = .ok (.getfield 88, 3) := by decide +kernel
theorem dX4_nextToken_247 : decode cX4_nextToken 247 = .ok (.iconst 1, 1) := by decide +kernel
theorem dX4_nextToken_248 : decode cX4_nextToken 248 = .ok (.iadd, 1) := by decide +kernel
theorem dX4_nextToken_249 : decode cX4_nextToken 249 = .ok (.putfield 88, 3) := by decide +kernel
theorem dX4_nextToken_252 : decode cX4_nextToken 252 = .ok (.goto (-87), 3) := by decide +kernel
theorem dX4_nextToken_255 : decode cX4_nextToken 255 = .ok (.aload_n 0, 1) := by decide +kernel
theorem dX4_nextToken_256 : decode cX4_nextToken 256 = .ok (.aload_n 0, 1) := by decide +kernel
theorem dX4_nextToken_257 : decode cX4_nextToken 257 = .ok (.getfield 88, 3) := by decide +kernel
theorem dX4_nextToken_260 : decode cX4_nextToken 260 = .ok (.aload_n 0, 1) := by decide +kernel
theorem dX4_nextToken_261 : decode cX4_nextToken 261 = .ok (.getfield 82, 3) := by decide +kernel
theorem dX4_nextToken_264 : decode cX4_nextToken 264 = .ok (.isub, 1) := by decide +kernel
theorem dX4_nextToken_265 : decode cX4_nextToken 265 = .ok (.iconst 2, 1) := by decide +kernel
theorem dX4_nextToken_266 : decode cX4_nextToken 266 = .ok (.if_icmp .le 7, 3) := by decide +kernel
theorem dX4_nextToken_269 : decode cX4_nextToken 269 = .ok (.iconst 0, 1) := by decide +kernel
theorem dX4_nextToken_270 : decode cX4_nextToken 270 = .ok (.goto 4, 3) := by decide +kernel
theorem dX4_nextToken_273 : decode cX4_nextToken 273 = .ok (.iconst 3, 1) := by decide +kernel
theorem dX4_nextToken_274 : decode cX4_nextToken 274 = .ok (.putfield 103, 3) := by decide +kernel
theorem dX4_nextToken_277 : decode cX4_nextToken 277 = .ok (.return_, 1) := by decide +kernel
theorem dX4_isLetter_0 : decode cX4_isLetter 0 = .ok (.aload_n 0, 1) := by decide +kernel
theorem dX4_isLetter_1 : decode cX4_isLetter 1 = .ok (.getfield 79, 3) := by decide +kernel
theorem dX4_isLetter_4 : decode cX4_isLetter 4 = .ok (.ifCond .ne 23, 3) := by decide +kernel
theorem dX4_isLetter_7 : decode cX4_isLetter 7 = .ok (.aload_n 0, 1) := by decide +kernel
theorem dX4_isLetter_8 : decode cX4_isLetter 8 = .ok (.getfield 103, 3) := by decide +kernel
theorem dX4_isLetter_11 : decode cX4_isLetter 11 = .ok (.iconst 2, 1) := by decide +kernel
theorem dX4_isLetter_12 : decode cX4_isLetter 12 = .ok (.if_icmp .ne 15, 3) := by decide +kernel
theorem dX4_isLetter_15 : decode cX4_isLetter 15 = .ok (.aload_n 0, 1) := by decide +kernel
theorem dX4_isLetter_16 : decode cX4_isLetter 16 = .ok (.getfield 92, 3) := by decide +kernel
theorem dX4_isLetter_19 : decode cX4_isLetter 19 = .ok (.iload_n 1, 1) := by decide +kernel
theorem dX4_isLetter_20 : decode cX4_isLetter 20 = .ok (.if_icmp .ne 7, 3) := by decide +kernel
theorem dX4_isLetter_23 : decode cX4_isLetter 23 = .ok (.iconst 1, 1) := by decide +kernel
theorem dX4_isLetter_24 : decode cX4_isLetter 24 = .ok (.goto 4, 3) := by decide +kernel
theorem dX4_isLetter_27 : decode cX4_isLetter 27 = .ok (.iconst 0, 1) := by decide +kernel
theorem dX4_isLetter_28 : decode cX4_isLetter 28 = .ok (.ireturn, 1) := by decide +kernel
set_option maxRecDepth 20000 in
theorem ggX4_isSort_X4_kindBy : GoodIn wsX4_isSort wsX4_kindBy := goodIn_r _ [8, 4] (by decide +kernel) (by decide +kernel)
set_option maxRecDepth 20000 in
theorem gX4_isSort_X4_kindBy : GoodIn wsX4_isSort (va_wsS RX4 120 yX4_kindBy wsX4_kindBy) := goodIn_app (goodIn_of _ (by decide +kernel)) ggX4_isSort_X4_kindBy
theorem dX4_isSort_0 : decode cX4_isSort 0 = .ok (.aload_n 0, 1) := by decide +kernel
theorem dX4_isSort_1 : decode cX4_isSort 1 = .ok (.getfield 79, 3) := by decide +kernel
theorem dX4_isSort_4 : decode cX4_isSort 4 = .ok (.ifCond .ne 27, 3) := by decide +kernel
theorem dX4_isSort_7 : decode cX4_isSort 7 = .ok (.aload_n 0, 1) := by decide +kernel
theorem dX4_isSort_8 : decode cX4_isSort 8 = .ok (.getfield 103, 3) := by decide +kernel
theorem dX4_isSort_11 : decode cX4_isSort 11 = .ok (.iconst 2, 1) := by decide +kernel
theorem dX4_isSort_12 : decode cX4_isSort 12 = .ok (.if_icmp .ne 19, 3) := by decide +kernel
theorem dX4_isSort_15 : decode cX4_isSort 15 = .ok (.aload_n 0, 1) := by decide +kernel
theorem dX4_isSort_16 : decode cX4_isSort 16 = .ok (.getfield 92, 3) := by decide +kernel
theorem dX4_isSort_19 : decode cX4_isSort 19 = .ok (.invokestatic 120, 3) := by decide +kernel
theorem dX4_isSort_22 : decode cX4_isSort 22 = .ok (.ldc 91, 2) := by decide +kernel
theorem dX4_isSort_24 : decode cX4_isSort 24 = .ok (.if_icmp .eq 7, 3) := by decide +kernel
theorem dX4_isSort_27 : decode cX4_isSort 27 = .ok (.iconst 1, 1) := by decide +kernel
theorem dX4_isSort_28 : decode cX4_isSort 28 = .ok (.goto 4, 3) := by decide +kernel
theorem dX4_isSort_31 : decode cX4_isSort 31 = .ok (.iconst 0, 1) := by decide +kernel
theorem dX4_isSort_32 : decode cX4_isSort 32 = .ok (.ireturn, 1) := by decide +kernel
set_option maxRecDepth 20000 in
theorem ggX4_slip_X4_isVisitor : GoodIn wsX4_slip wsX4_isVisitor := goodIn_r _ [10, 5, 11, 12, 9, 13, 45, 46, 47, 48, 49, 50, 51, 52, 53, 54, 55, 56, 57, 58, 59, 60, 61, 62, 63, 64, 65, 66, 67, 68] (by decide +kernel) (by decide +kernel)
set_option maxRecDepth 20000 in
theorem gX4_slip_X4_isVisitor : GoodIn wsX4_slip (wsV RX4 189 RX4 yX4_isVisitor wsX4_isVisitor) := goodIn_app (goodIn_of _ (by decide +kernel)) ggX4_slip_X4_isVisitor
set_option maxRecDepth 20000 in
theorem ggX4_slip_X4_areSquares : GoodIn wsX4_slip wsX4_areSquares := goodIn_r _ [17, 5, 11, 12, 9, 13, 45, 46, 47, 48, 49, 50, 51, 52, 53, 54, 55, 56, 57, 58, 59, 60, 61, 62, 63, 64, 65, 66, 67, 68] (by decide +kernel) (by decide +kernel)
set_option maxRecDepth 20000 in
theorem gX4_slip_X4_areSquares : GoodIn wsX4_slip (wsV RX4 192 RX4 yX4_areSquares wsX4_areSquares) := goodIn_app (goodIn_of _ (by decide +kernel)) ggX4_slip_X4_areSquares
set_option maxRecDepth 20000 in
theorem ggX4_slip_X4_in : GoodIn wsX4_slip wsX4_in := goodIn_r _ [13] (by decide +kernel) (by decide +kernel)
set_option maxRecDepth 20000 in
theorem gX4_slip_X4_in : GoodIn wsX4_slip (va_wsS RX4 58 yX4_in wsX4_in) := goodIn_app (goodIn_of _ (by decide +kernel)) ggX4_slip_X4_in
set_option maxRecDepth 20000 in
theorem ggX4_slip_X4_has : GoodIn wsX4_slip wsX4_has := goodIn_r _ [20] (by decide +kernel) (by decide +kernel)
set_option maxRecDepth 20000 in
theorem gX4_slip_X4_has : GoodIn wsX4_slip (va_wsS RX4 179 yX4_has wsX4_has) := goodIn_app (goodIn_of _ (by decide +kernel)) ggX4_slip_X4_has
set_option maxRecDepth 20000 in
theorem ggX4_slip_X4_counts : GoodIn wsX4_slip wsX4_counts := goodIn_r _ [23, 24, 25, 9, 26] (by decide +kernel) (by decide +kernel)
set_option maxRecDepth 20000 in
theorem gX4_slip_X4_counts : GoodIn wsX4_slip (va_wsS RX4 168 yX4_counts wsX4_counts) := goodIn_app (goodIn_of _ (by decide +kernel)) ggX4_slip_X4_counts
set_option maxRecDepth 20000 in
theorem ggX4_slip_X4_isWrong : GoodIn wsX4_slip wsX4_isWrong := goodIn_r _ [29, 21, 22, 9, 23, 24, 25, 26, 30, 31, 32, 33, 34, 35, 36, 37, 38, 39, 40, 41, 42, 43, 44] (by decide +kernel) (by decide +kernel)
set_option maxRecDepth 20000 in
theorem gX4_slip_X4_isWrong : GoodIn wsX4_slip (va_wsS RX4 183 yX4_isWrong wsX4_isWrong) := goodIn_app (goodIn_of _ (by decide +kernel)) ggX4_slip_X4_isWrong
theorem dX4_slip_0 : decode cX4_slip 0 = .ok (.aload_n 0, 1) := by decide +kernel
theorem dX4_slip_1 : decode cX4_slip 1 = .ok (.iconst 0, 1) := by decide +kernel
theorem dX4_slip_2 : decode cX4_slip 2 = .ok (.putfield 48, 3) := by decide +kernel
theorem dX4_slip_5 : decode cX4_slip 5 = .ok (.aload_n 0, 1) := by decide +kernel
theorem dX4_slip_6 : decode cX4_slip 6 = .ok (.iload_n 1, 1) := by decide +kernel
theorem dX4_slip_7 : decode cX4_slip 7 = .ok (.invokevirtual 189, 3) := by decide +kernel
theorem dX4_slip_10 : decode cX4_slip 10 = .ok (.ifCond .eq 34, 3) := by decide +kernel
theorem dX4_slip_13 : decode cX4_slip 13 = .ok (.aload_n 0, 1) := by decide +kernel
theorem dX4_slip_14 : decode cX4_slip 14 = .ok (.iload_n 2, 1) := by decide +kernel
theorem dX4_slip_15 : decode cX4_slip 15 = .ok (.invokevirtual 192, 3) := by decide +kernel
theorem dX4_slip_18 : decode cX4_slip 18 = .ok (.ifCond .eq 26, 3) := by decide +kernel
theorem dX4_slip_21 : decode cX4_slip 21 = .ok (.iload_n 3, 1) := by decide +kernel
theorem dX4_slip_22 : decode cX4_slip 22 = .ok (.i2l, 1) := by decide +kernel
theorem dX4_slip_23 : decode cX4_slip 23 = .ok (.lconst 0, 1) := by decide +kernel
theorem dX4_slip_24 : decode cX4_slip 24 = .ok (.ldc2_w 240, 3) := by decide +kernel
theorem dX4_slip_27 : decode cX4_slip 27 = .ok (.invokestatic 58, 3) := by decide +kernel
theorem dX4_slip_30 : decode cX4_slip 30 = .ok (.ifCond .eq 14, 3) := by decide +kernel
theorem dX4_slip_33 : decode cX4_slip 33 = .ok (.iload 4, 2) := by decide +kernel
theorem dX4_slip_35 : decode cX4_slip 35 = .ok (.i2l, 1) := by decide +kernel
theorem dX4_slip_36 : decode cX4_slip 36 = .ok (.lconst 0, 1) := by decide +kernel
theorem dX4_slip_37 : decode cX4_slip 37 = .ok (.lconst 1, 1) := by decide +kernel
theorem dX4_slip_38 : decode cX4_slip 38 = .ok (.invokestatic 58, 3) := by decide +kernel
theorem dX4_slip_41 : decode cX4_slip 41 = .ok (.ifCond .ne 7, 3) := by decide +kernel
theorem dX4_slip_44 : decode cX4_slip 44 = .ok (.ldc2_w 242, 3) := by decide +kernel
theorem dX4_slip_47 : decode cX4_slip 47 = .ok (.lreturn, 1) := by decide +kernel
theorem dX4_slip_48 : decode cX4_slip 48 = .ok (.iconst 0, 1) := by decide +kernel
theorem dX4_slip_49 : decode cX4_slip 49 = .ok (.istore 5, 2) := by decide +kernel
theorem dX4_slip_51 : decode cX4_slip 51 = .ok (.iload 5, 2) := by decide +kernel
theorem dX4_slip_53 : decode cX4_slip 53 = .ok (.bipush 9, 2) := by decide +kernel
theorem dX4_slip_55 : decode cX4_slip 55 = .ok (.if_icmp .ge 26, 3) := by decide +kernel
theorem dX4_slip_58 : decode cX4_slip 58 = .ok (.aload_n 0, 1) := by decide +kernel
theorem dX4_slip_59 : decode cX4_slip 59 = .ok (.getfield 34, 3) := by decide +kernel
theorem dX4_slip_62 : decode cX4_slip 62 = .ok (.iload 5, 2) := by decide +kernel
theorem dX4_slip_64 : decode cX4_slip 64 = .ok (.iload 5, 2) := by decide +kernel
theorem dX4_slip_66 : decode cX4_slip 66 = .ok (.ifCond .ne 7, 3) := by decide +kernel
theorem dX4_slip_69 : decode cX4_slip 69 = .ok (.lconst 1, 1) := by decide +kernel
theorem dX4_slip_70 : decode cX4_slip 70 = .ok (.goto 4, 3) := by decide +kernel
theorem dX4_slip_73 : decode cX4_slip 73 = .ok (.lconst 0, 1) := by decide +kernel
theorem dX4_slip_74 : decode cX4_slip 74 = .ok (.lastore, 1) := by decide +kernel
theorem dX4_slip_75 : decode cX4_slip 75 = .ok (.iinc 5 1, 3) := by decide +kernel
theorem dX4_slip_78 : decode cX4_slip 78 = .ok (.goto (-27), 3) := by decide +kernel
theorem dX4_slip_81 : decode cX4_slip 81 = .ok (.lconst 1, 1) := by decide +kernel
theorem dX4_slip_82 : decode cX4_slip 82 = .ok (.lstore 5, 2) := by decide +kernel
theorem dX4_slip_84 : decode cX4_slip 84 = .ok (.iconst 0, 1) := by decide +kernel
theorem dX4_slip_85 : decode cX4_slip 85 = .ok (.istore 7, 2) := by decide +kernel
theorem dX4_slip_87 : decode cX4_slip 87 = .ok (.iload 7, 2) := by decide +kernel
theorem dX4_slip_89 : decode cX4_slip 89 = .ok (.aload_n 0, 1) := by decide +kernel
theorem dX4_slip_90 : decode cX4_slip 90 = .ok (.getfield 19, 3) := by decide +kernel
theorem dX4_slip_93 : decode cX4_slip 93 = .ok (.iconst 2, 1) := by decide +kernel
theorem dX4_slip_94 : decode cX4_slip 94 = .ok (.iaload, 1) := by decide +kernel
theorem dX4_slip_95 : decode cX4_slip 95 = .ok (.if_icmp .ge 120, 3) := by decide +kernel
theorem dX4_slip_98 : decode cX4_slip 98 = .ok (.iload_n 2, 1) := by decide +kernel
theorem dX4_slip_99 : decode cX4_slip 99 = .ok (.iload 7, 2) := by decide +kernel
theorem dX4_slip_101 : decode cX4_slip 101 = .ok (.invokestatic 179, 3) := by decide +kernel
theorem dX4_slip_104 : decode cX4_slip 104 = .ok (.ifCond .eq 105, 3) := by decide +kernel
theorem dX4_slip_107 : decode cX4_slip 107 = .ok (.aload_n 0, 1) := by decide +kernel
theorem dX4_slip_108 : decode cX4_slip 108 = .ok (.getfield 19, 3) := by decide +kernel
theorem dX4_slip_111 : decode cX4_slip 111 = .ok (.iload 7, 2) := by decide +kernel
theorem dX4_slip_113 : decode cX4_slip 113 = .ok (.invokestatic 168, 3) := by decide +kernel
theorem dX4_slip_116 : decode cX4_slip 116 = .ok (.ifCond .eq 93, 3) := by decide +kernel
theorem dX4_slip_119 : decode cX4_slip 119 = .ok (.aload_n 0, 1) := by decide +kernel
theorem dX4_slip_120 : decode cX4_slip 120 = .ok (.getfield 19, 3) := by decide +kernel
theorem dX4_slip_123 : decode cX4_slip 123 = .ok (.iload_n 1, 1) := by decide +kernel
theorem dX4_slip_124 : decode cX4_slip 124 = .ok (.iload 7, 2) := by decide +kernel
theorem dX4_slip_126 : decode cX4_slip 126 = .ok (.invokestatic 183, 3) := by decide +kernel
theorem dX4_slip_129 : decode cX4_slip 129 = .ok (.ifCond .eq 10, 3) := by decide +kernel
theorem dX4_slip_132 : decode cX4_slip 132 = .ok (.bipush 10, 2) := by decide +kernel
theorem dX4_slip_134 : decode cX4_slip 134 = .ok (.iload_n 3, 1) := by decide +kernel
theorem dX4_slip_135 : decode cX4_slip 135 = .ok (.isub, 1) := by decide +kernel
theorem dX4_slip_136 : decode cX4_slip 136 = .ok (.goto 4, 3) := by decide +kernel
theorem dX4_slip_139 : decode cX4_slip 139 = .ok (.iload_n 3, 1) := by decide +kernel
theorem dX4_slip_140 : decode cX4_slip 140 = .ok (.istore 8, 2) := by decide +kernel
theorem dX4_slip_142 : decode cX4_slip 142 = .ok (.lload 5, 2) := by decide +kernel
theorem dX4_slip_144 : decode cX4_slip 144 = .ok (.ldc2_w 240, 3) := by decide +kernel
theorem dX4_slip_147 : decode cX4_slip 147 = .ok (.lmul, 1) := by decide +kernel
theorem dX4_slip_148 : decode cX4_slip 148 = .ok (.lstore 5, 2) := by decide +kernel
theorem dX4_slip_150 : decode cX4_slip 150 = .ok (.bipush 8, 2) := by decide +kernel
theorem dX4_slip_152 : decode cX4_slip 152 = .ok (.istore 9, 2) := by decide +kernel
theorem dX4_slip_154 : decode cX4_slip 154 = .ok (.iload 9, 2) := by decide +kernel
theorem dX4_slip_156 : decode cX4_slip 156 = .ok (.ifCond .lt 53, 3) := by decide +kernel
theorem dX4_slip_159 : decode cX4_slip 159 = .ok (.aload_n 0, 1) := by decide +kernel
theorem dX4_slip_160 : decode cX4_slip 160 = .ok (.getfield 34, 3) := by decide +kernel
theorem dX4_slip_163 : decode cX4_slip 163 = .ok (.iload 9, 2) := by decide +kernel
theorem dX4_slip_165 : decode cX4_slip 165 = .ok (.aload_n 0, 1) := by decide +kernel
theorem dX4_slip_166 : decode cX4_slip 166 = .ok (.getfield 34, 3) := by decide +kernel
theorem dX4_slip_169 : decode cX4_slip 169 = .ok (.iload 9, 2) := by decide +kernel
theorem dX4_slip_171 : decode cX4_slip 171 = .ok (.laload, 1) := by decide +kernel
theorem dX4_slip_172 : decode cX4_slip 172 = .ok (.bipush 10, 2) := by decide +kernel
theorem dX4_slip_174 : decode cX4_slip 174 = .ok (.iload 8, 2) := by decide +kernel
theorem dX4_slip_176 : decode cX4_slip 176 = .ok (.isub, 1) := by decide +kernel
theorem dX4_slip_177 : decode cX4_slip 177 = .ok (.i2l, 1) := by decide +kernel
theorem dX4_slip_178 : decode cX4_slip 178 = .ok (.lmul, 1) := by decide +kernel
theorem dX4_slip_179 : decode cX4_slip 179 = .ok (.iload 9, 2) := by decide +kernel
theorem dX4_slip_181 : decode cX4_slip 181 = .ok (.ifCond .le 19, 3) := by decide +kernel
theorem dX4_slip_184 : decode cX4_slip 184 = .ok (.aload_n 0, 1) := by decide +kernel
theorem dX4_slip_185 : decode cX4_slip 185 = .ok (.getfield 34, 3) := by decide +kernel
theorem dX4_slip_188 : decode cX4_slip 188 = .ok (.iload 9, 2) := by decide +kernel
theorem dX4_slip_190 : decode cX4_slip 190 = .ok (.iconst 1, 1) := by decide +kernel
theorem dX4_slip_191 : decode cX4_slip 191 = .ok (.isub, 1) := by decide +kernel
theorem dX4_slip_192 : decode cX4_slip 192 = .ok (.laload, 1) := by decide +kernel
theorem dX4_slip_193 : decode cX4_slip 193 = .ok (.iload 8, 2) := by decide +kernel
theorem dX4_slip_195 : decode cX4_slip 195 = .ok (.i2l, 1) := by decide +kernel
theorem dX4_slip_196 : decode cX4_slip 196 = .ok (.lmul, 1) := by decide +kernel
theorem dX4_slip_197 : decode cX4_slip 197 = .ok (.goto 4, 3) := by decide +kernel
theorem dX4_slip_200 : decode cX4_slip 200 = .ok (.lconst 0, 1) := by decide +kernel
theorem dX4_slip_201 : decode cX4_slip 201 = .ok (.ladd, 1) := by decide +kernel
theorem dX4_slip_202 : decode cX4_slip 202 = .ok (.lastore, 1) := by decide +kernel
theorem dX4_slip_203 : decode cX4_slip 203 = .ok (.iinc 9 (-1), 3) := by decide +kernel
theorem dX4_slip_206 : decode cX4_slip 206 = .ok (.goto (-52), 3) := by decide +kernel
theorem dX4_slip_209 : decode cX4_slip 209 = .ok (.iinc 7 1, 3) := by decide +kernel
theorem dX4_slip_212 : decode cX4_slip 212 = .ok (.goto (-125), 3) := by decide +kernel
theorem dX4_slip_215 : decode cX4_slip 215 = .ok (.lconst 0, 1) := by decide +kernel
theorem dX4_slip_216 : decode cX4_slip 216 = .ok (.lstore 7, 2) := by decide +kernel
theorem dX4_slip_218 : decode cX4_slip 218 = .ok (.iconst 0, 1) := by decide +kernel
theorem dX4_slip_219 : decode cX4_slip 219 = .ok (.istore 9, 2) := by decide +kernel
theorem dX4_slip_221 : decode cX4_slip 221 = .ok (.iload 9, 2) := by decide +kernel
theorem dX4_slip_223 : decode cX4_slip 223 = .ok (.aload_n 0, 1) := by decide +kernel
theorem dX4_slip_224 : decode cX4_slip 224 = .ok (.getfield 19, 3) := by decide +kernel
theorem dX4_slip_227 : decode cX4_slip 227 = .ok (.iconst 1, 1) := by decide +kernel
theorem dX4_slip_228 : decode cX4_slip 228 = .ok (.iaload, 1) := by decide +kernel
theorem dX4_slip_229 : decode cX4_slip 229 = .ok (.if_icmp .gt 21, 3) := by decide +kernel
theorem dX4_slip_232 : decode cX4_slip 232 = .ok (.lload 7, 2) := by decide +kernel
theorem dX4_slip_234 : decode cX4_slip 234 = .ok (.aload_n 0, 1) := by decide +kernel
theorem dX4_slip_235 : decode cX4_slip 235 = .ok (.getfield 34, 3) := by decide +kernel
theorem dX4_slip_238 : decode cX4_slip 238 = .ok (.iload 9, 2) := by decide +kernel
theorem dX4_slip_240 : decode cX4_slip 240 = .ok (.laload, 1) := by decide +kernel
theorem dX4_slip_241 : decode cX4_slip 241 = .ok (.ladd, 1) := by decide +kernel
theorem dX4_slip_242 : decode cX4_slip 242 = .ok (.lstore 7, 2) := by decide +kernel
theorem dX4_slip_244 : decode cX4_slip 244 = .ok (.iinc 9 1, 3) := by decide +kernel
theorem dX4_slip_247 : decode cX4_slip 247 = .ok (.goto (-26), 3) := by decide +kernel
theorem dX4_slip_250 : decode cX4_slip 250 = .ok (.lload 7, 2) := by decide +kernel
theorem dX4_slip_252 : decode cX4_slip 252 = .ok (.lstore 9, 2) := by decide +kernel
theorem dX4_slip_254 : decode cX4_slip 254 = .ok (.lload 5, 2) := by decide +kernel
theorem dX4_slip_256 : decode cX4_slip 256 = .ok (.lstore 11, 2) := by decide +kernel
theorem dX4_slip_258 : decode cX4_slip 258 = .ok (.lload 11, 2) := by decide +kernel
theorem dX4_slip_260 : decode cX4_slip 260 = .ok (.lconst 0, 1) := by decide +kernel
theorem dX4_slip_261 : decode cX4_slip 261 = .ok (.lcmp, 1) := by decide +kernel
theorem dX4_slip_262 : decode cX4_slip 262 = .ok (.ifCond .eq 21, 3) := by decide +kernel
theorem dX4_slip_265 : decode cX4_slip 265 = .ok (.lload 9, 2) := by decide +kernel
theorem dX4_slip_267 : decode cX4_slip 267 = .ok (.lload 11, 2) := by decide +kernel
theorem dX4_slip_269 : decode cX4_slip 269 = .ok (.lrem, 1) := by decide +kernel
theorem dX4_slip_270 : decode cX4_slip 270 = .ok (.lstore 13, 2) := by decide +kernel
theorem dX4_slip_272 : decode cX4_slip 272 = .ok (.lload 11, 2) := by decide +kernel
theorem dX4_slip_274 : decode cX4_slip 274 = .ok (.lstore 9, 2) := by decide +kernel
theorem dX4_slip_276 : decode cX4_slip 276 = .ok (.lload 13, 2) := by decide +kernel
theorem dX4_slip_278 : decode cX4_slip 278 = .ok (.lstore 11, 2) := by decide +kernel
theorem dX4_slip_280 : decode cX4_slip 280 = .ok (.goto (-22), 3) := by decide +kernel
theorem dX4_slip_283 : decode cX4_slip 283 = .ok (.iload 4, 2) := by decide +kernel
theorem dX4_slip_285 : decode cX4_slip 285 = .ok (.ifCond .ne 8, 3) := by decide +kernel
theorem dX4_slip_288 : decode cX4_slip 288 = .ok (.lload 7, 2) := by decide +kernel
theorem dX4_slip_290 : decode cX4_slip 290 = .ok (.goto 5, 3) := by decide +kernel
theorem dX4_slip_293 : decode cX4_slip 293 = .ok (.lload 5, 2) := by decide +kernel
theorem dX4_slip_295 : decode cX4_slip 295 = .ok (.lload 9, 2) := by decide +kernel
theorem dX4_slip_297 : decode cX4_slip 297 = .ok (.ldiv, 1) := by decide +kernel
theorem dX4_slip_298 : decode cX4_slip 298 = .ok (.lreturn, 1) := by decide +kernel
set_option maxRecDepth 20000 in
theorem ggX4_drawn_X4_isThere : GoodIn wsX4_drawn wsX4_isThere := goodIn_r _ [15, 7, 55, 56, 57, 58, 59, 60, 61, 62, 63, 64, 65, 66, 67, 68, 69, 70, 71, 72, 73, 74, 75, 76, 77, 78] (by decide +kernel) (by decide +kernel)
set_option maxRecDepth 20000 in
theorem gX4_drawn_X4_isThere : GoodIn wsX4_drawn (wsV RX4 201 RX4 yX4_isThere wsX4_isThere) := goodIn_app (goodIn_of _ (by decide +kernel)) ggX4_drawn_X4_isThere
set_option maxRecDepth 20000 in
theorem ggX4_drawn_X4_in : GoodIn wsX4_drawn wsX4_in := goodIn_r _ [18] (by decide +kernel) (by decide +kernel)
set_option maxRecDepth 20000 in
theorem gX4_drawn_X4_in : GoodIn wsX4_drawn (va_wsS RX4 58 yX4_in wsX4_in) := goodIn_app (goodIn_of _ (by decide +kernel)) ggX4_drawn_X4_in
set_option maxRecDepth 20000 in
theorem ggX4_drawn_X4_poses : GoodIn wsX4_drawn wsX4_poses := goodIn_r _ [21, 22, 23, 14, 24, 25, 26, 27, 28, 29, 30, 31, 32, 33, 34, 35, 36, 37, 38, 39, 40, 41, 42, 43, 44, 45, 46, 47, 48, 49, 50, 51] (by decide +kernel) (by decide +kernel)
set_option maxRecDepth 20000 in
theorem gX4_drawn_X4_poses : GoodIn wsX4_drawn (va_wsS RX4 198 yX4_poses wsX4_poses) := goodIn_app (goodIn_of _ (by decide +kernel)) ggX4_drawn_X4_poses
set_option maxRecDepth 20000 in
theorem ggX4_drawn_X4_votesOf : GoodIn wsX4_drawn wsX4_votesOf := goodIn_r _ [54, 34, 35, 14, 36] (by decide +kernel) (by decide +kernel)
set_option maxRecDepth 20000 in
theorem gX4_drawn_X4_votesOf : GoodIn wsX4_drawn (va_wsS RX4 254 yX4_votesOf wsX4_votesOf) := goodIn_app (goodIn_of _ (by decide +kernel)) ggX4_drawn_X4_votesOf
theorem dX4_drawn_0 : decode cX4_drawn 0 = .ok (.aload_n 0, 1) := by decide +kernel
theorem dX4_drawn_1 : decode cX4_drawn 1 = .ok (.iconst 0, 1) := by decide +kernel
theorem dX4_drawn_2 : decode cX4_drawn 2 = .ok (.putfield 48, 3) := by decide +kernel
theorem dX4_drawn_5 : decode cX4_drawn 5 = .ok (.aload_n 0, 1) := by decide +kernel
theorem dX4_drawn_6 : decode cX4_drawn 6 = .ok (.invokevirtual 201, 3) := by decide +kernel
theorem dX4_drawn_9 : decode cX4_drawn 9 = .ok (.ifCond .ne 6, 3) := by decide +kernel
theorem dX4_drawn_12 : decode cX4_drawn 12 = .ok (.ldc 204, 2) := by decide +kernel
theorem dX4_drawn_14 : decode cX4_drawn 14 = .ok (.ireturn, 1) := by decide +kernel
theorem dX4_drawn_15 : decode cX4_drawn 15 = .ok (.iload_n 1, 1) := by decide +kernel
theorem dX4_drawn_16 : decode cX4_drawn 16 = .ok (.i2l, 1) := by decide +kernel
theorem dX4_drawn_17 : decode cX4_drawn 17 = .ok (.lconst 0, 1) := by decide +kernel
theorem dX4_drawn_18 : decode cX4_drawn 18 = .ok (.ldc2_w 244, 3) := by decide +kernel
theorem dX4_drawn_21 : decode cX4_drawn 21 = .ok (.invokestatic 58, 3) := by decide +kernel
theorem dX4_drawn_24 : decode cX4_drawn 24 = .ok (.ifCond .eq 25, 3) := by decide +kernel
theorem dX4_drawn_27 : decode cX4_drawn 27 = .ok (.iload_n 2, 1) := by decide +kernel
theorem dX4_drawn_28 : decode cX4_drawn 28 = .ok (.i2l, 1) := by decide +kernel
theorem dX4_drawn_29 : decode cX4_drawn 29 = .ok (.lconst 1, 1) := by decide +kernel
theorem dX4_drawn_30 : decode cX4_drawn 30 = .ok (.ldc2_w 246, 3) := by decide +kernel
theorem dX4_drawn_33 : decode cX4_drawn 33 = .ok (.invokestatic 58, 3) := by decide +kernel
theorem dX4_drawn_36 : decode cX4_drawn 36 = .ok (.ifCond .eq 13, 3) := by decide +kernel
theorem dX4_drawn_39 : decode cX4_drawn 39 = .ok (.iload_n 3, 1) := by decide +kernel
theorem dX4_drawn_40 : decode cX4_drawn 40 = .ok (.i2l, 1) := by decide +kernel
theorem dX4_drawn_41 : decode cX4_drawn 41 = .ok (.lconst 0, 1) := by decide +kernel
theorem dX4_drawn_42 : decode cX4_drawn 42 = .ok (.lconst 1, 1) := by decide +kernel
theorem dX4_drawn_43 : decode cX4_drawn 43 = .ok (.invokestatic 58, 3) := by decide +kernel
theorem dX4_drawn_46 : decode cX4_drawn 46 = .ok (.ifCond .ne 6, 3) := by decide +kernel
theorem dX4_drawn_49 : decode cX4_drawn 49 = .ok (.ldc 68, 2) := by decide +kernel
theorem dX4_drawn_51 : decode cX4_drawn 51 = .ok (.ireturn, 1) := by decide +kernel
theorem dX4_drawn_52 : decode cX4_drawn 52 = .ok (.iconst 0, 1) := by decide +kernel
theorem dX4_drawn_53 : decode cX4_drawn 53 = .ok (.istore 4, 2) := by decide +kernel
theorem dX4_drawn_55 : decode cX4_drawn 55 = .ok (.iload 4, 2) := by decide +kernel
theorem dX4_drawn_57 : decode cX4_drawn 57 = .ok (.bipush 64, 2) := by decide +kernel
theorem dX4_drawn_59 : decode cX4_drawn 59 = .ok (.if_icmp .ge 23, 3) := by decide +kernel
theorem dX4_drawn_62 : decode cX4_drawn 62 = .ok (.aload_n 0, 1) := by decide +kernel
theorem dX4_drawn_63 : decode cX4_drawn 63 = .ok (.getfield 25, 3) := by decide +kernel
theorem dX4_drawn_66 : decode cX4_drawn 66 = .ok (.iload 4, 2) := by decide +kernel
theorem dX4_drawn_68 : decode cX4_drawn 68 = .ok (.aload_n 0, 1) := by decide +kernel
theorem dX4_drawn_69 : decode cX4_drawn 69 = .ok (.getfield 19, 3) := by decide +kernel
theorem dX4_drawn_72 : decode cX4_drawn 72 = .ok (.iload 4, 2) := by decide +kernel
theorem dX4_drawn_74 : decode cX4_drawn 74 = .ok (.iaload, 1) := by decide +kernel
theorem dX4_drawn_75 : decode cX4_drawn 75 = .ok (.iastore, 1) := by decide +kernel
theorem dX4_drawn_76 : decode cX4_drawn 76 = .ok (.iinc 4 1, 3) := by decide +kernel
theorem dX4_drawn_79 : decode cX4_drawn 79 = .ok (.goto (-24), 3) := by decide +kernel
theorem dX4_drawn_82 : decode cX4_drawn 82 = .ok (.iload_n 2, 1) := by decide +kernel
theorem dX4_drawn_83 : decode cX4_drawn 83 = .ok (.i2l, 1) := by decide +kernel
theorem dX4_drawn_84 : decode cX4_drawn 84 = .ok (.lstore 4, 2) := by decide +kernel
theorem dX4_drawn_86 : decode cX4_drawn 86 = .ok (.iconst 0, 1) := by decide +kernel
theorem dX4_drawn_87 : decode cX4_drawn 87 = .ok (.istore 6, 2) := by decide +kernel
theorem dX4_drawn_89 : decode cX4_drawn 89 = .ok (.iconst 0, 1) := by decide +kernel
theorem dX4_drawn_90 : decode cX4_drawn 90 = .ok (.istore 7, 2) := by decide +kernel
theorem dX4_drawn_92 : decode cX4_drawn 92 = .ok (.iload 7, 2) := by decide +kernel
theorem dX4_drawn_94 : decode cX4_drawn 94 = .ok (.iload_n 1, 1) := by decide +kernel
theorem dX4_drawn_95 : decode cX4_drawn 95 = .ok (.if_icmp .ge 70, 3) := by decide +kernel
theorem dX4_drawn_98 : decode cX4_drawn 98 = .ok (.lload 4, 2) := by decide +kernel
theorem dX4_drawn_100 : decode cX4_drawn 100 = .ok (.ldc2_w 248, 3) := by decide +kernel
theorem dX4_drawn_103 : decode cX4_drawn 103 = .ok (.lmul, 1) := by decide +kernel
theorem dX4_drawn_104 : decode cX4_drawn 104 = .ok (.ldc2_w 250, 3) := by decide +kernel
theorem dX4_drawn_107 : decode cX4_drawn 107 = .ok (.lrem, 1) := by decide +kernel
theorem dX4_drawn_108 : decode cX4_drawn 108 = .ok (.lstore 4, 2) := by decide +kernel
theorem dX4_drawn_110 : decode cX4_drawn 110 = .ok (.iload 6, 2) := by decide +kernel
theorem dX4_drawn_112 : decode cX4_drawn 112 = .ok (.aload_n 0, 1) := by decide +kernel
theorem dX4_drawn_113 : decode cX4_drawn 113 = .ok (.getfield 25, 3) := by decide +kernel
theorem dX4_drawn_116 : decode cX4_drawn 116 = .ok (.lload 4, 2) := by decide +kernel
theorem dX4_drawn_118 : decode cX4_drawn 118 = .ok (.aload_n 0, 1) := by decide +kernel
theorem dX4_drawn_119 : decode cX4_drawn 119 = .ok (.getfield 25, 3) := by decide +kernel
theorem dX4_drawn_122 : decode cX4_drawn 122 = .ok (.iconst 3, 1) := by decide +kernel
theorem dX4_drawn_123 : decode cX4_drawn 123 = .ok (.iaload, 1) := by decide +kernel
theorem dX4_drawn_124 : decode cX4_drawn 124 = .ok (.i2l, 1) := by decide +kernel
theorem dX4_drawn_125 : decode cX4_drawn 125 = .ok (.lrem, 1) := by decide +kernel
theorem dX4_drawn_126 : decode cX4_drawn 126 = .ok (.l2i, 1) := by decide +kernel
theorem dX4_drawn_127 : decode cX4_drawn 127 = .ok (.lload 4, 2) := by decide +kernel
theorem dX4_drawn_129 : decode cX4_drawn 129 = .ok (.ldc2_w 252, 3) := by decide +kernel
theorem dX4_drawn_132 : decode cX4_drawn 132 = .ok (.lrem, 1) := by decide +kernel
theorem dX4_drawn_133 : decode cX4_drawn 133 = .ok (.l2i, 1) := by decide +kernel
theorem dX4_drawn_134 : decode cX4_drawn 134 = .ok (.iconst 1, 1) := by decide +kernel
theorem dX4_drawn_135 : decode cX4_drawn 135 = .ok (.aload_n 0, 1) := by decide +kernel
theorem dX4_drawn_136 : decode cX4_drawn 136 = .ok (.getfield 25, 3) := by decide +kernel
theorem dX4_drawn_139 : decode cX4_drawn 139 = .ok (.iconst 2, 1) := by decide +kernel
theorem dX4_drawn_140 : decode cX4_drawn 140 = .ok (.iaload, 1) := by decide +kernel
theorem dX4_drawn_141 : decode cX4_drawn 141 = .ok (.ishl, 1) := by decide +kernel
theorem dX4_drawn_142 : decode cX4_drawn 142 = .ok (.iconst 1, 1) := by decide +kernel
theorem dX4_drawn_143 : decode cX4_drawn 143 = .ok (.isub, 1) := by decide +kernel
theorem dX4_drawn_144 : decode cX4_drawn 144 = .ok (.iand, 1) := by decide +kernel
theorem dX4_drawn_145 : decode cX4_drawn 145 = .ok (.invokestatic 198, 3) := by decide +kernel
theorem dX4_drawn_148 : decode cX4_drawn 148 = .ok (.ifCond .eq 7, 3) := by decide +kernel
theorem dX4_drawn_151 : decode cX4_drawn 151 = .ok (.iconst 1, 1) := by decide +kernel
theorem dX4_drawn_152 : decode cX4_drawn 152 = .ok (.goto 4, 3) := by decide +kernel
theorem dX4_drawn_155 : decode cX4_drawn 155 = .ok (.iconst 0, 1) := by decide +kernel
theorem dX4_drawn_156 : decode cX4_drawn 156 = .ok (.iadd, 1) := by decide +kernel
theorem dX4_drawn_157 : decode cX4_drawn 157 = .ok (.istore 6, 2) := by decide +kernel
theorem dX4_drawn_159 : decode cX4_drawn 159 = .ok (.iinc 7 1, 3) := by decide +kernel
theorem dX4_drawn_162 : decode cX4_drawn 162 = .ok (.goto (-70), 3) := by decide +kernel
theorem dX4_drawn_165 : decode cX4_drawn 165 = .ok (.iload_n 3, 1) := by decide +kernel
theorem dX4_drawn_166 : decode cX4_drawn 166 = .ok (.ifCond .ne 8, 3) := by decide +kernel
theorem dX4_drawn_169 : decode cX4_drawn 169 = .ok (.iload 6, 2) := by decide +kernel
theorem dX4_drawn_171 : decode cX4_drawn 171 = .ok (.goto 10, 3) := by decide +kernel
theorem dX4_drawn_174 : decode cX4_drawn 174 = .ok (.aload_n 0, 1) := by decide +kernel
theorem dX4_drawn_175 : decode cX4_drawn 175 = .ok (.getfield 25, 3) := by decide +kernel
theorem dX4_drawn_178 : decode cX4_drawn 178 = .ok (.invokestatic 254, 3) := by decide +kernel
theorem dX4_drawn_181 : decode cX4_drawn 181 = .ok (.ireturn, 1) := by decide +kernel
