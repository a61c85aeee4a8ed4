set_option maxRecDepth 20000 in
theorem ggX4_tells_X4_isThere : GoodIn wsX4_tells wsX4_isThere := goodIn_r _ [10, 5, 37, 38, 39, 40, 41, 42, 43, 44, 45, 46, 47, 48, 49, 50, 51, 52, 53, 54, 55, 56, 57, 58, 59, 60] (by decide +kernel) (by decide +kernel)
set_option maxRecDepth 20000 in
theorem gX4_tells_X4_isThere : GoodIn wsX4_tells (wsV RX4 201 RX4 yX4_isThere wsX4_isThere) := goodIn_app (goodIn_of _ (by decide +kernel)) ggX4_tells_X4_isThere
set_option maxRecDepth 20000 in
theorem ggX4_tells_X4_areSquares : GoodIn wsX4_tells wsX4_areSquares := goodIn_r _ [14, 5, 15, 16, 9, 17, 37, 38, 39, 40, 41, 42, 43, 44, 45, 46, 47, 48, 49, 50, 51, 52, 53, 54, 55, 56, 57, 58, 59, 60] (by decide +kernel) (by decide +kernel)
set_option maxRecDepth 20000 in
theorem gX4_tells_X4_areSquares : GoodIn wsX4_tells (wsV RX4 192 RX4 yX4_areSquares wsX4_areSquares) := goodIn_app (goodIn_of _ (by decide +kernel)) ggX4_tells_X4_areSquares
set_option maxRecDepth 20000 in
theorem ggX4_tells_X4_in : GoodIn wsX4_tells wsX4_in := goodIn_r _ [17] (by decide +kernel) (by decide +kernel)
set_option maxRecDepth 20000 in
theorem gX4_tells_X4_in : GoodIn wsX4_tells (va_wsS RX4 58 yX4_in wsX4_in) := goodIn_app (goodIn_of _ (by decide +kernel)) ggX4_tells_X4_in
set_option maxRecDepth 20000 in
theorem ggX4_tells_X4_clicksOf : GoodIn wsX4_tells wsX4_clicksOf := goodIn_r _ [21, 5, 22, 23, 9, 24, 25, 26, 27, 28, 29, 30, 31, 32, 33, 34, 35, 36, 37, 38, 39, 40, 41, 42, 43, 44, 45, 46, 47, 48, 49, 50, 51, 52, 53, 54, 55, 56, 57, 58, 59, 60] (by decide +kernel) (by decide +kernel)
set_option maxRecDepth 20000 in
theorem gX4_tells_X4_clicksOf : GoodIn wsX4_tells (wsV RX4 214 RX4 yX4_clicksOf wsX4_clicksOf) := goodIn_app (goodIn_of _ (by decide +kernel)) ggX4_tells_X4_clicksOf
theorem dX4_tells_0 : decode cX4_tells 0 = .ok (.aload_n 0, 1) := by decide +kernel
theorem dX4_tells_1 : decode cX4_tells 1 = .ok (.iconst 0, 1) := by decide +kernel
theorem dX4_tells_2 : decode cX4_tells 2 = .ok (.putfield 48, 3) := by decide +kernel
theorem dX4_tells_5 : decode cX4_tells 5 = .ok (.aload_n 0, 1) := by decide +kernel
theorem dX4_tells_6 : decode cX4_tells 6 = .ok (.invokevirtual 201, 3) := by decide +kernel
theorem dX4_tells_9 : decode cX4_tells 9 = .ok (.ifCond .ne 6, 3) := by decide +kernel
theorem dX4_tells_12 : decode cX4_tells 12 = .ok (.ldc 204, 2) := by decide +kernel
theorem dX4_tells_14 : decode cX4_tells 14 = .ok (.ireturn, 1) := by decide +kernel
theorem dX4_tells_15 : decode cX4_tells 15 = .ok (.aload_n 0, 1) := by decide +kernel
theorem dX4_tells_16 : decode cX4_tells 16 = .ok (.iload_n 1, 1) := by decide +kernel
theorem dX4_tells_17 : decode cX4_tells 17 = .ok (.invokevirtual 192, 3) := by decide +kernel
theorem dX4_tells_20 : decode cX4_tells 20 = .ok (.ifCond .eq 13, 3) := by decide +kernel
theorem dX4_tells_23 : decode cX4_tells 23 = .ok (.iload_n 2, 1) := by decide +kernel
theorem dX4_tells_24 : decode cX4_tells 24 = .ok (.i2l, 1) := by decide +kernel
theorem dX4_tells_25 : decode cX4_tells 25 = .ok (.lconst 0, 1) := by decide +kernel
theorem dX4_tells_26 : decode cX4_tells 26 = .ok (.lconst 1, 1) := by decide +kernel
theorem dX4_tells_27 : decode cX4_tells 27 = .ok (.invokestatic 58, 3) := by decide +kernel
theorem dX4_tells_30 : decode cX4_tells 30 = .ok (.ifCond .ne 6, 3) := by decide +kernel
theorem dX4_tells_33 : decode cX4_tells 33 = .ok (.ldc 68, 2) := by decide +kernel
theorem dX4_tells_35 : decode cX4_tells 35 = .ok (.ireturn, 1) := by decide +kernel
theorem dX4_tells_36 : decode cX4_tells 36 = .ok (.iconst 0, 1) := by decide +kernel
theorem dX4_tells_37 : decode cX4_tells 37 = .ok (.istore_n 3, 1) := by decide +kernel
theorem dX4_tells_38 : decode cX4_tells 38 = .ok (.ldc 91, 2) := by decide +kernel
theorem dX4_tells_40 : decode cX4_tells 40 = .ok (.istore 4, 2) := by decide +kernel
theorem dX4_tells_42 : decode cX4_tells 42 = .ok (.aload_n 0, 1) := by decide +kernel
theorem dX4_tells_43 : decode cX4_tells 43 = .ok (.getfield 19, 3) := by decide +kernel
theorem dX4_tells_46 : decode cX4_tells 46 = .ok (.iconst 3, 1) := by decide +kernel
theorem dX4_tells_47 : decode cX4_tells 47 = .ok (.iaload, 1) := by decide +kernel
theorem dX4_tells_48 : decode cX4_tells 48 = .ok (.iconst 1, 1) := by decide +kernel
theorem dX4_tells_49 : decode cX4_tells 49 = .ok (.isub, 1) := by decide +kernel
theorem dX4_tells_50 : decode cX4_tells 50 = .ok (.istore 5, 2) := by decide +kernel
theorem dX4_tells_52 : decode cX4_tells 52 = .ok (.iload 5, 2) := by decide +kernel
theorem dX4_tells_54 : decode cX4_tells 54 = .ok (.ifCond .lt 90, 3) := by decide +kernel
theorem dX4_tells_57 : decode cX4_tells 57 = .ok (.aload_n 0, 1) := by decide +kernel
theorem dX4_tells_58 : decode cX4_tells 58 = .ok (.getfield 19, 3) := by decide +kernel
theorem dX4_tells_61 : decode cX4_tells 61 = .ok (.iconst 3, 1) := by decide +kernel
theorem dX4_tells_62 : decode cX4_tells 62 = .ok (.iaload, 1) := by decide +kernel
theorem dX4_tells_63 : decode cX4_tells 63 = .ok (.iconst 1, 1) := by decide +kernel
theorem dX4_tells_64 : decode cX4_tells 64 = .ok (.isub, 1) := by decide +kernel
theorem dX4_tells_65 : decode cX4_tells 65 = .ok (.istore 6, 2) := by decide +kernel
theorem dX4_tells_67 : decode cX4_tells 67 = .ok (.iload 6, 2) := by decide +kernel
theorem dX4_tells_69 : decode cX4_tells 69 = .ok (.iload 5, 2) := by decide +kernel
theorem dX4_tells_71 : decode cX4_tells 71 = .ok (.if_icmp .le 67, 3) := by decide +kernel
theorem dX4_tells_74 : decode cX4_tells 74 = .ok (.aload_n 0, 1) := by decide +kernel
theorem dX4_tells_75 : decode cX4_tells 75 = .ok (.iload 5, 2) := by decide +kernel
theorem dX4_tells_77 : decode cX4_tells 77 = .ok (.invokevirtual 214, 3) := by decide +kernel
theorem dX4_tells_80 : decode cX4_tells 80 = .ok (.aload_n 0, 1) := by decide +kernel
theorem dX4_tells_81 : decode cX4_tells 81 = .ok (.iload 6, 2) := by decide +kernel
theorem dX4_tells_83 : decode cX4_tells 83 = .ok (.invokevirtual 214, 3) := by decide +kernel
theorem dX4_tells_86 : decode cX4_tells 86 = .ok (.ixor, 1) := by decide +kernel
theorem dX4_tells_87 : decode cX4_tells 87 = .ok (.iload_n 1, 1) := by decide +kernel
theorem dX4_tells_88 : decode cX4_tells 88 = .ok (.iand, 1) := by decide +kernel
theorem dX4_tells_89 : decode cX4_tells 89 = .ok (.ifCond .ne 7, 3) := by decide +kernel
theorem dX4_tells_92 : decode cX4_tells 92 = .ok (.iconst 1, 1) := by decide +kernel
theorem dX4_tells_93 : decode cX4_tells 93 = .ok (.goto 4, 3) := by decide +kernel
theorem dX4_tells_96 : decode cX4_tells 96 = .ok (.iconst 0, 1) := by decide +kernel
theorem dX4_tells_97 : decode cX4_tells 97 = .ok (.istore 7, 2) := by decide +kernel
theorem dX4_tells_99 : decode cX4_tells 99 = .ok (.iload_n 3, 1) := by decide +kernel
theorem dX4_tells_100 : decode cX4_tells 100 = .ok (.iload 7, 2) := by decide +kernel
theorem dX4_tells_102 : decode cX4_tells 102 = .ok (.ifCond .eq 7, 3) := by decide +kernel
theorem dX4_tells_105 : decode cX4_tells 105 = .ok (.iconst 0, 1) := by decide +kernel
theorem dX4_tells_106 : decode cX4_tells 106 = .ok (.goto 4, 3) := by decide +kernel
theorem dX4_tells_109 : decode cX4_tells 109 = .ok (.iconst 1, 1) := by decide +kernel
theorem dX4_tells_110 : decode cX4_tells 110 = .ok (.iadd, 1) := by decide +kernel
theorem dX4_tells_111 : decode cX4_tells 111 = .ok (.istore_n 3, 1) := by decide +kernel
theorem dX4_tells_112 : decode cX4_tells 112 = .ok (.iload 7, 2) := by decide +kernel
theorem dX4_tells_114 : decode cX4_tells 114 = .ok (.ifCond .eq 14, 3) := by decide +kernel
theorem dX4_tells_117 : decode cX4_tells 117 = .ok (.bipush 10, 2) := by decide +kernel
theorem dX4_tells_119 : decode cX4_tells 119 = .ok (.iload 5, 2) := by decide +kernel
theorem dX4_tells_121 : decode cX4_tells 121 = .ok (.imul, 1) := by decide +kernel
theorem dX4_tells_122 : decode cX4_tells 122 = .ok (.iload 6, 2) := by decide +kernel
theorem dX4_tells_124 : decode cX4_tells 124 = .ok (.iadd, 1) := by decide +kernel
theorem dX4_tells_125 : decode cX4_tells 125 = .ok (.goto 5, 3) := by decide +kernel
theorem dX4_tells_128 : decode cX4_tells 128 = .ok (.iload 4, 2) := by decide +kernel
theorem dX4_tells_130 : decode cX4_tells 130 = .ok (.istore 4, 2) := by decide +kernel
theorem dX4_tells_132 : decode cX4_tells 132 = .ok (.iinc 6 (-1), 3) := by decide +kernel
theorem dX4_tells_135 : decode cX4_tells 135 = .ok (.goto (-68), 3) := by decide +kernel
theorem dX4_tells_138 : decode cX4_tells 138 = .ok (.iinc 5 (-1), 3) := by decide +kernel
theorem dX4_tells_141 : decode cX4_tells 141 = .ok (.goto (-89), 3) := by decide +kernel
theorem dX4_tells_144 : decode cX4_tells 144 = .ok (.iload_n 2, 1) := by decide +kernel
theorem dX4_tells_145 : decode cX4_tells 145 = .ok (.ifCond .ne 7, 3) := by decide +kernel
theorem dX4_tells_148 : decode cX4_tells 148 = .ok (.iload_n 3, 1) := by decide +kernel
theorem dX4_tells_149 : decode cX4_tells 149 = .ok (.goto 5, 3) := by decide +kernel
theorem dX4_tells_152 : decode cX4_tells 152 = .ok (.iload 4, 2) := by decide +kernel
theorem dX4_tells_154 : decode cX4_tells 154 = .ok (.ireturn, 1) := by decide +kernel
