set_option maxRecDepth 20000 in
theorem ggX4_copy_X4_isRow : GoodIn wsX4_copy wsX4_isRow := goodIn_r _ [10, 11, 12, 13, 9, 14] (by decide +kernel) (by decide +kernel)
set_option maxRecDepth 20000 in
theorem gX4_copy_X4_isRow : GoodIn wsX4_copy (va_wsS RX4 62 yX4_isRow wsX4_isRow) := goodIn_app (goodIn_of _ (by decide +kernel)) ggX4_copy_X4_isRow
set_option maxRecDepth 20000 in
theorem ggX4_copy_X4_finding : GoodIn wsX4_copy wsX4_finding := goodIn_r _ [18, 3, 19, 20, 21, 22, 23, 24, 25, 26, 27, 28, 29, 30, 31, 32, 33, 34, 35, 36, 37, 38, 39, 40, 41, 42, 43] (by decide +kernel) (by decide +kernel)
set_option maxRecDepth 20000 in
theorem gX4_copy_X4_finding : GoodIn wsX4_copy (wsV RX4 69 RX4 yX4_finding wsX4_finding) := goodIn_app (goodIn_of _ (by decide +kernel)) ggX4_copy_X4_finding
theorem dX4_copy_0 : decode cX4_copy 0 = .ok (.aload_n 0, 1) := by decide +kernel
theorem dX4_copy_1 : decode cX4_copy 1 = .ok (.iconst 0, 1) := by decide +kernel
theorem dX4_copy_2 : decode cX4_copy 2 = .ok (.putfield 48, 3) := by decide +kernel
theorem dX4_copy_5 : decode cX4_copy 5 = .ok (.iload_n 1, 1) := by decide +kernel
theorem dX4_copy_6 : decode cX4_copy 6 = .ok (.invokestatic 62, 3) := by decide +kernel
theorem dX4_copy_9 : decode cX4_copy 9 = .ok (.ifCond .eq 10, 3) := by decide +kernel
theorem dX4_copy_12 : decode cX4_copy 12 = .ok (.iload_n 3, 1) := by decide +kernel
theorem dX4_copy_13 : decode cX4_copy 13 = .ok (.invokestatic 62, 3) := by decide +kernel
theorem dX4_copy_16 : decode cX4_copy 16 = .ok (.ifCond .ne 6, 3) := by decide +kernel
theorem dX4_copy_19 : decode cX4_copy 19 = .ok (.ldc 68, 2) := by decide +kernel
theorem dX4_copy_21 : decode cX4_copy 21 = .ok (.ireturn, 1) := by decide +kernel
theorem dX4_copy_22 : decode cX4_copy 22 = .ok (.aload_n 0, 1) := by decide +kernel
theorem dX4_copy_23 : decode cX4_copy 23 = .ok (.iconst 0, 1) := by decide +kernel
theorem dX4_copy_24 : decode cX4_copy 24 = .ok (.putfield 52, 3) := by decide +kernel
theorem dX4_copy_27 : decode cX4_copy 27 = .ok (.aload_n 0, 1) := by decide +kernel
theorem dX4_copy_28 : decode cX4_copy 28 = .ok (.getfield 7, 3) := by decide +kernel
theorem dX4_copy_31 : decode cX4_copy 31 = .ok (.iload_n 1, 1) := by decide +kernel
theorem dX4_copy_32 : decode cX4_copy 32 = .ok (.iaload, 1) := by decide +kernel
theorem dX4_copy_33 : decode cX4_copy 33 = .ok (.ifCond .lt 12, 3) := by decide +kernel
theorem dX4_copy_36 : decode cX4_copy 36 = .ok (.aload_n 0, 1) := by decide +kernel
theorem dX4_copy_37 : decode cX4_copy 37 = .ok (.getfield 7, 3) := by decide +kernel
theorem dX4_copy_40 : decode cX4_copy 40 = .ok (.iload_n 3, 1) := by decide +kernel
theorem dX4_copy_41 : decode cX4_copy 41 = .ok (.iaload, 1) := by decide +kernel
theorem dX4_copy_42 : decode cX4_copy 42 = .ok (.ifCond .ge 9, 3) := by decide +kernel
theorem dX4_copy_45 : decode cX4_copy 45 = .ok (.aload_n 0, 1) := by decide +kernel
theorem dX4_copy_46 : decode cX4_copy 46 = .ok (.iconst 1, 1) := by decide +kernel
theorem dX4_copy_47 : decode cX4_copy 47 = .ok (.invokevirtual 69, 3) := by decide +kernel
theorem dX4_copy_50 : decode cX4_copy 50 = .ok (.ireturn, 1) := by decide +kernel
theorem dX4_copy_51 : decode cX4_copy 51 = .ok (.aload_n 0, 1) := by decide +kernel
theorem dX4_copy_52 : decode cX4_copy 52 = .ok (.getfield 7, 3) := by decide +kernel
theorem dX4_copy_55 : decode cX4_copy 55 = .ok (.iload_n 1, 1) := by decide +kernel
theorem dX4_copy_56 : decode cX4_copy 56 = .ok (.iaload, 1) := by decide +kernel
theorem dX4_copy_57 : decode cX4_copy 57 = .ok (.aload_n 0, 1) := by decide +kernel
theorem dX4_copy_58 : decode cX4_copy 58 = .ok (.getfield 7, 3) := by decide +kernel
theorem dX4_copy_61 : decode cX4_copy 61 = .ok (.iload_n 3, 1) := by decide +kernel
theorem dX4_copy_62 : decode cX4_copy 62 = .ok (.iaload, 1) := by decide +kernel
theorem dX4_copy_63 : decode cX4_copy 63 = .ok (.if_icmp .eq 9, 3) := by decide +kernel
theorem dX4_copy_66 : decode cX4_copy 66 = .ok (.aload_n 0, 1) := by decide +kernel
theorem dX4_copy_67 : decode cX4_copy 67 = .ok (.iconst 5, 1) := by decide +kernel
theorem dX4_copy_68 : decode cX4_copy 68 = .ok (.invokevirtual 69, 3) := by decide +kernel
theorem dX4_copy_71 : decode cX4_copy 71 = .ok (.ireturn, 1) := by decide +kernel
theorem dX4_copy_72 : decode cX4_copy 72 = .ok (.iload_n 2, 1) := by decide +kernel
theorem dX4_copy_73 : decode cX4_copy 73 = .ok (.ifCond .lt 48, 3) := by decide +kernel
theorem dX4_copy_76 : decode cX4_copy 76 = .ok (.iload 4, 2) := by decide +kernel
theorem dX4_copy_78 : decode cX4_copy 78 = .ok (.ifCond .lt 43, 3) := by decide +kernel
theorem dX4_copy_81 : decode cX4_copy 81 = .ok (.iload 5, 2) := by decide +kernel
theorem dX4_copy_83 : decode cX4_copy 83 = .ok (.ifCond .lt 38, 3) := by decide +kernel
theorem dX4_copy_86 : decode cX4_copy 86 = .ok (.iload_n 2, 1) := by decide +kernel
theorem dX4_copy_87 : decode cX4_copy 87 = .ok (.i2l, 1) := by decide +kernel
theorem dX4_copy_88 : decode cX4_copy 88 = .ok (.iload 5, 2) := by decide +kernel
theorem dX4_copy_90 : decode cX4_copy 90 = .ok (.i2l, 1) := by decide +kernel
theorem dX4_copy_91 : decode cX4_copy 91 = .ok (.ladd, 1) := by decide +kernel
theorem dX4_copy_92 : decode cX4_copy 92 = .ok (.aload_n 0, 1) := by decide +kernel
theorem dX4_copy_93 : decode cX4_copy 93 = .ok (.getfield 13, 3) := by decide +kernel
theorem dX4_copy_96 : decode cX4_copy 96 = .ok (.iload_n 1, 1) := by decide +kernel
theorem dX4_copy_97 : decode cX4_copy 97 = .ok (.iaload, 1) := by decide +kernel
theorem dX4_copy_98 : decode cX4_copy 98 = .ok (.i2l, 1) := by decide +kernel
theorem dX4_copy_99 : decode cX4_copy 99 = .ok (.lcmp, 1) := by decide +kernel
theorem dX4_copy_100 : decode cX4_copy 100 = .ok (.ifCond .gt 21, 3) := by decide +kernel
theorem dX4_copy_103 : decode cX4_copy 103 = .ok (.iload 4, 2) := by decide +kernel
theorem dX4_copy_105 : decode cX4_copy 105 = .ok (.i2l, 1) := by decide +kernel
theorem dX4_copy_106 : decode cX4_copy 106 = .ok (.iload 5, 2) := by decide +kernel
theorem dX4_copy_108 : decode cX4_copy 108 = .ok (.i2l, 1) := by decide +kernel
theorem dX4_copy_109 : decode cX4_copy 109 = .ok (.ladd, 1) := by decide +kernel
theorem dX4_copy_110 : decode cX4_copy 110 = .ok (.aload_n 0, 1) := by decide +kernel
theorem dX4_copy_111 : decode cX4_copy 111 = .ok (.getfield 13, 3) := by decide +kernel
theorem dX4_copy_114 : decode cX4_copy 114 = .ok (.iload_n 3, 1) := by decide +kernel
theorem dX4_copy_115 : decode cX4_copy 115 = .ok (.iaload, 1) := by decide +kernel
theorem dX4_copy_116 : decode cX4_copy 116 = .ok (.i2l, 1) := by decide +kernel
theorem dX4_copy_117 : decode cX4_copy 117 = .ok (.lcmp, 1) := by decide +kernel
theorem dX4_copy_118 : decode cX4_copy 118 = .ok (.ifCond .le 9, 3) := by decide +kernel
theorem dX4_copy_121 : decode cX4_copy 121 = .ok (.aload_n 0, 1) := by decide +kernel
theorem dX4_copy_122 : decode cX4_copy 122 = .ok (.iconst 2, 1) := by decide +kernel
theorem dX4_copy_123 : decode cX4_copy 123 = .ok (.invokevirtual 69, 3) := by decide +kernel
theorem dX4_copy_126 : decode cX4_copy 126 = .ok (.ireturn, 1) := by decide +kernel
theorem dX4_copy_127 : decode cX4_copy 127 = .ok (.iload_n 2, 1) := by decide +kernel
theorem dX4_copy_128 : decode cX4_copy 128 = .ok (.iload 4, 2) := by decide +kernel
theorem dX4_copy_130 : decode cX4_copy 130 = .ok (.if_icmp .lt 7, 3) := by decide +kernel
theorem dX4_copy_133 : decode cX4_copy 133 = .ok (.iconst 1, 1) := by decide +kernel
theorem dX4_copy_134 : decode cX4_copy 134 = .ok (.goto 4, 3) := by decide +kernel
theorem dX4_copy_137 : decode cX4_copy 137 = .ok (.iconst 0, 1) := by decide +kernel
theorem dX4_copy_138 : decode cX4_copy 138 = .ok (.istore 6, 2) := by decide +kernel
theorem dX4_copy_140 : decode cX4_copy 140 = .ok (.iconst 0, 1) := by decide +kernel
theorem dX4_copy_141 : decode cX4_copy 141 = .ok (.istore 7, 2) := by decide +kernel
theorem dX4_copy_143 : decode cX4_copy 143 = .ok (.iload 7, 2) := by decide +kernel
theorem dX4_copy_145 : decode cX4_copy 145 = .ok (.iload 5, 2) := by decide +kernel
theorem dX4_copy_147 : decode cX4_copy 147 = .ok (.if_icmp .ge 57, 3) := by decide +kernel
theorem dX4_copy_150 : decode cX4_copy 150 = .ok (.iload 6, 2) := by decide +kernel
theorem dX4_copy_152 : decode cX4_copy 152 = .ok (.ifCond .eq 8, 3) := by decide +kernel
theorem dX4_copy_155 : decode cX4_copy 155 = .ok (.iload 7, 2) := by decide +kernel
theorem dX4_copy_157 : decode cX4_copy 157 = .ok (.goto 10, 3) := by decide +kernel
theorem dX4_copy_160 : decode cX4_copy 160 = .ok (.iload 5, 2) := by decide +kernel
theorem dX4_copy_162 : decode cX4_copy 162 = .ok (.iconst 1, 1) := by decide +kernel
theorem dX4_copy_163 : decode cX4_copy 163 = .ok (.isub, 1) := by decide +kernel
theorem dX4_copy_164 : decode cX4_copy 164 = .ok (.iload 7, 2) := by decide +kernel
theorem dX4_copy_166 : decode cX4_copy 166 = .ok (.isub, 1) := by decide +kernel
theorem dX4_copy_167 : decode cX4_copy 167 = .ok (.istore 8, 2) := by decide +kernel
theorem dX4_copy_169 : decode cX4_copy 169 = .ok (.aload_n 0, 1) := by decide +kernel
theorem dX4_copy_170 : decode cX4_copy 170 = .ok (.getfield 16, 3) := by decide +kernel
theorem dX4_copy_173 : decode cX4_copy 173 = .ok (.bipush 40, 2) := by decide +kernel
theorem dX4_copy_175 : decode cX4_copy 175 = .ok (.iload_n 3, 1) := by decide +kernel
theorem dX4_copy_176 : decode cX4_copy 176 = .ok (.imul, 1) := by decide +kernel
theorem dX4_copy_177 : decode cX4_copy 177 = .ok (.iload 4, 2) := by decide +kernel
theorem dX4_copy_179 : decode cX4_copy 179 = .ok (.iadd, 1) := by decide +kernel
theorem dX4_copy_180 : decode cX4_copy 180 = .ok (.iload 8, 2) := by decide +kernel
theorem dX4_copy_182 : decode cX4_copy 182 = .ok (.iadd, 1) := by decide +kernel
theorem dX4_copy_183 : decode cX4_copy 183 = .ok (.aload_n 0, 1) := by decide +kernel
theorem dX4_copy_184 : decode cX4_copy 184 = .ok (.getfield 16, 3) := by decide +kernel
theorem dX4_copy_187 : decode cX4_copy 187 = .ok (.bipush 40, 2) := by decide +kernel
theorem dX4_copy_189 : decode cX4_copy 189 = .ok (.iload_n 1, 1) := by decide +kernel
theorem dX4_copy_190 : decode cX4_copy 190 = .ok (.imul, 1) := by decide +kernel
theorem dX4_copy_191 : decode cX4_copy 191 = .ok (.iload_n 2, 1) := by decide +kernel
theorem dX4_copy_192 : decode cX4_copy 192 = .ok (.iadd, 1) := by decide +kernel
theorem dX4_copy_193 : decode cX4_copy 193 = .ok (.iload 8, 2) := by decide +kernel
theorem dX4_copy_195 : decode cX4_copy 195 = .ok (.iadd, 1) := by decide +kernel
theorem dX4_copy_196 : decode cX4_copy 196 = .ok (.iaload, 1) := by decide +kernel
theorem dX4_copy_197 : decode cX4_copy 197 = .ok (.iastore, 1) := by decide +kernel
theorem dX4_copy_198 : decode cX4_copy 198 = .ok (.iinc 7 1, 3) := by decide +kernel
theorem dX4_copy_201 : decode cX4_copy 201 = .ok (.goto (-58), 3) := by decide +kernel
theorem dX4_copy_204 : decode cX4_copy 204 = .ok (.iload 5, 2) := by decide +kernel
theorem dX4_copy_206 : decode cX4_copy 206 = .ok (.ireturn, 1) := by decide +kernel
