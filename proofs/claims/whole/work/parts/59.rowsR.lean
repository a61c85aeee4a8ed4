set_option maxRecDepth 20000 in
theorem ggX4_door_X4_begin : GoodIn wsX4_door wsX4_begin := goodIn_r _ [11, 12, 13, 14, 15, 16, 10, 17, 18, 19, 20, 21, 22, 23, 24, 25, 26, 27, 28, 29, 30, 71, 72, 73, 74, 75, 76, 77, 78, 79, 80, 81, 82, 83, 84, 85, 86, 87, 88, 89, 90, 91, 92, 93, 94] (by decide +kernel) (by decide +kernel)
set_option maxRecDepth 20000 in
theorem gX4_door_X4_begin : GoodIn wsX4_door (wsV RX4 133 RX4 yX4_begin wsX4_begin) := goodIn_app (goodIn_of _ (by decide +kernel)) ggX4_door_X4_begin
set_option maxRecDepth 20000 in
theorem ggX4_door_X4_isLetter : GoodIn wsX4_door wsX4_isLetter := goodIn_r _ [34, 13, 27, 22, 71, 72, 73, 74, 75, 76, 77, 78, 79, 80, 81, 82, 83, 84, 85, 86, 87, 88, 89, 90, 91, 92, 93, 94] (by decide +kernel) (by decide +kernel)
set_option maxRecDepth 20000 in
theorem gX4_door_X4_isLetter : GoodIn wsX4_door (wsV RX4 130 RX4 yX4_isLetter wsX4_isLetter) := goodIn_app (goodIn_of _ (by decide +kernel)) ggX4_door_X4_isLetter
set_option maxRecDepth 20000 in
theorem ggX4_door_X4_must : GoodIn wsX4_door wsX4_must := goodIn_r _ [38, 13, 39, 40, 41, 10, 42, 18, 4, 14, 15, 16, 17, 12, 19, 20, 21, 22, 23, 24, 25, 26, 27, 28, 29, 30, 71, 72, 73, 74, 75, 76, 77, 78, 79, 80, 81, 82, 83, 84, 85, 86, 87, 88, 89, 90, 91, 92, 93, 94] (by decide +kernel) (by decide +kernel)
set_option maxRecDepth 20000 in
theorem gX4_door_X4_must : GoodIn wsX4_door (wsV RX4 113 RX4 yX4_must wsX4_must) := goodIn_app (goodIn_of _ (by decide +kernel)) ggX4_door_X4_must
set_option maxRecDepth 20000 in
theorem ggX4_door_X4_number : GoodIn wsX4_door wsX4_number := goodIn_r _ [46, 13, 27, 22, 39, 40, 41, 10, 42, 18, 4, 28, 29, 30, 35, 36, 37, 38, 14, 15, 16, 17, 12, 19, 20, 21, 23, 24, 25, 26, 71, 72, 73, 74, 75, 76, 77, 78, 79, 80, 81, 82, 83, 84, 85, 86, 87, 88, 89, 90, 91, 92, 93, 94] (by decide +kernel) (by decide +kernel)
set_option maxRecDepth 20000 in
theorem gX4_door_X4_number : GoodIn wsX4_door (wsV RX4 123 RX4 yX4_number wsX4_number) := goodIn_app (goodIn_of _ (by decide +kernel)) ggX4_door_X4_number
set_option maxRecDepth 20000 in
theorem ggX4_door_X4_mustSign : GoodIn wsX4_door wsX4_mustSign := goodIn_r _ [50, 27, 22, 35, 36, 37, 10, 38, 13, 39, 40, 41, 42, 18, 4, 14, 15, 16, 17, 12, 19, 20, 21, 23, 24, 25, 26, 28, 29, 30, 71, 72, 73, 74, 75, 76, 77, 78, 79, 80, 81, 82, 83, 84, 85, 86, 87, 88, 89, 90, 91, 92, 93, 94] (by decide +kernel) (by decide +kernel)
set_option maxRecDepth 20000 in
theorem gX4_door_X4_mustSign : GoodIn wsX4_door (wsV RX4 127 RX4 yX4_mustSign wsX4_mustSign) := goodIn_app (goodIn_of _ (by decide +kernel)) ggX4_door_X4_mustSign
set_option maxRecDepth 20000 in
theorem ggX4_door_X4_isSort : GoodIn wsX4_door wsX4_isSort := goodIn_r _ [54, 13, 27, 22, 21, 55, 56, 10, 57, 71, 72, 73, 74, 75, 76, 77, 78, 79, 80, 81, 82, 83, 84, 85, 86, 87, 88, 89, 90, 91, 92, 93, 94] (by decide +kernel) (by decide +kernel)
set_option maxRecDepth 20000 in
theorem gX4_door_X4_isSort : GoodIn wsX4_door (wsV RX4 136 RX4 yX4_isSort wsX4_isSort) := goodIn_app (goodIn_of _ (by decide +kernel)) ggX4_door_X4_isSort
set_option maxRecDepth 20000 in
theorem ggX4_door_X4_bad : GoodIn wsX4_door wsX4_bad := goodIn_r _ [42, 13, 18, 4, 71, 72, 73, 74, 75, 76, 77, 78, 79, 80, 81, 82, 83, 84, 85, 86, 87, 88, 89, 90, 91, 92, 93, 94] (by decide +kernel) (by decide +kernel)
set_option maxRecDepth 20000 in
theorem gX4_door_X4_bad : GoodIn wsX4_door (wsV RX4 106 RX4 yX4_bad wsX4_bad) := goodIn_app (goodIn_of _ (by decide +kernel)) ggX4_door_X4_bad
set_option maxRecDepth 20000 in
theorem ggX4_door_X4_readSquare : GoodIn wsX4_door wsX4_readSquare := goodIn_r _ [61, 22, 2, 13, 55, 56, 10, 57, 21, 39, 40, 41, 42, 18, 4, 35, 36, 37, 38, 14, 15, 16, 17, 12, 19, 20, 23, 24, 25, 26, 27, 28, 29, 30, 43, 44, 45, 46, 47, 48, 49, 50, 71, 72, 73, 74, 75, 76, 77, 78, 79, 80, 81, 82, 83, 84, 85, 86, 87, 88, 89, 90, 91, 92, 93, 94] (by decide +kernel) (by decide +kernel)
set_option maxRecDepth 20000 in
theorem gX4_door_X4_readSquare : GoodIn wsX4_door (wsV RX4 140 RX4 yX4_readSquare wsX4_readSquare) := goodIn_app (goodIn_of _ (by decide +kernel)) ggX4_door_X4_readSquare
set_option maxRecDepth 20000 in
theorem ggX4_door_X4_readVisitor : GoodIn wsX4_door wsX4_readVisitor := goodIn_r _ [65, 2, 13, 39, 40, 41, 10, 42, 18, 4, 31, 32, 33, 34, 27, 22, 35, 36, 37, 38, 14, 15, 16, 17, 12, 19, 20, 21, 23, 24, 25, 26, 28, 29, 30, 43, 44, 45, 46, 47, 48, 49, 50, 71, 72, 73, 74, 75, 76, 77, 78, 79, 80, 81, 82, 83, 84, 85, 86, 87, 88, 89, 90, 91, 92, 93, 94] (by decide +kernel) (by decide +kernel)
set_option maxRecDepth 20000 in
theorem gX4_door_X4_readVisitor : GoodIn wsX4_door (wsV RX4 143 RX4 yX4_readVisitor wsX4_readVisitor) := goodIn_app (goodIn_of _ (by decide +kernel)) ggX4_door_X4_readVisitor
set_option maxRecDepth 20000 in
theorem ggX4_door_X4_failed : GoodIn wsX4_door wsX4_failed := goodIn_r _ [69, 13, 27, 19, 70, 39, 40, 41, 10, 42, 18, 4, 71, 72, 73, 74, 75, 76, 77, 78, 79, 80, 81, 82, 83, 84, 85, 86, 87, 88, 89, 90, 91, 92, 93, 94] (by decide +kernel) (by decide +kernel)
set_option maxRecDepth 20000 in
theorem gX4_door_X4_failed : GoodIn wsX4_door (wsV RX4 146 RX4 yX4_failed wsX4_failed) := goodIn_app (goodIn_of _ (by decide +kernel)) ggX4_door_X4_failed
theorem dX4_door_0 : decode cX4_door 0 = .ok (.aload_n 0, 1) := by decide +kernel
theorem dX4_door_1 : decode cX4_door 1 = .ok (.iconst 0, 1) := by decide +kernel
theorem dX4_door_2 : decode cX4_door 2 = .ok (.putfield 48, 3) := by decide +kernel
theorem dX4_door_5 : decode cX4_door 5 = .ok (.aload_n 0, 1) := by decide +kernel
theorem dX4_door_6 : decode cX4_door 6 = .ok (.invokevirtual 133, 3) := by decide +kernel
theorem dX4_door_9 : decode cX4_door 9 = .ok (.iconst 0, 1) := by decide +kernel
theorem dX4_door_10 : decode cX4_door 10 = .ok (.istore_n 1, 1) := by decide +kernel
theorem dX4_door_11 : decode cX4_door 11 = .ok (.iload_n 1, 1) := by decide +kernel
theorem dX4_door_12 : decode cX4_door 12 = .ok (.bipush 64, 2) := by decide +kernel
theorem dX4_door_14 : decode cX4_door 14 = .ok (.if_icmp .ge 16, 3) := by decide +kernel
theorem dX4_door_17 : decode cX4_door 17 = .ok (.aload_n 0, 1) := by decide +kernel
theorem dX4_door_18 : decode cX4_door 18 = .ok (.getfield 22, 3) := by decide +kernel
theorem dX4_door_21 : decode cX4_door 21 = .ok (.iload_n 1, 1) := by decide +kernel
theorem dX4_door_22 : decode cX4_door 22 = .ok (.iconst 0, 1) := by decide +kernel
theorem dX4_door_23 : decode cX4_door 23 = .ok (.iastore, 1) := by decide +kernel
theorem dX4_door_24 : decode cX4_door 24 = .ok (.iinc 1 1, 3) := by decide +kernel
theorem dX4_door_27 : decode cX4_door 27 = .ok (.goto (-16), 3) := by decide +kernel
theorem dX4_door_30 : decode cX4_door 30 = .ok (.aload_n 0, 1) := by decide +kernel
theorem dX4_door_31 : decode cX4_door 31 = .ok (.aload_n 0, 1) := by decide +kernel
theorem dX4_door_32 : decode cX4_door 32 = .ok (.bipush 100, 2) := by decide +kernel
theorem dX4_door_34 : decode cX4_door 34 = .ok (.invokevirtual 130, 3) := by decide +kernel
theorem dX4_door_37 : decode cX4_door 37 = .ok (.invokevirtual 113, 3) := by decide +kernel
theorem dX4_door_40 : decode cX4_door 40 = .ok (.aload_n 0, 1) := by decide +kernel
theorem dX4_door_41 : decode cX4_door 41 = .ok (.getfield 22, 3) := by decide +kernel
theorem dX4_door_44 : decode cX4_door 44 = .ok (.iconst 0, 1) := by decide +kernel
theorem dX4_door_45 : decode cX4_door 45 = .ok (.aload_n 0, 1) := by decide +kernel
theorem dX4_door_46 : decode cX4_door 46 = .ok (.iconst 1, 1) := by decide +kernel
theorem dX4_door_47 : decode cX4_door 47 = .ok (.bipush 9, 2) := by decide +kernel
theorem dX4_door_49 : decode cX4_door 49 = .ok (.invokevirtual 123, 3) := by decide +kernel
theorem dX4_door_52 : decode cX4_door 52 = .ok (.iastore, 1) := by decide +kernel
theorem dX4_door_53 : decode cX4_door 53 = .ok (.aload_n 0, 1) := by decide +kernel
theorem dX4_door_54 : decode cX4_door 54 = .ok (.bipush 44, 2) := by decide +kernel
theorem dX4_door_56 : decode cX4_door 56 = .ok (.invokevirtual 127, 3) := by decide +kernel
theorem dX4_door_59 : decode cX4_door 59 = .ok (.aload_n 0, 1) := by decide +kernel
theorem dX4_door_60 : decode cX4_door 60 = .ok (.getfield 22, 3) := by decide +kernel
theorem dX4_door_63 : decode cX4_door 63 = .ok (.iconst 1, 1) := by decide +kernel
theorem dX4_door_64 : decode cX4_door 64 = .ok (.aload_n 0, 1) := by decide +kernel
theorem dX4_door_65 : decode cX4_door 65 = .ok (.iconst 0, 1) := by decide +kernel
theorem dX4_door_66 : decode cX4_door 66 = .ok (.bipush 8, 2) := by decide +kernel
theorem dX4_door_68 : decode cX4_door 68 = .ok (.invokevirtual 123, 3) := by decide +kernel
theorem dX4_door_71 : decode cX4_door 71 = .ok (.iastore, 1) := by decide +kernel
theorem dX4_door_72 : decode cX4_door 72 = .ok (.aload_n 0, 1) := by decide +kernel
theorem dX4_door_73 : decode cX4_door 73 = .ok (.bipush 59, 2) := by decide +kernel
theorem dX4_door_75 : decode cX4_door 75 = .ok (.invokevirtual 127, 3) := by decide +kernel
theorem dX4_door_78 : decode cX4_door 78 = .ok (.aload_n 0, 1) := by decide +kernel
theorem dX4_door_79 : decode cX4_door 79 = .ok (.invokevirtual 136, 3) := by decide +kernel
theorem dX4_door_82 : decode cX4_door 82 = .ok (.ifCond .ne 8, 3) := by decide +kernel
theorem dX4_door_85 : decode cX4_door 85 = .ok (.aload_n 0, 1) := by decide +kernel
theorem dX4_door_86 : decode cX4_door 86 = .ok (.iconst 1, 1) := by decide +kernel
theorem dX4_door_87 : decode cX4_door 87 = .ok (.invokevirtual 106, 3) := by decide +kernel
theorem dX4_door_90 : decode cX4_door 90 = .ok (.aload_n 0, 1) := by decide +kernel
theorem dX4_door_91 : decode cX4_door 91 = .ok (.invokevirtual 136, 3) := by decide +kernel
theorem dX4_door_94 : decode cX4_door 94 = .ok (.ifCond .eq 10, 3) := by decide +kernel
theorem dX4_door_97 : decode cX4_door 97 = .ok (.aload_n 0, 1) := by decide +kernel
theorem dX4_door_98 : decode cX4_door 98 = .ok (.invokevirtual 140, 3) := by decide +kernel
theorem dX4_door_101 : decode cX4_door 101 = .ok (.goto (-11), 3) := by decide +kernel
theorem dX4_door_104 : decode cX4_door 104 = .ok (.aload_n 0, 1) := by decide +kernel
theorem dX4_door_105 : decode cX4_door 105 = .ok (.bipush 118, 2) := by decide +kernel
theorem dX4_door_107 : decode cX4_door 107 = .ok (.invokevirtual 130, 3) := by decide +kernel
theorem dX4_door_110 : decode cX4_door 110 = .ok (.ifCond .ne 8, 3) := by decide +kernel
theorem dX4_door_113 : decode cX4_door 113 = .ok (.aload_n 0, 1) := by decide +kernel
theorem dX4_door_114 : decode cX4_door 114 = .ok (.iconst 1, 1) := by decide +kernel
theorem dX4_door_115 : decode cX4_door 115 = .ok (.invokevirtual 106, 3) := by decide +kernel
theorem dX4_door_118 : decode cX4_door 118 = .ok (.aload_n 0, 1) := by decide +kernel
theorem dX4_door_119 : decode cX4_door 119 = .ok (.bipush 118, 2) := by decide +kernel
theorem dX4_door_121 : decode cX4_door 121 = .ok (.invokevirtual 130, 3) := by decide +kernel
theorem dX4_door_124 : decode cX4_door 124 = .ok (.ifCond .eq 10, 3) := by decide +kernel
theorem dX4_door_127 : decode cX4_door 127 = .ok (.aload_n 0, 1) := by decide +kernel
theorem dX4_door_128 : decode cX4_door 128 = .ok (.invokevirtual 143, 3) := by decide +kernel
theorem dX4_door_131 : decode cX4_door 131 = .ok (.goto (-13), 3) := by decide +kernel
theorem dX4_door_134 : decode cX4_door 134 = .ok (.aload_n 0, 1) := by decide +kernel
theorem dX4_door_135 : decode cX4_door 135 = .ok (.invokevirtual 146, 3) := by decide +kernel
theorem dX4_door_138 : decode cX4_door 138 = .ok (.ifCond .eq 11, 3) := by decide +kernel
theorem dX4_door_141 : decode cX4_door 141 = .ok (.ldc 149, 2) := by decide +kernel
theorem dX4_door_143 : decode cX4_door 143 = .ok (.aload_n 0, 1) := by decide +kernel
theorem dX4_door_144 : decode cX4_door 144 = .ok (.getfield 85, 3) := by decide +kernel
theorem dX4_door_147 : decode cX4_door 147 = .ok (.isub, 1) := by decide +kernel
theorem dX4_door_148 : decode cX4_door 148 = .ok (.ireturn, 1) := by decide +kernel
theorem dX4_door_149 : decode cX4_door 149 = .ok (.aload_n 0, 1) := by decide +kernel
theorem dX4_door_150 : decode cX4_door 150 = .ok (.iconst 0, 1) := by decide +kernel
theorem dX4_door_151 : decode cX4_door 151 = .ok (.putfield 150, 3) := by decide +kernel
theorem dX4_door_154 : decode cX4_door 154 = .ok (.iconst 0, 1) := by decide +kernel
theorem dX4_door_155 : decode cX4_door 155 = .ok (.istore_n 1, 1) := by decide +kernel
theorem dX4_door_156 : decode cX4_door 156 = .ok (.iload_n 1, 1) := by decide +kernel
theorem dX4_door_157 : decode cX4_door 157 = .ok (.bipush 64, 2) := by decide +kernel
theorem dX4_door_159 : decode cX4_door 159 = .ok (.if_icmp .ge 21, 3) := by decide +kernel
theorem dX4_door_162 : decode cX4_door 162 = .ok (.aload_n 0, 1) := by decide +kernel
theorem dX4_door_163 : decode cX4_door 163 = .ok (.getfield 19, 3) := by decide +kernel
theorem dX4_door_166 : decode cX4_door 166 = .ok (.iload_n 1, 1) := by decide +kernel
theorem dX4_door_167 : decode cX4_door 167 = .ok (.aload_n 0, 1) := by decide +kernel
theorem dX4_door_168 : decode cX4_door 168 = .ok (.getfield 22, 3) := by decide +kernel
theorem dX4_door_171 : decode cX4_door 171 = .ok (.iload_n 1, 1) := by decide +kernel
theorem dX4_door_172 : decode cX4_door 172 = .ok (.iaload, 1) := by decide +kernel
theorem dX4_door_173 : decode cX4_door 173 = .ok (.iastore, 1) := by decide +kernel
theorem dX4_door_174 : decode cX4_door 174 = .ok (.iinc 1 1, 3) := by decide +kernel
theorem dX4_door_177 : decode cX4_door 177 = .ok (.goto (-21), 3) := by decide +kernel
theorem dX4_door_180 : decode cX4_door 180 = .ok (.aload_n 0, 1) := by decide +kernel
theorem dX4_door_181 : decode cX4_door 181 = .ok (.getfield 19, 3) := by decide +kernel
theorem dX4_door_184 : decode cX4_door 184 = .ok (.iconst 2, 1) := by decide +kernel
theorem dX4_door_185 : decode cX4_door 185 = .ok (.iaload, 1) := by decide +kernel
theorem dX4_door_186 : decode cX4_door 186 = .ok (.ireturn, 1) := by decide +kernel
