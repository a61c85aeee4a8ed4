set_option maxRecDepth 20000 in
theorem ggX3_slip_X1_isVisitor : GoodIn wsX3_slip wsX1_isVisitor := goodIn_r _ [9, 10, 11, 12, 13, 96, 97, 98, 99, 100, 101, 102, 103, 104, 105, 106, 107, 108, 109] (by decide +kernel) (by decide +kernel)
set_option maxRecDepth 20000 in
theorem gX3_slip_X1_isVisitor : GoodIn wsX3_slip (wsV RX3 141 RX1 yX1_isVisitor wsX1_isVisitor) := goodIn_app (goodIn_of _ (by decide +kernel)) ggX3_slip_X1_isVisitor
set_option maxRecDepth 20000 in
theorem ggX3_slip_X1_areSquares : GoodIn wsX3_slip wsX1_areSquares := goodIn_r _ [17, 18, 19, 20, 8, 21, 22, 11, 12, 13, 96, 97, 98, 99, 100, 101, 102, 103, 104, 105, 106, 107, 108, 109] (by decide +kernel) (by decide +kernel)
set_option maxRecDepth 20000 in
theorem gX3_slip_X1_areSquares : GoodIn wsX3_slip (wsV RX3 144 RX1 yX1_areSquares wsX1_areSquares) := goodIn_app (goodIn_of _ (by decide +kernel)) ggX3_slip_X1_areSquares
set_option maxRecDepth 20000 in
theorem ggX3_slip_X3_isIn : GoodIn wsX3_slip wsX3_isIn := goodIn_r _ [13] (by decide +kernel) (by decide +kernel)
set_option maxRecDepth 20000 in
theorem gX3_slip_X3_isIn : GoodIn wsX3_slip (va_wsS RX3 77 yX3_isIn wsX3_isIn) := goodIn_app (goodIn_of _ (by decide +kernel)) ggX3_slip_X3_isIn
set_option maxRecDepth 20000 in
theorem ggX3_slip_X1_countedBits : GoodIn wsX3_slip wsX1_countedBits := goodIn_r _ [27, 22, 28, 29, 30, 8, 31, 32, 33, 34, 35, 12, 36, 96, 97, 98, 99, 100, 101, 102, 103, 104, 105, 106, 107, 108, 109] (by decide +kernel) (by decide +kernel)
set_option maxRecDepth 20000 in
theorem gX3_slip_X1_countedBits : GoodIn wsX3_slip (wsV RX3 258 RX1 yX1_countedBits wsX1_countedBits) := goodIn_app (goodIn_of _ (by decide +kernel)) ggX3_slip_X1_countedBits
set_option maxRecDepth 20000 in
theorem ggX3_slip_X1_wrongBits : GoodIn wsX3_slip wsX1_wrongBits := goodIn_r _ [40, 41, 42, 43, 8, 44, 22, 45, 46, 32, 47, 48, 12, 49, 50, 51, 52, 53, 54, 55, 56, 33, 34, 57, 58, 25, 26, 27, 28, 29, 30, 31, 35, 36, 96, 97, 98, 99, 100, 101, 102, 103, 104, 105, 106, 107, 108, 109] (by decide +kernel) (by decide +kernel)
set_option maxRecDepth 20000 in
theorem gX3_slip_X1_wrongBits : GoodIn wsX3_slip (wsV RX3 261 RX1 yX1_wrongBits wsX1_wrongBits) := goodIn_app (goodIn_of _ (by decide +kernel)) ggX3_slip_X1_wrongBits
set_option maxRecDepth 20000 in
theorem ggX3_slip_X3_spreadCases : GoodIn wsX3_slip wsX3_spreadCases := goodIn_r _ [62, 4, 63, 64, 65, 66, 83, 84, 85, 86, 87, 88, 89, 90, 91, 92, 93, 94, 95] (by decide +kernel) (by decide +kernel)
set_option maxRecDepth 20000 in
theorem gX3_slip_X3_spreadCases : GoodIn wsX3_slip (wsV RX3 264 RX3 yX3_spreadCases wsX3_spreadCases) := goodIn_app (goodIn_of _ (by decide +kernel)) ggX3_slip_X3_spreadCases
set_option maxRecDepth 20000 in
theorem ggX3_slip_J6_bitCount_0f7a4 : GoodIn wsX3_slip wsJ6_bitCount_0f7a4 := goodIn_r _ [70, 71, 72, 73] (by decide +kernel) (by decide +kernel)
set_option maxRecDepth 20000 in
theorem gX3_slip_J6_bitCount_0f7a4 : GoodIn wsX3_slip (va_wsS RX3 268 yJ6_bitCount_0f7a4 wsJ6_bitCount_0f7a4) := goodIn_app (goodIn_of _ (by decide +kernel)) ggX3_slip_J6_bitCount_0f7a4
set_option maxRecDepth 20000 in
theorem ggX3_slip_X3_powerOfTen : GoodIn wsX3_slip wsX3_powerOfTen := goodIn_r _ [76, 77] (by decide +kernel) (by decide +kernel)
set_option maxRecDepth 20000 in
theorem gX3_slip_X3_powerOfTen : GoodIn wsX3_slip (va_wsS RX3 271 yX3_powerOfTen wsX3_powerOfTen) := goodIn_app (goodIn_of _ (by decide +kernel)) ggX3_slip_X3_powerOfTen
set_option maxRecDepth 20000 in
theorem ggX3_slip_X3_partInLowestTerms : GoodIn wsX3_slip wsX3_partInLowestTerms := goodIn_r _ [80, 81, 82] (by decide +kernel) (by decide +kernel)
set_option maxRecDepth 20000 in
theorem gX3_slip_X3_partInLowestTerms : GoodIn wsX3_slip (va_wsS RX3 275 yX3_partInLowestTerms wsX3_partInLowestTerms) := goodIn_app (goodIn_of _ (by decide +kernel)) ggX3_slip_X3_partInLowestTerms
theorem dX3_slip_0 : decode cX3_slip 0 = .ok (.aload_n 0, 1) := by decide +kernel
theorem dX3_slip_1 : decode cX3_slip 1 = .ok (.getfield 38, 3) := by decide +kernel
theorem dX3_slip_4 : decode cX3_slip 4 = .ok (.iload_n 1, 1) := by decide +kernel
theorem dX3_slip_5 : decode cX3_slip 5 = .ok (.invokevirtual 141, 3) := by decide +kernel
theorem dX3_slip_8 : decode cX3_slip 8 = .ok (.ifCond .eq 34, 3) := by decide +kernel
theorem dX3_slip_11 : decode cX3_slip 11 = .ok (.aload_n 0, 1) := by decide +kernel
theorem dX3_slip_12 : decode cX3_slip 12 = .ok (.getfield 38, 3) := by decide +kernel
theorem dX3_slip_15 : decode cX3_slip 15 = .ok (.iload_n 2, 1) := by decide +kernel
theorem dX3_slip_16 : decode cX3_slip 16 = .ok (.invokevirtual 144, 3) := by decide +kernel
theorem dX3_slip_19 : decode cX3_slip 19 = .ok (.ifCond .eq 23, 3) := by decide +kernel
theorem dX3_slip_22 : decode cX3_slip 22 = .ok (.iload_n 3, 1) := by decide +kernel
theorem dX3_slip_23 : decode cX3_slip 23 = .ok (.iconst 0, 1) := by decide +kernel
theorem dX3_slip_24 : decode cX3_slip 24 = .ok (.bipush 10, 2) := by decide +kernel
theorem dX3_slip_26 : decode cX3_slip 26 = .ok (.invokestatic 77, 3) := by decide +kernel
theorem dX3_slip_29 : decode cX3_slip 29 = .ok (.ifCond .eq 13, 3) := by decide +kernel
theorem dX3_slip_32 : decode cX3_slip 32 = .ok (.iload 4, 2) := by decide +kernel
theorem dX3_slip_34 : decode cX3_slip 34 = .ok (.iconst 0, 1) := by decide +kernel
theorem dX3_slip_35 : decode cX3_slip 35 = .ok (.iconst 1, 1) := by decide +kernel
theorem dX3_slip_36 : decode cX3_slip 36 = .ok (.invokestatic 77, 3) := by decide +kernel
theorem dX3_slip_39 : decode cX3_slip 39 = .ok (.ifCond .ne 7, 3) := by decide +kernel
theorem dX3_slip_42 : decode cX3_slip 42 = .ok (.ldc2_w 256, 3) := by decide +kernel
theorem dX3_slip_45 : decode cX3_slip 45 = .ok (.lreturn, 1) := by decide +kernel
theorem dX3_slip_46 : decode cX3_slip 46 = .ok (.iload_n 2, 1) := by decide +kernel
theorem dX3_slip_47 : decode cX3_slip 47 = .ok (.aload_n 0, 1) := by decide +kernel
theorem dX3_slip_48 : decode cX3_slip 48 = .ok (.getfield 38, 3) := by decide +kernel
theorem dX3_slip_51 : decode cX3_slip 51 = .ok (.invokevirtual 258, 3) := by decide +kernel
theorem dX3_slip_54 : decode cX3_slip 54 = .ok (.iand, 1) := by decide +kernel
theorem dX3_slip_55 : decode cX3_slip 55 = .ok (.istore 5, 2) := by decide +kernel
theorem dX3_slip_57 : decode cX3_slip 57 = .ok (.aload_n 0, 1) := by decide +kernel
theorem dX3_slip_58 : decode cX3_slip 58 = .ok (.iload 5, 2) := by decide +kernel
theorem dX3_slip_60 : decode cX3_slip 60 = .ok (.aload_n 0, 1) := by decide +kernel
theorem dX3_slip_61 : decode cX3_slip 61 = .ok (.getfield 38, 3) := by decide +kernel
theorem dX3_slip_64 : decode cX3_slip 64 = .ok (.iload_n 1, 1) := by decide +kernel
theorem dX3_slip_65 : decode cX3_slip 65 = .ok (.invokevirtual 261, 3) := by decide +kernel
theorem dX3_slip_68 : decode cX3_slip 68 = .ok (.iload_n 3, 1) := by decide +kernel
theorem dX3_slip_69 : decode cX3_slip 69 = .ok (.invokevirtual 264, 3) := by decide +kernel
theorem dX3_slip_72 : decode cX3_slip 72 = .ok (.lconst 0, 1) := by decide +kernel
theorem dX3_slip_73 : decode cX3_slip 73 = .ok (.lstore 6, 2) := by decide +kernel
theorem dX3_slip_75 : decode cX3_slip 75 = .ok (.iconst 0, 1) := by decide +kernel
theorem dX3_slip_76 : decode cX3_slip 76 = .ok (.istore 8, 2) := by decide +kernel
theorem dX3_slip_78 : decode cX3_slip 78 = .ok (.iload 8, 2) := by decide +kernel
theorem dX3_slip_80 : decode cX3_slip 80 = .ok (.aload_n 0, 1) := by decide +kernel
theorem dX3_slip_81 : decode cX3_slip 81 = .ok (.getfield 38, 3) := by decide +kernel
theorem dX3_slip_84 : decode cX3_slip 84 = .ok (.getfield 158, 3) := by decide +kernel
theorem dX3_slip_87 : decode cX3_slip 87 = .ok (.if_icmp .gt 28, 3) := by decide +kernel
theorem dX3_slip_90 : decode cX3_slip 90 = .ok (.iload 8, 2) := by decide +kernel
theorem dX3_slip_92 : decode cX3_slip 92 = .ok (.bipush 8, 2) := by decide +kernel
theorem dX3_slip_94 : decode cX3_slip 94 = .ok (.if_icmp .gt 21, 3) := by decide +kernel
theorem dX3_slip_97 : decode cX3_slip 97 = .ok (.lload 6, 2) := by decide +kernel
theorem dX3_slip_99 : decode cX3_slip 99 = .ok (.aload_n 0, 1) := by decide +kernel
theorem dX3_slip_100 : decode cX3_slip 100 = .ok (.getfield 62, 3) := by decide +kernel
theorem dX3_slip_103 : decode cX3_slip 103 = .ok (.iload 8, 2) := by decide +kernel
theorem dX3_slip_105 : decode cX3_slip 105 = .ok (.laload, 1) := by decide +kernel
theorem dX3_slip_106 : decode cX3_slip 106 = .ok (.ladd, 1) := by decide +kernel
theorem dX3_slip_107 : decode cX3_slip 107 = .ok (.lstore 6, 2) := by decide +kernel
theorem dX3_slip_109 : decode cX3_slip 109 = .ok (.iinc 8 1, 3) := by decide +kernel
theorem dX3_slip_112 : decode cX3_slip 112 = .ok (.goto (-34), 3) := by decide +kernel
theorem dX3_slip_115 : decode cX3_slip 115 = .ok (.lload 6, 2) := by decide +kernel
theorem dX3_slip_117 : decode cX3_slip 117 = .ok (.iload 5, 2) := by decide +kernel
theorem dX3_slip_119 : decode cX3_slip 119 = .ok (.invokestatic 268, 3) := by decide +kernel
theorem dX3_slip_122 : decode cX3_slip 122 = .ok (.invokestatic 271, 3) := by decide +kernel
theorem dX3_slip_125 : decode cX3_slip 125 = .ok (.iload 4, 2) := by decide +kernel
theorem dX3_slip_127 : decode cX3_slip 127 = .ok (.invokestatic 275, 3) := by decide +kernel
theorem dX3_slip_130 : decode cX3_slip 130 = .ok (.lreturn, 1) := by decide +kernel
set_option maxRecDepth 20000 in
theorem ggX3_drawn_X1_isRead : GoodIn wsX3_drawn wsX1_isRead := goodIn_r _ [14, 15, 16, 112, 113, 114, 115, 116, 117, 118, 119, 120, 121, 122, 123, 124, 125] (by decide +kernel) (by decide +kernel)
set_option maxRecDepth 20000 in
theorem gX3_drawn_X1_isRead : GoodIn wsX3_drawn (wsV RX3 154 RX1 yX1_isRead wsX1_isRead) := goodIn_app (goodIn_of _ (by decide +kernel)) ggX3_drawn_X1_isRead
set_option maxRecDepth 20000 in
theorem ggX3_drawn_X3_isIn : GoodIn wsX3_drawn wsX3_isIn := goodIn_r _ [20] (by decide +kernel) (by decide +kernel)
set_option maxRecDepth 20000 in
theorem gX3_drawn_X3_isIn : GoodIn wsX3_drawn (va_wsS RX3 77 yX3_isIn wsX3_isIn) := goodIn_app (goodIn_of _ (by decide +kernel)) ggX3_drawn_X3_isIn
set_option maxRecDepth 20000 in
theorem ggX3_drawn_X1_takeFrom : GoodIn wsX3_drawn wsX1_takeFrom := goodIn_r _ [24, 25, 26, 15, 16, 27, 28, 29, 30, 31, 32, 33, 34, 35, 36, 37, 38, 39, 112, 113, 114, 115, 116, 117, 118, 119, 120, 121, 122, 123, 124, 125] (by decide +kernel) (by decide +kernel)
set_option maxRecDepth 20000 in
theorem gX3_drawn_X1_takeFrom : GoodIn wsX3_drawn (wsV RX3 124 RX1 yX1_takeFrom wsX1_takeFrom) := goodIn_app (goodIn_of _ (by decide +kernel)) ggX3_drawn_X1_takeFrom
set_option maxRecDepth 20000 in
theorem ggX3_drawn_X1_allSquares : GoodIn wsX3_drawn wsX1_allSquares := goodIn_r _ [43, 15, 112, 113, 114, 115, 116, 117, 118, 119, 120, 121, 122, 123, 124, 125] (by decide +kernel) (by decide +kernel)
set_option maxRecDepth 20000 in
theorem gX3_drawn_X1_allSquares : GoodIn wsX3_drawn (wsV RX3 216 RX1 yX1_allSquares wsX1_allSquares) := goodIn_app (goodIn_of _ (by decide +kernel)) ggX3_drawn_X1_allSquares
set_option maxRecDepth 20000 in
theorem ggX3_drawn_X1_putTo : GoodIn wsX3_drawn wsX1_putTo := goodIn_r _ [47, 38, 26, 39, 48, 49, 50, 13, 51, 52, 53, 54, 55, 56, 57, 58, 59, 15, 36, 37, 27, 32, 60, 19, 61, 62, 63, 64, 65, 66, 67, 68, 35, 69, 25, 70, 71, 72, 73, 74, 75, 76, 77, 78, 79, 80, 81, 82, 83, 84, 85, 86, 87, 88, 89, 90, 33, 34, 91, 92, 93, 94, 112, 113, 114, 115, 116, 117, 118, 119, 120, 121, 122, 123, 124, 125] (by decide +kernel) (by decide +kernel)
set_option maxRecDepth 20000 in
theorem gX3_drawn_X1_putTo : GoodIn wsX3_drawn (wsV RX3 150 RX1 yX1_putTo wsX1_putTo) := goodIn_app (goodIn_of _ (by decide +kernel)) ggX3_drawn_X1_putTo
set_option maxRecDepth 20000 in
theorem ggX3_drawn_X1_allVotes : GoodIn wsX3_drawn wsX1_allVotes := goodIn_r _ [98, 15, 33, 34, 112, 113, 114, 115, 116, 117, 118, 119, 120, 121, 122, 123, 124, 125] (by decide +kernel) (by decide +kernel)
set_option maxRecDepth 20000 in
theorem gX3_drawn_X1_allVotes : GoodIn wsX3_drawn (wsV RX3 286 RX1 yX1_allVotes wsX1_allVotes) := goodIn_app (goodIn_of _ (by decide +kernel)) ggX3_drawn_X1_allVotes
theorem dX3_drawn_0 : decode cX3_drawn 0 = .ok (.aload_n 0, 1) := by decide +kernel
theorem dX3_drawn_1 : decode cX3_drawn 1 = .ok (.getfield 38, 3) := by decide +kernel
theorem dX3_drawn_4 : decode cX3_drawn 4 = .ok (.invokevirtual 154, 3) := by decide +kernel
theorem dX3_drawn_7 : decode cX3_drawn 7 = .ok (.ifCond .ne 6, 3) := by decide +kernel
theorem dX3_drawn_10 : decode cX3_drawn 10 = .ok (.ldc 137, 2) := by decide +kernel
theorem dX3_drawn_12 : decode cX3_drawn 12 = .ok (.ireturn, 1) := by decide +kernel
theorem dX3_drawn_13 : decode cX3_drawn 13 = .ok (.iload_n 1, 1) := by decide +kernel
theorem dX3_drawn_14 : decode cX3_drawn 14 = .ok (.iconst 0, 1) := by decide +kernel
theorem dX3_drawn_15 : decode cX3_drawn 15 = .ok (.bipush 60, 2) := by decide +kernel
theorem dX3_drawn_17 : decode cX3_drawn 17 = .ok (.invokestatic 77, 3) := by decide +kernel
theorem dX3_drawn_20 : decode cX3_drawn 20 = .ok (.ifCond .eq 23, 3) := by decide +kernel
theorem dX3_drawn_23 : decode cX3_drawn 23 = .ok (.iload_n 2, 1) := by decide +kernel
theorem dX3_drawn_24 : decode cX3_drawn 24 = .ok (.iconst 1, 1) := by decide +kernel
theorem dX3_drawn_25 : decode cX3_drawn 25 = .ok (.ldc_w 279, 3) := by decide +kernel
theorem dX3_drawn_28 : decode cX3_drawn 28 = .ok (.invokestatic 77, 3) := by decide +kernel
theorem dX3_drawn_31 : decode cX3_drawn 31 = .ok (.ifCond .eq 12, 3) := by decide +kernel
theorem dX3_drawn_34 : decode cX3_drawn 34 = .ok (.iload_n 3, 1) := by decide +kernel
theorem dX3_drawn_35 : decode cX3_drawn 35 = .ok (.iconst 0, 1) := by decide +kernel
theorem dX3_drawn_36 : decode cX3_drawn 36 = .ok (.iconst 1, 1) := by decide +kernel
theorem dX3_drawn_37 : decode cX3_drawn 37 = .ok (.invokestatic 77, 3) := by decide +kernel
theorem dX3_drawn_40 : decode cX3_drawn 40 = .ok (.ifCond .ne 6, 3) := by decide +kernel
theorem dX3_drawn_43 : decode cX3_drawn 43 = .ok (.ldc 81, 2) := by decide +kernel
theorem dX3_drawn_45 : decode cX3_drawn 45 = .ok (.ireturn, 1) := by decide +kernel
theorem dX3_drawn_46 : decode cX3_drawn 46 = .ok (.aload_n 0, 1) := by decide +kernel
theorem dX3_drawn_47 : decode cX3_drawn 47 = .ok (.getfield 42, 3) := by decide +kernel
theorem dX3_drawn_50 : decode cX3_drawn 50 = .ok (.aload_n 0, 1) := by decide +kernel
theorem dX3_drawn_51 : decode cX3_drawn 51 = .ok (.getfield 38, 3) := by decide +kernel
theorem dX3_drawn_54 : decode cX3_drawn 54 = .ok (.invokevirtual 124, 3) := by decide +kernel
theorem dX3_drawn_57 : decode cX3_drawn 57 = .ok (.iconst 0, 1) := by decide +kernel
theorem dX3_drawn_58 : decode cX3_drawn 58 = .ok (.istore 4, 2) := by decide +kernel
theorem dX3_drawn_60 : decode cX3_drawn 60 = .ok (.iload_n 2, 1) := by decide +kernel
theorem dX3_drawn_61 : decode cX3_drawn 61 = .ok (.i2l, 1) := by decide +kernel
theorem dX3_drawn_62 : decode cX3_drawn 62 = .ok (.lstore 5, 2) := by decide +kernel
theorem dX3_drawn_64 : decode cX3_drawn 64 = .ok (.iconst 0, 1) := by decide +kernel
theorem dX3_drawn_65 : decode cX3_drawn 65 = .ok (.istore 7, 2) := by decide +kernel
theorem dX3_drawn_67 : decode cX3_drawn 67 = .ok (.iload 7, 2) := by decide +kernel
theorem dX3_drawn_69 : decode cX3_drawn 69 = .ok (.iload_n 1, 1) := by decide +kernel
theorem dX3_drawn_70 : decode cX3_drawn 70 = .ok (.if_icmp .ge 69, 3) := by decide +kernel
theorem dX3_drawn_73 : decode cX3_drawn 73 = .ok (.lload 5, 2) := by decide +kernel
theorem dX3_drawn_75 : decode cX3_drawn 75 = .ok (.ldc2_w 280, 3) := by decide +kernel
theorem dX3_drawn_78 : decode cX3_drawn 78 = .ok (.lmul, 1) := by decide +kernel
theorem dX3_drawn_79 : decode cX3_drawn 79 = .ok (.ldc2_w 282, 3) := by decide +kernel
theorem dX3_drawn_82 : decode cX3_drawn 82 = .ok (.lrem, 1) := by decide +kernel
theorem dX3_drawn_83 : decode cX3_drawn 83 = .ok (.lstore 5, 2) := by decide +kernel
theorem dX3_drawn_85 : decode cX3_drawn 85 = .ok (.lload 5, 2) := by decide +kernel
theorem dX3_drawn_87 : decode cX3_drawn 87 = .ok (.aload_n 0, 1) := by decide +kernel
theorem dX3_drawn_88 : decode cX3_drawn 88 = .ok (.getfield 38, 3) := by decide +kernel
theorem dX3_drawn_91 : decode cX3_drawn 91 = .ok (.getfield 246, 3) := by decide +kernel
theorem dX3_drawn_94 : decode cX3_drawn 94 = .ok (.i2l, 1) := by decide +kernel
theorem dX3_drawn_95 : decode cX3_drawn 95 = .ok (.lrem, 1) := by decide +kernel
theorem dX3_drawn_96 : decode cX3_drawn 96 = .ok (.l2i, 1) := by decide +kernel
theorem dX3_drawn_97 : decode cX3_drawn 97 = .ok (.istore 8, 2) := by decide +kernel
theorem dX3_drawn_99 : decode cX3_drawn 99 = .ok (.lload 5, 2) := by decide +kernel
theorem dX3_drawn_101 : decode cX3_drawn 101 = .ok (.ldc2_w 284, 3) := by decide +kernel
theorem dX3_drawn_104 : decode cX3_drawn 104 = .ok (.lrem, 1) := by decide +kernel
theorem dX3_drawn_105 : decode cX3_drawn 105 = .ok (.l2i, 1) := by decide +kernel
theorem dX3_drawn_106 : decode cX3_drawn 106 = .ok (.aload_n 0, 1) := by decide +kernel
theorem dX3_drawn_107 : decode cX3_drawn 107 = .ok (.getfield 38, 3) := by decide +kernel
theorem dX3_drawn_110 : decode cX3_drawn 110 = .ok (.invokevirtual 216, 3) := by decide +kernel
theorem dX3_drawn_113 : decode cX3_drawn 113 = .ok (.iand, 1) := by decide +kernel
theorem dX3_drawn_114 : decode cX3_drawn 114 = .ok (.istore 9, 2) := by decide +kernel
theorem dX3_drawn_116 : decode cX3_drawn 116 = .ok (.aload_n 0, 1) := by decide +kernel
theorem dX3_drawn_117 : decode cX3_drawn 117 = .ok (.getfield 42, 3) := by decide +kernel
theorem dX3_drawn_120 : decode cX3_drawn 120 = .ok (.iload 8, 2) := by decide +kernel
theorem dX3_drawn_122 : decode cX3_drawn 122 = .ok (.iload 9, 2) := by decide +kernel
theorem dX3_drawn_124 : decode cX3_drawn 124 = .ok (.invokevirtual 150, 3) := by decide +kernel
theorem dX3_drawn_127 : decode cX3_drawn 127 = .ok (.ifCond .eq 6, 3) := by decide +kernel
theorem dX3_drawn_130 : decode cX3_drawn 130 = .ok (.iinc 4 1, 3) := by decide +kernel
theorem dX3_drawn_133 : decode cX3_drawn 133 = .ok (.iinc 7 1, 3) := by decide +kernel
theorem dX3_drawn_136 : decode cX3_drawn 136 = .ok (.goto (-69), 3) := by decide +kernel
theorem dX3_drawn_139 : decode cX3_drawn 139 = .ok (.iload_n 3, 1) := by decide +kernel
theorem dX3_drawn_140 : decode cX3_drawn 140 = .ok (.ifCond .ne 8, 3) := by decide +kernel
theorem dX3_drawn_143 : decode cX3_drawn 143 = .ok (.iload 4, 2) := by decide +kernel
theorem dX3_drawn_145 : decode cX3_drawn 145 = .ok (.goto 10, 3) := by decide +kernel
theorem dX3_drawn_148 : decode cX3_drawn 148 = .ok (.aload_n 0, 1) := by decide +kernel
theorem dX3_drawn_149 : decode cX3_drawn 149 = .ok (.getfield 42, 3) := by decide +kernel
theorem dX3_drawn_152 : decode cX3_drawn 152 = .ok (.invokevirtual 286, 3) := by decide +kernel
theorem dX3_drawn_155 : decode cX3_drawn 155 = .ok (.ireturn, 1) := by decide +kernel
