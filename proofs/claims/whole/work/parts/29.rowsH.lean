theorem dX3_fault_0 : decode cX3_fault 0 = .ok (.aload_n 0, 1) := by decide +kernel
theorem dX3_fault_1 : decode cX3_fault 1 = .ok (.getfield 32, 3) := by decide +kernel
theorem dX3_fault_4 : decode cX3_fault 4 = .ok (.ireturn, 1) := by decide +kernel
set_option maxRecDepth 20000 in
theorem ggX3_square_X1_isSquare : GoodIn wsX3_square wsX1_isSquare := goodIn_r _ [12, 13, 14, 15, 16, 39, 40, 41, 42, 43, 44, 45, 46, 47, 48, 49, 50, 51, 52] (by decide +kernel) (by decide +kernel)
set_option maxRecDepth 20000 in
theorem gX3_square_X1_isSquare : GoodIn wsX3_square (wsV RX3 161 RX1 yX1_isSquare wsX1_isSquare) := goodIn_app (goodIn_of _ (by decide +kernel)) ggX3_square_X1_isSquare
set_option maxRecDepth 20000 in
theorem ggX3_square_X1_isCounted : GoodIn wsX3_square wsX1_isCounted := goodIn_r _ [20, 21, 22, 23, 24, 15, 25, 39, 40, 41, 42, 43, 44, 45, 46, 47, 48, 49, 50, 51, 52] (by decide +kernel) (by decide +kernel)
set_option maxRecDepth 20000 in
theorem gX3_square_X1_isCounted : GoodIn wsX3_square (wsV RX3 167 RX1 yX1_isCounted wsX1_isCounted) := goodIn_app (goodIn_of _ (by decide +kernel)) ggX3_square_X1_isCounted
theorem dX3_square_0 : decode cX3_square 0 = .ok (.aload_n 0, 1) := by decide +kernel
theorem dX3_square_1 : decode cX3_square 1 = .ok (.getfield 38, 3) := by decide +kernel
theorem dX3_square_4 : decode cX3_square 4 = .ok (.iload_n 1, 1) := by decide +kernel
theorem dX3_square_5 : decode cX3_square 5 = .ok (.invokevirtual 161, 3) := by decide +kernel
theorem dX3_square_8 : decode cX3_square 8 = .ok (.ifCond .ne 6, 3) := by decide +kernel
theorem dX3_square_11 : decode cX3_square 11 = .ok (.ldc 81, 2) := by decide +kernel
theorem dX3_square_13 : decode cX3_square 13 = .ok (.ireturn, 1) := by decide +kernel
theorem dX3_square_14 : decode cX3_square 14 = .ok (.iload_n 2, 1) := by decide +kernel
theorem dX3_square_15 : decode cX3_square 15 = .ok (.tableswitch 119 0 5 #[37, 47, 72, 89, 99, 109], 37) := by decide +kernel
theorem dX3_square_52 : decode cX3_square 52 = .ok (.aload_n 0, 1) := by decide +kernel
theorem dX3_square_53 : decode cX3_square 53 = .ok (.getfield 38, 3) := by decide +kernel
theorem dX3_square_56 : decode cX3_square 56 = .ok (.getfield 164, 3) := by decide +kernel
theorem dX3_square_59 : decode cX3_square 59 = .ok (.iload_n 1, 1) := by decide +kernel
theorem dX3_square_60 : decode cX3_square 60 = .ok (.iaload, 1) := by decide +kernel
theorem dX3_square_61 : decode cX3_square 61 = .ok (.ireturn, 1) := by decide +kernel
theorem dX3_square_62 : decode cX3_square 62 = .ok (.aload_n 0, 1) := by decide +kernel
theorem dX3_square_63 : decode cX3_square 63 = .ok (.getfield 38, 3) := by decide +kernel
theorem dX3_square_66 : decode cX3_square 66 = .ok (.getfield 164, 3) := by decide +kernel
theorem dX3_square_69 : decode cX3_square 69 = .ok (.iload_n 1, 1) := by decide +kernel
theorem dX3_square_70 : decode cX3_square 70 = .ok (.iaload, 1) := by decide +kernel
theorem dX3_square_71 : decode cX3_square 71 = .ok (.aload_n 0, 1) := by decide +kernel
theorem dX3_square_72 : decode cX3_square 72 = .ok (.getfield 38, 3) := by decide +kernel
theorem dX3_square_75 : decode cX3_square 75 = .ok (.getfield 176, 3) := by decide +kernel
theorem dX3_square_78 : decode cX3_square 78 = .ok (.if_icmp .lt 7, 3) := by decide +kernel
theorem dX3_square_81 : decode cX3_square 81 = .ok (.iconst 1, 1) := by decide +kernel
theorem dX3_square_82 : decode cX3_square 82 = .ok (.goto 4, 3) := by decide +kernel
theorem dX3_square_85 : decode cX3_square 85 = .ok (.iconst 0, 1) := by decide +kernel
theorem dX3_square_86 : decode cX3_square 86 = .ok (.ireturn, 1) := by decide +kernel
theorem dX3_square_87 : decode cX3_square 87 = .ok (.aload_n 0, 1) := by decide +kernel
theorem dX3_square_88 : decode cX3_square 88 = .ok (.getfield 38, 3) := by decide +kernel
theorem dX3_square_91 : decode cX3_square 91 = .ok (.iload_n 1, 1) := by decide +kernel
theorem dX3_square_92 : decode cX3_square 92 = .ok (.invokevirtual 167, 3) := by decide +kernel
theorem dX3_square_95 : decode cX3_square 95 = .ok (.ifCond .eq 7, 3) := by decide +kernel
theorem dX3_square_98 : decode cX3_square 98 = .ok (.iconst 1, 1) := by decide +kernel
theorem dX3_square_99 : decode cX3_square 99 = .ok (.goto 4, 3) := by decide +kernel
theorem dX3_square_102 : decode cX3_square 102 = .ok (.iconst 0, 1) := by decide +kernel
theorem dX3_square_103 : decode cX3_square 103 = .ok (.ireturn, 1) := by decide +kernel
theorem dX3_square_104 : decode cX3_square 104 = .ok (.aload_n 0, 1) := by decide +kernel
theorem dX3_square_105 : decode cX3_square 105 = .ok (.getfield 38, 3) := by decide +kernel
theorem dX3_square_108 : decode cX3_square 108 = .ok (.getfield 179, 3) := by decide +kernel
theorem dX3_square_111 : decode cX3_square 111 = .ok (.iload_n 1, 1) := by decide +kernel
theorem dX3_square_112 : decode cX3_square 112 = .ok (.iaload, 1) := by decide +kernel
theorem dX3_square_113 : decode cX3_square 113 = .ok (.ireturn, 1) := by decide +kernel
theorem dX3_square_114 : decode cX3_square 114 = .ok (.aload_n 0, 1) := by decide +kernel
theorem dX3_square_115 : decode cX3_square 115 = .ok (.getfield 38, 3) := by decide +kernel
theorem dX3_square_118 : decode cX3_square 118 = .ok (.getfield 182, 3) := by decide +kernel
theorem dX3_square_121 : decode cX3_square 121 = .ok (.iload_n 1, 1) := by decide +kernel
theorem dX3_square_122 : decode cX3_square 122 = .ok (.iaload, 1) := by decide +kernel
theorem dX3_square_123 : decode cX3_square 123 = .ok (.ireturn, 1) := by decide +kernel
theorem dX3_square_124 : decode cX3_square 124 = .ok (.aload_n 0, 1) := by decide +kernel
theorem dX3_square_125 : decode cX3_square 125 = .ok (.getfield 38, 3) := by decide +kernel
theorem dX3_square_128 : decode cX3_square 128 = .ok (.getfield 173, 3) := by decide +kernel
theorem dX3_square_131 : decode cX3_square 131 = .ok (.iload_n 1, 1) := by decide +kernel
theorem dX3_square_132 : decode cX3_square 132 = .ok (.iaload, 1) := by decide +kernel
theorem dX3_square_133 : decode cX3_square 133 = .ok (.ireturn, 1) := by decide +kernel
theorem dX3_square_134 : decode cX3_square 134 = .ok (.ldc 81, 2) := by decide +kernel
theorem dX3_square_136 : decode cX3_square 136 = .ok (.ireturn, 1) := by decide +kernel
set_option maxRecDepth 20000 in
theorem ggX3_visitor_X1_isVisitor : GoodIn wsX3_visitor wsX1_isVisitor := goodIn_r _ [11, 12, 13, 14, 15, 29, 30, 31, 32, 33, 34, 35, 36, 37, 38, 39, 40, 41, 42] (by decide +kernel) (by decide +kernel)
set_option maxRecDepth 20000 in
theorem gX3_visitor_X1_isVisitor : GoodIn wsX3_visitor (wsV RX3 141 RX1 yX1_isVisitor wsX1_isVisitor) := goodIn_app (goodIn_of _ (by decide +kernel)) ggX3_visitor_X1_isVisitor
theorem dX3_visitor_0 : decode cX3_visitor 0 = .ok (.aload_n 0, 1) := by decide +kernel
theorem dX3_visitor_1 : decode cX3_visitor 1 = .ok (.getfield 38, 3) := by decide +kernel
theorem dX3_visitor_4 : decode cX3_visitor 4 = .ok (.iload_n 1, 1) := by decide +kernel
theorem dX3_visitor_5 : decode cX3_visitor 5 = .ok (.invokevirtual 141, 3) := by decide +kernel
theorem dX3_visitor_8 : decode cX3_visitor 8 = .ok (.ifCond .ne 6, 3) := by decide +kernel
theorem dX3_visitor_11 : decode cX3_visitor 11 = .ok (.ldc 81, 2) := by decide +kernel
theorem dX3_visitor_13 : decode cX3_visitor 13 = .ok (.ireturn, 1) := by decide +kernel
theorem dX3_visitor_14 : decode cX3_visitor 14 = .ok (.iload_n 2, 1) := by decide +kernel
theorem dX3_visitor_15 : decode cX3_visitor 15 = .ok (.tableswitch 69 0 3 #[29, 39, 49, 59], 29) := by decide +kernel
theorem dX3_visitor_44 : decode cX3_visitor 44 = .ok (.aload_n 0, 1) := by decide +kernel
theorem dX3_visitor_45 : decode cX3_visitor 45 = .ok (.getfield 38, 3) := by decide +kernel
theorem dX3_visitor_48 : decode cX3_visitor 48 = .ok (.getfield 185, 3) := by decide +kernel
theorem dX3_visitor_51 : decode cX3_visitor 51 = .ok (.iload_n 1, 1) := by decide +kernel
theorem dX3_visitor_52 : decode cX3_visitor 52 = .ok (.iaload, 1) := by decide +kernel
theorem dX3_visitor_53 : decode cX3_visitor 53 = .ok (.ireturn, 1) := by decide +kernel
theorem dX3_visitor_54 : decode cX3_visitor 54 = .ok (.aload_n 0, 1) := by decide +kernel
theorem dX3_visitor_55 : decode cX3_visitor 55 = .ok (.getfield 38, 3) := by decide +kernel
theorem dX3_visitor_58 : decode cX3_visitor 58 = .ok (.getfield 188, 3) := by decide +kernel
theorem dX3_visitor_61 : decode cX3_visitor 61 = .ok (.iload_n 1, 1) := by decide +kernel
theorem dX3_visitor_62 : decode cX3_visitor 62 = .ok (.iaload, 1) := by decide +kernel
theorem dX3_visitor_63 : decode cX3_visitor 63 = .ok (.ireturn, 1) := by decide +kernel
theorem dX3_visitor_64 : decode cX3_visitor 64 = .ok (.aload_n 0, 1) := by decide +kernel
theorem dX3_visitor_65 : decode cX3_visitor 65 = .ok (.getfield 38, 3) := by decide +kernel
theorem dX3_visitor_68 : decode cX3_visitor 68 = .ok (.getfield 191, 3) := by decide +kernel
theorem dX3_visitor_71 : decode cX3_visitor 71 = .ok (.iload_n 1, 1) := by decide +kernel
theorem dX3_visitor_72 : decode cX3_visitor 72 = .ok (.iaload, 1) := by decide +kernel
theorem dX3_visitor_73 : decode cX3_visitor 73 = .ok (.ireturn, 1) := by decide +kernel
theorem dX3_visitor_74 : decode cX3_visitor 74 = .ok (.aload_n 0, 1) := by decide +kernel
theorem dX3_visitor_75 : decode cX3_visitor 75 = .ok (.getfield 38, 3) := by decide +kernel
theorem dX3_visitor_78 : decode cX3_visitor 78 = .ok (.getfield 194, 3) := by decide +kernel
theorem dX3_visitor_81 : decode cX3_visitor 81 = .ok (.iload_n 1, 1) := by decide +kernel
theorem dX3_visitor_82 : decode cX3_visitor 82 = .ok (.iaload, 1) := by decide +kernel
theorem dX3_visitor_83 : decode cX3_visitor 83 = .ok (.ireturn, 1) := by decide +kernel
theorem dX3_visitor_84 : decode cX3_visitor 84 = .ok (.ldc 81, 2) := by decide +kernel
theorem dX3_visitor_86 : decode cX3_visitor 86 = .ok (.ireturn, 1) := by decide +kernel
set_option maxRecDepth 20000 in
theorem ggX3_sees_X1_isVisitor : GoodIn wsX3_sees wsX1_isVisitor := goodIn_r _ [11, 12, 13, 14, 15, 37, 38, 39, 40, 41, 42, 43, 44, 45, 46, 47, 48, 49, 50] (by decide +kernel) (by decide +kernel)
set_option maxRecDepth 20000 in
theorem gX3_sees_X1_isVisitor : GoodIn wsX3_sees (wsV RX3 141 RX1 yX1_isVisitor wsX1_isVisitor) := goodIn_app (goodIn_of _ (by decide +kernel)) ggX3_sees_X1_isVisitor
set_option maxRecDepth 20000 in
theorem ggX3_sees_X1_isSquare : GoodIn wsX3_sees wsX1_isSquare := goodIn_r _ [19, 20, 13, 14, 15, 37, 38, 39, 40, 41, 42, 43, 44, 45, 46, 47, 48, 49, 50] (by decide +kernel) (by decide +kernel)
set_option maxRecDepth 20000 in
theorem gX3_sees_X1_isSquare : GoodIn wsX3_sees (wsV RX3 161 RX1 yX1_isSquare wsX1_isSquare) := goodIn_app (goodIn_of _ (by decide +kernel)) ggX3_sees_X1_isSquare
set_option maxRecDepth 20000 in
theorem ggX3_sees_X3_seenBy : GoodIn wsX3_sees wsX3_seenBy := goodIn_r _ [23] (by decide +kernel) (by decide +kernel)
set_option maxRecDepth 20000 in
theorem gX3_sees_X3_seenBy : GoodIn wsX3_sees (va_wsS RX3 200 yX3_seenBy wsX3_seenBy) := goodIn_app (goodIn_of _ (by decide +kernel)) ggX3_sees_X3_seenBy
theorem dX3_sees_0 : decode cX3_sees 0 = .ok (.aload_n 0, 1) := by decide +kernel
theorem dX3_sees_1 : decode cX3_sees 1 = .ok (.getfield 38, 3) := by decide +kernel
theorem dX3_sees_4 : decode cX3_sees 4 = .ok (.iload_n 1, 1) := by decide +kernel
theorem dX3_sees_5 : decode cX3_sees 5 = .ok (.invokevirtual 141, 3) := by decide +kernel
theorem dX3_sees_8 : decode cX3_sees 8 = .ok (.ifCond .eq 14, 3) := by decide +kernel
theorem dX3_sees_11 : decode cX3_sees 11 = .ok (.aload_n 0, 1) := by decide +kernel
theorem dX3_sees_12 : decode cX3_sees 12 = .ok (.getfield 38, 3) := by decide +kernel
theorem dX3_sees_15 : decode cX3_sees 15 = .ok (.iload_n 2, 1) := by decide +kernel
theorem dX3_sees_16 : decode cX3_sees 16 = .ok (.invokevirtual 161, 3) := by decide +kernel
theorem dX3_sees_19 : decode cX3_sees 19 = .ok (.ifCond .ne 6, 3) := by decide +kernel
theorem dX3_sees_22 : decode cX3_sees 22 = .ok (.ldc 81, 2) := by decide +kernel
theorem dX3_sees_24 : decode cX3_sees 24 = .ok (.ireturn, 1) := by decide +kernel
theorem dX3_sees_25 : decode cX3_sees 25 = .ok (.aload_n 0, 1) := by decide +kernel
theorem dX3_sees_26 : decode cX3_sees 26 = .ok (.getfield 38, 3) := by decide +kernel
theorem dX3_sees_29 : decode cX3_sees 29 = .ok (.getfield 185, 3) := by decide +kernel
theorem dX3_sees_32 : decode cX3_sees 32 = .ok (.iload_n 1, 1) := by decide +kernel
theorem dX3_sees_33 : decode cX3_sees 33 = .ok (.iaload, 1) := by decide +kernel
theorem dX3_sees_34 : decode cX3_sees 34 = .ok (.aload_n 0, 1) := by decide +kernel
theorem dX3_sees_35 : decode cX3_sees 35 = .ok (.getfield 38, 3) := by decide +kernel
theorem dX3_sees_38 : decode cX3_sees 38 = .ok (.getfield 188, 3) := by decide +kernel
theorem dX3_sees_41 : decode cX3_sees 41 = .ok (.iload_n 1, 1) := by decide +kernel
theorem dX3_sees_42 : decode cX3_sees 42 = .ok (.iaload, 1) := by decide +kernel
theorem dX3_sees_43 : decode cX3_sees 43 = .ok (.aload_n 0, 1) := by decide +kernel
theorem dX3_sees_44 : decode cX3_sees 44 = .ok (.getfield 38, 3) := by decide +kernel
theorem dX3_sees_47 : decode cX3_sees 47 = .ok (.getfield 197, 3) := by decide +kernel
theorem dX3_sees_50 : decode cX3_sees 50 = .ok (.iload_n 2, 1) := by decide +kernel
theorem dX3_sees_51 : decode cX3_sees 51 = .ok (.iaload, 1) := by decide +kernel
theorem dX3_sees_52 : decode cX3_sees 52 = .ok (.aload_n 0, 1) := by decide +kernel
theorem dX3_sees_53 : decode cX3_sees 53 = .ok (.getfield 38, 3) := by decide +kernel
theorem dX3_sees_56 : decode cX3_sees 56 = .ok (.getfield 164, 3) := by decide +kernel
theorem dX3_sees_59 : decode cX3_sees 59 = .ok (.iload_n 2, 1) := by decide +kernel
theorem dX3_sees_60 : decode cX3_sees 60 = .ok (.iaload, 1) := by decide +kernel
theorem dX3_sees_61 : decode cX3_sees 61 = .ok (.invokestatic 200, 3) := by decide +kernel
theorem dX3_sees_64 : decode cX3_sees 64 = .ok (.ireturn, 1) := by decide +kernel
set_option maxRecDepth 20000 in
theorem ggX3_clicks_X1_isVisitor : GoodIn wsX3_clicks wsX1_isVisitor := goodIn_r _ [7, 8, 9, 10, 11, 39, 40, 41, 42, 43, 44, 45, 46, 47, 48, 49, 50, 51, 52] (by decide +kernel) (by decide +kernel)
set_option maxRecDepth 20000 in
theorem gX3_clicks_X1_isVisitor : GoodIn wsX3_clicks (wsV RX3 141 RX1 yX1_isVisitor wsX1_isVisitor) := goodIn_app (goodIn_of _ (by decide +kernel)) ggX3_clicks_X1_isVisitor
set_option maxRecDepth 20000 in
theorem ggX3_clicks_X1_clickBits : GoodIn wsX3_clicks wsX1_clickBits := goodIn_r _ [15, 16, 17, 18, 19, 20, 21, 10, 22, 23, 24, 25, 39, 40, 41, 42, 43, 44, 45, 46, 47, 48, 49, 50, 51, 52] (by decide +kernel) (by decide +kernel)
set_option maxRecDepth 20000 in
theorem gX3_clicks_X1_clickBits : GoodIn wsX3_clicks (wsV RX3 204 RX1 yX1_clickBits wsX1_clickBits) := goodIn_app (goodIn_of _ (by decide +kernel)) ggX3_clicks_X1_clickBits
theorem dX3_clicks_0 : decode cX3_clicks 0 = .ok (.aload_n 0, 1) := by decide +kernel
theorem dX3_clicks_1 : decode cX3_clicks 1 = .ok (.getfield 38, 3) := by decide +kernel
theorem dX3_clicks_4 : decode cX3_clicks 4 = .ok (.iload_n 1, 1) := by decide +kernel
theorem dX3_clicks_5 : decode cX3_clicks 5 = .ok (.invokevirtual 141, 3) := by decide +kernel
theorem dX3_clicks_8 : decode cX3_clicks 8 = .ok (.ifCond .eq 14, 3) := by decide +kernel
theorem dX3_clicks_11 : decode cX3_clicks 11 = .ok (.aload_n 0, 1) := by decide +kernel
theorem dX3_clicks_12 : decode cX3_clicks 12 = .ok (.getfield 38, 3) := by decide +kernel
theorem dX3_clicks_15 : decode cX3_clicks 15 = .ok (.iload_n 1, 1) := by decide +kernel
theorem dX3_clicks_16 : decode cX3_clicks 16 = .ok (.invokevirtual 204, 3) := by decide +kernel
theorem dX3_clicks_19 : decode cX3_clicks 19 = .ok (.goto 5, 3) := by decide +kernel
theorem dX3_clicks_22 : decode cX3_clicks 22 = .ok (.ldc 81, 2) := by decide +kernel
theorem dX3_clicks_24 : decode cX3_clicks 24 = .ok (.ireturn, 1) := by decide +kernel
set_option maxRecDepth 20000 in
theorem ggX3_wrong_X1_isVisitor : GoodIn wsX3_wrong wsX1_isVisitor := goodIn_r _ [7, 8, 9, 10, 11, 79, 80, 81, 82, 83, 84, 85, 86, 87, 88, 89, 90, 91, 92] (by decide +kernel) (by decide +kernel)
set_option maxRecDepth 20000 in
theorem gX3_wrong_X1_isVisitor : GoodIn wsX3_wrong (wsV RX3 141 RX1 yX1_isVisitor wsX1_isVisitor) := goodIn_app (goodIn_of _ (by decide +kernel)) ggX3_wrong_X1_isVisitor
set_option maxRecDepth 20000 in
theorem ggX3_wrong_X1_areSquares : GoodIn wsX3_wrong wsX1_areSquares := goodIn_r _ [15, 16, 17, 18, 6, 19, 20, 9, 10, 11, 79, 80, 81, 82, 83, 84, 85, 86, 87, 88, 89, 90, 91, 92] (by decide +kernel) (by decide +kernel)
set_option maxRecDepth 20000 in
theorem gX3_wrong_X1_areSquares : GoodIn wsX3_wrong (wsV RX3 144 RX1 yX1_areSquares wsX1_areSquares) := goodIn_app (goodIn_of _ (by decide +kernel)) ggX3_wrong_X1_areSquares
set_option maxRecDepth 20000 in
theorem ggX3_wrong_X1_timesWrong : GoodIn wsX3_wrong wsX1_timesWrong := goodIn_r _ [24, 25, 26, 27, 6, 28, 29, 30, 31, 32, 20, 33, 34, 35, 36, 37, 10, 38, 39, 40, 41, 42, 43, 44, 45, 46, 47, 48, 49, 50, 51, 52, 53, 54, 55, 56, 57, 58, 59, 60, 61, 62, 63, 64, 65, 79, 80, 81, 82, 83, 84, 85, 86, 87, 88, 89, 90, 91, 92] (by decide +kernel) (by decide +kernel)
set_option maxRecDepth 20000 in
theorem gX3_wrong_X1_timesWrong : GoodIn wsX3_wrong (wsV RX3 207 RX1 yX1_timesWrong wsX1_timesWrong) := goodIn_app (goodIn_of _ (by decide +kernel)) ggX3_wrong_X1_timesWrong
theorem dX3_wrong_0 : decode cX3_wrong 0 = .ok (.aload_n 0, 1) := by decide +kernel
theorem dX3_wrong_1 : decode cX3_wrong 1 = .ok (.getfield 38, 3) := by decide +kernel
theorem dX3_wrong_4 : decode cX3_wrong 4 = .ok (.iload_n 1, 1) := by decide +kernel
theorem dX3_wrong_5 : decode cX3_wrong 5 = .ok (.invokevirtual 141, 3) := by decide +kernel
theorem dX3_wrong_8 : decode cX3_wrong 8 = .ok (.ifCond .eq 14, 3) := by decide +kernel
theorem dX3_wrong_11 : decode cX3_wrong 11 = .ok (.aload_n 0, 1) := by decide +kernel
theorem dX3_wrong_12 : decode cX3_wrong 12 = .ok (.getfield 38, 3) := by decide +kernel
theorem dX3_wrong_15 : decode cX3_wrong 15 = .ok (.iload_n 2, 1) := by decide +kernel
theorem dX3_wrong_16 : decode cX3_wrong 16 = .ok (.invokevirtual 144, 3) := by decide +kernel
theorem dX3_wrong_19 : decode cX3_wrong 19 = .ok (.ifCond .ne 6, 3) := by decide +kernel
theorem dX3_wrong_22 : decode cX3_wrong 22 = .ok (.ldc 81, 2) := by decide +kernel
theorem dX3_wrong_24 : decode cX3_wrong 24 = .ok (.ireturn, 1) := by decide +kernel
theorem dX3_wrong_25 : decode cX3_wrong 25 = .ok (.aload_n 0, 1) := by decide +kernel
theorem dX3_wrong_26 : decode cX3_wrong 26 = .ok (.getfield 38, 3) := by decide +kernel
theorem dX3_wrong_29 : decode cX3_wrong 29 = .ok (.iload_n 1, 1) := by decide +kernel
theorem dX3_wrong_30 : decode cX3_wrong 30 = .ok (.iload_n 2, 1) := by decide +kernel
theorem dX3_wrong_31 : decode cX3_wrong 31 = .ok (.invokevirtual 207, 3) := by decide +kernel
theorem dX3_wrong_34 : decode cX3_wrong 34 = .ok (.ireturn, 1) := by decide +kernel
set_option maxRecDepth 20000 in
theorem ggX3_kind_X1_isSquare : GoodIn wsX3_kind wsX1_isSquare := goodIn_r _ [8, 9, 10, 11, 12, 26, 27, 28, 29, 30, 31, 32, 33, 34, 35, 36, 37, 38, 39] (by decide +kernel) (by decide +kernel)
set_option maxRecDepth 20000 in
theorem gX3_kind_X1_isSquare : GoodIn wsX3_kind (wsV RX3 161 RX1 yX1_isSquare wsX1_isSquare) := goodIn_app (goodIn_of _ (by decide +kernel)) ggX3_kind_X1_isSquare
theorem dX3_kind_0 : decode cX3_kind 0 = .ok (.aload_n 0, 1) := by decide +kernel
theorem dX3_kind_1 : decode cX3_kind 1 = .ok (.getfield 38, 3) := by decide +kernel
theorem dX3_kind_4 : decode cX3_kind 4 = .ok (.iload_n 1, 1) := by decide +kernel
theorem dX3_kind_5 : decode cX3_kind 5 = .ok (.invokevirtual 161, 3) := by decide +kernel
theorem dX3_kind_8 : decode cX3_kind 8 = .ok (.ifCond .eq 15, 3) := by decide +kernel
theorem dX3_kind_11 : decode cX3_kind 11 = .ok (.aload_n 0, 1) := by decide +kernel
theorem dX3_kind_12 : decode cX3_kind 12 = .ok (.getfield 38, 3) := by decide +kernel
theorem dX3_kind_15 : decode cX3_kind 15 = .ok (.getfield 197, 3) := by decide +kernel
theorem dX3_kind_18 : decode cX3_kind 18 = .ok (.iload_n 1, 1) := by decide +kernel
theorem dX3_kind_19 : decode cX3_kind 19 = .ok (.iaload, 1) := by decide +kernel
theorem dX3_kind_20 : decode cX3_kind 20 = .ok (.goto 5, 3) := by decide +kernel
theorem dX3_kind_23 : decode cX3_kind 23 = .ok (.ldc 81, 2) := by decide +kernel
theorem dX3_kind_25 : decode cX3_kind 25 = .ok (.ireturn, 1) := by decide +kernel
theorem dX3_status_0 : decode cX3_status 0 = .ok (.aload_n 0, 1) := by decide +kernel
theorem dX3_status_1 : decode cX3_status 1 = .ok (.getfield 21, 3) := by decide +kernel
theorem dX3_status_4 : decode cX3_status 4 = .ok (.ireturn, 1) := by decide +kernel
