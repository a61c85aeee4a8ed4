theorem dX4_fault_0 : decode cX4_fault 0 = .ok (.aload_n 0, 1) := by decide +kernel
theorem dX4_fault_1 : decode cX4_fault 1 = .ok (.iconst 0, 1) := by decide +kernel
theorem dX4_fault_2 : decode cX4_fault 2 = .ok (.putfield 48, 3) := by decide +kernel
theorem dX4_fault_5 : decode cX4_fault 5 = .ok (.aload_n 0, 1) := by decide +kernel
theorem dX4_fault_6 : decode cX4_fault 6 = .ok (.getfield 117, 3) := by decide +kernel
theorem dX4_fault_9 : decode cX4_fault 9 = .ok (.ireturn, 1) := by decide +kernel
set_option maxRecDepth 20000 in
theorem ggX4_square_X4_isSquare : GoodIn wsX4_square wsX4_isSquare := goodIn_r _ [9, 3, 10, 11, 8, 12, 19, 20, 21, 22, 23, 24, 25, 26, 27, 28, 29, 30, 31, 32, 33, 34, 35, 36, 37, 38, 39, 40, 41, 42] (by decide +kernel) (by decide +kernel)
set_option maxRecDepth 20000 in
theorem gX4_square_X4_isSquare : GoodIn wsX4_square (wsV RX4 207 RX4 yX4_isSquare wsX4_isSquare) := goodIn_app (goodIn_of _ (by decide +kernel)) ggX4_square_X4_isSquare
set_option maxRecDepth 20000 in
theorem ggX4_square_X4_of : GoodIn wsX4_square wsX4_of := goodIn_r _ [15] (by decide +kernel) (by decide +kernel)
set_option maxRecDepth 20000 in
theorem gX4_square_X4_of : GoodIn wsX4_square (va_wsS RX4 157 yX4_of wsX4_of) := goodIn_app (goodIn_of _ (by decide +kernel)) ggX4_square_X4_of
set_option maxRecDepth 20000 in
theorem ggX4_square_X4_counts : GoodIn wsX4_square wsX4_counts := goodIn_r _ [18, 13, 14, 8, 15] (by decide +kernel) (by decide +kernel)
set_option maxRecDepth 20000 in
theorem gX4_square_X4_counts : GoodIn wsX4_square (va_wsS RX4 168 yX4_counts wsX4_counts) := goodIn_app (goodIn_of _ (by decide +kernel)) ggX4_square_X4_counts
theorem dX4_square_0 : decode cX4_square 0 = .ok (.aload_n 0, 1) := by decide +kernel
theorem dX4_square_1 : decode cX4_square 1 = .ok (.iconst 0, 1) := by decide +kernel
theorem dX4_square_2 : decode cX4_square 2 = .ok (.putfield 48, 3) := by decide +kernel
theorem dX4_square_5 : decode cX4_square 5 = .ok (.aload_n 0, 1) := by decide +kernel
theorem dX4_square_6 : decode cX4_square 6 = .ok (.iload_n 1, 1) := by decide +kernel
theorem dX4_square_7 : decode cX4_square 7 = .ok (.invokevirtual 207, 3) := by decide +kernel
theorem dX4_square_10 : decode cX4_square 10 = .ok (.ifCond .ne 6, 3) := by decide +kernel
theorem dX4_square_13 : decode cX4_square 13 = .ok (.ldc 68, 2) := by decide +kernel
theorem dX4_square_15 : decode cX4_square 15 = .ok (.ireturn, 1) := by decide +kernel
theorem dX4_square_16 : decode cX4_square 16 = .ok (.iload_n 2, 1) := by decide +kernel
theorem dX4_square_17 : decode cX4_square 17 = .ok (.tableswitch 139 0 5 #[39, 49, 73, 90, 100, 110], 39) := by decide +kernel
theorem dX4_square_56 : decode cX4_square 56 = .ok (.aload_n 0, 1) := by decide +kernel
theorem dX4_square_57 : decode cX4_square 57 = .ok (.getfield 19, 3) := by decide +kernel
theorem dX4_square_60 : decode cX4_square 60 = .ok (.iload_n 1, 1) := by decide +kernel
theorem dX4_square_61 : decode cX4_square 61 = .ok (.iconst 1, 1) := by decide +kernel
theorem dX4_square_62 : decode cX4_square 62 = .ok (.invokestatic 157, 3) := by decide +kernel
theorem dX4_square_65 : decode cX4_square 65 = .ok (.ireturn, 1) := by decide +kernel
theorem dX4_square_66 : decode cX4_square 66 = .ok (.aload_n 0, 1) := by decide +kernel
theorem dX4_square_67 : decode cX4_square 67 = .ok (.getfield 19, 3) := by decide +kernel
theorem dX4_square_70 : decode cX4_square 70 = .ok (.iload_n 1, 1) := by decide +kernel
theorem dX4_square_71 : decode cX4_square 71 = .ok (.iconst 1, 1) := by decide +kernel
theorem dX4_square_72 : decode cX4_square 72 = .ok (.invokestatic 157, 3) := by decide +kernel
theorem dX4_square_75 : decode cX4_square 75 = .ok (.aload_n 0, 1) := by decide +kernel
theorem dX4_square_76 : decode cX4_square 76 = .ok (.getfield 19, 3) := by decide +kernel
theorem dX4_square_79 : decode cX4_square 79 = .ok (.iconst 0, 1) := by decide +kernel
theorem dX4_square_80 : decode cX4_square 80 = .ok (.iaload, 1) := by decide +kernel
theorem dX4_square_81 : decode cX4_square 81 = .ok (.if_icmp .lt 7, 3) := by decide +kernel
theorem dX4_square_84 : decode cX4_square 84 = .ok (.iconst 1, 1) := by decide +kernel
theorem dX4_square_85 : decode cX4_square 85 = .ok (.goto 4, 3) := by decide +kernel
theorem dX4_square_88 : decode cX4_square 88 = .ok (.iconst 0, 1) := by decide +kernel
theorem dX4_square_89 : decode cX4_square 89 = .ok (.ireturn, 1) := by decide +kernel
theorem dX4_square_90 : decode cX4_square 90 = .ok (.aload_n 0, 1) := by decide +kernel
theorem dX4_square_91 : decode cX4_square 91 = .ok (.getfield 19, 3) := by decide +kernel
theorem dX4_square_94 : decode cX4_square 94 = .ok (.iload_n 1, 1) := by decide +kernel
theorem dX4_square_95 : decode cX4_square 95 = .ok (.invokestatic 168, 3) := by decide +kernel
theorem dX4_square_98 : decode cX4_square 98 = .ok (.ifCond .eq 7, 3) := by decide +kernel
theorem dX4_square_101 : decode cX4_square 101 = .ok (.iconst 1, 1) := by decide +kernel
theorem dX4_square_102 : decode cX4_square 102 = .ok (.goto 4, 3) := by decide +kernel
theorem dX4_square_105 : decode cX4_square 105 = .ok (.iconst 0, 1) := by decide +kernel
theorem dX4_square_106 : decode cX4_square 106 = .ok (.ireturn, 1) := by decide +kernel
theorem dX4_square_107 : decode cX4_square 107 = .ok (.aload_n 0, 1) := by decide +kernel
theorem dX4_square_108 : decode cX4_square 108 = .ok (.getfield 19, 3) := by decide +kernel
theorem dX4_square_111 : decode cX4_square 111 = .ok (.iload_n 1, 1) := by decide +kernel
theorem dX4_square_112 : decode cX4_square 112 = .ok (.iconst 2, 1) := by decide +kernel
theorem dX4_square_113 : decode cX4_square 113 = .ok (.invokestatic 157, 3) := by decide +kernel
theorem dX4_square_116 : decode cX4_square 116 = .ok (.ireturn, 1) := by decide +kernel
theorem dX4_square_117 : decode cX4_square 117 = .ok (.aload_n 0, 1) := by decide +kernel
theorem dX4_square_118 : decode cX4_square 118 = .ok (.getfield 19, 3) := by decide +kernel
theorem dX4_square_121 : decode cX4_square 121 = .ok (.iload_n 1, 1) := by decide +kernel
theorem dX4_square_122 : decode cX4_square 122 = .ok (.iconst 3, 1) := by decide +kernel
theorem dX4_square_123 : decode cX4_square 123 = .ok (.invokestatic 157, 3) := by decide +kernel
theorem dX4_square_126 : decode cX4_square 126 = .ok (.ireturn, 1) := by decide +kernel
theorem dX4_square_127 : decode cX4_square 127 = .ok (.aload_n 0, 1) := by decide +kernel
theorem dX4_square_128 : decode cX4_square 128 = .ok (.getfield 19, 3) := by decide +kernel
theorem dX4_square_131 : decode cX4_square 131 = .ok (.iload_n 1, 1) := by decide +kernel
theorem dX4_square_132 : decode cX4_square 132 = .ok (.iconst 4, 1) := by decide +kernel
theorem dX4_square_133 : decode cX4_square 133 = .ok (.invokestatic 157, 3) := by decide +kernel
theorem dX4_square_136 : decode cX4_square 136 = .ok (.ifCond .ne 8, 3) := by decide +kernel
theorem dX4_square_139 : decode cX4_square 139 = .ok (.ldc 91, 2) := by decide +kernel
theorem dX4_square_141 : decode cX4_square 141 = .ok (.goto 14, 3) := by decide +kernel
theorem dX4_square_144 : decode cX4_square 144 = .ok (.aload_n 0, 1) := by decide +kernel
theorem dX4_square_145 : decode cX4_square 145 = .ok (.getfield 19, 3) := by decide +kernel
theorem dX4_square_148 : decode cX4_square 148 = .ok (.iload_n 1, 1) := by decide +kernel
theorem dX4_square_149 : decode cX4_square 149 = .ok (.iconst 4, 1) := by decide +kernel
theorem dX4_square_150 : decode cX4_square 150 = .ok (.invokestatic 157, 3) := by decide +kernel
theorem dX4_square_153 : decode cX4_square 153 = .ok (.iconst 1, 1) := by decide +kernel
theorem dX4_square_154 : decode cX4_square 154 = .ok (.isub, 1) := by decide +kernel
theorem dX4_square_155 : decode cX4_square 155 = .ok (.ireturn, 1) := by decide +kernel
theorem dX4_square_156 : decode cX4_square 156 = .ok (.ldc 68, 2) := by decide +kernel
theorem dX4_square_158 : decode cX4_square 158 = .ok (.ireturn, 1) := by decide +kernel
set_option maxRecDepth 20000 in
theorem ggX4_sees_X4_isVisitor : GoodIn wsX4_sees wsX4_isVisitor := goodIn_r _ [8, 3, 9, 10, 7, 11, 25, 26, 27, 28, 29, 30, 31, 32, 33, 34, 35, 36, 37, 38, 39, 40, 41, 42, 43, 44, 45, 46, 47, 48] (by decide +kernel) (by decide +kernel)
set_option maxRecDepth 20000 in
theorem gX4_sees_X4_isVisitor : GoodIn wsX4_sees (wsV RX4 189 RX4 yX4_isVisitor wsX4_isVisitor) := goodIn_app (goodIn_of _ (by decide +kernel)) ggX4_sees_X4_isVisitor
set_option maxRecDepth 20000 in
theorem ggX4_sees_X4_isSquare : GoodIn wsX4_sees wsX4_isSquare := goodIn_r _ [15, 3, 9, 10, 7, 11, 25, 26, 27, 28, 29, 30, 31, 32, 33, 34, 35, 36, 37, 38, 39, 40, 41, 42, 43, 44, 45, 46, 47, 48] (by decide +kernel) (by decide +kernel)
set_option maxRecDepth 20000 in
theorem gX4_sees_X4_isSquare : GoodIn wsX4_sees (wsV RX4 207 RX4 yX4_isSquare wsX4_isSquare) := goodIn_app (goodIn_of _ (by decide +kernel)) ggX4_sees_X4_isSquare
set_option maxRecDepth 20000 in
theorem ggX4_sees_X4_of : GoodIn wsX4_sees wsX4_of := goodIn_r _ [18] (by decide +kernel) (by decide +kernel)
set_option maxRecDepth 20000 in
theorem gX4_sees_X4_of : GoodIn wsX4_sees (va_wsS RX4 157 yX4_of wsX4_of) := goodIn_app (goodIn_of _ (by decide +kernel)) ggX4_sees_X4_of
set_option maxRecDepth 20000 in
theorem ggX4_sees_X4_guest : GoodIn wsX4_sees wsX4_guest := goodIn_r _ [21] (by decide +kernel) (by decide +kernel)
set_option maxRecDepth 20000 in
theorem gX4_sees_X4_guest : GoodIn wsX4_sees (va_wsS RX4 161 yX4_guest wsX4_guest) := goodIn_app (goodIn_of _ (by decide +kernel)) ggX4_sees_X4_guest
set_option maxRecDepth 20000 in
theorem ggX4_sees_X4_seesBy : GoodIn wsX4_sees wsX4_seesBy := goodIn_r _ [24] (by decide +kernel) (by decide +kernel)
set_option maxRecDepth 20000 in
theorem gX4_sees_X4_seesBy : GoodIn wsX4_sees (va_wsS RX4 153 yX4_seesBy wsX4_seesBy) := goodIn_app (goodIn_of _ (by decide +kernel)) ggX4_sees_X4_seesBy
theorem dX4_sees_0 : decode cX4_sees 0 = .ok (.aload_n 0, 1) := by decide +kernel
theorem dX4_sees_1 : decode cX4_sees 1 = .ok (.iconst 0, 1) := by decide +kernel
theorem dX4_sees_2 : decode cX4_sees 2 = .ok (.putfield 48, 3) := by decide +kernel
theorem dX4_sees_5 : decode cX4_sees 5 = .ok (.aload_n 0, 1) := by decide +kernel
theorem dX4_sees_6 : decode cX4_sees 6 = .ok (.iload_n 1, 1) := by decide +kernel
theorem dX4_sees_7 : decode cX4_sees 7 = .ok (.invokevirtual 189, 3) := by decide +kernel
theorem dX4_sees_10 : decode cX4_sees 10 = .ok (.ifCond .eq 11, 3) := by decide +kernel
theorem dX4_sees_13 : decode cX4_sees 13 = .ok (.aload_n 0, 1) := by decide +kernel
theorem dX4_sees_14 : decode cX4_sees 14 = .ok (.iload_n 2, 1) := by decide +kernel
theorem dX4_sees_15 : decode cX4_sees 15 = .ok (.invokevirtual 207, 3) := by decide +kernel
theorem dX4_sees_18 : decode cX4_sees 18 = .ok (.ifCond .ne 6, 3) := by decide +kernel
theorem dX4_sees_21 : decode cX4_sees 21 = .ok (.ldc 68, 2) := by decide +kernel
theorem dX4_sees_23 : decode cX4_sees 23 = .ok (.ireturn, 1) := by decide +kernel
theorem dX4_sees_24 : decode cX4_sees 24 = .ok (.aload_n 0, 1) := by decide +kernel
theorem dX4_sees_25 : decode cX4_sees 25 = .ok (.getfield 19, 3) := by decide +kernel
theorem dX4_sees_28 : decode cX4_sees 28 = .ok (.iload_n 2, 1) := by decide +kernel
theorem dX4_sees_29 : decode cX4_sees 29 = .ok (.iconst 0, 1) := by decide +kernel
theorem dX4_sees_30 : decode cX4_sees 30 = .ok (.invokestatic 157, 3) := by decide +kernel
theorem dX4_sees_33 : decode cX4_sees 33 = .ok (.aload_n 0, 1) := by decide +kernel
theorem dX4_sees_34 : decode cX4_sees 34 = .ok (.getfield 19, 3) := by decide +kernel
theorem dX4_sees_37 : decode cX4_sees 37 = .ok (.iload_n 2, 1) := by decide +kernel
theorem dX4_sees_38 : decode cX4_sees 38 = .ok (.iconst 1, 1) := by decide +kernel
theorem dX4_sees_39 : decode cX4_sees 39 = .ok (.invokestatic 157, 3) := by decide +kernel
theorem dX4_sees_42 : decode cX4_sees 42 = .ok (.aload_n 0, 1) := by decide +kernel
theorem dX4_sees_43 : decode cX4_sees 43 = .ok (.getfield 19, 3) := by decide +kernel
theorem dX4_sees_46 : decode cX4_sees 46 = .ok (.iload_n 1, 1) := by decide +kernel
theorem dX4_sees_47 : decode cX4_sees 47 = .ok (.iconst 0, 1) := by decide +kernel
theorem dX4_sees_48 : decode cX4_sees 48 = .ok (.invokestatic 161, 3) := by decide +kernel
theorem dX4_sees_51 : decode cX4_sees 51 = .ok (.aload_n 0, 1) := by decide +kernel
theorem dX4_sees_52 : decode cX4_sees 52 = .ok (.getfield 19, 3) := by decide +kernel
theorem dX4_sees_55 : decode cX4_sees 55 = .ok (.iload_n 1, 1) := by decide +kernel
theorem dX4_sees_56 : decode cX4_sees 56 = .ok (.iconst 1, 1) := by decide +kernel
theorem dX4_sees_57 : decode cX4_sees 57 = .ok (.invokestatic 161, 3) := by decide +kernel
theorem dX4_sees_60 : decode cX4_sees 60 = .ok (.invokestatic 153, 3) := by decide +kernel
theorem dX4_sees_63 : decode cX4_sees 63 = .ok (.ireturn, 1) := by decide +kernel
set_option maxRecDepth 20000 in
theorem ggX4_clicks_X4_isVisitor : GoodIn wsX4_clicks wsX4_isVisitor := goodIn_r _ [7, 8, 9, 10, 6, 11, 31, 32, 33, 34, 35, 36, 37, 38, 39, 40, 41, 42, 43, 44, 45, 46, 47, 48, 49, 50, 51, 52, 53, 54] (by decide +kernel) (by decide +kernel)
set_option maxRecDepth 20000 in
theorem gX4_clicks_X4_isVisitor : GoodIn wsX4_clicks (wsV RX4 189 RX4 yX4_isVisitor wsX4_isVisitor) := goodIn_app (goodIn_of _ (by decide +kernel)) ggX4_clicks_X4_isVisitor
set_option maxRecDepth 20000 in
theorem ggX4_clicks_X4_clicksOf : GoodIn wsX4_clicks wsX4_clicksOf := goodIn_r _ [15, 8, 16, 17, 6, 18, 19, 20, 21, 22, 23, 24, 25, 26, 27, 28, 29, 30, 31, 32, 33, 34, 35, 36, 37, 38, 39, 40, 41, 42, 43, 44, 45, 46, 47, 48, 49, 50, 51, 52, 53, 54] (by decide +kernel) (by decide +kernel)
set_option maxRecDepth 20000 in
theorem gX4_clicks_X4_clicksOf : GoodIn wsX4_clicks (wsV RX4 214 RX4 yX4_clicksOf wsX4_clicksOf) := goodIn_app (goodIn_of _ (by decide +kernel)) ggX4_clicks_X4_clicksOf
theorem dX4_clicks_0 : decode cX4_clicks 0 = .ok (.aload_n 0, 1) := by decide +kernel
theorem dX4_clicks_1 : decode cX4_clicks 1 = .ok (.iconst 0, 1) := by decide +kernel
theorem dX4_clicks_2 : decode cX4_clicks 2 = .ok (.putfield 48, 3) := by decide +kernel
theorem dX4_clicks_5 : decode cX4_clicks 5 = .ok (.aload_n 0, 1) := by decide +kernel
theorem dX4_clicks_6 : decode cX4_clicks 6 = .ok (.iload_n 1, 1) := by decide +kernel
theorem dX4_clicks_7 : decode cX4_clicks 7 = .ok (.invokevirtual 189, 3) := by decide +kernel
theorem dX4_clicks_10 : decode cX4_clicks 10 = .ok (.ifCond .eq 11, 3) := by decide +kernel
theorem dX4_clicks_13 : decode cX4_clicks 13 = .ok (.aload_n 0, 1) := by decide +kernel
theorem dX4_clicks_14 : decode cX4_clicks 14 = .ok (.iload_n 1, 1) := by decide +kernel
theorem dX4_clicks_15 : decode cX4_clicks 15 = .ok (.invokevirtual 214, 3) := by decide +kernel
theorem dX4_clicks_18 : decode cX4_clicks 18 = .ok (.goto 5, 3) := by decide +kernel
theorem dX4_clicks_21 : decode cX4_clicks 21 = .ok (.ldc 68, 2) := by decide +kernel
theorem dX4_clicks_23 : decode cX4_clicks 23 = .ok (.ireturn, 1) := by decide +kernel
set_option maxRecDepth 20000 in
theorem ggX4_wrong_X4_isVisitor : GoodIn wsX4_wrong wsX4_isVisitor := goodIn_r _ [8, 2, 9, 10, 7, 11, 46, 47, 48, 49, 50, 51, 52, 53, 54, 55, 56, 57, 58, 59, 60, 61, 62, 63, 64, 65, 66, 67, 68, 69] (by decide +kernel) (by decide +kernel)
set_option maxRecDepth 20000 in
theorem gX4_wrong_X4_isVisitor : GoodIn wsX4_wrong (wsV RX4 189 RX4 yX4_isVisitor wsX4_isVisitor) := goodIn_app (goodIn_of _ (by decide +kernel)) ggX4_wrong_X4_isVisitor
set_option maxRecDepth 20000 in
theorem ggX4_wrong_X4_areSquares : GoodIn wsX4_wrong wsX4_areSquares := goodIn_r _ [15, 2, 9, 10, 7, 11, 46, 47, 48, 49, 50, 51, 52, 53, 54, 55, 56, 57, 58, 59, 60, 61, 62, 63, 64, 65, 66, 67, 68, 69] (by decide +kernel) (by decide +kernel)
set_option maxRecDepth 20000 in
theorem gX4_wrong_X4_areSquares : GoodIn wsX4_wrong (wsV RX4 192 RX4 yX4_areSquares wsX4_areSquares) := goodIn_app (goodIn_of _ (by decide +kernel)) ggX4_wrong_X4_areSquares
set_option maxRecDepth 20000 in
theorem ggX4_wrong_X4_wrongOf : GoodIn wsX4_wrong wsX4_wrongOf := goodIn_r _ [18, 19, 20, 7, 21, 22, 23, 24, 25, 26, 27, 28, 29, 30, 31, 32, 33, 34, 35, 36, 37, 38, 39, 40, 41, 42, 43, 44, 45] (by decide +kernel) (by decide +kernel)
set_option maxRecDepth 20000 in
theorem gX4_wrong_X4_wrongOf : GoodIn wsX4_wrong (va_wsS RX4 186 yX4_wrongOf wsX4_wrongOf) := goodIn_app (goodIn_of _ (by decide +kernel)) ggX4_wrong_X4_wrongOf
theorem dX4_wrong_0 : decode cX4_wrong 0 = .ok (.aload_n 0, 1) := by decide +kernel
theorem dX4_wrong_1 : decode cX4_wrong 1 = .ok (.iconst 0, 1) := by decide +kernel
theorem dX4_wrong_2 : decode cX4_wrong 2 = .ok (.putfield 48, 3) := by decide +kernel
theorem dX4_wrong_5 : decode cX4_wrong 5 = .ok (.aload_n 0, 1) := by decide +kernel
theorem dX4_wrong_6 : decode cX4_wrong 6 = .ok (.iload_n 1, 1) := by decide +kernel
theorem dX4_wrong_7 : decode cX4_wrong 7 = .ok (.invokevirtual 189, 3) := by decide +kernel
theorem dX4_wrong_10 : decode cX4_wrong 10 = .ok (.ifCond .eq 23, 3) := by decide +kernel
theorem dX4_wrong_13 : decode cX4_wrong 13 = .ok (.aload_n 0, 1) := by decide +kernel
theorem dX4_wrong_14 : decode cX4_wrong 14 = .ok (.iload_n 2, 1) := by decide +kernel
theorem dX4_wrong_15 : decode cX4_wrong 15 = .ok (.invokevirtual 192, 3) := by decide +kernel
theorem dX4_wrong_18 : decode cX4_wrong 18 = .ok (.ifCond .eq 15, 3) := by decide +kernel
theorem dX4_wrong_21 : decode cX4_wrong 21 = .ok (.aload_n 0, 1) := by decide +kernel
theorem dX4_wrong_22 : decode cX4_wrong 22 = .ok (.getfield 19, 3) := by decide +kernel
theorem dX4_wrong_25 : decode cX4_wrong 25 = .ok (.iload_n 1, 1) := by decide +kernel
theorem dX4_wrong_26 : decode cX4_wrong 26 = .ok (.iload_n 2, 1) := by decide +kernel
theorem dX4_wrong_27 : decode cX4_wrong 27 = .ok (.invokestatic 186, 3) := by decide +kernel
theorem dX4_wrong_30 : decode cX4_wrong 30 = .ok (.goto 5, 3) := by decide +kernel
theorem dX4_wrong_33 : decode cX4_wrong 33 = .ok (.ldc 68, 2) := by decide +kernel
theorem dX4_wrong_35 : decode cX4_wrong 35 = .ok (.ireturn, 1) := by decide +kernel
set_option maxRecDepth 20000 in
theorem ggX4_guests_X4_isThere : GoodIn wsX4_guests wsX4_isThere := goodIn_r _ [8, 9, 51, 52, 53, 54, 55, 56, 57, 58, 59, 60, 61, 62, 63, 64, 65, 66, 67, 68, 69, 70, 71, 72, 73, 74] (by decide +kernel) (by decide +kernel)
set_option maxRecDepth 20000 in
theorem gX4_guests_X4_isThere : GoodIn wsX4_guests (wsV RX4 201 RX4 yX4_isThere wsX4_isThere) := goodIn_app (goodIn_of _ (by decide +kernel)) ggX4_guests_X4_isThere
set_option maxRecDepth 20000 in
theorem ggX4_guests_X4_areSquares : GoodIn wsX4_guests wsX4_areSquares := goodIn_r _ [13, 9, 14, 15, 7, 16, 51, 52, 53, 54, 55, 56, 57, 58, 59, 60, 61, 62, 63, 64, 65, 66, 67, 68, 69, 70, 71, 72, 73, 74] (by decide +kernel) (by decide +kernel)
set_option maxRecDepth 20000 in
theorem gX4_guests_X4_areSquares : GoodIn wsX4_guests (wsV RX4 192 RX4 yX4_areSquares wsX4_areSquares) := goodIn_app (goodIn_of _ (by decide +kernel)) ggX4_guests_X4_areSquares
set_option maxRecDepth 20000 in
theorem ggX4_guests_X4_guestsOf : GoodIn wsX4_guests wsX4_guestsOf := goodIn_r _ [20, 9, 21, 22, 7, 23, 24, 25, 26, 27, 28, 29, 30, 31, 32, 33, 34, 35, 36, 37, 38, 39, 40, 41, 42, 43, 44, 45, 46, 47, 48, 49, 50, 51, 52, 53, 54, 55, 56, 57, 58, 59, 60, 61, 62, 63, 64, 65, 66, 67, 68, 69, 70, 71, 72, 73, 74] (by decide +kernel) (by decide +kernel)
set_option maxRecDepth 20000 in
theorem gX4_guests_X4_guestsOf : GoodIn wsX4_guests (wsV RX4 217 RX4 yX4_guestsOf wsX4_guestsOf) := goodIn_app (goodIn_of _ (by decide +kernel)) ggX4_guests_X4_guestsOf
theorem dX4_guests_0 : decode cX4_guests 0 = .ok (.aload_n 0, 1) := by decide +kernel
theorem dX4_guests_1 : decode cX4_guests 1 = .ok (.iconst 0, 1) := by decide +kernel
theorem dX4_guests_2 : decode cX4_guests 2 = .ok (.putfield 48, 3) := by decide +kernel
theorem dX4_guests_5 : decode cX4_guests 5 = .ok (.aload_n 0, 1) := by decide +kernel
theorem dX4_guests_6 : decode cX4_guests 6 = .ok (.invokevirtual 201, 3) := by decide +kernel
theorem dX4_guests_9 : decode cX4_guests 9 = .ok (.ifCond .ne 6, 3) := by decide +kernel
theorem dX4_guests_12 : decode cX4_guests 12 = .ok (.ldc 204, 2) := by decide +kernel
theorem dX4_guests_14 : decode cX4_guests 14 = .ok (.ireturn, 1) := by decide +kernel
theorem dX4_guests_15 : decode cX4_guests 15 = .ok (.aload_n 0, 1) := by decide +kernel
theorem dX4_guests_16 : decode cX4_guests 16 = .ok (.iload_n 1, 1) := by decide +kernel
theorem dX4_guests_17 : decode cX4_guests 17 = .ok (.invokevirtual 192, 3) := by decide +kernel
theorem dX4_guests_20 : decode cX4_guests 20 = .ok (.ifCond .eq 11, 3) := by decide +kernel
theorem dX4_guests_23 : decode cX4_guests 23 = .ok (.aload_n 0, 1) := by decide +kernel
theorem dX4_guests_24 : decode cX4_guests 24 = .ok (.iload_n 1, 1) := by decide +kernel
theorem dX4_guests_25 : decode cX4_guests 25 = .ok (.invokevirtual 217, 3) := by decide +kernel
theorem dX4_guests_28 : decode cX4_guests 28 = .ok (.goto 5, 3) := by decide +kernel
theorem dX4_guests_31 : decode cX4_guests 31 = .ok (.ldc 68, 2) := by decide +kernel
theorem dX4_guests_33 : decode cX4_guests 33 = .ok (.ireturn, 1) := by decide +kernel
set_option maxRecDepth 20000 in
theorem ggX4_fewest_X4_isThere : GoodIn wsX4_fewest wsX4_isThere := goodIn_r _ [10, 4, 59, 60, 61, 62, 63, 64, 65, 66, 67, 68, 69, 70, 71, 72, 73, 74, 75, 76, 77, 78, 79, 80, 81, 82] (by decide +kernel) (by decide +kernel)
set_option maxRecDepth 20000 in
theorem gX4_fewest_X4_isThere : GoodIn wsX4_fewest (wsV RX4 201 RX4 yX4_isThere wsX4_isThere) := goodIn_app (goodIn_of _ (by decide +kernel)) ggX4_fewest_X4_isThere
set_option maxRecDepth 20000 in
theorem ggX4_fewest_X4_areVisitors : GoodIn wsX4_fewest wsX4_areVisitors := goodIn_r _ [14, 4, 15, 16, 9, 17, 59, 60, 61, 62, 63, 64, 65, 66, 67, 68, 69, 70, 71, 72, 73, 74, 75, 76, 77, 78, 79, 80, 81, 82] (by decide +kernel) (by decide +kernel)
set_option maxRecDepth 20000 in
theorem gX4_fewest_X4_areVisitors : GoodIn wsX4_fewest (wsV RX4 223 RX4 yX4_areVisitors wsX4_areVisitors) := goodIn_app (goodIn_of _ (by decide +kernel)) ggX4_fewest_X4_areVisitors
set_option maxRecDepth 20000 in
theorem ggX4_fewest_X4_in : GoodIn wsX4_fewest wsX4_in := goodIn_r _ [17] (by decide +kernel) (by decide +kernel)
set_option maxRecDepth 20000 in
theorem gX4_fewest_X4_in : GoodIn wsX4_fewest (va_wsS RX4 58 yX4_in wsX4_in) := goodIn_app (goodIn_of _ (by decide +kernel)) ggX4_fewest_X4_in
set_option maxRecDepth 20000 in
theorem ggX4_fewest_X4_fewestOf : GoodIn wsX4_fewest wsX4_fewestOf := goodIn_r _ [21, 5, 22, 23, 9, 24, 25, 26, 27, 28, 4, 29, 30, 31, 32, 33, 34, 35, 36, 37, 38, 39, 40, 41, 42, 43, 44, 45, 46, 47, 48, 49, 50, 51, 52, 53, 54, 55, 56, 57, 58, 59, 60, 61, 62, 63, 64, 65, 66, 67, 68, 69, 70, 71, 72, 73, 74, 75, 76, 77, 78, 79, 80, 81, 82] (by decide +kernel) (by decide +kernel)
set_option maxRecDepth 20000 in
theorem gX4_fewest_X4_fewestOf : GoodIn wsX4_fewest (wsV RX4 226 RX4 yX4_fewestOf wsX4_fewestOf) := goodIn_app (goodIn_of _ (by decide +kernel)) ggX4_fewest_X4_fewestOf
set_option maxRecDepth 20000 in
theorem ggX4_fewest_X4_bits : GoodIn wsX4_fewest wsX4_bits := goodIn_r _ [24] (by decide +kernel) (by decide +kernel)
set_option maxRecDepth 20000 in
theorem gX4_fewest_X4_bits : GoodIn wsX4_fewest (va_wsS RX4 220 yX4_bits wsX4_bits) := goodIn_app (goodIn_of _ (by decide +kernel)) ggX4_fewest_X4_bits
theorem dX4_fewest_0 : decode cX4_fewest 0 = .ok (.aload_n 0, 1) := by decide +kernel
theorem dX4_fewest_1 : decode cX4_fewest 1 = .ok (.iconst 0, 1) := by decide +kernel
theorem dX4_fewest_2 : decode cX4_fewest 2 = .ok (.putfield 48, 3) := by decide +kernel
theorem dX4_fewest_5 : decode cX4_fewest 5 = .ok (.aload_n 0, 1) := by decide +kernel
theorem dX4_fewest_6 : decode cX4_fewest 6 = .ok (.invokevirtual 201, 3) := by decide +kernel
theorem dX4_fewest_9 : decode cX4_fewest 9 = .ok (.ifCond .ne 6, 3) := by decide +kernel
theorem dX4_fewest_12 : decode cX4_fewest 12 = .ok (.ldc 204, 2) := by decide +kernel
theorem dX4_fewest_14 : decode cX4_fewest 14 = .ok (.ireturn, 1) := by decide +kernel
theorem dX4_fewest_15 : decode cX4_fewest 15 = .ok (.aload_n 0, 1) := by decide +kernel
theorem dX4_fewest_16 : decode cX4_fewest 16 = .ok (.iload_n 1, 1) := by decide +kernel
theorem dX4_fewest_17 : decode cX4_fewest 17 = .ok (.invokevirtual 223, 3) := by decide +kernel
theorem dX4_fewest_20 : decode cX4_fewest 20 = .ok (.ifCond .eq 13, 3) := by decide +kernel
theorem dX4_fewest_23 : decode cX4_fewest 23 = .ok (.iload_n 2, 1) := by decide +kernel
theorem dX4_fewest_24 : decode cX4_fewest 24 = .ok (.i2l, 1) := by decide +kernel
theorem dX4_fewest_25 : decode cX4_fewest 25 = .ok (.lconst 0, 1) := by decide +kernel
theorem dX4_fewest_26 : decode cX4_fewest 26 = .ok (.lconst 1, 1) := by decide +kernel
theorem dX4_fewest_27 : decode cX4_fewest 27 = .ok (.invokestatic 58, 3) := by decide +kernel
theorem dX4_fewest_30 : decode cX4_fewest 30 = .ok (.ifCond .ne 6, 3) := by decide +kernel
theorem dX4_fewest_33 : decode cX4_fewest 33 = .ok (.ldc 68, 2) := by decide +kernel
theorem dX4_fewest_35 : decode cX4_fewest 35 = .ok (.ireturn, 1) := by decide +kernel
theorem dX4_fewest_36 : decode cX4_fewest 36 = .ok (.aload_n 0, 1) := by decide +kernel
theorem dX4_fewest_37 : decode cX4_fewest 37 = .ok (.iconst 1, 1) := by decide +kernel
theorem dX4_fewest_38 : decode cX4_fewest 38 = .ok (.aload_n 0, 1) := by decide +kernel
theorem dX4_fewest_39 : decode cX4_fewest 39 = .ok (.getfield 19, 3) := by decide +kernel
theorem dX4_fewest_42 : decode cX4_fewest 42 = .ok (.iconst 2, 1) := by decide +kernel
theorem dX4_fewest_43 : decode cX4_fewest 43 = .ok (.iaload, 1) := by decide +kernel
theorem dX4_fewest_44 : decode cX4_fewest 44 = .ok (.ishl, 1) := by decide +kernel
theorem dX4_fewest_45 : decode cX4_fewest 45 = .ok (.iconst 1, 1) := by decide +kernel
theorem dX4_fewest_46 : decode cX4_fewest 46 = .ok (.isub, 1) := by decide +kernel
theorem dX4_fewest_47 : decode cX4_fewest 47 = .ok (.iload_n 1, 1) := by decide +kernel
theorem dX4_fewest_48 : decode cX4_fewest 48 = .ok (.invokevirtual 226, 3) := by decide +kernel
theorem dX4_fewest_51 : decode cX4_fewest 51 = .ok (.istore_n 3, 1) := by decide +kernel
theorem dX4_fewest_52 : decode cX4_fewest 52 = .ok (.iload_n 3, 1) := by decide +kernel
theorem dX4_fewest_53 : decode cX4_fewest 53 = .ok (.ldc 91, 2) := by decide +kernel
theorem dX4_fewest_55 : decode cX4_fewest 55 = .ok (.if_icmp .eq 8, 3) := by decide +kernel
theorem dX4_fewest_58 : decode cX4_fewest 58 = .ok (.iload_n 2, 1) := by decide +kernel
theorem dX4_fewest_59 : decode cX4_fewest 59 = .ok (.iconst 1, 1) := by decide +kernel
theorem dX4_fewest_60 : decode cX4_fewest 60 = .ok (.if_icmp .ne 7, 3) := by decide +kernel
theorem dX4_fewest_63 : decode cX4_fewest 63 = .ok (.iload_n 3, 1) := by decide +kernel
theorem dX4_fewest_64 : decode cX4_fewest 64 = .ok (.goto 7, 3) := by decide +kernel
theorem dX4_fewest_67 : decode cX4_fewest 67 = .ok (.iload_n 3, 1) := by decide +kernel
theorem dX4_fewest_68 : decode cX4_fewest 68 = .ok (.invokestatic 220, 3) := by decide +kernel
theorem dX4_fewest_71 : decode cX4_fewest 71 = .ok (.ireturn, 1) := by decide +kernel
set_option maxRecDepth 20000 in
theorem ggX4_learned_X4_isSquare : GoodIn wsX4_learned wsX4_isSquare := goodIn_r _ [8, 3, 9, 10, 7, 11, 15, 16, 17, 18, 19, 20, 21, 22, 23, 24, 25, 26, 27, 28, 29, 30, 31, 32, 33, 34, 35, 36, 37, 38] (by decide +kernel) (by decide +kernel)
set_option maxRecDepth 20000 in
theorem gX4_learned_X4_isSquare : GoodIn wsX4_learned (wsV RX4 207 RX4 yX4_isSquare wsX4_isSquare) := goodIn_app (goodIn_of _ (by decide +kernel)) ggX4_learned_X4_isSquare
set_option maxRecDepth 20000 in
theorem ggX4_learned_X4_of : GoodIn wsX4_learned wsX4_of := goodIn_r _ [14] (by decide +kernel) (by decide +kernel)
set_option maxRecDepth 20000 in
theorem gX4_learned_X4_of : GoodIn wsX4_learned (va_wsS RX4 157 yX4_of wsX4_of) := goodIn_app (goodIn_of _ (by decide +kernel)) ggX4_learned_X4_of
theorem dX4_learned_0 : decode cX4_learned 0 = .ok (.aload_n 0, 1) := by decide +kernel
theorem dX4_learned_1 : decode cX4_learned 1 = .ok (.iconst 0, 1) := by decide +kernel
theorem dX4_learned_2 : decode cX4_learned 2 = .ok (.putfield 48, 3) := by decide +kernel
theorem dX4_learned_5 : decode cX4_learned 5 = .ok (.aload_n 0, 1) := by decide +kernel
theorem dX4_learned_6 : decode cX4_learned 6 = .ok (.iload_n 1, 1) := by decide +kernel
theorem dX4_learned_7 : decode cX4_learned 7 = .ok (.invokevirtual 207, 3) := by decide +kernel
theorem dX4_learned_10 : decode cX4_learned 10 = .ok (.ifCond .ne 6, 3) := by decide +kernel
theorem dX4_learned_13 : decode cX4_learned 13 = .ok (.ldc 68, 2) := by decide +kernel
theorem dX4_learned_15 : decode cX4_learned 15 = .ok (.ireturn, 1) := by decide +kernel
theorem dX4_learned_16 : decode cX4_learned 16 = .ok (.aload_n 0, 1) := by decide +kernel
theorem dX4_learned_17 : decode cX4_learned 17 = .ok (.getfield 19, 3) := by decide +kernel
theorem dX4_learned_20 : decode cX4_learned 20 = .ok (.iload_n 1, 1) := by decide +kernel
theorem dX4_learned_21 : decode cX4_learned 21 = .ok (.iconst 2, 1) := by decide +kernel
theorem dX4_learned_22 : decode cX4_learned 22 = .ok (.invokestatic 157, 3) := by decide +kernel
theorem dX4_learned_25 : decode cX4_learned 25 = .ok (.aload_n 0, 1) := by decide +kernel
theorem dX4_learned_26 : decode cX4_learned 26 = .ok (.getfield 19, 3) := by decide +kernel
theorem dX4_learned_29 : decode cX4_learned 29 = .ok (.iload_n 1, 1) := by decide +kernel
theorem dX4_learned_30 : decode cX4_learned 30 = .ok (.iconst 3, 1) := by decide +kernel
theorem dX4_learned_31 : decode cX4_learned 31 = .ok (.invokestatic 157, 3) := by decide +kernel
theorem dX4_learned_34 : decode cX4_learned 34 = .ok (.isub, 1) := by decide +kernel
theorem dX4_learned_35 : decode cX4_learned 35 = .ok (.istore_n 2, 1) := by decide +kernel
theorem dX4_learned_36 : decode cX4_learned 36 = .ok (.iload_n 2, 1) := by decide +kernel
theorem dX4_learned_37 : decode cX4_learned 37 = .ok (.ifCond .le 7, 3) := by decide +kernel
theorem dX4_learned_40 : decode cX4_learned 40 = .ok (.iconst 2, 1) := by decide +kernel
theorem dX4_learned_41 : decode cX4_learned 41 = .ok (.goto 12, 3) := by decide +kernel
theorem dX4_learned_44 : decode cX4_learned 44 = .ok (.iload_n 2, 1) := by decide +kernel
theorem dX4_learned_45 : decode cX4_learned 45 = .ok (.ifCond .ne 7, 3) := by decide +kernel
theorem dX4_learned_48 : decode cX4_learned 48 = .ok (.iconst 1, 1) := by decide +kernel
theorem dX4_learned_49 : decode cX4_learned 49 = .ok (.goto 4, 3) := by decide +kernel
theorem dX4_learned_52 : decode cX4_learned 52 = .ok (.iconst 0, 1) := by decide +kernel
theorem dX4_learned_53 : decode cX4_learned 53 = .ok (.ireturn, 1) := by decide +kernel
set_option maxRecDepth 20000 in
theorem ggX4_needs_X4_isSquare : GoodIn wsX4_needs wsX4_isSquare := goodIn_r _ [9, 3, 10, 11, 8, 12, 19, 20, 21, 22, 23, 24, 25, 26, 27, 28, 29, 30, 31, 32, 33, 34, 35, 36, 37, 38, 39, 40, 41, 42] (by decide +kernel) (by decide +kernel)
set_option maxRecDepth 20000 in
theorem gX4_needs_X4_isSquare : GoodIn wsX4_needs (wsV RX4 207 RX4 yX4_isSquare wsX4_isSquare) := goodIn_app (goodIn_of _ (by decide +kernel)) ggX4_needs_X4_isSquare
set_option maxRecDepth 20000 in
theorem ggX4_needs_X4_counts : GoodIn wsX4_needs wsX4_counts := goodIn_r _ [15, 16, 17, 8, 18] (by decide +kernel) (by decide +kernel)
set_option maxRecDepth 20000 in
theorem gX4_needs_X4_counts : GoodIn wsX4_needs (va_wsS RX4 168 yX4_counts wsX4_counts) := goodIn_app (goodIn_of _ (by decide +kernel)) ggX4_needs_X4_counts
set_option maxRecDepth 20000 in
theorem ggX4_needs_X4_of : GoodIn wsX4_needs wsX4_of := goodIn_r _ [18] (by decide +kernel) (by decide +kernel)
set_option maxRecDepth 20000 in
theorem gX4_needs_X4_of : GoodIn wsX4_needs (va_wsS RX4 157 yX4_of wsX4_of) := goodIn_app (goodIn_of _ (by decide +kernel)) ggX4_needs_X4_of
theorem dX4_needs_0 : decode cX4_needs 0 = .ok (.aload_n 0, 1) := by decide +kernel
theorem dX4_needs_1 : decode cX4_needs 1 = .ok (.iconst 0, 1) := by decide +kernel
theorem dX4_needs_2 : decode cX4_needs 2 = .ok (.putfield 48, 3) := by decide +kernel
theorem dX4_needs_5 : decode cX4_needs 5 = .ok (.aload_n 0, 1) := by decide +kernel
theorem dX4_needs_6 : decode cX4_needs 6 = .ok (.iload_n 1, 1) := by decide +kernel
theorem dX4_needs_7 : decode cX4_needs 7 = .ok (.invokevirtual 207, 3) := by decide +kernel
theorem dX4_needs_10 : decode cX4_needs 10 = .ok (.ifCond .ne 6, 3) := by decide +kernel
theorem dX4_needs_13 : decode cX4_needs 13 = .ok (.ldc 68, 2) := by decide +kernel
theorem dX4_needs_15 : decode cX4_needs 15 = .ok (.ireturn, 1) := by decide +kernel
theorem dX4_needs_16 : decode cX4_needs 16 = .ok (.aload_n 0, 1) := by decide +kernel
theorem dX4_needs_17 : decode cX4_needs 17 = .ok (.getfield 19, 3) := by decide +kernel
theorem dX4_needs_20 : decode cX4_needs 20 = .ok (.iload_n 1, 1) := by decide +kernel
theorem dX4_needs_21 : decode cX4_needs 21 = .ok (.invokestatic 168, 3) := by decide +kernel
theorem dX4_needs_24 : decode cX4_needs 24 = .ok (.ifCond .eq 6, 3) := by decide +kernel
theorem dX4_needs_27 : decode cX4_needs 27 = .ok (.ldc 204, 2) := by decide +kernel
theorem dX4_needs_29 : decode cX4_needs 29 = .ok (.ireturn, 1) := by decide +kernel
theorem dX4_needs_30 : decode cX4_needs 30 = .ok (.aload_n 0, 1) := by decide +kernel
theorem dX4_needs_31 : decode cX4_needs 31 = .ok (.getfield 19, 3) := by decide +kernel
theorem dX4_needs_34 : decode cX4_needs 34 = .ok (.iload_n 1, 1) := by decide +kernel
theorem dX4_needs_35 : decode cX4_needs 35 = .ok (.iconst 2, 1) := by decide +kernel
theorem dX4_needs_36 : decode cX4_needs 36 = .ok (.invokestatic 157, 3) := by decide +kernel
theorem dX4_needs_39 : decode cX4_needs 39 = .ok (.aload_n 0, 1) := by decide +kernel
theorem dX4_needs_40 : decode cX4_needs 40 = .ok (.getfield 19, 3) := by decide +kernel
theorem dX4_needs_43 : decode cX4_needs 43 = .ok (.iload_n 1, 1) := by decide +kernel
theorem dX4_needs_44 : decode cX4_needs 44 = .ok (.iconst 3, 1) := by decide +kernel
theorem dX4_needs_45 : decode cX4_needs 45 = .ok (.invokestatic 157, 3) := by decide +kernel
theorem dX4_needs_48 : decode cX4_needs 48 = .ok (.isub, 1) := by decide +kernel
theorem dX4_needs_49 : decode cX4_needs 49 = .ok (.istore_n 2, 1) := by decide +kernel
theorem dX4_needs_50 : decode cX4_needs 50 = .ok (.iload_n 2, 1) := by decide +kernel
theorem dX4_needs_51 : decode cX4_needs 51 = .ok (.ifCond .le 7, 3) := by decide +kernel
theorem dX4_needs_54 : decode cX4_needs 54 = .ok (.iload_n 2, 1) := by decide +kernel
theorem dX4_needs_55 : decode cX4_needs 55 = .ok (.goto 6, 3) := by decide +kernel
theorem dX4_needs_58 : decode cX4_needs 58 = .ok (.iconst 1, 1) := by decide +kernel
theorem dX4_needs_59 : decode cX4_needs 59 = .ok (.iload_n 2, 1) := by decide +kernel
theorem dX4_needs_60 : decode cX4_needs 60 = .ok (.isub, 1) := by decide +kernel
theorem dX4_needs_61 : decode cX4_needs 61 = .ok (.ireturn, 1) := by decide +kernel
set_option maxRecDepth 20000 in
theorem ggX4_save_X4_isThere : GoodIn wsX4_save wsX4_isThere := goodIn_r _ [8, 9, 59, 60, 61, 62, 63, 64, 65, 66, 67, 68, 69, 70, 71, 72, 73, 74, 75, 76, 77, 78, 79, 80, 81, 82] (by decide +kernel) (by decide +kernel)
set_option maxRecDepth 20000 in
theorem gX4_save_X4_isThere : GoodIn wsX4_save (wsV RX4 201 RX4 yX4_isThere wsX4_isThere) := goodIn_app (goodIn_of _ (by decide +kernel)) ggX4_save_X4_isThere
set_option maxRecDepth 20000 in
theorem ggX4_save_X4_areSquares : GoodIn wsX4_save wsX4_areSquares := goodIn_r _ [13, 9, 14, 15, 7, 16, 59, 60, 61, 62, 63, 64, 65, 66, 67, 68, 69, 70, 71, 72, 73, 74, 75, 76, 77, 78, 79, 80, 81, 82] (by decide +kernel) (by decide +kernel)
set_option maxRecDepth 20000 in
theorem gX4_save_X4_areSquares : GoodIn wsX4_save (wsV RX4 192 RX4 yX4_areSquares wsX4_areSquares) := goodIn_app (goodIn_of _ (by decide +kernel)) ggX4_save_X4_areSquares
set_option maxRecDepth 20000 in
theorem ggX4_save_X4_in : GoodIn wsX4_save wsX4_in := goodIn_r _ [16] (by decide +kernel) (by decide +kernel)
set_option maxRecDepth 20000 in
theorem gX4_save_X4_in : GoodIn wsX4_save (va_wsS RX4 58 yX4_in wsX4_in) := goodIn_app (goodIn_of _ (by decide +kernel)) ggX4_save_X4_in
set_option maxRecDepth 20000 in
theorem ggX4_save_X4_guestsOf : GoodIn wsX4_save wsX4_guestsOf := goodIn_r _ [20, 9, 21, 22, 7, 23, 24, 25, 26, 27, 28, 29, 30, 31, 32, 33, 34, 35, 36, 37, 38, 39, 40, 41, 42, 43, 44, 45, 46, 47, 48, 49, 50, 59, 60, 61, 62, 63, 64, 65, 66, 67, 68, 69, 70, 71, 72, 73, 74, 75, 76, 77, 78, 79, 80, 81, 82] (by decide +kernel) (by decide +kernel)
set_option maxRecDepth 20000 in
theorem gX4_save_X4_guestsOf : GoodIn wsX4_save (wsV RX4 217 RX4 yX4_guestsOf wsX4_guestsOf) := goodIn_app (goodIn_of _ (by decide +kernel)) ggX4_save_X4_guestsOf
set_option maxRecDepth 20000 in
theorem ggX4_save_X4_fewestOf : GoodIn wsX4_save wsX4_fewestOf := goodIn_r _ [54, 55, 56, 57, 7, 58, 17, 18, 19, 20, 9, 21, 22, 23, 24, 25, 26, 27, 28, 29, 30, 31, 32, 33, 34, 35, 36, 37, 38, 39, 40, 41, 42, 43, 44, 45, 46, 47, 48, 49, 50, 59, 60, 61, 62, 63, 64, 65, 66, 67, 68, 69, 70, 71, 72, 73, 74, 75, 76, 77, 78, 79, 80, 81, 82] (by decide +kernel) (by decide +kernel)
set_option maxRecDepth 20000 in
theorem gX4_save_X4_fewestOf : GoodIn wsX4_save (wsV RX4 226 RX4 yX4_fewestOf wsX4_fewestOf) := goodIn_app (goodIn_of _ (by decide +kernel)) ggX4_save_X4_fewestOf
set_option maxRecDepth 20000 in
theorem ggX4_save_X4_bits : GoodIn wsX4_save wsX4_bits := goodIn_r _ [58] (by decide +kernel) (by decide +kernel)
set_option maxRecDepth 20000 in
theorem gX4_save_X4_bits : GoodIn wsX4_save (va_wsS RX4 220 yX4_bits wsX4_bits) := goodIn_app (goodIn_of _ (by decide +kernel)) ggX4_save_X4_bits
theorem dX4_save_0 : decode cX4_save 0 = .ok (.aload_n 0, 1) := by decide +kernel
theorem dX4_save_1 : decode cX4_save 1 = .ok (.iconst 0, 1) := by decide +kernel
theorem dX4_save_2 : decode cX4_save 2 = .ok (.putfield 48, 3) := by decide +kernel
theorem dX4_save_5 : decode cX4_save 5 = .ok (.aload_n 0, 1) := by decide +kernel
theorem dX4_save_6 : decode cX4_save 6 = .ok (.invokevirtual 201, 3) := by decide +kernel
theorem dX4_save_9 : decode cX4_save 9 = .ok (.ifCond .ne 6, 3) := by decide +kernel
theorem dX4_save_12 : decode cX4_save 12 = .ok (.ldc 204, 2) := by decide +kernel
theorem dX4_save_14 : decode cX4_save 14 = .ok (.ireturn, 1) := by decide +kernel
theorem dX4_save_15 : decode cX4_save 15 = .ok (.aload_n 0, 1) := by decide +kernel
theorem dX4_save_16 : decode cX4_save 16 = .ok (.iload_n 1, 1) := by decide +kernel
theorem dX4_save_17 : decode cX4_save 17 = .ok (.invokevirtual 192, 3) := by decide +kernel
theorem dX4_save_20 : decode cX4_save 20 = .ok (.ifCond .eq 13, 3) := by decide +kernel
theorem dX4_save_23 : decode cX4_save 23 = .ok (.iload_n 2, 1) := by decide +kernel
theorem dX4_save_24 : decode cX4_save 24 = .ok (.i2l, 1) := by decide +kernel
theorem dX4_save_25 : decode cX4_save 25 = .ok (.lconst 0, 1) := by decide +kernel
theorem dX4_save_26 : decode cX4_save 26 = .ok (.lconst 1, 1) := by decide +kernel
theorem dX4_save_27 : decode cX4_save 27 = .ok (.invokestatic 58, 3) := by decide +kernel
theorem dX4_save_30 : decode cX4_save 30 = .ok (.ifCond .ne 6, 3) := by decide +kernel
theorem dX4_save_33 : decode cX4_save 33 = .ok (.ldc 68, 2) := by decide +kernel
theorem dX4_save_35 : decode cX4_save 35 = .ok (.ireturn, 1) := by decide +kernel
theorem dX4_save_36 : decode cX4_save 36 = .ok (.aload_n 0, 1) := by decide +kernel
theorem dX4_save_37 : decode cX4_save 37 = .ok (.iload_n 1, 1) := by decide +kernel
theorem dX4_save_38 : decode cX4_save 38 = .ok (.aload_n 0, 1) := by decide +kernel
theorem dX4_save_39 : decode cX4_save 39 = .ok (.iload_n 1, 1) := by decide +kernel
theorem dX4_save_40 : decode cX4_save 40 = .ok (.invokevirtual 217, 3) := by decide +kernel
theorem dX4_save_43 : decode cX4_save 43 = .ok (.invokevirtual 226, 3) := by decide +kernel
theorem dX4_save_46 : decode cX4_save 46 = .ok (.istore_n 3, 1) := by decide +kernel
theorem dX4_save_47 : decode cX4_save 47 = .ok (.iload_n 2, 1) := by decide +kernel
theorem dX4_save_48 : decode cX4_save 48 = .ok (.iconst 1, 1) := by decide +kernel
theorem dX4_save_49 : decode cX4_save 49 = .ok (.if_icmp .ne 7, 3) := by decide +kernel
theorem dX4_save_52 : decode cX4_save 52 = .ok (.iload_n 3, 1) := by decide +kernel
theorem dX4_save_53 : decode cX4_save 53 = .ok (.goto 7, 3) := by decide +kernel
theorem dX4_save_56 : decode cX4_save 56 = .ok (.iload_n 3, 1) := by decide +kernel
theorem dX4_save_57 : decode cX4_save 57 = .ok (.invokestatic 220, 3) := by decide +kernel
theorem dX4_save_60 : decode cX4_save 60 = .ok (.ireturn, 1) := by decide +kernel
set_option maxRecDepth 20000 in
theorem ggX4_kind_X4_isSquare : GoodIn wsX4_kind wsX4_isSquare := goodIn_r _ [8, 2, 9, 10, 7, 11, 15, 16, 17, 18, 19, 20, 21, 22, 23, 24, 25, 26, 27, 28, 29, 30, 31, 32, 33, 34, 35, 36, 37, 38] (by decide +kernel) (by decide +kernel)
set_option maxRecDepth 20000 in
theorem gX4_kind_X4_isSquare : GoodIn wsX4_kind (wsV RX4 207 RX4 yX4_isSquare wsX4_isSquare) := goodIn_app (goodIn_of _ (by decide +kernel)) ggX4_kind_X4_isSquare
set_option maxRecDepth 20000 in
theorem ggX4_kind_X4_of : GoodIn wsX4_kind wsX4_of := goodIn_r _ [14] (by decide +kernel) (by decide +kernel)
set_option maxRecDepth 20000 in
theorem gX4_kind_X4_of : GoodIn wsX4_kind (va_wsS RX4 157 yX4_of wsX4_of) := goodIn_app (goodIn_of _ (by decide +kernel)) ggX4_kind_X4_of
theorem dX4_kind_0 : decode cX4_kind 0 = .ok (.aload_n 0, 1) := by decide +kernel
theorem dX4_kind_1 : decode cX4_kind 1 = .ok (.iconst 0, 1) := by decide +kernel
theorem dX4_kind_2 : decode cX4_kind 2 = .ok (.putfield 48, 3) := by decide +kernel
theorem dX4_kind_5 : decode cX4_kind 5 = .ok (.aload_n 0, 1) := by decide +kernel
theorem dX4_kind_6 : decode cX4_kind 6 = .ok (.iload_n 1, 1) := by decide +kernel
theorem dX4_kind_7 : decode cX4_kind 7 = .ok (.invokevirtual 207, 3) := by decide +kernel
theorem dX4_kind_10 : decode cX4_kind 10 = .ok (.ifCond .eq 15, 3) := by decide +kernel
theorem dX4_kind_13 : decode cX4_kind 13 = .ok (.aload_n 0, 1) := by decide +kernel
theorem dX4_kind_14 : decode cX4_kind 14 = .ok (.getfield 19, 3) := by decide +kernel
theorem dX4_kind_17 : decode cX4_kind 17 = .ok (.iload_n 1, 1) := by decide +kernel
theorem dX4_kind_18 : decode cX4_kind 18 = .ok (.iconst 0, 1) := by decide +kernel
theorem dX4_kind_19 : decode cX4_kind 19 = .ok (.invokestatic 157, 3) := by decide +kernel
theorem dX4_kind_22 : decode cX4_kind 22 = .ok (.goto 5, 3) := by decide +kernel
theorem dX4_kind_25 : decode cX4_kind 25 = .ok (.ldc 68, 2) := by decide +kernel
theorem dX4_kind_27 : decode cX4_kind 27 = .ok (.ireturn, 1) := by decide +kernel
set_option maxRecDepth 20000 in
theorem ggX4_trace_X4_in : GoodIn wsX4_trace wsX4_in := goodIn_r _ [8] (by decide +kernel) (by decide +kernel)
set_option maxRecDepth 20000 in
theorem gX4_trace_X4_in : GoodIn wsX4_trace (va_wsS RX4 58 yX4_in wsX4_in) := goodIn_app (goodIn_of _ (by decide +kernel)) ggX4_trace_X4_in
theorem dX4_trace_0 : decode cX4_trace 0 = .ok (.aload_n 0, 1) := by decide +kernel
theorem dX4_trace_1 : decode cX4_trace 1 = .ok (.iconst 0, 1) := by decide +kernel
theorem dX4_trace_2 : decode cX4_trace 2 = .ok (.putfield 48, 3) := by decide +kernel
theorem dX4_trace_5 : decode cX4_trace 5 = .ok (.iload_n 1, 1) := by decide +kernel
theorem dX4_trace_6 : decode cX4_trace 6 = .ok (.i2l, 1) := by decide +kernel
theorem dX4_trace_7 : decode cX4_trace 7 = .ok (.lconst 0, 1) := by decide +kernel
theorem dX4_trace_8 : decode cX4_trace 8 = .ok (.aload_n 0, 1) := by decide +kernel
theorem dX4_trace_9 : decode cX4_trace 9 = .ok (.getfield 263, 3) := by decide +kernel
theorem dX4_trace_12 : decode cX4_trace 12 = .ok (.iconst 1, 1) := by decide +kernel
theorem dX4_trace_13 : decode cX4_trace 13 = .ok (.isub, 1) := by decide +kernel
theorem dX4_trace_14 : decode cX4_trace 14 = .ok (.i2l, 1) := by decide +kernel
theorem dX4_trace_15 : decode cX4_trace 15 = .ok (.invokestatic 58, 3) := by decide +kernel
theorem dX4_trace_18 : decode cX4_trace 18 = .ok (.ifCond .eq 12, 3) := by decide +kernel
theorem dX4_trace_21 : decode cX4_trace 21 = .ok (.aload_n 0, 1) := by decide +kernel
theorem dX4_trace_22 : decode cX4_trace 22 = .ok (.getfield 45, 3) := by decide +kernel
theorem dX4_trace_25 : decode cX4_trace 25 = .ok (.iload_n 1, 1) := by decide +kernel
theorem dX4_trace_26 : decode cX4_trace 26 = .ok (.iaload, 1) := by decide +kernel
theorem dX4_trace_27 : decode cX4_trace 27 = .ok (.goto 5, 3) := by decide +kernel
theorem dX4_trace_30 : decode cX4_trace 30 = .ok (.ldc 91, 2) := by decide +kernel
theorem dX4_trace_32 : decode cX4_trace 32 = .ok (.ireturn, 1) := by decide +kernel
theorem dX4_status_0 : decode cX4_status 0 = .ok (.aload_n 0, 1) := by decide +kernel
theorem dX4_status_1 : decode cX4_status 1 = .ok (.iconst 0, 1) := by decide +kernel
theorem dX4_status_2 : decode cX4_status 2 = .ok (.putfield 48, 3) := by decide +kernel
theorem dX4_status_5 : decode cX4_status 5 = .ok (.aload_n 0, 1) := by decide +kernel
theorem dX4_status_6 : decode cX4_status 6 = .ok (.getfield 52, 3) := by decide +kernel
theorem dX4_status_9 : decode cX4_status 9 = .ok (.ireturn, 1) := by decide +kernel
