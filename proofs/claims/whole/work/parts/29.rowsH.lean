theorem dX3_fault_0 : decode cX3_fault 0 = .ok (.aload_n 0, 1) := by decide +kernel
theorem dX3_fault_1 : decode cX3_fault 1 = .ok (.getfield 32, 3) := by decide +kernel
theorem dX3_fault_4 : decode cX3_fault 4 = .ok (.ireturn, 1) := by decide +kernel
set_option maxRecDepth 20000 in
theorem ggX3_undo_X0_takeBackInto : GoodIn wsX3_undo wsX0_takeBackInto := goodIn_r _ [9, 10, 11, 12, 13, 14, 15, 16, 17, 18, 19, 20, 21, 22, 23, 24, 25, 26, 27, 28, 29, 30, 31, 32, 33, 34, 48, 49, 50, 51, 52, 53, 54, 55, 56, 57, 58, 59, 60, 61, 62, 63, 64] (by decide +kernel) (by decide +kernel)
set_option maxRecDepth 20000 in
theorem gX3_undo_X0_takeBackInto : GoodIn wsX3_undo (wsV RX3 138 RX0 yX0_takeBackInto wsX0_takeBackInto) := goodIn_app (goodIn_of _ (by decide +kernel)) ggX3_undo_X0_takeBackInto
theorem dX3_undo_0 : decode cX3_undo 0 = .ok (.aload_n 0, 1) := by decide +kernel
theorem dX3_undo_1 : decode cX3_undo 1 = .ok (.getfield 48, 3) := by decide +kernel
theorem dX3_undo_4 : decode cX3_undo 4 = .ok (.getfield 134, 3) := by decide +kernel
theorem dX3_undo_7 : decode cX3_undo 7 = .ok (.ifCond .ne 6, 3) := by decide +kernel
theorem dX3_undo_10 : decode cX3_undo 10 = .ok (.ldc 137, 2) := by decide +kernel
theorem dX3_undo_12 : decode cX3_undo 12 = .ok (.ireturn, 1) := by decide +kernel
theorem dX3_undo_13 : decode cX3_undo 13 = .ok (.aload_n 0, 1) := by decide +kernel
theorem dX3_undo_14 : decode cX3_undo 14 = .ok (.getfield 48, 3) := by decide +kernel
theorem dX3_undo_17 : decode cX3_undo 17 = .ok (.aload_n 0, 1) := by decide +kernel
theorem dX3_undo_18 : decode cX3_undo 18 = .ok (.getfield 38, 3) := by decide +kernel
theorem dX3_undo_21 : decode cX3_undo 21 = .ok (.invokevirtual 138, 3) := by decide +kernel
theorem dX3_undo_24 : decode cX3_undo 24 = .ok (.aload_n 0, 1) := by decide +kernel
theorem dX3_undo_25 : decode cX3_undo 25 = .ok (.getfield 48, 3) := by decide +kernel
theorem dX3_undo_28 : decode cX3_undo 28 = .ok (.getfield 134, 3) := by decide +kernel
theorem dX3_undo_31 : decode cX3_undo 31 = .ok (.ireturn, 1) := by decide +kernel
set_option maxRecDepth 20000 in
theorem ggX3_pose_X1_isVisitor : GoodIn wsX3_pose wsX1_isVisitor := goodIn_r _ [8, 9, 10, 11, 12, 114, 115, 116, 117, 118, 119, 120, 121, 122, 123, 124, 125, 126, 127] (by decide +kernel) (by decide +kernel)
set_option maxRecDepth 20000 in
theorem gX3_pose_X1_isVisitor : GoodIn wsX3_pose (wsV RX3 141 RX1 yX1_isVisitor wsX1_isVisitor) := goodIn_app (goodIn_of _ (by decide +kernel)) ggX3_pose_X1_isVisitor
set_option maxRecDepth 20000 in
theorem ggX3_pose_X1_areSquares : GoodIn wsX3_pose wsX1_areSquares := goodIn_r _ [16, 17, 18, 19, 7, 20, 21, 10, 11, 12, 114, 115, 116, 117, 118, 119, 120, 121, 122, 123, 124, 125, 126, 127] (by decide +kernel) (by decide +kernel)
set_option maxRecDepth 20000 in
theorem gX3_pose_X1_areSquares : GoodIn wsX3_pose (wsV RX3 144 RX1 yX1_areSquares wsX1_areSquares) := goodIn_app (goodIn_of _ (by decide +kernel)) ggX3_pose_X1_areSquares
set_option maxRecDepth 20000 in
theorem ggX3_pose_X0_keep : GoodIn wsX3_pose wsX0_keep := goodIn_r _ [26, 27, 28, 29, 30, 31, 32, 33, 34, 35, 36, 7, 37, 38, 39, 21, 9, 40, 41, 42, 43, 44, 45, 46, 47, 48, 49, 50, 51, 52, 128, 129, 130, 114, 115, 116, 117, 118, 119, 120, 121, 122, 123, 124, 125, 126, 127] (by decide +kernel) (by decide +kernel)
set_option maxRecDepth 20000 in
theorem gX3_pose_X0_keep : GoodIn wsX3_pose (wsV RX3 147 RX0 yX0_keep wsX0_keep) := goodIn_app (goodIn_of _ (by decide +kernel)) ggX3_pose_X0_keep
set_option maxRecDepth 20000 in
theorem ggX3_pose_X1_putTo : GoodIn wsX3_pose wsX1_putTo := goodIn_r _ [56, 51, 39, 52, 57, 58, 59, 7, 60, 61, 62, 63, 64, 65, 66, 67, 68, 21, 49, 50, 40, 45, 69, 11, 70, 71, 72, 73, 74, 75, 76, 77, 48, 78, 38, 79, 80, 81, 82, 83, 84, 85, 86, 87, 88, 89, 90, 91, 92, 93, 94, 95, 96, 97, 98, 99, 46, 47, 100, 31, 32, 33, 114, 115, 116, 117, 118, 119, 120, 121, 122, 123, 124, 125, 126, 127] (by decide +kernel) (by decide +kernel)
set_option maxRecDepth 20000 in
theorem gX3_pose_X1_putTo : GoodIn wsX3_pose (wsV RX3 150 RX1 yX1_putTo wsX1_putTo) := goodIn_app (goodIn_of _ (by decide +kernel)) ggX3_pose_X1_putTo
theorem dX3_pose_0 : decode cX3_pose 0 = .ok (.aload_n 0, 1) := by decide +kernel
theorem dX3_pose_1 : decode cX3_pose 1 = .ok (.getfield 38, 3) := by decide +kernel
theorem dX3_pose_4 : decode cX3_pose 4 = .ok (.iload_n 1, 1) := by decide +kernel
theorem dX3_pose_5 : decode cX3_pose 5 = .ok (.invokevirtual 141, 3) := by decide +kernel
theorem dX3_pose_8 : decode cX3_pose 8 = .ok (.ifCond .eq 14, 3) := by decide +kernel
theorem dX3_pose_11 : decode cX3_pose 11 = .ok (.aload_n 0, 1) := by decide +kernel
theorem dX3_pose_12 : decode cX3_pose 12 = .ok (.getfield 38, 3) := by decide +kernel
theorem dX3_pose_15 : decode cX3_pose 15 = .ok (.iload_n 2, 1) := by decide +kernel
theorem dX3_pose_16 : decode cX3_pose 16 = .ok (.invokevirtual 144, 3) := by decide +kernel
theorem dX3_pose_19 : decode cX3_pose 19 = .ok (.ifCond .ne 6, 3) := by decide +kernel
theorem dX3_pose_22 : decode cX3_pose 22 = .ok (.ldc 81, 2) := by decide +kernel
theorem dX3_pose_24 : decode cX3_pose 24 = .ok (.ireturn, 1) := by decide +kernel
theorem dX3_pose_25 : decode cX3_pose 25 = .ok (.aload_n 0, 1) := by decide +kernel
theorem dX3_pose_26 : decode cX3_pose 26 = .ok (.getfield 48, 3) := by decide +kernel
theorem dX3_pose_29 : decode cX3_pose 29 = .ok (.aload_n 0, 1) := by decide +kernel
theorem dX3_pose_30 : decode cX3_pose 30 = .ok (.getfield 38, 3) := by decide +kernel
theorem dX3_pose_33 : decode cX3_pose 33 = .ok (.invokevirtual 147, 3) := by decide +kernel
theorem dX3_pose_36 : decode cX3_pose 36 = .ok (.aload_n 0, 1) := by decide +kernel
theorem dX3_pose_37 : decode cX3_pose 37 = .ok (.getfield 38, 3) := by decide +kernel
theorem dX3_pose_40 : decode cX3_pose 40 = .ok (.iload_n 1, 1) := by decide +kernel
theorem dX3_pose_41 : decode cX3_pose 41 = .ok (.iload_n 2, 1) := by decide +kernel
theorem dX3_pose_42 : decode cX3_pose 42 = .ok (.invokevirtual 150, 3) := by decide +kernel
theorem dX3_pose_45 : decode cX3_pose 45 = .ok (.ifCond .eq 7, 3) := by decide +kernel
theorem dX3_pose_48 : decode cX3_pose 48 = .ok (.iconst 1, 1) := by decide +kernel
theorem dX3_pose_49 : decode cX3_pose 49 = .ok (.goto 4, 3) := by decide +kernel
theorem dX3_pose_52 : decode cX3_pose 52 = .ok (.iconst 0, 1) := by decide +kernel
theorem dX3_pose_53 : decode cX3_pose 53 = .ok (.ireturn, 1) := by decide +kernel
set_option maxRecDepth 20000 in
theorem ggX3_strict_X1_isRead : GoodIn wsX3_strict wsX1_isRead := goodIn_r _ [10, 11, 12, 61, 62, 63, 64, 65, 66, 67, 68, 69, 70, 71, 72, 73, 74] (by decide +kernel) (by decide +kernel)
set_option maxRecDepth 20000 in
theorem gX3_strict_X1_isRead : GoodIn wsX3_strict (wsV RX3 154 RX1 yX1_isRead wsX1_isRead) := goodIn_app (goodIn_of _ (by decide +kernel)) ggX3_strict_X1_isRead
set_option maxRecDepth 20000 in
theorem ggX3_strict_X3_isIn : GoodIn wsX3_strict wsX3_isIn := goodIn_r _ [16] (by decide +kernel) (by decide +kernel)
set_option maxRecDepth 20000 in
theorem gX3_strict_X3_isIn : GoodIn wsX3_strict (va_wsS RX3 77 yX3_isIn wsX3_isIn) := goodIn_app (goodIn_of _ (by decide +kernel)) ggX3_strict_X3_isIn
set_option maxRecDepth 20000 in
theorem ggX3_strict_X0_keep : GoodIn wsX3_strict wsX0_keep := goodIn_r _ [21, 22, 23, 24, 25, 26, 27, 28, 29, 30, 31, 9, 32, 33, 34, 11, 12, 35, 36, 37, 38, 39, 40, 41, 42, 43, 44, 45, 46, 47, 75, 76, 77, 61, 62, 63, 64, 65, 66, 67, 68, 69, 70, 71, 72, 73, 74] (by decide +kernel) (by decide +kernel)
set_option maxRecDepth 20000 in
theorem gX3_strict_X0_keep : GoodIn wsX3_strict (wsV RX3 147 RX0 yX0_keep wsX0_keep) := goodIn_app (goodIn_of _ (by decide +kernel)) ggX3_strict_X0_keep
theorem dX3_strict_0 : decode cX3_strict 0 = .ok (.aload_n 0, 1) := by decide +kernel
theorem dX3_strict_1 : decode cX3_strict 1 = .ok (.getfield 38, 3) := by decide +kernel
theorem dX3_strict_4 : decode cX3_strict 4 = .ok (.invokevirtual 154, 3) := by decide +kernel
theorem dX3_strict_7 : decode cX3_strict 7 = .ok (.ifCond .ne 6, 3) := by decide +kernel
theorem dX3_strict_10 : decode cX3_strict 10 = .ok (.ldc 137, 2) := by decide +kernel
theorem dX3_strict_12 : decode cX3_strict 12 = .ok (.ireturn, 1) := by decide +kernel
theorem dX3_strict_13 : decode cX3_strict 13 = .ok (.iload_n 1, 1) := by decide +kernel
theorem dX3_strict_14 : decode cX3_strict 14 = .ok (.iconst 0, 1) := by decide +kernel
theorem dX3_strict_15 : decode cX3_strict 15 = .ok (.bipush 8, 2) := by decide +kernel
theorem dX3_strict_17 : decode cX3_strict 17 = .ok (.invokestatic 77, 3) := by decide +kernel
theorem dX3_strict_20 : decode cX3_strict 20 = .ok (.ifCond .ne 6, 3) := by decide +kernel
theorem dX3_strict_23 : decode cX3_strict 23 = .ok (.ldc 81, 2) := by decide +kernel
theorem dX3_strict_25 : decode cX3_strict 25 = .ok (.ireturn, 1) := by decide +kernel
theorem dX3_strict_26 : decode cX3_strict 26 = .ok (.aload_n 0, 1) := by decide +kernel
theorem dX3_strict_27 : decode cX3_strict 27 = .ok (.getfield 48, 3) := by decide +kernel
theorem dX3_strict_30 : decode cX3_strict 30 = .ok (.aload_n 0, 1) := by decide +kernel
theorem dX3_strict_31 : decode cX3_strict 31 = .ok (.getfield 38, 3) := by decide +kernel
theorem dX3_strict_34 : decode cX3_strict 34 = .ok (.invokevirtual 147, 3) := by decide +kernel
theorem dX3_strict_37 : decode cX3_strict 37 = .ok (.aload_n 0, 1) := by decide +kernel
theorem dX3_strict_38 : decode cX3_strict 38 = .ok (.getfield 38, 3) := by decide +kernel
theorem dX3_strict_41 : decode cX3_strict 41 = .ok (.getfield 158, 3) := by decide +kernel
theorem dX3_strict_44 : decode cX3_strict 44 = .ok (.istore_n 2, 1) := by decide +kernel
theorem dX3_strict_45 : decode cX3_strict 45 = .ok (.aload_n 0, 1) := by decide +kernel
theorem dX3_strict_46 : decode cX3_strict 46 = .ok (.getfield 38, 3) := by decide +kernel
theorem dX3_strict_49 : decode cX3_strict 49 = .ok (.iload_n 1, 1) := by decide +kernel
theorem dX3_strict_50 : decode cX3_strict 50 = .ok (.putfield 158, 3) := by decide +kernel
theorem dX3_strict_53 : decode cX3_strict 53 = .ok (.iload_n 2, 1) := by decide +kernel
theorem dX3_strict_54 : decode cX3_strict 54 = .ok (.ireturn, 1) := by decide +kernel
set_option maxRecDepth 20000 in
theorem ggX3_share_X1_isSquare : GoodIn wsX3_share wsX1_isSquare := goodIn_r _ [9, 10, 11, 12, 13, 60, 61, 62, 63, 64, 65, 66, 67, 68, 69, 70, 71, 72, 73] (by decide +kernel) (by decide +kernel)
set_option maxRecDepth 20000 in
theorem gX3_share_X1_isSquare : GoodIn wsX3_share (wsV RX3 161 RX1 yX1_isSquare wsX1_isSquare) := goodIn_app (goodIn_of _ (by decide +kernel)) ggX3_share_X1_isSquare
set_option maxRecDepth 20000 in
theorem ggX3_share_X3_isIn : GoodIn wsX3_share wsX3_isIn := goodIn_r _ [13] (by decide +kernel) (by decide +kernel)
set_option maxRecDepth 20000 in
theorem gX3_share_X3_isIn : GoodIn wsX3_share (va_wsS RX3 77 yX3_isIn wsX3_isIn) := goodIn_app (goodIn_of _ (by decide +kernel)) ggX3_share_X3_isIn
set_option maxRecDepth 20000 in
theorem ggX3_share_X0_keep : GoodIn wsX3_share wsX0_keep := goodIn_r _ [19, 20, 21, 22, 23, 24, 25, 26, 27, 28, 29, 8, 30, 31, 32, 10, 33, 34, 35, 36, 37, 38, 39, 40, 41, 42, 43, 44, 45, 46, 74, 75, 76, 60, 61, 62, 63, 64, 65, 66, 67, 68, 69, 70, 71, 72, 73] (by decide +kernel) (by decide +kernel)
set_option maxRecDepth 20000 in
theorem gX3_share_X0_keep : GoodIn wsX3_share (wsV RX3 147 RX0 yX0_keep wsX0_keep) := goodIn_app (goodIn_of _ (by decide +kernel)) ggX3_share_X0_keep
theorem dX3_share_0 : decode cX3_share 0 = .ok (.aload_n 0, 1) := by decide +kernel
theorem dX3_share_1 : decode cX3_share 1 = .ok (.getfield 38, 3) := by decide +kernel
theorem dX3_share_4 : decode cX3_share 4 = .ok (.iload_n 1, 1) := by decide +kernel
theorem dX3_share_5 : decode cX3_share 5 = .ok (.invokevirtual 161, 3) := by decide +kernel
theorem dX3_share_8 : decode cX3_share 8 = .ok (.ifCond .eq 13, 3) := by decide +kernel
theorem dX3_share_11 : decode cX3_share 11 = .ok (.iload_n 2, 1) := by decide +kernel
theorem dX3_share_12 : decode cX3_share 12 = .ok (.iconst 0, 1) := by decide +kernel
theorem dX3_share_13 : decode cX3_share 13 = .ok (.bipush 9, 2) := by decide +kernel
theorem dX3_share_15 : decode cX3_share 15 = .ok (.invokestatic 77, 3) := by decide +kernel
theorem dX3_share_18 : decode cX3_share 18 = .ok (.ifCond .ne 6, 3) := by decide +kernel
theorem dX3_share_21 : decode cX3_share 21 = .ok (.ldc 81, 2) := by decide +kernel
theorem dX3_share_23 : decode cX3_share 23 = .ok (.ireturn, 1) := by decide +kernel
theorem dX3_share_24 : decode cX3_share 24 = .ok (.aload_n 0, 1) := by decide +kernel
theorem dX3_share_25 : decode cX3_share 25 = .ok (.getfield 48, 3) := by decide +kernel
theorem dX3_share_28 : decode cX3_share 28 = .ok (.aload_n 0, 1) := by decide +kernel
theorem dX3_share_29 : decode cX3_share 29 = .ok (.getfield 38, 3) := by decide +kernel
theorem dX3_share_32 : decode cX3_share 32 = .ok (.invokevirtual 147, 3) := by decide +kernel
theorem dX3_share_35 : decode cX3_share 35 = .ok (.aload_n 0, 1) := by decide +kernel
theorem dX3_share_36 : decode cX3_share 36 = .ok (.getfield 38, 3) := by decide +kernel
theorem dX3_share_39 : decode cX3_share 39 = .ok (.getfield 164, 3) := by decide +kernel
theorem dX3_share_42 : decode cX3_share 42 = .ok (.iload_n 1, 1) := by decide +kernel
theorem dX3_share_43 : decode cX3_share 43 = .ok (.iaload, 1) := by decide +kernel
theorem dX3_share_44 : decode cX3_share 44 = .ok (.istore_n 3, 1) := by decide +kernel
theorem dX3_share_45 : decode cX3_share 45 = .ok (.aload_n 0, 1) := by decide +kernel
theorem dX3_share_46 : decode cX3_share 46 = .ok (.getfield 38, 3) := by decide +kernel
theorem dX3_share_49 : decode cX3_share 49 = .ok (.getfield 164, 3) := by decide +kernel
theorem dX3_share_52 : decode cX3_share 52 = .ok (.iload_n 1, 1) := by decide +kernel
theorem dX3_share_53 : decode cX3_share 53 = .ok (.iload_n 2, 1) := by decide +kernel
theorem dX3_share_54 : decode cX3_share 54 = .ok (.iastore, 1) := by decide +kernel
theorem dX3_share_55 : decode cX3_share 55 = .ok (.iload_n 3, 1) := by decide +kernel
theorem dX3_share_56 : decode cX3_share 56 = .ok (.ireturn, 1) := by decide +kernel
set_option maxRecDepth 20000 in
theorem ggX3_settle_X1_isSquare : GoodIn wsX3_settle wsX1_isSquare := goodIn_r _ [10, 11, 12, 13, 14, 71, 72, 73, 74, 75, 76, 77, 78, 79, 80, 81, 82, 83, 84] (by decide +kernel) (by decide +kernel)
set_option maxRecDepth 20000 in
theorem gX3_settle_X1_isSquare : GoodIn wsX3_settle (wsV RX3 161 RX1 yX1_isSquare wsX1_isSquare) := goodIn_app (goodIn_of _ (by decide +kernel)) ggX3_settle_X1_isSquare
set_option maxRecDepth 20000 in
theorem ggX3_settle_X1_isCounted : GoodIn wsX3_settle wsX1_isCounted := goodIn_r _ [18, 19, 20, 21, 22, 13, 23, 71, 72, 73, 74, 75, 76, 77, 78, 79, 80, 81, 82, 83, 84] (by decide +kernel) (by decide +kernel)
set_option maxRecDepth 20000 in
theorem gX3_settle_X1_isCounted : GoodIn wsX3_settle (wsV RX3 167 RX1 yX1_isCounted wsX1_isCounted) := goodIn_app (goodIn_of _ (by decide +kernel)) ggX3_settle_X1_isCounted
set_option maxRecDepth 20000 in
theorem ggX3_settle_X0_keep : GoodIn wsX3_settle wsX0_keep := goodIn_r _ [28, 29, 30, 31, 32, 33, 34, 35, 36, 37, 38, 9, 39, 40, 41, 11, 42, 19, 43, 44, 45, 46, 47, 48, 49, 20, 50, 51, 52, 53, 85, 86, 87, 71, 72, 73, 74, 75, 76, 77, 78, 79, 80, 81, 82, 83, 84] (by decide +kernel) (by decide +kernel)
set_option maxRecDepth 20000 in
theorem gX3_settle_X0_keep : GoodIn wsX3_settle (wsV RX3 147 RX0 yX0_keep wsX0_keep) := goodIn_app (goodIn_of _ (by decide +kernel)) ggX3_settle_X0_keep
set_option maxRecDepth 20000 in
theorem ggX3_settle_X1_votesSayLamp : GoodIn wsX3_settle wsX1_votesSayLamp := goodIn_r _ [57, 48, 49, 71, 72, 73, 74, 75, 76, 77, 78, 79, 80, 81, 82, 83, 84] (by decide +kernel) (by decide +kernel)
set_option maxRecDepth 20000 in
theorem gX3_settle_X1_votesSayLamp : GoodIn wsX3_settle (wsV RX3 170 RX1 yX1_votesSayLamp wsX1_votesSayLamp) := goodIn_app (goodIn_of _ (by decide +kernel)) ggX3_settle_X1_votesSayLamp
theorem dX3_settle_0 : decode cX3_settle 0 = .ok (.aload_n 0, 1) := by decide +kernel
theorem dX3_settle_1 : decode cX3_settle 1 = .ok (.getfield 38, 3) := by decide +kernel
theorem dX3_settle_4 : decode cX3_settle 4 = .ok (.iload_n 1, 1) := by decide +kernel
theorem dX3_settle_5 : decode cX3_settle 5 = .ok (.invokevirtual 161, 3) := by decide +kernel
theorem dX3_settle_8 : decode cX3_settle 8 = .ok (.ifCond .ne 6, 3) := by decide +kernel
theorem dX3_settle_11 : decode cX3_settle 11 = .ok (.ldc 81, 2) := by decide +kernel
theorem dX3_settle_13 : decode cX3_settle 13 = .ok (.ireturn, 1) := by decide +kernel
theorem dX3_settle_14 : decode cX3_settle 14 = .ok (.aload_n 0, 1) := by decide +kernel
theorem dX3_settle_15 : decode cX3_settle 15 = .ok (.getfield 38, 3) := by decide +kernel
theorem dX3_settle_18 : decode cX3_settle 18 = .ok (.iload_n 1, 1) := by decide +kernel
theorem dX3_settle_19 : decode cX3_settle 19 = .ok (.invokevirtual 167, 3) := by decide +kernel
theorem dX3_settle_22 : decode cX3_settle 22 = .ok (.ifCond .eq 6, 3) := by decide +kernel
theorem dX3_settle_25 : decode cX3_settle 25 = .ok (.ldc 137, 2) := by decide +kernel
theorem dX3_settle_27 : decode cX3_settle 27 = .ok (.ireturn, 1) := by decide +kernel
theorem dX3_settle_28 : decode cX3_settle 28 = .ok (.aload_n 0, 1) := by decide +kernel
theorem dX3_settle_29 : decode cX3_settle 29 = .ok (.getfield 48, 3) := by decide +kernel
theorem dX3_settle_32 : decode cX3_settle 32 = .ok (.aload_n 0, 1) := by decide +kernel
theorem dX3_settle_33 : decode cX3_settle 33 = .ok (.getfield 38, 3) := by decide +kernel
theorem dX3_settle_36 : decode cX3_settle 36 = .ok (.invokevirtual 147, 3) := by decide +kernel
theorem dX3_settle_39 : decode cX3_settle 39 = .ok (.aload_n 0, 1) := by decide +kernel
theorem dX3_settle_40 : decode cX3_settle 40 = .ok (.getfield 38, 3) := by decide +kernel
theorem dX3_settle_43 : decode cX3_settle 43 = .ok (.iload_n 1, 1) := by decide +kernel
theorem dX3_settle_44 : decode cX3_settle 44 = .ok (.invokevirtual 170, 3) := by decide +kernel
theorem dX3_settle_47 : decode cX3_settle 47 = .ok (.ifCond .eq 7, 3) := by decide +kernel
theorem dX3_settle_50 : decode cX3_settle 50 = .ok (.iconst 1, 1) := by decide +kernel
theorem dX3_settle_51 : decode cX3_settle 51 = .ok (.goto 4, 3) := by decide +kernel
theorem dX3_settle_54 : decode cX3_settle 54 = .ok (.iconst 0, 1) := by decide +kernel
theorem dX3_settle_55 : decode cX3_settle 55 = .ok (.istore_n 2, 1) := by decide +kernel
theorem dX3_settle_56 : decode cX3_settle 56 = .ok (.aload_n 0, 1) := by decide +kernel
theorem dX3_settle_57 : decode cX3_settle 57 = .ok (.getfield 38, 3) := by decide +kernel
theorem dX3_settle_60 : decode cX3_settle 60 = .ok (.getfield 173, 3) := by decide +kernel
theorem dX3_settle_63 : decode cX3_settle 63 = .ok (.iload_n 1, 1) := by decide +kernel
theorem dX3_settle_64 : decode cX3_settle 64 = .ok (.iload_n 2, 1) := by decide +kernel
theorem dX3_settle_65 : decode cX3_settle 65 = .ok (.iastore, 1) := by decide +kernel
theorem dX3_settle_66 : decode cX3_settle 66 = .ok (.iload_n 2, 1) := by decide +kernel
theorem dX3_settle_67 : decode cX3_settle 67 = .ok (.ireturn, 1) := by decide +kernel
set_option maxRecDepth 20000 in
theorem ggX3_square_X1_isSquare : GoodIn wsX3_square wsX1_isSquare := goodIn_r _ [12, 13, 14, 15, 16, 39, 40, 41, 42, 43, 44, 45, 46, 47, 48, 49, 50, 51, 52] (by decide +kernel) (by decide +kernel)
set_option maxRecDepth 20000 in
theorem gX3_square_X1_isSquare : GoodIn wsX3_square (wsV RX3 161 RX1 yX1_isSquare wsX1_isSquare) := goodIn_app (goodIn_of _ (by decide +kernel)) ggX3_square_X1_isSquare
set_option maxRecDepth 20000 in
theorem ggX3_square_X1_isCounted : GoodIn wsX3_square wsX1_isCounted := goodIn_r _ [20, 21, 22, 23, 24, 15, 25, 39, 40, 41, 42, 43, 44, 45, 46, 47, 48, 49, 50, 51, 52] (by decide +kernel) (by decide +kernel)
set_option maxRecDepth 20000 in
theorem gX3_square_X1_isCounted : GoodIn wsX3_square (wsV RX3 167 RX1 yX1_isCounted wsX1_isCounted) := goodIn_app (goodIn_of _ (by decide +kernel)) ggX3_square_X1_isCounted
theorem dX3_square_0 : decode cX3_square 0 = .ok (.aload_n 0, 1) := by decide +kernel
theorem dX3_square_1 : decode cX3_square 1 = .ok (.getfield 38, 3) := by decide +kernel
theorem dX3_square_4 : decode cX3_square 4 = .ok (.iload_n 1, 1) := by decide +kernel
theorem dX3_square_5 : decode cX3_square 5 = .ok (.invokevirtual 161, 3) := by decide +kernel
theorem dX3_square_8 : decode cX3_square 8 = .ok (.ifCond .ne 6, 3) := by decide +kernel
theorem dX3_square_11 : decode cX3_square 11 = .ok (.ldc 81, 2) := by decide +kernel
theorem dX3_square_13 : decode cX3_square 13 = .ok (.ireturn, 1) := by decide +kernel
theorem dX3_square_14 : decode cX3_square 14 = .ok (.iload_n 2, 1) := by decide +kernel
theorem dX3_square_15 : decode cX3_square 15 = .ok (.tableswitch 119 0 5 #[37, 47, 72, 89, 99, 109], 37) := by decide +kernel
theorem dX3_square_52 : decode cX3_square 52 = .ok (.aload_n 0, 1) := by decide +kernel
theorem dX3_square_53 : decode cX3_square 53 = .ok (.getfield 38, 3) := by decide +kernel
theorem dX3_square_56 : decode cX3_square 56 = .ok (.getfield 164, 3) := by decide +kernel
theorem dX3_square_59 : decode cX3_square 59 = .ok (.iload_n 1, 1) := by decide +kernel
theorem dX3_square_60 : decode cX3_square 60 = .ok (.iaload, 1) := by decide +kernel
theorem dX3_square_61 : decode cX3_square 61 = .ok (.ireturn, 1) := by decide +kernel
theorem dX3_square_62 : decode cX3_square 62 = .ok (.aload_n 0, 1) := by decide +kernel
theorem dX3_square_63 : decode cX3_square 63 = .ok (.getfield 38, 3) := by decide +kernel
theorem dX3_square_66 : decode cX3_square 66 = .ok (.getfield 164, 3) := by decide +kernel
theorem dX3_square_69 : decode cX3_square 69 = .ok (.iload_n 1, 1) := by decide +kernel
theorem dX3_square_70 : decode cX3_square 70 = .ok (.iaload, 1) := by decide +kernel
theorem dX3_square_71 : decode cX3_square 71 = .ok (.aload_n 0, 1) := by decide +kernel
theorem dX3_square_72 : decode cX3_square 72 = .ok (.getfield 38, 3) := by decide +kernel
theorem dX3_square_75 : decode cX3_square 75 = .ok (.getfield 176, 3) := by decide +kernel
theorem dX3_square_78 : decode cX3_square 78 = .ok (.if_icmp .lt 7, 3) := by decide +kernel
theorem dX3_square_81 : decode cX3_square 81 = .ok (.iconst 1, 1) := by decide +kernel
theorem dX3_square_82 : decode cX3_square 82 = .ok (.goto 4, 3) := by decide +kernel
theorem dX3_square_85 : decode cX3_square 85 = .ok (.iconst 0, 1) := by decide +kernel
theorem dX3_square_86 : decode cX3_square 86 = .ok (.ireturn, 1) := by decide +kernel
theorem dX3_square_87 : decode cX3_square 87 = .ok (.aload_n 0, 1) := by decide +kernel
theorem dX3_square_88 : decode cX3_square 88 = .ok (.getfield 38, 3) := by decide +kernel
theorem dX3_square_91 : decode cX3_square 91 = .ok (.iload_n 1, 1) := by decide +kernel
theorem dX3_square_92 : decode cX3_square 92 = .ok (.invokevirtual 167, 3) := by decide +kernel
theorem dX3_square_95 : decode cX3_square 95 = .ok (.ifCond .eq 7, 3) := by decide +kernel
theorem dX3_square_98 : decode cX3_square 98 = .ok (.iconst 1, 1) := by decide +kernel
theorem dX3_square_99 : decode cX3_square 99 = .ok (.goto 4, 3) := by decide +kernel
theorem dX3_square_102 : decode cX3_square 102 = .ok (.iconst 0, 1) := by decide +kernel
theorem dX3_square_103 : decode cX3_square 103 = .ok (.ireturn, 1) := by decide +kernel
theorem dX3_square_104 : decode cX3_square 104 = .ok (.aload_n 0, 1) := by decide +kernel
theorem dX3_square_105 : decode cX3_square 105 = .ok (.getfield 38, 3) := by decide +kernel
theorem dX3_square_108 : decode cX3_square 108 = .ok (.getfield 179, 3) := by decide +kernel
theorem dX3_square_111 : decode cX3_square 111 = .ok (.iload_n 1, 1) := by decide +kernel
theorem dX3_square_112 : decode cX3_square 112 = .ok (.iaload, 1) := by decide +kernel
theorem dX3_square_113 : decode cX3_square 113 = .ok (.ireturn, 1) := by decide +kernel
theorem dX3_square_114 : decode cX3_square 114 = .ok (.aload_n 0, 1) := by decide +kernel
theorem dX3_square_115 : decode cX3_square 115 = .ok (.getfield 38, 3) := by decide +kernel
theorem dX3_square_118 : decode cX3_square 118 = .ok (.getfield 182, 3) := by decide +kernel
theorem dX3_square_121 : decode cX3_square 121 = .ok (.iload_n 1, 1) := by decide +kernel
theorem dX3_square_122 : decode cX3_square 122 = .ok (.iaload, 1) := by decide +kernel
theorem dX3_square_123 : decode cX3_square 123 = .ok (.ireturn, 1) := by decide +kernel
theorem dX3_square_124 : decode cX3_square 124 = .ok (.aload_n 0, 1) := by decide +kernel
theorem dX3_square_125 : decode cX3_square 125 = .ok (.getfield 38, 3) := by decide +kernel
theorem dX3_square_128 : decode cX3_square 128 = .ok (.getfield 173, 3) := by decide +kernel
theorem dX3_square_131 : decode cX3_square 131 = .ok (.iload_n 1, 1) := by decide +kernel
theorem dX3_square_132 : decode cX3_square 132 = .ok (.iaload, 1) := by decide +kernel
theorem dX3_square_133 : decode cX3_square 133 = .ok (.ireturn, 1) := by decide +kernel
theorem dX3_square_134 : decode cX3_square 134 = .ok (.ldc 81, 2) := by decide +kernel
theorem dX3_square_136 : decode cX3_square 136 = .ok (.ireturn, 1) := by decide +kernel
set_option maxRecDepth 20000 in
theorem ggX3_visitor_X1_isVisitor : GoodIn wsX3_visitor wsX1_isVisitor := goodIn_r _ [11, 12, 13, 14, 15, 29, 30, 31, 32, 33, 34, 35, 36, 37, 38, 39, 40, 41, 42] (by decide +kernel) (by decide +kernel)
set_option maxRecDepth 20000 in
theorem gX3_visitor_X1_isVisitor : GoodIn wsX3_visitor (wsV RX3 141 RX1 yX1_isVisitor wsX1_isVisitor) := goodIn_app (goodIn_of _ (by decide +kernel)) ggX3_visitor_X1_isVisitor
theorem dX3_visitor_0 : decode cX3_visitor 0 = .ok (.aload_n 0, 1) := by decide +kernel
theorem dX3_visitor_1 : decode cX3_visitor 1 = .ok (.getfield 38, 3) := by decide +kernel
theorem dX3_visitor_4 : decode cX3_visitor 4 = .ok (.iload_n 1, 1) := by decide +kernel
theorem dX3_visitor_5 : decode cX3_visitor 5 = .ok (.invokevirtual 141, 3) := by decide +kernel
theorem dX3_visitor_8 : decode cX3_visitor 8 = .ok (.ifCond .ne 6, 3) := by decide +kernel
theorem dX3_visitor_11 : decode cX3_visitor 11 = .ok (.ldc 81, 2) := by decide +kernel
theorem dX3_visitor_13 : decode cX3_visitor 13 = .ok (.ireturn, 1) := by decide +kernel
theorem dX3_visitor_14 : decode cX3_visitor 14 = .ok (.iload_n 2, 1) := by decide +kernel
theorem dX3_visitor_15 : decode cX3_visitor 15 = .ok (.tableswitch 69 0 3 #[29, 39, 49, 59], 29) := by decide +kernel
theorem dX3_visitor_44 : decode cX3_visitor 44 = .ok (.aload_n 0, 1) := by decide +kernel
theorem dX3_visitor_45 : decode cX3_visitor 45 = .ok (.getfield 38, 3) := by decide +kernel
theorem dX3_visitor_48 : decode cX3_visitor 48 = .ok (.getfield 185, 3) := by decide +kernel
theorem dX3_visitor_51 : decode cX3_visitor 51 = .ok (.iload_n 1, 1) := by decide +kernel
theorem dX3_visitor_52 : decode cX3_visitor 52 = .ok (.iaload, 1) := by decide +kernel
theorem dX3_visitor_53 : decode cX3_visitor 53 = .ok (.ireturn, 1) := by decide +kernel
theorem dX3_visitor_54 : decode cX3_visitor 54 = .ok (.aload_n 0, 1) := by decide +kernel
theorem dX3_visitor_55 : decode cX3_visitor 55 = .ok (.getfield 38, 3) := by decide +kernel
theorem dX3_visitor_58 : decode cX3_visitor 58 = .ok (.getfield 188, 3) := by decide +kernel
theorem dX3_visitor_61 : decode cX3_visitor 61 = .ok (.iload_n 1, 1) := by decide +kernel
theorem dX3_visitor_62 : decode cX3_visitor 62 = .ok (.iaload, 1) := by decide +kernel
theorem dX3_visitor_63 : decode cX3_visitor 63 = .ok (.ireturn, 1) := by decide +kernel
theorem dX3_visitor_64 : decode cX3_visitor 64 = .ok (.aload_n 0, 1) := by decide +kernel
theorem dX3_visitor_65 : decode cX3_visitor 65 = .ok (.getfield 38, 3) := by decide +kernel
theorem dX3_visitor_68 : decode cX3_visitor 68 = .ok (.getfield 191, 3) := by decide +kernel
theorem dX3_visitor_71 : decode cX3_visitor 71 = .ok (.iload_n 1, 1) := by decide +kernel
theorem dX3_visitor_72 : decode cX3_visitor 72 = .ok (.iaload, 1) := by decide +kernel
theorem dX3_visitor_73 : decode cX3_visitor 73 = .ok (.ireturn, 1) := by decide +kernel
theorem dX3_visitor_74 : decode cX3_visitor 74 = .ok (.aload_n 0, 1) := by decide +kernel
theorem dX3_visitor_75 : decode cX3_visitor 75 = .ok (.getfield 38, 3) := by decide +kernel
theorem dX3_visitor_78 : decode cX3_visitor 78 = .ok (.getfield 194, 3) := by decide +kernel
theorem dX3_visitor_81 : decode cX3_visitor 81 = .ok (.iload_n 1, 1) := by decide +kernel
theorem dX3_visitor_82 : decode cX3_visitor 82 = .ok (.iaload, 1) := by decide +kernel
theorem dX3_visitor_83 : decode cX3_visitor 83 = .ok (.ireturn, 1) := by decide +kernel
theorem dX3_visitor_84 : decode cX3_visitor 84 = .ok (.ldc 81, 2) := by decide +kernel
theorem dX3_visitor_86 : decode cX3_visitor 86 = .ok (.ireturn, 1) := by decide +kernel
set_option maxRecDepth 20000 in
theorem ggX3_sees_X1_isVisitor : GoodIn wsX3_sees wsX1_isVisitor := goodIn_r _ [11, 12, 13, 14, 15, 37, 38, 39, 40, 41, 42, 43, 44, 45, 46, 47, 48, 49, 50] (by decide +kernel) (by decide +kernel)
set_option maxRecDepth 20000 in
theorem gX3_sees_X1_isVisitor : GoodIn wsX3_sees (wsV RX3 141 RX1 yX1_isVisitor wsX1_isVisitor) := goodIn_app (goodIn_of _ (by decide +kernel)) ggX3_sees_X1_isVisitor
set_option maxRecDepth 20000 in
theorem ggX3_sees_X1_isSquare : GoodIn wsX3_sees wsX1_isSquare := goodIn_r _ [19, 20, 13, 14, 15, 37, 38, 39, 40, 41, 42, 43, 44, 45, 46, 47, 48, 49, 50] (by decide +kernel) (by decide +kernel)
set_option maxRecDepth 20000 in
theorem gX3_sees_X1_isSquare : GoodIn wsX3_sees (wsV RX3 161 RX1 yX1_isSquare wsX1_isSquare) := goodIn_app (goodIn_of _ (by decide +kernel)) ggX3_sees_X1_isSquare
set_option maxRecDepth 20000 in
theorem ggX3_sees_X3_seenBy : GoodIn wsX3_sees wsX3_seenBy := goodIn_r _ [23] (by decide +kernel) (by decide +kernel)
set_option maxRecDepth 20000 in
theorem gX3_sees_X3_seenBy : GoodIn wsX3_sees (va_wsS RX3 200 yX3_seenBy wsX3_seenBy) := goodIn_app (goodIn_of _ (by decide +kernel)) ggX3_sees_X3_seenBy
theorem dX3_sees_0 : decode cX3_sees 0 = .ok (.aload_n 0, 1) := by decide +kernel
theorem dX3_sees_1 : decode cX3_sees 1 = .ok (.getfield 38, 3) := by decide +kernel
theorem dX3_sees_4 : decode cX3_sees 4 = .ok (.iload_n 1, 1) := by decide +kernel
theorem dX3_sees_5 : decode cX3_sees 5 = .ok (.invokevirtual 141, 3) := by decide +kernel
theorem dX3_sees_8 : decode cX3_sees 8 = .ok (.ifCond .eq 14, 3) := by decide +kernel
theorem dX3_sees_11 : decode cX3_sees 11 = .ok (.aload_n 0, 1) := by decide +kernel
theorem dX3_sees_12 : decode cX3_sees 12 = .ok (.getfield 38, 3) := by decide +kernel
theorem dX3_sees_15 : decode cX3_sees 15 = .ok (.iload_n 2, 1) := by decide +kernel
theorem dX3_sees_16 : decode cX3_sees 16 = .ok (.invokevirtual 161, 3) := by decide +kernel
theorem dX3_sees_19 : decode cX3_sees 19 = .ok (.ifCond .ne 6, 3) := by decide +kernel
theorem dX3_sees_22 : decode cX3_sees 22 = .ok (.ldc 81, 2) := by decide +kernel
theorem dX3_sees_24 : decode cX3_sees 24 = .ok (.ireturn, 1) := by decide +kernel
theorem dX3_sees_25 : decode cX3_sees 25 = .ok (.aload_n 0, 1) := by decide +kernel
theorem dX3_sees_26 : decode cX3_sees 26 = .ok (.getfield 38, 3) := by decide +kernel
theorem dX3_sees_29 : decode cX3_sees 29 = .ok (.getfield 185, 3) := by decide +kernel
theorem dX3_sees_32 : decode cX3_sees 32 = .ok (.iload_n 1, 1) := by decide +kernel
theorem dX3_sees_33 : decode cX3_sees 33 = .ok (.iaload, 1) := by decide +kernel
theorem dX3_sees_34 : decode cX3_sees 34 = .ok (.aload_n 0, 1) := by decide +kernel
theorem dX3_sees_35 : decode cX3_sees 35 = .ok (.getfield 38, 3) := by decide +kernel
theorem dX3_sees_38 : decode cX3_sees 38 = .ok (.getfield 188, 3) := by decide +kernel
theorem dX3_sees_41 : decode cX3_sees 41 = .ok (.iload_n 1, 1) := by decide +kernel
theorem dX3_sees_42 : decode cX3_sees 42 = .ok (.iaload, 1) := by decide +kernel
theorem dX3_sees_43 : decode cX3_sees 43 = .ok (.aload_n 0, 1) := by decide +kernel
theorem dX3_sees_44 : decode cX3_sees 44 = .ok (.getfield 38, 3) := by decide +kernel
theorem dX3_sees_47 : decode cX3_sees 47 = .ok (.getfield 197, 3) := by decide +kernel
theorem dX3_sees_50 : decode cX3_sees 50 = .ok (.iload_n 2, 1) := by decide +kernel
theorem dX3_sees_51 : decode cX3_sees 51 = .ok (.iaload, 1) := by decide +kernel
theorem dX3_sees_52 : decode cX3_sees 52 = .ok (.aload_n 0, 1) := by decide +kernel
theorem dX3_sees_53 : decode cX3_sees 53 = .ok (.getfield 38, 3) := by decide +kernel
theorem dX3_sees_56 : decode cX3_sees 56 = .ok (.getfield 164, 3) := by decide +kernel
theorem dX3_sees_59 : decode cX3_sees 59 = .ok (.iload_n 2, 1) := by decide +kernel
theorem dX3_sees_60 : decode cX3_sees 60 = .ok (.iaload, 1) := by decide +kernel
theorem dX3_sees_61 : decode cX3_sees 61 = .ok (.invokestatic 200, 3) := by decide +kernel
theorem dX3_sees_64 : decode cX3_sees 64 = .ok (.ireturn, 1) := by decide +kernel
set_option maxRecDepth 20000 in
theorem ggX3_clicks_X1_isVisitor : GoodIn wsX3_clicks wsX1_isVisitor := goodIn_r _ [7, 8, 9, 10, 11, 39, 40, 41, 42, 43, 44, 45, 46, 47, 48, 49, 50, 51, 52] (by decide +kernel) (by decide +kernel)
set_option maxRecDepth 20000 in
theorem gX3_clicks_X1_isVisitor : GoodIn wsX3_clicks (wsV RX3 141 RX1 yX1_isVisitor wsX1_isVisitor) := goodIn_app (goodIn_of _ (by decide +kernel)) ggX3_clicks_X1_isVisitor
set_option maxRecDepth 20000 in
theorem ggX3_clicks_X1_clickBits : GoodIn wsX3_clicks wsX1_clickBits := goodIn_r _ [15, 16, 17, 18, 19, 20, 21, 10, 22, 23, 24, 25, 39, 40, 41, 42, 43, 44, 45, 46, 47, 48, 49, 50, 51, 52] (by decide +kernel) (by decide +kernel)
set_option maxRecDepth 20000 in
theorem gX3_clicks_X1_clickBits : GoodIn wsX3_clicks (wsV RX3 204 RX1 yX1_clickBits wsX1_clickBits) := goodIn_app (goodIn_of _ (by decide +kernel)) ggX3_clicks_X1_clickBits
theorem dX3_clicks_0 : decode cX3_clicks 0 = .ok (.aload_n 0, 1) := by decide +kernel
theorem dX3_clicks_1 : decode cX3_clicks 1 = .ok (.getfield 38, 3) := by decide +kernel
theorem dX3_clicks_4 : decode cX3_clicks 4 = .ok (.iload_n 1, 1) := by decide +kernel
theorem dX3_clicks_5 : decode cX3_clicks 5 = .ok (.invokevirtual 141, 3) := by decide +kernel
theorem dX3_clicks_8 : decode cX3_clicks 8 = .ok (.ifCond .eq 14, 3) := by decide +kernel
theorem dX3_clicks_11 : decode cX3_clicks 11 = .ok (.aload_n 0, 1) := by decide +kernel
theorem dX3_clicks_12 : decode cX3_clicks 12 = .ok (.getfield 38, 3) := by decide +kernel
theorem dX3_clicks_15 : decode cX3_clicks 15 = .ok (.iload_n 1, 1) := by decide +kernel
theorem dX3_clicks_16 : decode cX3_clicks 16 = .ok (.invokevirtual 204, 3) := by decide +kernel
theorem dX3_clicks_19 : decode cX3_clicks 19 = .ok (.goto 5, 3) := by decide +kernel
theorem dX3_clicks_22 : decode cX3_clicks 22 = .ok (.ldc 81, 2) := by decide +kernel
theorem dX3_clicks_24 : decode cX3_clicks 24 = .ok (.ireturn, 1) := by decide +kernel
set_option maxRecDepth 20000 in
theorem ggX3_wrong_X1_isVisitor : GoodIn wsX3_wrong wsX1_isVisitor := goodIn_r _ [7, 8, 9, 10, 11, 79, 80, 81, 82, 83, 84, 85, 86, 87, 88, 89, 90, 91, 92] (by decide +kernel) (by decide +kernel)
set_option maxRecDepth 20000 in
theorem gX3_wrong_X1_isVisitor : GoodIn wsX3_wrong (wsV RX3 141 RX1 yX1_isVisitor wsX1_isVisitor) := goodIn_app (goodIn_of _ (by decide +kernel)) ggX3_wrong_X1_isVisitor
set_option maxRecDepth 20000 in
theorem ggX3_wrong_X1_areSquares : GoodIn wsX3_wrong wsX1_areSquares := goodIn_r _ [15, 16, 17, 18, 6, 19, 20, 9, 10, 11, 79, 80, 81, 82, 83, 84, 85, 86, 87, 88, 89, 90, 91, 92] (by decide +kernel) (by decide +kernel)
set_option maxRecDepth 20000 in
theorem gX3_wrong_X1_areSquares : GoodIn wsX3_wrong (wsV RX3 144 RX1 yX1_areSquares wsX1_areSquares) := goodIn_app (goodIn_of _ (by decide +kernel)) ggX3_wrong_X1_areSquares
set_option maxRecDepth 20000 in
theorem ggX3_wrong_X1_timesWrong : GoodIn wsX3_wrong wsX1_timesWrong := goodIn_r _ [24, 25, 26, 27, 6, 28, 29, 30, 31, 32, 20, 33, 34, 35, 36, 37, 10, 38, 39, 40, 41, 42, 43, 44, 45, 46, 47, 48, 49, 50, 51, 52, 53, 54, 55, 56, 57, 58, 59, 60, 61, 62, 63, 64, 65, 79, 80, 81, 82, 83, 84, 85, 86, 87, 88, 89, 90, 91, 92] (by decide +kernel) (by decide +kernel)
set_option maxRecDepth 20000 in
theorem gX3_wrong_X1_timesWrong : GoodIn wsX3_wrong (wsV RX3 207 RX1 yX1_timesWrong wsX1_timesWrong) := goodIn_app (goodIn_of _ (by decide +kernel)) ggX3_wrong_X1_timesWrong
theorem dX3_wrong_0 : decode cX3_wrong 0 = .ok (.aload_n 0, 1) := by decide +kernel
theorem dX3_wrong_1 : decode cX3_wrong 1 = .ok (.getfield 38, 3) := by decide +kernel
theorem dX3_wrong_4 : decode cX3_wrong 4 = .ok (.iload_n 1, 1) := by decide +kernel
theorem dX3_wrong_5 : decode cX3_wrong 5 = .ok (.invokevirtual 141, 3) := by decide +kernel
theorem dX3_wrong_8 : decode cX3_wrong 8 = .ok (.ifCond .eq 14, 3) := by decide +kernel
theorem dX3_wrong_11 : decode cX3_wrong 11 = .ok (.aload_n 0, 1) := by decide +kernel
theorem dX3_wrong_12 : decode cX3_wrong 12 = .ok (.getfield 38, 3) := by decide +kernel
theorem dX3_wrong_15 : decode cX3_wrong 15 = .ok (.iload_n 2, 1) := by decide +kernel
theorem dX3_wrong_16 : decode cX3_wrong 16 = .ok (.invokevirtual 144, 3) := by decide +kernel
theorem dX3_wrong_19 : decode cX3_wrong 19 = .ok (.ifCond .ne 6, 3) := by decide +kernel
theorem dX3_wrong_22 : decode cX3_wrong 22 = .ok (.ldc 81, 2) := by decide +kernel
theorem dX3_wrong_24 : decode cX3_wrong 24 = .ok (.ireturn, 1) := by decide +kernel
theorem dX3_wrong_25 : decode cX3_wrong 25 = .ok (.aload_n 0, 1) := by decide +kernel
theorem dX3_wrong_26 : decode cX3_wrong 26 = .ok (.getfield 38, 3) := by decide +kernel
theorem dX3_wrong_29 : decode cX3_wrong 29 = .ok (.iload_n 1, 1) := by decide +kernel
theorem dX3_wrong_30 : decode cX3_wrong 30 = .ok (.iload_n 2, 1) := by decide +kernel
theorem dX3_wrong_31 : decode cX3_wrong 31 = .ok (.invokevirtual 207, 3) := by decide +kernel
theorem dX3_wrong_34 : decode cX3_wrong 34 = .ok (.ireturn, 1) := by decide +kernel
set_option maxRecDepth 20000 in
theorem ggX3_learned_X1_isSquare : GoodIn wsX3_learned wsX1_isSquare := goodIn_r _ [9, 10, 11, 12, 13, 31, 32, 33, 34, 35, 36, 37, 38, 39, 40, 41, 42, 43, 44] (by decide +kernel) (by decide +kernel)
set_option maxRecDepth 20000 in
theorem gX3_learned_X1_isSquare : GoodIn wsX3_learned (wsV RX3 161 RX1 yX1_isSquare wsX1_isSquare) := goodIn_app (goodIn_of _ (by decide +kernel)) ggX3_learned_X1_isSquare
set_option maxRecDepth 20000 in
theorem ggX3_learned_J6_compare_7cf53 : GoodIn wsX3_learned wsJ6_compare_7cf53 := goodIn_r _ [17] (by decide +kernel) (by decide +kernel)
set_option maxRecDepth 20000 in
theorem gX3_learned_J6_compare_7cf53 : GoodIn wsX3_learned (va_wsS RX3 241 yJ6_compare_7cf53 wsJ6_compare_7cf53) := goodIn_app (goodIn_of _ (by decide +kernel)) ggX3_learned_J6_compare_7cf53
theorem dX3_learned_0 : decode cX3_learned 0 = .ok (.aload_n 0, 1) := by decide +kernel
theorem dX3_learned_1 : decode cX3_learned 1 = .ok (.getfield 38, 3) := by decide +kernel
theorem dX3_learned_4 : decode cX3_learned 4 = .ok (.iload_n 1, 1) := by decide +kernel
theorem dX3_learned_5 : decode cX3_learned 5 = .ok (.invokevirtual 161, 3) := by decide +kernel
theorem dX3_learned_8 : decode cX3_learned 8 = .ok (.ifCond .ne 6, 3) := by decide +kernel
theorem dX3_learned_11 : decode cX3_learned 11 = .ok (.ldc 81, 2) := by decide +kernel
theorem dX3_learned_13 : decode cX3_learned 13 = .ok (.ireturn, 1) := by decide +kernel
theorem dX3_learned_14 : decode cX3_learned 14 = .ok (.iconst 1, 1) := by decide +kernel
theorem dX3_learned_15 : decode cX3_learned 15 = .ok (.aload_n 0, 1) := by decide +kernel
theorem dX3_learned_16 : decode cX3_learned 16 = .ok (.getfield 38, 3) := by decide +kernel
theorem dX3_learned_19 : decode cX3_learned 19 = .ok (.getfield 179, 3) := by decide +kernel
theorem dX3_learned_22 : decode cX3_learned 22 = .ok (.iload_n 1, 1) := by decide +kernel
theorem dX3_learned_23 : decode cX3_learned 23 = .ok (.iaload, 1) := by decide +kernel
theorem dX3_learned_24 : decode cX3_learned 24 = .ok (.aload_n 0, 1) := by decide +kernel
theorem dX3_learned_25 : decode cX3_learned 25 = .ok (.getfield 38, 3) := by decide +kernel
theorem dX3_learned_28 : decode cX3_learned 28 = .ok (.getfield 182, 3) := by decide +kernel
theorem dX3_learned_31 : decode cX3_learned 31 = .ok (.iload_n 1, 1) := by decide +kernel
theorem dX3_learned_32 : decode cX3_learned 32 = .ok (.iaload, 1) := by decide +kernel
theorem dX3_learned_33 : decode cX3_learned 33 = .ok (.invokestatic 241, 3) := by decide +kernel
theorem dX3_learned_36 : decode cX3_learned 36 = .ok (.iadd, 1) := by decide +kernel
theorem dX3_learned_37 : decode cX3_learned 37 = .ok (.ireturn, 1) := by decide +kernel
set_option maxRecDepth 20000 in
theorem ggX3_needs_X1_isSquare : GoodIn wsX3_needs wsX1_isSquare := goodIn_r _ [10, 11, 12, 13, 14, 43, 44, 45, 46, 47, 48, 49, 50, 51, 52, 53, 54, 55, 56] (by decide +kernel) (by decide +kernel)
set_option maxRecDepth 20000 in
theorem gX3_needs_X1_isSquare : GoodIn wsX3_needs (wsV RX3 161 RX1 yX1_isSquare wsX1_isSquare) := goodIn_app (goodIn_of _ (by decide +kernel)) ggX3_needs_X1_isSquare
set_option maxRecDepth 20000 in
theorem ggX3_needs_X1_isCounted : GoodIn wsX3_needs wsX1_isCounted := goodIn_r _ [18, 19, 20, 21, 22, 13, 23, 43, 44, 45, 46, 47, 48, 49, 50, 51, 52, 53, 54, 55, 56] (by decide +kernel) (by decide +kernel)
set_option maxRecDepth 20000 in
theorem gX3_needs_X1_isCounted : GoodIn wsX3_needs (wsV RX3 167 RX1 yX1_isCounted wsX1_isCounted) := goodIn_app (goodIn_of _ (by decide +kernel)) ggX3_needs_X1_isCounted
set_option maxRecDepth 20000 in
theorem ggX3_needs_X1_votesSayLamp : GoodIn wsX3_needs wsX1_votesSayLamp := goodIn_r _ [27, 28, 29, 43, 44, 45, 46, 47, 48, 49, 50, 51, 52, 53, 54, 55, 56] (by decide +kernel) (by decide +kernel)
set_option maxRecDepth 20000 in
theorem gX3_needs_X1_votesSayLamp : GoodIn wsX3_needs (wsV RX3 170 RX1 yX1_votesSayLamp wsX1_votesSayLamp) := goodIn_app (goodIn_of _ (by decide +kernel)) ggX3_needs_X1_votesSayLamp
theorem dX3_needs_0 : decode cX3_needs 0 = .ok (.aload_n 0, 1) := by decide +kernel
theorem dX3_needs_1 : decode cX3_needs 1 = .ok (.getfield 38, 3) := by decide +kernel
theorem dX3_needs_4 : decode cX3_needs 4 = .ok (.iload_n 1, 1) := by decide +kernel
theorem dX3_needs_5 : decode cX3_needs 5 = .ok (.invokevirtual 161, 3) := by decide +kernel
theorem dX3_needs_8 : decode cX3_needs 8 = .ok (.ifCond .ne 6, 3) := by decide +kernel
theorem dX3_needs_11 : decode cX3_needs 11 = .ok (.ldc 81, 2) := by decide +kernel
theorem dX3_needs_13 : decode cX3_needs 13 = .ok (.ireturn, 1) := by decide +kernel
theorem dX3_needs_14 : decode cX3_needs 14 = .ok (.aload_n 0, 1) := by decide +kernel
theorem dX3_needs_15 : decode cX3_needs 15 = .ok (.getfield 38, 3) := by decide +kernel
theorem dX3_needs_18 : decode cX3_needs 18 = .ok (.iload_n 1, 1) := by decide +kernel
theorem dX3_needs_19 : decode cX3_needs 19 = .ok (.invokevirtual 167, 3) := by decide +kernel
theorem dX3_needs_22 : decode cX3_needs 22 = .ok (.ifCond .eq 6, 3) := by decide +kernel
theorem dX3_needs_25 : decode cX3_needs 25 = .ok (.ldc 137, 2) := by decide +kernel
theorem dX3_needs_27 : decode cX3_needs 27 = .ok (.ireturn, 1) := by decide +kernel
theorem dX3_needs_28 : decode cX3_needs 28 = .ok (.aload_n 0, 1) := by decide +kernel
theorem dX3_needs_29 : decode cX3_needs 29 = .ok (.getfield 38, 3) := by decide +kernel
theorem dX3_needs_32 : decode cX3_needs 32 = .ok (.getfield 179, 3) := by decide +kernel
theorem dX3_needs_35 : decode cX3_needs 35 = .ok (.iload_n 1, 1) := by decide +kernel
theorem dX3_needs_36 : decode cX3_needs 36 = .ok (.iaload, 1) := by decide +kernel
theorem dX3_needs_37 : decode cX3_needs 37 = .ok (.aload_n 0, 1) := by decide +kernel
theorem dX3_needs_38 : decode cX3_needs 38 = .ok (.getfield 38, 3) := by decide +kernel
theorem dX3_needs_41 : decode cX3_needs 41 = .ok (.getfield 182, 3) := by decide +kernel
theorem dX3_needs_44 : decode cX3_needs 44 = .ok (.iload_n 1, 1) := by decide +kernel
theorem dX3_needs_45 : decode cX3_needs 45 = .ok (.iaload, 1) := by decide +kernel
theorem dX3_needs_46 : decode cX3_needs 46 = .ok (.isub, 1) := by decide +kernel
theorem dX3_needs_47 : decode cX3_needs 47 = .ok (.istore_n 2, 1) := by decide +kernel
theorem dX3_needs_48 : decode cX3_needs 48 = .ok (.aload_n 0, 1) := by decide +kernel
theorem dX3_needs_49 : decode cX3_needs 49 = .ok (.getfield 38, 3) := by decide +kernel
theorem dX3_needs_52 : decode cX3_needs 52 = .ok (.iload_n 1, 1) := by decide +kernel
theorem dX3_needs_53 : decode cX3_needs 53 = .ok (.invokevirtual 170, 3) := by decide +kernel
theorem dX3_needs_56 : decode cX3_needs 56 = .ok (.ifCond .eq 7, 3) := by decide +kernel
theorem dX3_needs_59 : decode cX3_needs 59 = .ok (.iload_n 2, 1) := by decide +kernel
theorem dX3_needs_60 : decode cX3_needs 60 = .ok (.goto 6, 3) := by decide +kernel
theorem dX3_needs_63 : decode cX3_needs 63 = .ok (.iconst 1, 1) := by decide +kernel
theorem dX3_needs_64 : decode cX3_needs 64 = .ok (.iload_n 2, 1) := by decide +kernel
theorem dX3_needs_65 : decode cX3_needs 65 = .ok (.isub, 1) := by decide +kernel
theorem dX3_needs_66 : decode cX3_needs 66 = .ok (.ireturn, 1) := by decide +kernel
set_option maxRecDepth 20000 in
theorem ggX3_kind_X1_isSquare : GoodIn wsX3_kind wsX1_isSquare := goodIn_r _ [8, 9, 10, 11, 12, 26, 27, 28, 29, 30, 31, 32, 33, 34, 35, 36, 37, 38, 39] (by decide +kernel) (by decide +kernel)
set_option maxRecDepth 20000 in
theorem gX3_kind_X1_isSquare : GoodIn wsX3_kind (wsV RX3 161 RX1 yX1_isSquare wsX1_isSquare) := goodIn_app (goodIn_of _ (by decide +kernel)) ggX3_kind_X1_isSquare
theorem dX3_kind_0 : decode cX3_kind 0 = .ok (.aload_n 0, 1) := by decide +kernel
theorem dX3_kind_1 : decode cX3_kind 1 = .ok (.getfield 38, 3) := by decide +kernel
theorem dX3_kind_4 : decode cX3_kind 4 = .ok (.iload_n 1, 1) := by decide +kernel
theorem dX3_kind_5 : decode cX3_kind 5 = .ok (.invokevirtual 161, 3) := by decide +kernel
theorem dX3_kind_8 : decode cX3_kind 8 = .ok (.ifCond .eq 15, 3) := by decide +kernel
theorem dX3_kind_11 : decode cX3_kind 11 = .ok (.aload_n 0, 1) := by decide +kernel
theorem dX3_kind_12 : decode cX3_kind 12 = .ok (.getfield 38, 3) := by decide +kernel
theorem dX3_kind_15 : decode cX3_kind 15 = .ok (.getfield 197, 3) := by decide +kernel
theorem dX3_kind_18 : decode cX3_kind 18 = .ok (.iload_n 1, 1) := by decide +kernel
theorem dX3_kind_19 : decode cX3_kind 19 = .ok (.iaload, 1) := by decide +kernel
theorem dX3_kind_20 : decode cX3_kind 20 = .ok (.goto 5, 3) := by decide +kernel
theorem dX3_kind_23 : decode cX3_kind 23 = .ok (.ldc 81, 2) := by decide +kernel
theorem dX3_kind_25 : decode cX3_kind 25 = .ok (.ireturn, 1) := by decide +kernel
theorem dX3_status_0 : decode cX3_status 0 = .ok (.aload_n 0, 1) := by decide +kernel
theorem dX3_status_1 : decode cX3_status 1 = .ok (.getfield 21, 3) := by decide +kernel
theorem dX3_status_4 : decode cX3_status 4 = .ok (.ireturn, 1) := by decide +kernel
theorem dJ6_compare_7cf53_0 : decode cJ6_compare_7cf53 0 = .ok (.iload_n 0, 1) := by decide +kernel
theorem dJ6_compare_7cf53_1 : decode cJ6_compare_7cf53 1 = .ok (.iload_n 1, 1) := by decide +kernel
theorem dJ6_compare_7cf53_2 : decode cJ6_compare_7cf53 2 = .ok (.if_icmp .ge 7, 3) := by decide +kernel
theorem dJ6_compare_7cf53_5 : decode cJ6_compare_7cf53 5 = .ok (.iconst (-1), 1) := by decide +kernel
theorem dJ6_compare_7cf53_6 : decode cJ6_compare_7cf53 6 = .ok (.goto 13, 3) := by decide +kernel
theorem dJ6_compare_7cf53_9 : decode cJ6_compare_7cf53 9 = .ok (.iload_n 0, 1) := by decide +kernel
theorem dJ6_compare_7cf53_10 : decode cJ6_compare_7cf53 10 = .ok (.iload_n 1, 1) := by decide +kernel
theorem dJ6_compare_7cf53_11 : decode cJ6_compare_7cf53 11 = .ok (.if_icmp .ne 7, 3) := by decide +kernel
theorem dJ6_compare_7cf53_14 : decode cJ6_compare_7cf53 14 = .ok (.iconst 0, 1) := by decide +kernel
theorem dJ6_compare_7cf53_15 : decode cJ6_compare_7cf53 15 = .ok (.goto 4, 3) := by decide +kernel
theorem dJ6_compare_7cf53_18 : decode cJ6_compare_7cf53 18 = .ok (.iconst 1, 1) := by decide +kernel
theorem dJ6_compare_7cf53_19 : decode cJ6_compare_7cf53 19 = .ok (.ireturn, 1) := by decide +kernel
