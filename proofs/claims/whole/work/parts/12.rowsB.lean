theorem dX1_isRead_0 : decode cX1_isRead 0 = .ok (.aload_n 0, 1) := by decide +kernel
theorem dX1_isRead_1 : decode cX1_isRead 1 = .ok (.getfield 18, 3) := by decide +kernel
theorem dX1_isRead_4 : decode cX1_isRead 4 = .ok (.ifCond .le 14, 3) := by decide +kernel
theorem dX1_isRead_7 : decode cX1_isRead 7 = .ok (.aload_n 0, 1) := by decide +kernel
theorem dX1_isRead_8 : decode cX1_isRead 8 = .ok (.getfield 21, 3) := by decide +kernel
theorem dX1_isRead_11 : decode cX1_isRead 11 = .ok (.ifCond .le 7, 3) := by decide +kernel
theorem dX1_isRead_14 : decode cX1_isRead 14 = .ok (.iconst 1, 1) := by decide +kernel
theorem dX1_isRead_15 : decode cX1_isRead 15 = .ok (.goto 4, 3) := by decide +kernel
theorem dX1_isRead_18 : decode cX1_isRead 18 = .ok (.iconst 0, 1) := by decide +kernel
theorem dX1_isRead_19 : decode cX1_isRead 19 = .ok (.ireturn, 1) := by decide +kernel
theorem dX1_allSquares_0 : decode cX1_allSquares 0 = .ok (.iconst 1, 1) := by decide +kernel
theorem dX1_allSquares_1 : decode cX1_allSquares 1 = .ok (.aload_n 0, 1) := by decide +kernel
theorem dX1_allSquares_2 : decode cX1_allSquares 2 = .ok (.getfield 18, 3) := by decide +kernel
theorem dX1_allSquares_5 : decode cX1_allSquares 5 = .ok (.ishl, 1) := by decide +kernel
theorem dX1_allSquares_6 : decode cX1_allSquares 6 = .ok (.iconst 1, 1) := by decide +kernel
theorem dX1_allSquares_7 : decode cX1_allSquares 7 = .ok (.isub, 1) := by decide +kernel
theorem dX1_allSquares_8 : decode cX1_allSquares 8 = .ok (.ireturn, 1) := by decide +kernel
set_option maxRecDepth 20000 in
theorem ggX1_areSquares_X1_allSquares : GoodIn wsX1_areSquares wsX1_allSquares := goodIn_r _ [5, 6, 10, 11, 12, 13, 14, 15, 16, 17, 18, 19, 20, 21, 22, 23] (by decide +kernel) (by decide +kernel)
set_option maxRecDepth 20000 in
theorem gX1_areSquares_X1_allSquares : GoodIn wsX1_areSquares (wsV RX1 72 RX1 yX1_allSquares wsX1_allSquares) := goodIn_app (goodIn_of _ (by decide +kernel)) ggX1_areSquares_X1_allSquares
set_option maxRecDepth 20000 in
theorem ggX1_areSquares_X3_isIn : GoodIn wsX1_areSquares wsX3_isIn := goodIn_r _ [9] (by decide +kernel) (by decide +kernel)
set_option maxRecDepth 20000 in
theorem gX1_areSquares_X3_isIn_n68 : GoodIn wsX1_areSquares (wsX3_isIn) := ggX1_areSquares_X3_isIn
theorem dX1_areSquares_0 : decode cX1_areSquares 0 = .ok (.iload_n 1, 1) := by decide +kernel
theorem dX1_areSquares_1 : decode cX1_areSquares 1 = .ok (.iconst 0, 1) := by decide +kernel
theorem dX1_areSquares_2 : decode cX1_areSquares 2 = .ok (.aload_n 0, 1) := by decide +kernel
theorem dX1_areSquares_3 : decode cX1_areSquares 3 = .ok (.invokevirtual 72, 3) := by decide +kernel
theorem dX1_areSquares_6 : decode cX1_areSquares 6 = .ok (.invokestatic 68, 3) := by decide +kernel
theorem dX1_areSquares_9 : decode cX1_areSquares 9 = .ok (.ireturn, 1) := by decide +kernel
set_option maxRecDepth 20000 in
theorem ggX1_areVisitors_X3_isIn : GoodIn wsX1_areVisitors wsX3_isIn := goodIn_r _ [4] (by decide +kernel) (by decide +kernel)
set_option maxRecDepth 20000 in
theorem gX1_areVisitors_X3_isIn_n68 : GoodIn wsX1_areVisitors (wsX3_isIn) := ggX1_areVisitors_X3_isIn
theorem dX1_areVisitors_0 : decode cX1_areVisitors 0 = .ok (.iload_n 1, 1) := by decide +kernel
theorem dX1_areVisitors_1 : decode cX1_areVisitors 1 = .ok (.iconst 0, 1) := by decide +kernel
theorem dX1_areVisitors_2 : decode cX1_areVisitors 2 = .ok (.iconst 1, 1) := by decide +kernel
theorem dX1_areVisitors_3 : decode cX1_areVisitors 3 = .ok (.aload_n 0, 1) := by decide +kernel
theorem dX1_areVisitors_4 : decode cX1_areVisitors 4 = .ok (.getfield 21, 3) := by decide +kernel
theorem dX1_areVisitors_7 : decode cX1_areVisitors 7 = .ok (.ishl, 1) := by decide +kernel
theorem dX1_areVisitors_8 : decode cX1_areVisitors 8 = .ok (.iconst 1, 1) := by decide +kernel
theorem dX1_areVisitors_9 : decode cX1_areVisitors 9 = .ok (.isub, 1) := by decide +kernel
theorem dX1_areVisitors_10 : decode cX1_areVisitors 10 = .ok (.invokestatic 68, 3) := by decide +kernel
theorem dX1_areVisitors_13 : decode cX1_areVisitors 13 = .ok (.ireturn, 1) := by decide +kernel
theorem dX1_lampBits_0 : decode cX1_lampBits 0 = .ok (.iconst 0, 1) := by decide +kernel
theorem dX1_lampBits_1 : decode cX1_lampBits 1 = .ok (.istore_n 1, 1) := by decide +kernel
theorem dX1_lampBits_2 : decode cX1_lampBits 2 = .ok (.iconst 0, 1) := by decide +kernel
theorem dX1_lampBits_3 : decode cX1_lampBits 3 = .ok (.istore_n 2, 1) := by decide +kernel
theorem dX1_lampBits_4 : decode cX1_lampBits 4 = .ok (.iload_n 2, 1) := by decide +kernel
theorem dX1_lampBits_5 : decode cX1_lampBits 5 = .ok (.aload_n 0, 1) := by decide +kernel
theorem dX1_lampBits_6 : decode cX1_lampBits 6 = .ok (.getfield 18, 3) := by decide +kernel
theorem dX1_lampBits_9 : decode cX1_lampBits 9 = .ok (.if_icmp .ge 62, 3) := by decide +kernel
theorem dX1_lampBits_12 : decode cX1_lampBits 12 = .ok (.aload_n 0, 1) := by decide +kernel
theorem dX1_lampBits_13 : decode cX1_lampBits 13 = .ok (.getfield 37, 3) := by decide +kernel
theorem dX1_lampBits_16 : decode cX1_lampBits 16 = .ok (.iload_n 2, 1) := by decide +kernel
theorem dX1_lampBits_17 : decode cX1_lampBits 17 = .ok (.iaload, 1) := by decide +kernel
theorem dX1_lampBits_18 : decode cX1_lampBits 18 = .ok (.ldc 61, 2) := by decide +kernel
theorem dX1_lampBits_20 : decode cX1_lampBits 20 = .ok (.if_icmp .eq 7, 3) := by decide +kernel
theorem dX1_lampBits_23 : decode cX1_lampBits 23 = .ok (.iconst 1, 1) := by decide +kernel
theorem dX1_lampBits_24 : decode cX1_lampBits 24 = .ok (.goto 4, 3) := by decide +kernel
theorem dX1_lampBits_27 : decode cX1_lampBits 27 = .ok (.iconst 0, 1) := by decide +kernel
theorem dX1_lampBits_28 : decode cX1_lampBits 28 = .ok (.istore_n 3, 1) := by decide +kernel
theorem dX1_lampBits_29 : decode cX1_lampBits 29 = .ok (.iload_n 3, 1) := by decide +kernel
theorem dX1_lampBits_30 : decode cX1_lampBits 30 = .ok (.ifCond .eq 16, 3) := by decide +kernel
theorem dX1_lampBits_33 : decode cX1_lampBits 33 = .ok (.aload_n 0, 1) := by decide +kernel
theorem dX1_lampBits_34 : decode cX1_lampBits 34 = .ok (.getfield 37, 3) := by decide +kernel
theorem dX1_lampBits_37 : decode cX1_lampBits 37 = .ok (.iload_n 2, 1) := by decide +kernel
theorem dX1_lampBits_38 : decode cX1_lampBits 38 = .ok (.iaload, 1) := by decide +kernel
theorem dX1_lampBits_39 : decode cX1_lampBits 39 = .ok (.iconst 1, 1) := by decide +kernel
theorem dX1_lampBits_40 : decode cX1_lampBits 40 = .ok (.if_icmp .ne 25, 3) := by decide +kernel
theorem dX1_lampBits_43 : decode cX1_lampBits 43 = .ok (.goto 16, 3) := by decide +kernel
theorem dX1_lampBits_46 : decode cX1_lampBits 46 = .ok (.aload_n 0, 1) := by decide +kernel
theorem dX1_lampBits_47 : decode cX1_lampBits 47 = .ok (.getfield 28, 3) := by decide +kernel
theorem dX1_lampBits_50 : decode cX1_lampBits 50 = .ok (.iload_n 2, 1) := by decide +kernel
theorem dX1_lampBits_51 : decode cX1_lampBits 51 = .ok (.iaload, 1) := by decide +kernel
theorem dX1_lampBits_52 : decode cX1_lampBits 52 = .ok (.aload_n 0, 1) := by decide +kernel
theorem dX1_lampBits_53 : decode cX1_lampBits 53 = .ok (.getfield 9, 3) := by decide +kernel
theorem dX1_lampBits_56 : decode cX1_lampBits 56 = .ok (.if_icmp .lt 9, 3) := by decide +kernel
theorem dX1_lampBits_59 : decode cX1_lampBits 59 = .ok (.iload_n 1, 1) := by decide +kernel
theorem dX1_lampBits_60 : decode cX1_lampBits 60 = .ok (.iconst 1, 1) := by decide +kernel
theorem dX1_lampBits_61 : decode cX1_lampBits 61 = .ok (.iload_n 2, 1) := by decide +kernel
theorem dX1_lampBits_62 : decode cX1_lampBits 62 = .ok (.ishl, 1) := by decide +kernel
theorem dX1_lampBits_63 : decode cX1_lampBits 63 = .ok (.ior, 1) := by decide +kernel
theorem dX1_lampBits_64 : decode cX1_lampBits 64 = .ok (.istore_n 1, 1) := by decide +kernel
theorem dX1_lampBits_65 : decode cX1_lampBits 65 = .ok (.iinc 2 1, 3) := by decide +kernel
theorem dX1_lampBits_68 : decode cX1_lampBits 68 = .ok (.goto (-64), 3) := by decide +kernel
theorem dX1_lampBits_71 : decode cX1_lampBits 71 = .ok (.iload_n 1, 1) := by decide +kernel
theorem dX1_lampBits_72 : decode cX1_lampBits 72 = .ok (.ireturn, 1) := by decide +kernel
set_option maxRecDepth 20000 in
theorem ggX1_clickBits_X3_isClickedBy : GoodIn wsX1_clickBits wsX3_isClickedBy := goodIn_r _ [8, 9, 10, 7, 11] (by decide +kernel) (by decide +kernel)
set_option maxRecDepth 20000 in
theorem gX1_clickBits_X3_isClickedBy_n84 : GoodIn wsX1_clickBits (wsX3_isClickedBy) := ggX1_clickBits_X3_isClickedBy
theorem dX1_clickBits_0 : decode cX1_clickBits 0 = .ok (.iconst 0, 1) := by decide +kernel
theorem dX1_clickBits_1 : decode cX1_clickBits 1 = .ok (.istore_n 2, 1) := by decide +kernel
theorem dX1_clickBits_2 : decode cX1_clickBits 2 = .ok (.iconst 0, 1) := by decide +kernel
theorem dX1_clickBits_3 : decode cX1_clickBits 3 = .ok (.istore_n 3, 1) := by decide +kernel
theorem dX1_clickBits_4 : decode cX1_clickBits 4 = .ok (.iload_n 3, 1) := by decide +kernel
theorem dX1_clickBits_5 : decode cX1_clickBits 5 = .ok (.aload_n 0, 1) := by decide +kernel
theorem dX1_clickBits_6 : decode cX1_clickBits 6 = .ok (.getfield 18, 3) := by decide +kernel
theorem dX1_clickBits_9 : decode cX1_clickBits 9 = .ok (.if_icmp .ge 45, 3) := by decide +kernel
theorem dX1_clickBits_12 : decode cX1_clickBits 12 = .ok (.aload_n 0, 1) := by decide +kernel
theorem dX1_clickBits_13 : decode cX1_clickBits 13 = .ok (.getfield 40, 3) := by decide +kernel
theorem dX1_clickBits_16 : decode cX1_clickBits 16 = .ok (.iload_n 1, 1) := by decide +kernel
theorem dX1_clickBits_17 : decode cX1_clickBits 17 = .ok (.iaload, 1) := by decide +kernel
theorem dX1_clickBits_18 : decode cX1_clickBits 18 = .ok (.aload_n 0, 1) := by decide +kernel
theorem dX1_clickBits_19 : decode cX1_clickBits 19 = .ok (.getfield 43, 3) := by decide +kernel
theorem dX1_clickBits_22 : decode cX1_clickBits 22 = .ok (.iload_n 1, 1) := by decide +kernel
theorem dX1_clickBits_23 : decode cX1_clickBits 23 = .ok (.iaload, 1) := by decide +kernel
theorem dX1_clickBits_24 : decode cX1_clickBits 24 = .ok (.aload_n 0, 1) := by decide +kernel
theorem dX1_clickBits_25 : decode cX1_clickBits 25 = .ok (.getfield 24, 3) := by decide +kernel
theorem dX1_clickBits_28 : decode cX1_clickBits 28 = .ok (.iload_n 3, 1) := by decide +kernel
theorem dX1_clickBits_29 : decode cX1_clickBits 29 = .ok (.iaload, 1) := by decide +kernel
theorem dX1_clickBits_30 : decode cX1_clickBits 30 = .ok (.aload_n 0, 1) := by decide +kernel
theorem dX1_clickBits_31 : decode cX1_clickBits 31 = .ok (.getfield 28, 3) := by decide +kernel
theorem dX1_clickBits_34 : decode cX1_clickBits 34 = .ok (.iload_n 3, 1) := by decide +kernel
theorem dX1_clickBits_35 : decode cX1_clickBits 35 = .ok (.iaload, 1) := by decide +kernel
theorem dX1_clickBits_36 : decode cX1_clickBits 36 = .ok (.invokestatic 84, 3) := by decide +kernel
theorem dX1_clickBits_39 : decode cX1_clickBits 39 = .ok (.ifCond .eq 9, 3) := by decide +kernel
theorem dX1_clickBits_42 : decode cX1_clickBits 42 = .ok (.iload_n 2, 1) := by decide +kernel
theorem dX1_clickBits_43 : decode cX1_clickBits 43 = .ok (.iconst 1, 1) := by decide +kernel
theorem dX1_clickBits_44 : decode cX1_clickBits 44 = .ok (.iload_n 3, 1) := by decide +kernel
theorem dX1_clickBits_45 : decode cX1_clickBits 45 = .ok (.ishl, 1) := by decide +kernel
theorem dX1_clickBits_46 : decode cX1_clickBits 46 = .ok (.ior, 1) := by decide +kernel
theorem dX1_clickBits_47 : decode cX1_clickBits 47 = .ok (.istore_n 2, 1) := by decide +kernel
theorem dX1_clickBits_48 : decode cX1_clickBits 48 = .ok (.iinc 3 1, 3) := by decide +kernel
theorem dX1_clickBits_51 : decode cX1_clickBits 51 = .ok (.goto (-47), 3) := by decide +kernel
theorem dX1_clickBits_54 : decode cX1_clickBits 54 = .ok (.iload_n 2, 1) := by decide +kernel
theorem dX1_clickBits_55 : decode cX1_clickBits 55 = .ok (.ireturn, 1) := by decide +kernel
set_option maxRecDepth 20000 in
theorem ggX1_wrongBits_X1_clickBits : GoodIn wsX1_wrongBits wsX1_clickBits := goodIn_r _ [5, 6, 7, 8, 9, 10, 11, 12, 13, 14, 15, 16, 34, 35, 36, 37, 38, 39, 40, 41, 42, 43, 44, 45, 46, 47] (by decide +kernel) (by decide +kernel)
set_option maxRecDepth 20000 in
theorem gX1_wrongBits_X1_clickBits : GoodIn wsX1_wrongBits (wsV RX1 88 RX1 yX1_clickBits wsX1_clickBits) := goodIn_app (goodIn_of _ (by decide +kernel)) ggX1_wrongBits_X1_clickBits
set_option maxRecDepth 20000 in
theorem ggX1_wrongBits_X1_lampBits : GoodIn wsX1_wrongBits wsX1_lampBits := goodIn_r _ [20, 6, 21, 22, 10, 23, 34, 35, 36, 37, 38, 39, 40, 41, 42, 43, 44, 45, 46, 47] (by decide +kernel) (by decide +kernel)
set_option maxRecDepth 20000 in
theorem gX1_wrongBits_X1_lampBits : GoodIn wsX1_wrongBits (wsV RX1 92 RX1 yX1_lampBits wsX1_lampBits) := goodIn_app (goodIn_of _ (by decide +kernel)) ggX1_wrongBits_X1_lampBits
set_option maxRecDepth 20000 in
theorem ggX1_wrongBits_X1_countedBits : GoodIn wsX1_wrongBits wsX1_countedBits := goodIn_r _ [27, 6, 28, 29, 30, 4, 31, 9, 21, 22, 32, 12, 33, 34, 35, 36, 37, 38, 39, 40, 41, 42, 43, 44, 45, 46, 47] (by decide +kernel) (by decide +kernel)
set_option maxRecDepth 20000 in
theorem gX1_wrongBits_X1_countedBits : GoodIn wsX1_wrongBits (wsV RX1 95 RX1 yX1_countedBits wsX1_countedBits) := goodIn_app (goodIn_of _ (by decide +kernel)) ggX1_wrongBits_X1_countedBits
theorem dX1_wrongBits_0 : decode cX1_wrongBits 0 = .ok (.aload_n 0, 1) := by decide +kernel
theorem dX1_wrongBits_1 : decode cX1_wrongBits 1 = .ok (.iload_n 1, 1) := by decide +kernel
theorem dX1_wrongBits_2 : decode cX1_wrongBits 2 = .ok (.invokevirtual 88, 3) := by decide +kernel
theorem dX1_wrongBits_5 : decode cX1_wrongBits 5 = .ok (.aload_n 0, 1) := by decide +kernel
theorem dX1_wrongBits_6 : decode cX1_wrongBits 6 = .ok (.invokevirtual 92, 3) := by decide +kernel
theorem dX1_wrongBits_9 : decode cX1_wrongBits 9 = .ok (.ixor, 1) := by decide +kernel
theorem dX1_wrongBits_10 : decode cX1_wrongBits 10 = .ok (.aload_n 0, 1) := by decide +kernel
theorem dX1_wrongBits_11 : decode cX1_wrongBits 11 = .ok (.invokevirtual 95, 3) := by decide +kernel
theorem dX1_wrongBits_14 : decode cX1_wrongBits 14 = .ok (.iand, 1) := by decide +kernel
theorem dX1_wrongBits_15 : decode cX1_wrongBits 15 = .ok (.ireturn, 1) := by decide +kernel
set_option maxRecDepth 20000 in
theorem ggX1_timesWrong_X1_wrongBits : GoodIn wsX1_timesWrong wsX1_wrongBits := goodIn_r _ [5, 6, 7, 8, 4, 9, 10, 11, 12, 13, 14, 15, 16, 17, 18, 19, 20, 21, 22, 23, 24, 25, 26, 27, 28, 29, 30, 31, 32, 33, 34, 35, 36, 37, 45, 46, 47, 48, 49, 50, 51, 52, 53, 54, 55, 56, 57, 58] (by decide +kernel) (by decide +kernel)
set_option maxRecDepth 20000 in
theorem gX1_timesWrong_X1_wrongBits : GoodIn wsX1_timesWrong (wsV RX1 98 RX1 yX1_wrongBits wsX1_wrongBits) := goodIn_app (goodIn_of _ (by decide +kernel)) ggX1_timesWrong_X1_wrongBits
set_option maxRecDepth 20000 in
theorem ggX1_timesWrong_J6_bitCount_0f7a4 : GoodIn wsX1_timesWrong wsJ6_bitCount_0f7a4 := goodIn_r _ [41, 42, 43, 44] (by decide +kernel) (by decide +kernel)
set_option maxRecDepth 20000 in
theorem gX1_timesWrong_J6_bitCount_0f7a4 : GoodIn wsX1_timesWrong (va_wsS RX1 101 yJ6_bitCount_0f7a4 wsJ6_bitCount_0f7a4) := goodIn_app (goodIn_of _ (by decide +kernel)) ggX1_timesWrong_J6_bitCount_0f7a4
theorem dX1_timesWrong_0 : decode cX1_timesWrong 0 = .ok (.aload_n 0, 1) := by decide +kernel
theorem dX1_timesWrong_1 : decode cX1_timesWrong 1 = .ok (.iload_n 1, 1) := by decide +kernel
theorem dX1_timesWrong_2 : decode cX1_timesWrong 2 = .ok (.invokevirtual 98, 3) := by decide +kernel
theorem dX1_timesWrong_5 : decode cX1_timesWrong 5 = .ok (.iload_n 2, 1) := by decide +kernel
theorem dX1_timesWrong_6 : decode cX1_timesWrong 6 = .ok (.iand, 1) := by decide +kernel
theorem dX1_timesWrong_7 : decode cX1_timesWrong 7 = .ok (.invokestatic 101, 3) := by decide +kernel
theorem dX1_timesWrong_10 : decode cX1_timesWrong 10 = .ok (.ireturn, 1) := by decide +kernel
set_option maxRecDepth 20000 in
theorem ggX1_howManyClick_X1_clickBits : GoodIn wsX1_howManyClick wsX1_clickBits := goodIn_r _ [6, 7, 8, 9, 10, 11, 12, 13, 14, 15, 16, 17, 18, 19, 20, 21, 22, 23, 24, 25, 26, 27, 28, 29, 30, 31] (by decide +kernel) (by decide +kernel)
set_option maxRecDepth 20000 in
theorem gX1_howManyClick_X1_clickBits : GoodIn wsX1_howManyClick (wsV RX1 88 RX1 yX1_clickBits wsX1_clickBits) := goodIn_app (goodIn_of _ (by decide +kernel)) ggX1_howManyClick_X1_clickBits
theorem dX1_howManyClick_0 : decode cX1_howManyClick 0 = .ok (.iconst 0, 1) := by decide +kernel
theorem dX1_howManyClick_1 : decode cX1_howManyClick 1 = .ok (.istore_n 2, 1) := by decide +kernel
theorem dX1_howManyClick_2 : decode cX1_howManyClick 2 = .ok (.iconst 0, 1) := by decide +kernel
theorem dX1_howManyClick_3 : decode cX1_howManyClick 3 = .ok (.istore_n 3, 1) := by decide +kernel
theorem dX1_howManyClick_4 : decode cX1_howManyClick 4 = .ok (.iload_n 3, 1) := by decide +kernel
theorem dX1_howManyClick_5 : decode cX1_howManyClick 5 = .ok (.aload_n 0, 1) := by decide +kernel
theorem dX1_howManyClick_6 : decode cX1_howManyClick 6 = .ok (.getfield 21, 3) := by decide +kernel
theorem dX1_howManyClick_9 : decode cX1_howManyClick 9 = .ok (.if_icmp .ge 21, 3) := by decide +kernel
theorem dX1_howManyClick_12 : decode cX1_howManyClick 12 = .ok (.iload_n 2, 1) := by decide +kernel
theorem dX1_howManyClick_13 : decode cX1_howManyClick 13 = .ok (.aload_n 0, 1) := by decide +kernel
theorem dX1_howManyClick_14 : decode cX1_howManyClick 14 = .ok (.iload_n 3, 1) := by decide +kernel
theorem dX1_howManyClick_15 : decode cX1_howManyClick 15 = .ok (.invokevirtual 88, 3) := by decide +kernel
theorem dX1_howManyClick_18 : decode cX1_howManyClick 18 = .ok (.iload_n 1, 1) := by decide +kernel
theorem dX1_howManyClick_19 : decode cX1_howManyClick 19 = .ok (.ishr, 1) := by decide +kernel
theorem dX1_howManyClick_20 : decode cX1_howManyClick 20 = .ok (.iconst 1, 1) := by decide +kernel
theorem dX1_howManyClick_21 : decode cX1_howManyClick 21 = .ok (.iand, 1) := by decide +kernel
theorem dX1_howManyClick_22 : decode cX1_howManyClick 22 = .ok (.iadd, 1) := by decide +kernel
theorem dX1_howManyClick_23 : decode cX1_howManyClick 23 = .ok (.istore_n 2, 1) := by decide +kernel
theorem dX1_howManyClick_24 : decode cX1_howManyClick 24 = .ok (.iinc 3 1, 3) := by decide +kernel
theorem dX1_howManyClick_27 : decode cX1_howManyClick 27 = .ok (.goto (-23), 3) := by decide +kernel
theorem dX1_howManyClick_30 : decode cX1_howManyClick 30 = .ok (.iload_n 2, 1) := by decide +kernel
theorem dX1_howManyClick_31 : decode cX1_howManyClick 31 = .ok (.ireturn, 1) := by decide +kernel
theorem dX1_votesSayLamp_0 : decode cX1_votesSayLamp 0 = .ok (.aload_n 0, 1) := by decide +kernel
theorem dX1_votesSayLamp_1 : decode cX1_votesSayLamp 1 = .ok (.getfield 31, 3) := by decide +kernel
theorem dX1_votesSayLamp_4 : decode cX1_votesSayLamp 4 = .ok (.iload_n 1, 1) := by decide +kernel
theorem dX1_votesSayLamp_5 : decode cX1_votesSayLamp 5 = .ok (.iaload, 1) := by decide +kernel
theorem dX1_votesSayLamp_6 : decode cX1_votesSayLamp 6 = .ok (.aload_n 0, 1) := by decide +kernel
theorem dX1_votesSayLamp_7 : decode cX1_votesSayLamp 7 = .ok (.getfield 34, 3) := by decide +kernel
theorem dX1_votesSayLamp_10 : decode cX1_votesSayLamp 10 = .ok (.iload_n 1, 1) := by decide +kernel
theorem dX1_votesSayLamp_11 : decode cX1_votesSayLamp 11 = .ok (.iaload, 1) := by decide +kernel
theorem dX1_votesSayLamp_12 : decode cX1_votesSayLamp 12 = .ok (.if_icmp .le 7, 3) := by decide +kernel
theorem dX1_votesSayLamp_15 : decode cX1_votesSayLamp 15 = .ok (.iconst 1, 1) := by decide +kernel
theorem dX1_votesSayLamp_16 : decode cX1_votesSayLamp 16 = .ok (.goto 4, 3) := by decide +kernel
theorem dX1_votesSayLamp_19 : decode cX1_votesSayLamp 19 = .ok (.iconst 0, 1) := by decide +kernel
theorem dX1_votesSayLamp_20 : decode cX1_votesSayLamp 20 = .ok (.ireturn, 1) := by decide +kernel
theorem dX1_allVotes_0 : decode cX1_allVotes 0 = .ok (.iconst 0, 1) := by decide +kernel
theorem dX1_allVotes_1 : decode cX1_allVotes 1 = .ok (.istore_n 1, 1) := by decide +kernel
theorem dX1_allVotes_2 : decode cX1_allVotes 2 = .ok (.iconst 0, 1) := by decide +kernel
theorem dX1_allVotes_3 : decode cX1_allVotes 3 = .ok (.istore_n 2, 1) := by decide +kernel
theorem dX1_allVotes_4 : decode cX1_allVotes 4 = .ok (.iload_n 2, 1) := by decide +kernel
theorem dX1_allVotes_5 : decode cX1_allVotes 5 = .ok (.aload_n 0, 1) := by decide +kernel
theorem dX1_allVotes_6 : decode cX1_allVotes 6 = .ok (.getfield 18, 3) := by decide +kernel
theorem dX1_allVotes_9 : decode cX1_allVotes 9 = .ok (.if_icmp .ge 25, 3) := by decide +kernel
theorem dX1_allVotes_12 : decode cX1_allVotes 12 = .ok (.iload_n 1, 1) := by decide +kernel
theorem dX1_allVotes_13 : decode cX1_allVotes 13 = .ok (.aload_n 0, 1) := by decide +kernel
theorem dX1_allVotes_14 : decode cX1_allVotes 14 = .ok (.getfield 31, 3) := by decide +kernel
theorem dX1_allVotes_17 : decode cX1_allVotes 17 = .ok (.iload_n 2, 1) := by decide +kernel
theorem dX1_allVotes_18 : decode cX1_allVotes 18 = .ok (.iaload, 1) := by decide +kernel
theorem dX1_allVotes_19 : decode cX1_allVotes 19 = .ok (.aload_n 0, 1) := by decide +kernel
theorem dX1_allVotes_20 : decode cX1_allVotes 20 = .ok (.getfield 34, 3) := by decide +kernel
theorem dX1_allVotes_23 : decode cX1_allVotes 23 = .ok (.iload_n 2, 1) := by decide +kernel
theorem dX1_allVotes_24 : decode cX1_allVotes 24 = .ok (.iaload, 1) := by decide +kernel
theorem dX1_allVotes_25 : decode cX1_allVotes 25 = .ok (.iadd, 1) := by decide +kernel
theorem dX1_allVotes_26 : decode cX1_allVotes 26 = .ok (.iadd, 1) := by decide +kernel
theorem dX1_allVotes_27 : decode cX1_allVotes 27 = .ok (.istore_n 1, 1) := by decide +kernel
theorem dX1_allVotes_28 : decode cX1_allVotes 28 = .ok (.iinc 2 1, 3) := by decide +kernel
theorem dX1_allVotes_31 : decode cX1_allVotes 31 = .ok (.goto (-27), 3) := by decide +kernel
theorem dX1_allVotes_34 : decode cX1_allVotes 34 = .ok (.iload_n 1, 1) := by decide +kernel
theorem dX1_allVotes_35 : decode cX1_allVotes 35 = .ok (.ireturn, 1) := by decide +kernel
set_option maxRecDepth 20000 in
theorem ggX1_notedGuests_J6_bitCount_0f7a4 : GoodIn wsX1_notedGuests wsJ6_bitCount_0f7a4 := goodIn_r _ [7, 8, 9, 10] (by decide +kernel) (by decide +kernel)
set_option maxRecDepth 20000 in
theorem gX1_notedGuests_J6_bitCount_0f7a4 : GoodIn wsX1_notedGuests (va_wsS RX1 101 yJ6_bitCount_0f7a4 wsJ6_bitCount_0f7a4) := goodIn_app (goodIn_of _ (by decide +kernel)) ggX1_notedGuests_J6_bitCount_0f7a4
theorem dX1_notedGuests_0 : decode cX1_notedGuests 0 = .ok (.iconst 0, 1) := by decide +kernel
theorem dX1_notedGuests_1 : decode cX1_notedGuests 1 = .ok (.istore_n 2, 1) := by decide +kernel
theorem dX1_notedGuests_2 : decode cX1_notedGuests 2 = .ok (.iconst 0, 1) := by decide +kernel
theorem dX1_notedGuests_3 : decode cX1_notedGuests 3 = .ok (.istore_n 3, 1) := by decide +kernel
theorem dX1_notedGuests_4 : decode cX1_notedGuests 4 = .ok (.iload_n 3, 1) := by decide +kernel
theorem dX1_notedGuests_5 : decode cX1_notedGuests 5 = .ok (.aload_n 0, 1) := by decide +kernel
theorem dX1_notedGuests_6 : decode cX1_notedGuests 6 = .ok (.getfield 21, 3) := by decide +kernel
theorem dX1_notedGuests_9 : decode cX1_notedGuests 9 = .ok (.if_icmp .ge 33, 3) := by decide +kernel
theorem dX1_notedGuests_12 : decode cX1_notedGuests 12 = .ok (.aload_n 0, 1) := by decide +kernel
theorem dX1_notedGuests_13 : decode cX1_notedGuests 13 = .ok (.getfield 52, 3) := by decide +kernel
theorem dX1_notedGuests_16 : decode cX1_notedGuests 16 = .ok (.iload_n 3, 1) := by decide +kernel
theorem dX1_notedGuests_17 : decode cX1_notedGuests 17 = .ok (.iaload, 1) := by decide +kernel
theorem dX1_notedGuests_18 : decode cX1_notedGuests 18 = .ok (.iload_n 1, 1) := by decide +kernel
theorem dX1_notedGuests_19 : decode cX1_notedGuests 19 = .ok (.iand, 1) := by decide +kernel
theorem dX1_notedGuests_20 : decode cX1_notedGuests 20 = .ok (.invokestatic 101, 3) := by decide +kernel
theorem dX1_notedGuests_23 : decode cX1_notedGuests 23 = .ok (.aload_n 0, 1) := by decide +kernel
theorem dX1_notedGuests_24 : decode cX1_notedGuests 24 = .ok (.getfield 15, 3) := by decide +kernel
theorem dX1_notedGuests_27 : decode cX1_notedGuests 27 = .ok (.if_icmp .gt 9, 3) := by decide +kernel
theorem dX1_notedGuests_30 : decode cX1_notedGuests 30 = .ok (.iload_n 2, 1) := by decide +kernel
theorem dX1_notedGuests_31 : decode cX1_notedGuests 31 = .ok (.iconst 1, 1) := by decide +kernel
theorem dX1_notedGuests_32 : decode cX1_notedGuests 32 = .ok (.iload_n 3, 1) := by decide +kernel
theorem dX1_notedGuests_33 : decode cX1_notedGuests 33 = .ok (.ishl, 1) := by decide +kernel
theorem dX1_notedGuests_34 : decode cX1_notedGuests 34 = .ok (.ior, 1) := by decide +kernel
theorem dX1_notedGuests_35 : decode cX1_notedGuests 35 = .ok (.istore_n 2, 1) := by decide +kernel
theorem dX1_notedGuests_36 : decode cX1_notedGuests 36 = .ok (.iinc 3 1, 3) := by decide +kernel
theorem dX1_notedGuests_39 : decode cX1_notedGuests 39 = .ok (.goto (-35), 3) := by decide +kernel
theorem dX1_notedGuests_42 : decode cX1_notedGuests 42 = .ok (.iload_n 2, 1) := by decide +kernel
theorem dX1_notedGuests_43 : decode cX1_notedGuests 43 = .ok (.ireturn, 1) := by decide +kernel
set_option maxRecDepth 20000 in
theorem ggX1_leastStrict_X1_timesWrong : GoodIn wsX1_leastStrict wsX1_timesWrong := goodIn_r _ [10, 11, 12, 13, 9, 14, 15, 16, 17, 18, 19, 20, 21, 22, 23, 24, 25, 26, 27, 28, 29, 30, 31, 32, 33, 34, 35, 36, 37, 38, 39, 40, 41, 42, 43, 44, 45, 46, 47, 48, 49, 50, 51, 52, 53, 54, 55, 56, 57, 58, 59, 60, 61, 62, 63, 64, 65, 66, 67] (by decide +kernel) (by decide +kernel)
set_option maxRecDepth 20000 in
theorem gX1_leastStrict_X1_timesWrong : GoodIn wsX1_leastStrict (wsV RX1 106 RX1 yX1_timesWrong wsX1_timesWrong) := goodIn_app (goodIn_of _ (by decide +kernel)) ggX1_leastStrict_X1_timesWrong
theorem dX1_leastStrict_0 : decode cX1_leastStrict 0 = .ok (.iconst 0, 1) := by decide +kernel
theorem dX1_leastStrict_1 : decode cX1_leastStrict 1 = .ok (.istore_n 3, 1) := by decide +kernel
theorem dX1_leastStrict_2 : decode cX1_leastStrict 2 = .ok (.iconst 0, 1) := by decide +kernel
theorem dX1_leastStrict_3 : decode cX1_leastStrict 3 = .ok (.istore 4, 2) := by decide +kernel
theorem dX1_leastStrict_5 : decode cX1_leastStrict 5 = .ok (.iload 4, 2) := by decide +kernel
theorem dX1_leastStrict_7 : decode cX1_leastStrict 7 = .ok (.aload_n 0, 1) := by decide +kernel
theorem dX1_leastStrict_8 : decode cX1_leastStrict 8 = .ok (.getfield 21, 3) := by decide +kernel
theorem dX1_leastStrict_11 : decode cX1_leastStrict 11 = .ok (.if_icmp .ge 31, 3) := by decide +kernel
theorem dX1_leastStrict_14 : decode cX1_leastStrict 14 = .ok (.iload_n 1, 1) := by decide +kernel
theorem dX1_leastStrict_15 : decode cX1_leastStrict 15 = .ok (.iload 4, 2) := by decide +kernel
theorem dX1_leastStrict_17 : decode cX1_leastStrict 17 = .ok (.ishr, 1) := by decide +kernel
theorem dX1_leastStrict_18 : decode cX1_leastStrict 18 = .ok (.iconst 1, 1) := by decide +kernel
theorem dX1_leastStrict_19 : decode cX1_leastStrict 19 = .ok (.iand, 1) := by decide +kernel
theorem dX1_leastStrict_20 : decode cX1_leastStrict 20 = .ok (.iconst 1, 1) := by decide +kernel
theorem dX1_leastStrict_21 : decode cX1_leastStrict 21 = .ok (.if_icmp .ne 15, 3) := by decide +kernel
theorem dX1_leastStrict_24 : decode cX1_leastStrict 24 = .ok (.iload_n 3, 1) := by decide +kernel
theorem dX1_leastStrict_25 : decode cX1_leastStrict 25 = .ok (.aload_n 0, 1) := by decide +kernel
theorem dX1_leastStrict_26 : decode cX1_leastStrict 26 = .ok (.iload 4, 2) := by decide +kernel
theorem dX1_leastStrict_28 : decode cX1_leastStrict 28 = .ok (.iload_n 2, 1) := by decide +kernel
theorem dX1_leastStrict_29 : decode cX1_leastStrict 29 = .ok (.invokevirtual 106, 3) := by decide +kernel
theorem dX1_leastStrict_32 : decode cX1_leastStrict 32 = .ok (.invokestatic 125, 3) := by decide +kernel
theorem dX1_leastStrict_35 : decode cX1_leastStrict 35 = .ok (.istore_n 3, 1) := by decide +kernel
theorem dX1_leastStrict_36 : decode cX1_leastStrict 36 = .ok (.iinc 4 1, 3) := by decide +kernel
theorem dX1_leastStrict_39 : decode cX1_leastStrict 39 = .ok (.goto (-34), 3) := by decide +kernel
theorem dX1_leastStrict_42 : decode cX1_leastStrict 42 = .ok (.iload_n 3, 1) := by decide +kernel
theorem dX1_leastStrict_43 : decode cX1_leastStrict 43 = .ok (.ireturn, 1) := by decide +kernel
set_option maxRecDepth 20000 in
theorem ggX1_difference_X1_wrongBits : GoodIn wsX1_difference wsX1_wrongBits := goodIn_r _ [10, 11, 12, 13, 9, 14, 15, 16, 17, 18, 19, 20, 21, 22, 23, 24, 25, 26, 27, 28, 29, 30, 31, 32, 33, 34, 35, 36, 37, 38, 39, 40, 41, 42, 43, 44, 45, 46, 47, 48, 49, 50, 51, 52, 53, 54, 55, 56] (by decide +kernel) (by decide +kernel)
set_option maxRecDepth 20000 in
theorem gX1_difference_X1_wrongBits : GoodIn wsX1_difference (wsV RX1 98 RX1 yX1_wrongBits wsX1_wrongBits) := goodIn_app (goodIn_of _ (by decide +kernel)) ggX1_difference_X1_wrongBits
theorem dX1_difference_0 : decode cX1_difference 0 = .ok (.iconst 0, 1) := by decide +kernel
theorem dX1_difference_1 : decode cX1_difference 1 = .ok (.istore_n 2, 1) := by decide +kernel
theorem dX1_difference_2 : decode cX1_difference 2 = .ok (.iconst 0, 1) := by decide +kernel
theorem dX1_difference_3 : decode cX1_difference 3 = .ok (.istore_n 3, 1) := by decide +kernel
theorem dX1_difference_4 : decode cX1_difference 4 = .ok (.iload_n 3, 1) := by decide +kernel
theorem dX1_difference_5 : decode cX1_difference 5 = .ok (.aload_n 0, 1) := by decide +kernel
theorem dX1_difference_6 : decode cX1_difference 6 = .ok (.getfield 21, 3) := by decide +kernel
theorem dX1_difference_9 : decode cX1_difference 9 = .ok (.if_icmp .ge 21, 3) := by decide +kernel
theorem dX1_difference_12 : decode cX1_difference 12 = .ok (.iload_n 2, 1) := by decide +kernel
theorem dX1_difference_13 : decode cX1_difference 13 = .ok (.aload_n 0, 1) := by decide +kernel
theorem dX1_difference_14 : decode cX1_difference 14 = .ok (.iload_n 3, 1) := by decide +kernel
theorem dX1_difference_15 : decode cX1_difference 15 = .ok (.invokevirtual 98, 3) := by decide +kernel
theorem dX1_difference_18 : decode cX1_difference 18 = .ok (.iload_n 1, 1) := by decide +kernel
theorem dX1_difference_19 : decode cX1_difference 19 = .ok (.ishr, 1) := by decide +kernel
theorem dX1_difference_20 : decode cX1_difference 20 = .ok (.iconst 1, 1) := by decide +kernel
theorem dX1_difference_21 : decode cX1_difference 21 = .ok (.iand, 1) := by decide +kernel
theorem dX1_difference_22 : decode cX1_difference 22 = .ok (.iadd, 1) := by decide +kernel
theorem dX1_difference_23 : decode cX1_difference 23 = .ok (.istore_n 2, 1) := by decide +kernel
theorem dX1_difference_24 : decode cX1_difference 24 = .ok (.iinc 3 1, 3) := by decide +kernel
theorem dX1_difference_27 : decode cX1_difference 27 = .ok (.goto (-23), 3) := by decide +kernel
theorem dX1_difference_30 : decode cX1_difference 30 = .ok (.iload_n 2, 1) := by decide +kernel
theorem dX1_difference_31 : decode cX1_difference 31 = .ok (.aload_n 0, 1) := by decide +kernel
theorem dX1_difference_32 : decode cX1_difference 32 = .ok (.getfield 21, 3) := by decide +kernel
theorem dX1_difference_35 : decode cX1_difference 35 = .ok (.iload_n 2, 1) := by decide +kernel
theorem dX1_difference_36 : decode cX1_difference 36 = .ok (.isub, 1) := by decide +kernel
theorem dX1_difference_37 : decode cX1_difference 37 = .ok (.isub, 1) := by decide +kernel
theorem dX1_difference_38 : decode cX1_difference 38 = .ok (.invokestatic 128, 3) := by decide +kernel
theorem dX1_difference_41 : decode cX1_difference 41 = .ok (.ireturn, 1) := by decide +kernel
set_option maxRecDepth 20000 in
theorem ggX1_keenest_X1_isCounted : GoodIn wsX1_keenest wsX1_isCounted := goodIn_r _ [7, 8, 9, 1, 10, 11, 12, 47, 48, 49, 50, 51, 52, 53, 54, 55, 56, 57, 58, 59, 60] (by decide +kernel) (by decide +kernel)
set_option maxRecDepth 20000 in
theorem gX1_keenest_X1_isCounted : GoodIn wsX1_keenest (wsV RX1 80 RX1 yX1_isCounted wsX1_isCounted) := goodIn_app (goodIn_of _ (by decide +kernel)) ggX1_keenest_X1_isCounted
set_option maxRecDepth 20000 in
theorem ggX1_keenest_X1_difference : GoodIn wsX1_keenest wsX1_difference := goodIn_r _ [16, 17, 18, 19, 20, 21, 22, 23, 24, 6, 25, 26, 27, 28, 29, 2, 30, 31, 8, 32, 33, 11, 34, 35, 36, 37, 38, 39, 40, 41, 9, 1, 42, 43, 44, 45, 46, 3, 4, 5, 7, 10, 12, 47, 48, 49, 50, 51, 52, 53, 54, 55, 56, 57, 58, 59, 60] (by decide +kernel) (by decide +kernel)
set_option maxRecDepth 20000 in
theorem gX1_keenest_X1_difference : GoodIn wsX1_keenest (wsV RX1 131 RX1 yX1_difference wsX1_difference) := goodIn_app (goodIn_of _ (by decide +kernel)) ggX1_keenest_X1_difference
theorem dX1_keenest_0 : decode cX1_keenest 0 = .ok (.ldc 61, 2) := by decide +kernel
theorem dX1_keenest_2 : decode cX1_keenest 2 = .ok (.istore_n 1, 1) := by decide +kernel
theorem dX1_keenest_3 : decode cX1_keenest 3 = .ok (.bipush 6, 2) := by decide +kernel
theorem dX1_keenest_5 : decode cX1_keenest 5 = .ok (.istore_n 2, 1) := by decide +kernel
theorem dX1_keenest_6 : decode cX1_keenest 6 = .ok (.iconst 0, 1) := by decide +kernel
theorem dX1_keenest_7 : decode cX1_keenest 7 = .ok (.istore_n 3, 1) := by decide +kernel
theorem dX1_keenest_8 : decode cX1_keenest 8 = .ok (.iload_n 3, 1) := by decide +kernel
theorem dX1_keenest_9 : decode cX1_keenest 9 = .ok (.aload_n 0, 1) := by decide +kernel
theorem dX1_keenest_10 : decode cX1_keenest 10 = .ok (.getfield 18, 3) := by decide +kernel
theorem dX1_keenest_13 : decode cX1_keenest 13 = .ok (.if_icmp .ge 34, 3) := by decide +kernel
theorem dX1_keenest_16 : decode cX1_keenest 16 = .ok (.aload_n 0, 1) := by decide +kernel
theorem dX1_keenest_17 : decode cX1_keenest 17 = .ok (.iload_n 3, 1) := by decide +kernel
theorem dX1_keenest_18 : decode cX1_keenest 18 = .ok (.invokevirtual 80, 3) := by decide +kernel
theorem dX1_keenest_21 : decode cX1_keenest 21 = .ok (.ifCond .eq 20, 3) := by decide +kernel
theorem dX1_keenest_24 : decode cX1_keenest 24 = .ok (.aload_n 0, 1) := by decide +kernel
theorem dX1_keenest_25 : decode cX1_keenest 25 = .ok (.iload_n 3, 1) := by decide +kernel
theorem dX1_keenest_26 : decode cX1_keenest 26 = .ok (.invokevirtual 131, 3) := by decide +kernel
theorem dX1_keenest_29 : decode cX1_keenest 29 = .ok (.iload_n 2, 1) := by decide +kernel
theorem dX1_keenest_30 : decode cX1_keenest 30 = .ok (.if_icmp .ge 11, 3) := by decide +kernel
theorem dX1_keenest_33 : decode cX1_keenest 33 = .ok (.iload_n 3, 1) := by decide +kernel
theorem dX1_keenest_34 : decode cX1_keenest 34 = .ok (.istore_n 1, 1) := by decide +kernel
theorem dX1_keenest_35 : decode cX1_keenest 35 = .ok (.aload_n 0, 1) := by decide +kernel
theorem dX1_keenest_36 : decode cX1_keenest 36 = .ok (.iload_n 3, 1) := by decide +kernel
theorem dX1_keenest_37 : decode cX1_keenest 37 = .ok (.invokevirtual 131, 3) := by decide +kernel
theorem dX1_keenest_40 : decode cX1_keenest 40 = .ok (.istore_n 2, 1) := by decide +kernel
theorem dX1_keenest_41 : decode cX1_keenest 41 = .ok (.iinc 3 1, 3) := by decide +kernel
theorem dX1_keenest_44 : decode cX1_keenest 44 = .ok (.goto (-36), 3) := by decide +kernel
theorem dX1_keenest_47 : decode cX1_keenest 47 = .ok (.iload_n 1, 1) := by decide +kernel
theorem dX1_keenest_48 : decode cX1_keenest 48 = .ok (.ireturn, 1) := by decide +kernel
set_option maxRecDepth 20000 in
theorem ggX1_clickAlike_X1_clickBits : GoodIn wsX1_clickAlike wsX1_clickBits := goodIn_r _ [5, 6, 7, 8, 9, 10, 11, 12, 13, 14, 15, 16, 17, 18, 19, 20, 21, 22, 23, 24, 25, 26, 27, 28, 29, 30] (by decide +kernel) (by decide +kernel)
set_option maxRecDepth 20000 in
theorem gX1_clickAlike_X1_clickBits : GoodIn wsX1_clickAlike (wsV RX1 88 RX1 yX1_clickBits wsX1_clickBits) := goodIn_app (goodIn_of _ (by decide +kernel)) ggX1_clickAlike_X1_clickBits
theorem dX1_clickAlike_0 : decode cX1_clickAlike 0 = .ok (.aload_n 0, 1) := by decide +kernel
theorem dX1_clickAlike_1 : decode cX1_clickAlike 1 = .ok (.iload_n 1, 1) := by decide +kernel
theorem dX1_clickAlike_2 : decode cX1_clickAlike 2 = .ok (.invokevirtual 88, 3) := by decide +kernel
theorem dX1_clickAlike_5 : decode cX1_clickAlike 5 = .ok (.aload_n 0, 1) := by decide +kernel
theorem dX1_clickAlike_6 : decode cX1_clickAlike 6 = .ok (.iload_n 2, 1) := by decide +kernel
theorem dX1_clickAlike_7 : decode cX1_clickAlike 7 = .ok (.invokevirtual 88, 3) := by decide +kernel
theorem dX1_clickAlike_10 : decode cX1_clickAlike 10 = .ok (.ixor, 1) := by decide +kernel
theorem dX1_clickAlike_11 : decode cX1_clickAlike 11 = .ok (.iload_n 3, 1) := by decide +kernel
theorem dX1_clickAlike_12 : decode cX1_clickAlike 12 = .ok (.iand, 1) := by decide +kernel
theorem dX1_clickAlike_13 : decode cX1_clickAlike 13 = .ok (.ifCond .ne 7, 3) := by decide +kernel
theorem dX1_clickAlike_16 : decode cX1_clickAlike 16 = .ok (.iconst 1, 1) := by decide +kernel
theorem dX1_clickAlike_17 : decode cX1_clickAlike 17 = .ok (.goto 4, 3) := by decide +kernel
theorem dX1_clickAlike_20 : decode cX1_clickAlike 20 = .ok (.iconst 0, 1) := by decide +kernel
theorem dX1_clickAlike_21 : decode cX1_clickAlike 21 = .ok (.ireturn, 1) := by decide +kernel
set_option maxRecDepth 20000 in
theorem ggX1_pairsToldApart_X1_clickAlike : GoodIn wsX1_pairsToldApart wsX1_clickAlike := goodIn_r _ [6, 7, 8, 9, 5, 10, 11, 12, 13, 14, 15, 16, 17, 18, 19, 20, 21, 22, 23, 24, 25, 26, 27, 28, 29, 30, 31, 32, 33, 34, 35] (by decide +kernel) (by decide +kernel)
set_option maxRecDepth 20000 in
theorem gX1_pairsToldApart_X1_clickAlike : GoodIn wsX1_pairsToldApart (wsV RX1 134 RX1 yX1_clickAlike wsX1_clickAlike) := goodIn_app (goodIn_of _ (by decide +kernel)) ggX1_pairsToldApart_X1_clickAlike
theorem dX1_pairsToldApart_0 : decode cX1_pairsToldApart 0 = .ok (.iconst 0, 1) := by decide +kernel
theorem dX1_pairsToldApart_1 : decode cX1_pairsToldApart 1 = .ok (.istore_n 2, 1) := by decide +kernel
theorem dX1_pairsToldApart_2 : decode cX1_pairsToldApart 2 = .ok (.iconst 0, 1) := by decide +kernel
theorem dX1_pairsToldApart_3 : decode cX1_pairsToldApart 3 = .ok (.istore_n 3, 1) := by decide +kernel
theorem dX1_pairsToldApart_4 : decode cX1_pairsToldApart 4 = .ok (.iload_n 3, 1) := by decide +kernel
theorem dX1_pairsToldApart_5 : decode cX1_pairsToldApart 5 = .ok (.aload_n 0, 1) := by decide +kernel
theorem dX1_pairsToldApart_6 : decode cX1_pairsToldApart 6 = .ok (.getfield 21, 3) := by decide +kernel
theorem dX1_pairsToldApart_9 : decode cX1_pairsToldApart 9 = .ok (.if_icmp .ge 43, 3) := by decide +kernel
theorem dX1_pairsToldApart_12 : decode cX1_pairsToldApart 12 = .ok (.iload_n 3, 1) := by decide +kernel
theorem dX1_pairsToldApart_13 : decode cX1_pairsToldApart 13 = .ok (.iconst 1, 1) := by decide +kernel
theorem dX1_pairsToldApart_14 : decode cX1_pairsToldApart 14 = .ok (.iadd, 1) := by decide +kernel
theorem dX1_pairsToldApart_15 : decode cX1_pairsToldApart 15 = .ok (.istore 4, 2) := by decide +kernel
theorem dX1_pairsToldApart_17 : decode cX1_pairsToldApart 17 = .ok (.iload 4, 2) := by decide +kernel
theorem dX1_pairsToldApart_19 : decode cX1_pairsToldApart 19 = .ok (.aload_n 0, 1) := by decide +kernel
theorem dX1_pairsToldApart_20 : decode cX1_pairsToldApart 20 = .ok (.getfield 21, 3) := by decide +kernel
theorem dX1_pairsToldApart_23 : decode cX1_pairsToldApart 23 = .ok (.if_icmp .ge 23, 3) := by decide +kernel
theorem dX1_pairsToldApart_26 : decode cX1_pairsToldApart 26 = .ok (.aload_n 0, 1) := by decide +kernel
theorem dX1_pairsToldApart_27 : decode cX1_pairsToldApart 27 = .ok (.iload_n 3, 1) := by decide +kernel
theorem dX1_pairsToldApart_28 : decode cX1_pairsToldApart 28 = .ok (.iload 4, 2) := by decide +kernel
theorem dX1_pairsToldApart_30 : decode cX1_pairsToldApart 30 = .ok (.iload_n 1, 1) := by decide +kernel
theorem dX1_pairsToldApart_31 : decode cX1_pairsToldApart 31 = .ok (.invokevirtual 134, 3) := by decide +kernel
theorem dX1_pairsToldApart_34 : decode cX1_pairsToldApart 34 = .ok (.ifCond .ne 6, 3) := by decide +kernel
theorem dX1_pairsToldApart_37 : decode cX1_pairsToldApart 37 = .ok (.iinc 2 1, 3) := by decide +kernel
theorem dX1_pairsToldApart_40 : decode cX1_pairsToldApart 40 = .ok (.iinc 4 1, 3) := by decide +kernel
theorem dX1_pairsToldApart_43 : decode cX1_pairsToldApart 43 = .ok (.goto (-26), 3) := by decide +kernel
theorem dX1_pairsToldApart_46 : decode cX1_pairsToldApart 46 = .ok (.iinc 3 1, 3) := by decide +kernel
theorem dX1_pairsToldApart_49 : decode cX1_pairsToldApart 49 = .ok (.goto (-45), 3) := by decide +kernel
theorem dX1_pairsToldApart_52 : decode cX1_pairsToldApart 52 = .ok (.iload_n 2, 1) := by decide +kernel
theorem dX1_pairsToldApart_53 : decode cX1_pairsToldApart 53 = .ok (.ireturn, 1) := by decide +kernel
set_option maxRecDepth 20000 in
theorem ggX1_firstPairAlike_X1_clickAlike : GoodIn wsX1_firstPairAlike wsX1_clickAlike := goodIn_r _ [7, 8, 9, 10, 6, 11, 12, 13, 14, 15, 16, 17, 18, 19, 20, 21, 22, 23, 24, 25, 26, 27, 28, 29, 30, 31, 32, 33, 34, 35, 36] (by decide +kernel) (by decide +kernel)
set_option maxRecDepth 20000 in
theorem gX1_firstPairAlike_X1_clickAlike : GoodIn wsX1_firstPairAlike (wsV RX1 134 RX1 yX1_clickAlike wsX1_clickAlike) := goodIn_app (goodIn_of _ (by decide +kernel)) ggX1_firstPairAlike_X1_clickAlike
theorem dX1_firstPairAlike_0 : decode cX1_firstPairAlike 0 = .ok (.iconst 0, 1) := by decide +kernel
theorem dX1_firstPairAlike_1 : decode cX1_firstPairAlike 1 = .ok (.istore_n 2, 1) := by decide +kernel
theorem dX1_firstPairAlike_2 : decode cX1_firstPairAlike 2 = .ok (.iload_n 2, 1) := by decide +kernel
theorem dX1_firstPairAlike_3 : decode cX1_firstPairAlike 3 = .ok (.aload_n 0, 1) := by decide +kernel
theorem dX1_firstPairAlike_4 : decode cX1_firstPairAlike 4 = .ok (.getfield 21, 3) := by decide +kernel
theorem dX1_firstPairAlike_7 : decode cX1_firstPairAlike 7 = .ok (.if_icmp .ge 44, 3) := by decide +kernel
theorem dX1_firstPairAlike_10 : decode cX1_firstPairAlike 10 = .ok (.iload_n 2, 1) := by decide +kernel
theorem dX1_firstPairAlike_11 : decode cX1_firstPairAlike 11 = .ok (.iconst 1, 1) := by decide +kernel
theorem dX1_firstPairAlike_12 : decode cX1_firstPairAlike 12 = .ok (.iadd, 1) := by decide +kernel
theorem dX1_firstPairAlike_13 : decode cX1_firstPairAlike 13 = .ok (.istore_n 3, 1) := by decide +kernel
theorem dX1_firstPairAlike_14 : decode cX1_firstPairAlike 14 = .ok (.iload_n 3, 1) := by decide +kernel
theorem dX1_firstPairAlike_15 : decode cX1_firstPairAlike 15 = .ok (.aload_n 0, 1) := by decide +kernel
theorem dX1_firstPairAlike_16 : decode cX1_firstPairAlike 16 = .ok (.getfield 21, 3) := by decide +kernel
theorem dX1_firstPairAlike_19 : decode cX1_firstPairAlike 19 = .ok (.if_icmp .ge 26, 3) := by decide +kernel
theorem dX1_firstPairAlike_22 : decode cX1_firstPairAlike 22 = .ok (.aload_n 0, 1) := by decide +kernel
theorem dX1_firstPairAlike_23 : decode cX1_firstPairAlike 23 = .ok (.iload_n 2, 1) := by decide +kernel
theorem dX1_firstPairAlike_24 : decode cX1_firstPairAlike 24 = .ok (.iload_n 3, 1) := by decide +kernel
theorem dX1_firstPairAlike_25 : decode cX1_firstPairAlike 25 = .ok (.iload_n 1, 1) := by decide +kernel
theorem dX1_firstPairAlike_26 : decode cX1_firstPairAlike 26 = .ok (.invokevirtual 134, 3) := by decide +kernel
theorem dX1_firstPairAlike_29 : decode cX1_firstPairAlike 29 = .ok (.ifCond .eq 10, 3) := by decide +kernel
theorem dX1_firstPairAlike_32 : decode cX1_firstPairAlike 32 = .ok (.bipush 10, 2) := by decide +kernel
theorem dX1_firstPairAlike_34 : decode cX1_firstPairAlike 34 = .ok (.iload_n 2, 1) := by decide +kernel
theorem dX1_firstPairAlike_35 : decode cX1_firstPairAlike 35 = .ok (.imul, 1) := by decide +kernel
theorem dX1_firstPairAlike_36 : decode cX1_firstPairAlike 36 = .ok (.iload_n 3, 1) := by decide +kernel
theorem dX1_firstPairAlike_37 : decode cX1_firstPairAlike 37 = .ok (.iadd, 1) := by decide +kernel
theorem dX1_firstPairAlike_38 : decode cX1_firstPairAlike 38 = .ok (.ireturn, 1) := by decide +kernel
theorem dX1_firstPairAlike_39 : decode cX1_firstPairAlike 39 = .ok (.iinc 3 1, 3) := by decide +kernel
theorem dX1_firstPairAlike_42 : decode cX1_firstPairAlike 42 = .ok (.goto (-28), 3) := by decide +kernel
theorem dX1_firstPairAlike_45 : decode cX1_firstPairAlike 45 = .ok (.iinc 2 1, 3) := by decide +kernel
theorem dX1_firstPairAlike_48 : decode cX1_firstPairAlike 48 = .ok (.goto (-46), 3) := by decide +kernel
theorem dX1_firstPairAlike_51 : decode cX1_firstPairAlike 51 = .ok (.ldc 61, 2) := by decide +kernel
theorem dX1_firstPairAlike_53 : decode cX1_firstPairAlike 53 = .ok (.ireturn, 1) := by decide +kernel
set_option maxRecDepth 20000 in
theorem ggX1_isClickedSo_X3_isClickedBy : GoodIn wsX1_isClickedSo wsX3_isClickedBy := goodIn_r _ [6, 7, 8, 5, 9] (by decide +kernel) (by decide +kernel)
set_option maxRecDepth 20000 in
theorem gX1_isClickedSo_X3_isClickedBy_n84 : GoodIn wsX1_isClickedSo (wsX3_isClickedBy) := ggX1_isClickedSo_X3_isClickedBy
theorem dX1_isClickedSo_0 : decode cX1_isClickedSo 0 = .ok (.iconst 0, 1) := by decide +kernel
theorem dX1_isClickedSo_1 : decode cX1_isClickedSo 1 = .ok (.istore 5, 2) := by decide +kernel
theorem dX1_isClickedSo_3 : decode cX1_isClickedSo 3 = .ok (.iload 5, 2) := by decide +kernel
theorem dX1_isClickedSo_5 : decode cX1_isClickedSo 5 = .ok (.aload_n 0, 1) := by decide +kernel
theorem dX1_isClickedSo_6 : decode cX1_isClickedSo 6 = .ok (.getfield 21, 3) := by decide +kernel
theorem dX1_isClickedSo_9 : decode cX1_isClickedSo 9 = .ok (.if_icmp .ge 52, 3) := by decide +kernel
theorem dX1_isClickedSo_12 : decode cX1_isClickedSo 12 = .ok (.aload_n 0, 1) := by decide +kernel
theorem dX1_isClickedSo_13 : decode cX1_isClickedSo 13 = .ok (.getfield 40, 3) := by decide +kernel
theorem dX1_isClickedSo_16 : decode cX1_isClickedSo 16 = .ok (.iload 5, 2) := by decide +kernel
theorem dX1_isClickedSo_18 : decode cX1_isClickedSo 18 = .ok (.iaload, 1) := by decide +kernel
theorem dX1_isClickedSo_19 : decode cX1_isClickedSo 19 = .ok (.aload_n 0, 1) := by decide +kernel
theorem dX1_isClickedSo_20 : decode cX1_isClickedSo 20 = .ok (.getfield 43, 3) := by decide +kernel
theorem dX1_isClickedSo_23 : decode cX1_isClickedSo 23 = .ok (.iload 5, 2) := by decide +kernel
theorem dX1_isClickedSo_25 : decode cX1_isClickedSo 25 = .ok (.iaload, 1) := by decide +kernel
theorem dX1_isClickedSo_26 : decode cX1_isClickedSo 26 = .ok (.iload_n 1, 1) := by decide +kernel
theorem dX1_isClickedSo_27 : decode cX1_isClickedSo 27 = .ok (.iload_n 2, 1) := by decide +kernel
theorem dX1_isClickedSo_28 : decode cX1_isClickedSo 28 = .ok (.invokestatic 84, 3) := by decide +kernel
theorem dX1_isClickedSo_31 : decode cX1_isClickedSo 31 = .ok (.istore 6, 2) := by decide +kernel
theorem dX1_isClickedSo_33 : decode cX1_isClickedSo 33 = .ok (.aload_n 3, 1) := by decide +kernel
theorem dX1_isClickedSo_34 : decode cX1_isClickedSo 34 = .ok (.iload 4, 2) := by decide +kernel
theorem dX1_isClickedSo_36 : decode cX1_isClickedSo 36 = .ok (.iload 5, 2) := by decide +kernel
theorem dX1_isClickedSo_38 : decode cX1_isClickedSo 38 = .ok (.iadd, 1) := by decide +kernel
theorem dX1_isClickedSo_39 : decode cX1_isClickedSo 39 = .ok (.iaload, 1) := by decide +kernel
theorem dX1_isClickedSo_40 : decode cX1_isClickedSo 40 = .ok (.iload 6, 2) := by decide +kernel
theorem dX1_isClickedSo_42 : decode cX1_isClickedSo 42 = .ok (.ifCond .eq 7, 3) := by decide +kernel
theorem dX1_isClickedSo_45 : decode cX1_isClickedSo 45 = .ok (.iconst 1, 1) := by decide +kernel
theorem dX1_isClickedSo_46 : decode cX1_isClickedSo 46 = .ok (.goto 4, 3) := by decide +kernel
theorem dX1_isClickedSo_49 : decode cX1_isClickedSo 49 = .ok (.iconst 0, 1) := by decide +kernel
theorem dX1_isClickedSo_50 : decode cX1_isClickedSo 50 = .ok (.if_icmp .eq 5, 3) := by decide +kernel
theorem dX1_isClickedSo_53 : decode cX1_isClickedSo 53 = .ok (.iconst 0, 1) := by decide +kernel
theorem dX1_isClickedSo_54 : decode cX1_isClickedSo 54 = .ok (.ireturn, 1) := by decide +kernel
theorem dX1_isClickedSo_55 : decode cX1_isClickedSo 55 = .ok (.iinc 5 1, 3) := by decide +kernel
theorem dX1_isClickedSo_58 : decode cX1_isClickedSo 58 = .ok (.goto (-55), 3) := by decide +kernel
theorem dX1_isClickedSo_61 : decode cX1_isClickedSo 61 = .ok (.iconst 1, 1) := by decide +kernel
theorem dX1_isClickedSo_62 : decode cX1_isClickedSo 62 = .ok (.ireturn, 1) := by decide +kernel
set_option maxRecDepth 20000 in
theorem ggX1_wouldClickSo_X3_isClickedBy : GoodIn wsX1_wouldClickSo wsX3_isClickedBy := goodIn_r _ [6, 7, 8, 5, 9] (by decide +kernel) (by decide +kernel)
set_option maxRecDepth 20000 in
theorem gX1_wouldClickSo_X3_isClickedBy_n84 : GoodIn wsX1_wouldClickSo (wsX3_isClickedBy) := ggX1_wouldClickSo_X3_isClickedBy
theorem dX1_wouldClickSo_0 : decode cX1_wouldClickSo 0 = .ok (.iconst 0, 1) := by decide +kernel
theorem dX1_wouldClickSo_1 : decode cX1_wouldClickSo 1 = .ok (.istore 5, 2) := by decide +kernel
theorem dX1_wouldClickSo_3 : decode cX1_wouldClickSo 3 = .ok (.iload 5, 2) := by decide +kernel
theorem dX1_wouldClickSo_5 : decode cX1_wouldClickSo 5 = .ok (.aload_n 0, 1) := by decide +kernel
theorem dX1_wouldClickSo_6 : decode cX1_wouldClickSo 6 = .ok (.getfield 18, 3) := by decide +kernel
theorem dX1_wouldClickSo_9 : decode cX1_wouldClickSo 9 = .ok (.if_icmp .ge 52, 3) := by decide +kernel
theorem dX1_wouldClickSo_12 : decode cX1_wouldClickSo 12 = .ok (.iload_n 1, 1) := by decide +kernel
theorem dX1_wouldClickSo_13 : decode cX1_wouldClickSo 13 = .ok (.iload_n 2, 1) := by decide +kernel
theorem dX1_wouldClickSo_14 : decode cX1_wouldClickSo 14 = .ok (.aload_n 0, 1) := by decide +kernel
theorem dX1_wouldClickSo_15 : decode cX1_wouldClickSo 15 = .ok (.getfield 24, 3) := by decide +kernel
theorem dX1_wouldClickSo_18 : decode cX1_wouldClickSo 18 = .ok (.iload 5, 2) := by decide +kernel
theorem dX1_wouldClickSo_20 : decode cX1_wouldClickSo 20 = .ok (.iaload, 1) := by decide +kernel
theorem dX1_wouldClickSo_21 : decode cX1_wouldClickSo 21 = .ok (.aload_n 0, 1) := by decide +kernel
theorem dX1_wouldClickSo_22 : decode cX1_wouldClickSo 22 = .ok (.getfield 28, 3) := by decide +kernel
theorem dX1_wouldClickSo_25 : decode cX1_wouldClickSo 25 = .ok (.iload 5, 2) := by decide +kernel
theorem dX1_wouldClickSo_27 : decode cX1_wouldClickSo 27 = .ok (.iaload, 1) := by decide +kernel
theorem dX1_wouldClickSo_28 : decode cX1_wouldClickSo 28 = .ok (.invokestatic 84, 3) := by decide +kernel
theorem dX1_wouldClickSo_31 : decode cX1_wouldClickSo 31 = .ok (.istore 6, 2) := by decide +kernel
theorem dX1_wouldClickSo_33 : decode cX1_wouldClickSo 33 = .ok (.aload_n 3, 1) := by decide +kernel
theorem dX1_wouldClickSo_34 : decode cX1_wouldClickSo 34 = .ok (.iload 4, 2) := by decide +kernel
theorem dX1_wouldClickSo_36 : decode cX1_wouldClickSo 36 = .ok (.iload 5, 2) := by decide +kernel
theorem dX1_wouldClickSo_38 : decode cX1_wouldClickSo 38 = .ok (.iadd, 1) := by decide +kernel
theorem dX1_wouldClickSo_39 : decode cX1_wouldClickSo 39 = .ok (.iaload, 1) := by decide +kernel
theorem dX1_wouldClickSo_40 : decode cX1_wouldClickSo 40 = .ok (.iload 6, 2) := by decide +kernel
theorem dX1_wouldClickSo_42 : decode cX1_wouldClickSo 42 = .ok (.ifCond .eq 7, 3) := by decide +kernel
theorem dX1_wouldClickSo_45 : decode cX1_wouldClickSo 45 = .ok (.iconst 1, 1) := by decide +kernel
theorem dX1_wouldClickSo_46 : decode cX1_wouldClickSo 46 = .ok (.goto 4, 3) := by decide +kernel
theorem dX1_wouldClickSo_49 : decode cX1_wouldClickSo 49 = .ok (.iconst 0, 1) := by decide +kernel
theorem dX1_wouldClickSo_50 : decode cX1_wouldClickSo 50 = .ok (.if_icmp .eq 5, 3) := by decide +kernel
theorem dX1_wouldClickSo_53 : decode cX1_wouldClickSo 53 = .ok (.iconst 0, 1) := by decide +kernel
theorem dX1_wouldClickSo_54 : decode cX1_wouldClickSo 54 = .ok (.ireturn, 1) := by decide +kernel
theorem dX1_wouldClickSo_55 : decode cX1_wouldClickSo 55 = .ok (.iinc 5 1, 3) := by decide +kernel
theorem dX1_wouldClickSo_58 : decode cX1_wouldClickSo 58 = .ok (.goto (-55), 3) := by decide +kernel
theorem dX1_wouldClickSo_61 : decode cX1_wouldClickSo 61 = .ok (.iconst 1, 1) := by decide +kernel
theorem dX1_wouldClickSo_62 : decode cX1_wouldClickSo 62 = .ok (.ireturn, 1) := by decide +kernel
set_option maxRecDepth 20000 in
theorem ggX3_sizeOrBits_J6_bitCount_0f7a4 : GoodIn wsX3_sizeOrBits wsJ6_bitCount_0f7a4 := goodIn_r _ [5, 6, 7, 8] (by decide +kernel) (by decide +kernel)
set_option maxRecDepth 20000 in
theorem gX3_sizeOrBits_J6_bitCount_0f7a4 : GoodIn wsX3_sizeOrBits (va_wsS RX3 268 yJ6_bitCount_0f7a4 wsJ6_bitCount_0f7a4) := goodIn_app (goodIn_of _ (by decide +kernel)) ggX3_sizeOrBits_J6_bitCount_0f7a4
theorem dX3_sizeOrBits_0 : decode cX3_sizeOrBits 0 = .ok (.iload_n 1, 1) := by decide +kernel
theorem dX3_sizeOrBits_1 : decode cX3_sizeOrBits 1 = .ok (.ifCond .ne 16, 3) := by decide +kernel
theorem dX3_sizeOrBits_4 : decode cX3_sizeOrBits 4 = .ok (.iload_n 0, 1) := by decide +kernel
theorem dX3_sizeOrBits_5 : decode cX3_sizeOrBits 5 = .ok (.ldc 66, 2) := by decide +kernel
theorem dX3_sizeOrBits_7 : decode cX3_sizeOrBits 7 = .ok (.if_icmp .eq 10, 3) := by decide +kernel
theorem dX3_sizeOrBits_10 : decode cX3_sizeOrBits 10 = .ok (.iload_n 0, 1) := by decide +kernel
theorem dX3_sizeOrBits_11 : decode cX3_sizeOrBits 11 = .ok (.invokestatic 268, 3) := by decide +kernel
theorem dX3_sizeOrBits_14 : decode cX3_sizeOrBits 14 = .ok (.goto 4, 3) := by decide +kernel
theorem dX3_sizeOrBits_17 : decode cX3_sizeOrBits 17 = .ok (.iload_n 0, 1) := by decide +kernel
theorem dX3_sizeOrBits_18 : decode cX3_sizeOrBits 18 = .ok (.ireturn, 1) := by decide +kernel
theorem dJ6_bitCount_0f7a4_0 : decode cJ6_bitCount_0f7a4 0 = .ok (.iload_n 0, 1) := by decide +kernel
theorem dJ6_bitCount_0f7a4_1 : decode cJ6_bitCount_0f7a4 1 = .ok (.iload_n 0, 1) := by decide +kernel
theorem dJ6_bitCount_0f7a4_2 : decode cJ6_bitCount_0f7a4 2 = .ok (.iconst 1, 1) := by decide +kernel
theorem dJ6_bitCount_0f7a4_3 : decode cJ6_bitCount_0f7a4 3 = .ok (.iushr, 1) := by decide +kernel
theorem dJ6_bitCount_0f7a4_4 : decode cJ6_bitCount_0f7a4 4 = .ok (.ldc_w 265, 3) := by decide +kernel
theorem dJ6_bitCount_0f7a4_7 : decode cJ6_bitCount_0f7a4 7 = .ok (.iand, 1) := by decide +kernel
theorem dJ6_bitCount_0f7a4_8 : decode cJ6_bitCount_0f7a4 8 = .ok (.isub, 1) := by decide +kernel
theorem dJ6_bitCount_0f7a4_9 : decode cJ6_bitCount_0f7a4 9 = .ok (.istore_n 0, 1) := by decide +kernel
theorem dJ6_bitCount_0f7a4_10 : decode cJ6_bitCount_0f7a4 10 = .ok (.iload_n 0, 1) := by decide +kernel
theorem dJ6_bitCount_0f7a4_11 : decode cJ6_bitCount_0f7a4 11 = .ok (.ldc_w 266, 3) := by decide +kernel
theorem dJ6_bitCount_0f7a4_14 : decode cJ6_bitCount_0f7a4 14 = .ok (.iand, 1) := by decide +kernel
theorem dJ6_bitCount_0f7a4_15 : decode cJ6_bitCount_0f7a4 15 = .ok (.iload_n 0, 1) := by decide +kernel
theorem dJ6_bitCount_0f7a4_16 : decode cJ6_bitCount_0f7a4 16 = .ok (.iconst 2, 1) := by decide +kernel
theorem dJ6_bitCount_0f7a4_17 : decode cJ6_bitCount_0f7a4 17 = .ok (.iushr, 1) := by decide +kernel
theorem dJ6_bitCount_0f7a4_18 : decode cJ6_bitCount_0f7a4 18 = .ok (.ldc_w 266, 3) := by decide +kernel
theorem dJ6_bitCount_0f7a4_21 : decode cJ6_bitCount_0f7a4 21 = .ok (.iand, 1) := by decide +kernel
theorem dJ6_bitCount_0f7a4_22 : decode cJ6_bitCount_0f7a4 22 = .ok (.iadd, 1) := by decide +kernel
theorem dJ6_bitCount_0f7a4_23 : decode cJ6_bitCount_0f7a4 23 = .ok (.istore_n 0, 1) := by decide +kernel
theorem dJ6_bitCount_0f7a4_24 : decode cJ6_bitCount_0f7a4 24 = .ok (.iload_n 0, 1) := by decide +kernel
theorem dJ6_bitCount_0f7a4_25 : decode cJ6_bitCount_0f7a4 25 = .ok (.iload_n 0, 1) := by decide +kernel
theorem dJ6_bitCount_0f7a4_26 : decode cJ6_bitCount_0f7a4 26 = .ok (.iconst 4, 1) := by decide +kernel
theorem dJ6_bitCount_0f7a4_27 : decode cJ6_bitCount_0f7a4 27 = .ok (.iushr, 1) := by decide +kernel
theorem dJ6_bitCount_0f7a4_28 : decode cJ6_bitCount_0f7a4 28 = .ok (.iadd, 1) := by decide +kernel
theorem dJ6_bitCount_0f7a4_29 : decode cJ6_bitCount_0f7a4 29 = .ok (.ldc_w 267, 3) := by decide +kernel
theorem dJ6_bitCount_0f7a4_32 : decode cJ6_bitCount_0f7a4 32 = .ok (.iand, 1) := by decide +kernel
theorem dJ6_bitCount_0f7a4_33 : decode cJ6_bitCount_0f7a4 33 = .ok (.istore_n 0, 1) := by decide +kernel
theorem dJ6_bitCount_0f7a4_34 : decode cJ6_bitCount_0f7a4 34 = .ok (.iload_n 0, 1) := by decide +kernel
theorem dJ6_bitCount_0f7a4_35 : decode cJ6_bitCount_0f7a4 35 = .ok (.iload_n 0, 1) := by decide +kernel
theorem dJ6_bitCount_0f7a4_36 : decode cJ6_bitCount_0f7a4 36 = .ok (.bipush 8, 2) := by decide +kernel
theorem dJ6_bitCount_0f7a4_38 : decode cJ6_bitCount_0f7a4 38 = .ok (.iushr, 1) := by decide +kernel
theorem dJ6_bitCount_0f7a4_39 : decode cJ6_bitCount_0f7a4 39 = .ok (.iadd, 1) := by decide +kernel
theorem dJ6_bitCount_0f7a4_40 : decode cJ6_bitCount_0f7a4 40 = .ok (.istore_n 0, 1) := by decide +kernel
theorem dJ6_bitCount_0f7a4_41 : decode cJ6_bitCount_0f7a4 41 = .ok (.iload_n 0, 1) := by decide +kernel
theorem dJ6_bitCount_0f7a4_42 : decode cJ6_bitCount_0f7a4 42 = .ok (.iload_n 0, 1) := by decide +kernel
theorem dJ6_bitCount_0f7a4_43 : decode cJ6_bitCount_0f7a4 43 = .ok (.bipush 16, 2) := by decide +kernel
theorem dJ6_bitCount_0f7a4_45 : decode cJ6_bitCount_0f7a4 45 = .ok (.iushr, 1) := by decide +kernel
theorem dJ6_bitCount_0f7a4_46 : decode cJ6_bitCount_0f7a4 46 = .ok (.iadd, 1) := by decide +kernel
theorem dJ6_bitCount_0f7a4_47 : decode cJ6_bitCount_0f7a4 47 = .ok (.istore_n 0, 1) := by decide +kernel
theorem dJ6_bitCount_0f7a4_48 : decode cJ6_bitCount_0f7a4 48 = .ok (.iload_n 0, 1) := by decide +kernel
theorem dJ6_bitCount_0f7a4_49 : decode cJ6_bitCount_0f7a4 49 = .ok (.bipush 63, 2) := by decide +kernel
theorem dJ6_bitCount_0f7a4_51 : decode cJ6_bitCount_0f7a4 51 = .ok (.iand, 1) := by decide +kernel
theorem dJ6_bitCount_0f7a4_52 : decode cJ6_bitCount_0f7a4 52 = .ok (.ireturn, 1) := by decide +kernel
