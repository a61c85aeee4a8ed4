set_option maxRecDepth 20000 in
theorem ggX3_drop_X3_isRow : GoodIn wsX3_drop wsX3_isRow := goodIn_r _ [8, 9, 10, 7, 11] (by decide +kernel) (by decide +kernel)
set_option maxRecDepth 20000 in
theorem gX3_drop_X3_isRow : GoodIn wsX3_drop (va_wsS RX3 73 yX3_isRow wsX3_isRow) := goodIn_app (goodIn_of _ (by decide +kernel)) ggX3_drop_X3_isRow
set_option maxRecDepth 20000 in
theorem ggX3_drop_X3_isMissing : GoodIn wsX3_drop wsX3_isMissing := goodIn_r _ [15, 3, 4, 21, 22, 23, 24, 25, 26, 27, 28, 29, 30, 31, 32, 33] (by decide +kernel) (by decide +kernel)
set_option maxRecDepth 20000 in
theorem gX3_drop_X3_isMissing : GoodIn wsX3_drop (wsV RX3 94 RX3 yX3_isMissing wsX3_isMissing) := goodIn_app (goodIn_of _ (by decide +kernel)) ggX3_drop_X3_isMissing
set_option maxRecDepth 20000 in
theorem ggX3_drop_X3_found : GoodIn wsX3_drop wsX3_found := goodIn_r _ [19, 2, 20, 21, 22, 23, 24, 25, 26, 27, 28, 29, 30, 31, 32, 33] (by decide +kernel) (by decide +kernel)
set_option maxRecDepth 20000 in
theorem gX3_drop_X3_found : GoodIn wsX3_drop (wsV RX3 82 RX3 yX3_found wsX3_found) := goodIn_app (goodIn_of _ (by decide +kernel)) ggX3_drop_X3_found
theorem dX3_drop_0 : decode cX3_drop 0 = .ok (.iload_n 1, 1) := by decide +kernel
theorem dX3_drop_1 : decode cX3_drop 1 = .ok (.invokestatic 73, 3) := by decide +kernel
theorem dX3_drop_4 : decode cX3_drop 4 = .ok (.ifCond .ne 6, 3) := by decide +kernel
theorem dX3_drop_7 : decode cX3_drop 7 = .ok (.ldc 81, 2) := by decide +kernel
theorem dX3_drop_9 : decode cX3_drop 9 = .ok (.ireturn, 1) := by decide +kernel
theorem dX3_drop_10 : decode cX3_drop 10 = .ok (.aload_n 0, 1) := by decide +kernel
theorem dX3_drop_11 : decode cX3_drop 11 = .ok (.iload_n 1, 1) := by decide +kernel
theorem dX3_drop_12 : decode cX3_drop 12 = .ok (.invokevirtual 94, 3) := by decide +kernel
theorem dX3_drop_15 : decode cX3_drop 15 = .ok (.ifCond .eq 9, 3) := by decide +kernel
theorem dX3_drop_18 : decode cX3_drop 18 = .ok (.aload_n 0, 1) := by decide +kernel
theorem dX3_drop_19 : decode cX3_drop 19 = .ok (.iconst 1, 1) := by decide +kernel
theorem dX3_drop_20 : decode cX3_drop 20 = .ok (.invokevirtual 82, 3) := by decide +kernel
theorem dX3_drop_23 : decode cX3_drop 23 = .ok (.ireturn, 1) := by decide +kernel
theorem dX3_drop_24 : decode cX3_drop 24 = .ok (.aload_n 0, 1) := by decide +kernel
theorem dX3_drop_25 : decode cX3_drop 25 = .ok (.iconst 0, 1) := by decide +kernel
theorem dX3_drop_26 : decode cX3_drop 26 = .ok (.putfield 21, 3) := by decide +kernel
theorem dX3_drop_29 : decode cX3_drop 29 = .ok (.aload_n 0, 1) := by decide +kernel
theorem dX3_drop_30 : decode cX3_drop 30 = .ok (.getfield 18, 3) := by decide +kernel
theorem dX3_drop_33 : decode cX3_drop 33 = .ok (.iload_n 1, 1) := by decide +kernel
theorem dX3_drop_34 : decode cX3_drop 34 = .ok (.iaload, 1) := by decide +kernel
theorem dX3_drop_35 : decode cX3_drop 35 = .ok (.istore_n 2, 1) := by decide +kernel
theorem dX3_drop_36 : decode cX3_drop 36 = .ok (.aload_n 0, 1) := by decide +kernel
theorem dX3_drop_37 : decode cX3_drop 37 = .ok (.getfield 18, 3) := by decide +kernel
theorem dX3_drop_40 : decode cX3_drop 40 = .ok (.iload_n 1, 1) := by decide +kernel
theorem dX3_drop_41 : decode cX3_drop 41 = .ok (.ldc 66, 2) := by decide +kernel
theorem dX3_drop_43 : decode cX3_drop 43 = .ok (.iastore, 1) := by decide +kernel
theorem dX3_drop_44 : decode cX3_drop 44 = .ok (.iload_n 2, 1) := by decide +kernel
theorem dX3_drop_45 : decode cX3_drop 45 = .ok (.ireturn, 1) := by decide +kernel
set_option maxRecDepth 20000 in
theorem ggX3_feed_X3_isIn : GoodIn wsX3_feed wsX3_isIn := goodIn_r _ [8] (by decide +kernel) (by decide +kernel)
set_option maxRecDepth 20000 in
theorem gX3_feed_X3_isIn : GoodIn wsX3_feed (va_wsS RX3 77 yX3_isIn wsX3_isIn) := goodIn_app (goodIn_of _ (by decide +kernel)) ggX3_feed_X3_isIn
set_option maxRecDepth 20000 in
theorem ggX3_feed_X2_add : GoodIn wsX3_feed wsX2_add := goodIn_r _ [13, 14, 15, 29, 30, 31, 32] (by decide +kernel) (by decide +kernel)
set_option maxRecDepth 20000 in
theorem gX3_feed_X2_add : GoodIn wsX3_feed (wsV RX3 106 RX2 yX2_add wsX2_add) := goodIn_app (goodIn_of _ (by decide +kernel)) ggX3_feed_X2_add
theorem dX3_feed_0 : decode cX3_feed 0 = .ok (.iload_n 1, 1) := by decide +kernel
theorem dX3_feed_1 : decode cX3_feed 1 = .ok (.iconst 0, 1) := by decide +kernel
theorem dX3_feed_2 : decode cX3_feed 2 = .ok (.sipush 255, 3) := by decide +kernel
theorem dX3_feed_5 : decode cX3_feed 5 = .ok (.invokestatic 77, 3) := by decide +kernel
theorem dX3_feed_8 : decode cX3_feed 8 = .ok (.ifCond .ne 6, 3) := by decide +kernel
theorem dX3_feed_11 : decode cX3_feed 11 = .ok (.ldc 81, 2) := by decide +kernel
theorem dX3_feed_13 : decode cX3_feed 13 = .ok (.ireturn, 1) := by decide +kernel
theorem dX3_feed_14 : decode cX3_feed 14 = .ok (.aload_n 0, 1) := by decide +kernel
theorem dX3_feed_15 : decode cX3_feed 15 = .ok (.getfield 28, 3) := by decide +kernel
theorem dX3_feed_18 : decode cX3_feed 18 = .ok (.iload_n 1, 1) := by decide +kernel
theorem dX3_feed_19 : decode cX3_feed 19 = .ok (.invokevirtual 106, 3) := by decide +kernel
theorem dX3_feed_22 : decode cX3_feed 22 = .ok (.ifCond .eq 13, 3) := by decide +kernel
theorem dX3_feed_25 : decode cX3_feed 25 = .ok (.aload_n 0, 1) := by decide +kernel
theorem dX3_feed_26 : decode cX3_feed 26 = .ok (.getfield 28, 3) := by decide +kernel
theorem dX3_feed_29 : decode cX3_feed 29 = .ok (.getfield 109, 3) := by decide +kernel
theorem dX3_feed_32 : decode cX3_feed 32 = .ok (.goto 5, 3) := by decide +kernel
theorem dX3_feed_35 : decode cX3_feed 35 = .ok (.ldc 112, 2) := by decide +kernel
theorem dX3_feed_37 : decode cX3_feed 37 = .ok (.ireturn, 1) := by decide +kernel
set_option maxRecDepth 20000 in
theorem ggX3_guests_X1_isRead : GoodIn wsX3_guests wsX1_isRead := goodIn_r _ [8, 9, 10, 90, 91, 92, 93, 94, 95, 96, 97, 98, 99, 100, 101, 102, 103] (by decide +kernel) (by decide +kernel)
set_option maxRecDepth 20000 in
theorem gX3_guests_X1_isRead : GoodIn wsX3_guests (wsV RX3 154 RX1 yX1_isRead wsX1_isRead) := goodIn_app (goodIn_of _ (by decide +kernel)) ggX3_guests_X1_isRead
set_option maxRecDepth 20000 in
theorem ggX3_guests_X1_areSquares : GoodIn wsX3_guests wsX1_areSquares := goodIn_r _ [14, 15, 16, 17, 7, 18, 9, 19, 20, 21, 90, 91, 92, 93, 94, 95, 96, 97, 98, 99, 100, 101, 102, 103] (by decide +kernel) (by decide +kernel)
set_option maxRecDepth 20000 in
theorem gX3_guests_X1_areSquares : GoodIn wsX3_guests (wsV RX3 144 RX1 yX1_areSquares wsX1_areSquares) := goodIn_app (goodIn_of _ (by decide +kernel)) ggX3_guests_X1_areSquares
set_option maxRecDepth 20000 in
theorem ggX3_guests_X1_guestBits : GoodIn wsX3_guests wsX1_guestBits := goodIn_r _ [25, 26, 27, 28, 7, 29, 10, 30, 31, 32, 33, 34, 35, 36, 37, 38, 9, 39, 40, 41, 42, 43, 20, 44, 45, 46, 47, 48, 49, 50, 51, 52, 53, 54, 55, 56, 57, 58, 59, 60, 61, 62, 63, 64, 65, 66, 67, 68, 69, 70, 71, 72, 73, 74, 75, 76, 90, 91, 92, 93, 94, 95, 96, 97, 98, 99, 100, 101, 102, 103] (by decide +kernel) (by decide +kernel)
set_option maxRecDepth 20000 in
theorem gX3_guests_X1_guestBits : GoodIn wsX3_guests (wsV RX3 210 RX1 yX1_guestBits wsX1_guestBits) := goodIn_app (goodIn_of _ (by decide +kernel)) ggX3_guests_X1_guestBits
theorem dX3_guests_0 : decode cX3_guests 0 = .ok (.aload_n 0, 1) := by decide +kernel
theorem dX3_guests_1 : decode cX3_guests 1 = .ok (.getfield 38, 3) := by decide +kernel
theorem dX3_guests_4 : decode cX3_guests 4 = .ok (.invokevirtual 154, 3) := by decide +kernel
theorem dX3_guests_7 : decode cX3_guests 7 = .ok (.ifCond .ne 6, 3) := by decide +kernel
theorem dX3_guests_10 : decode cX3_guests 10 = .ok (.ldc 137, 2) := by decide +kernel
theorem dX3_guests_12 : decode cX3_guests 12 = .ok (.ireturn, 1) := by decide +kernel
theorem dX3_guests_13 : decode cX3_guests 13 = .ok (.aload_n 0, 1) := by decide +kernel
theorem dX3_guests_14 : decode cX3_guests 14 = .ok (.getfield 38, 3) := by decide +kernel
theorem dX3_guests_17 : decode cX3_guests 17 = .ok (.iload_n 1, 1) := by decide +kernel
theorem dX3_guests_18 : decode cX3_guests 18 = .ok (.invokevirtual 144, 3) := by decide +kernel
theorem dX3_guests_21 : decode cX3_guests 21 = .ok (.ifCond .ne 6, 3) := by decide +kernel
theorem dX3_guests_24 : decode cX3_guests 24 = .ok (.ldc 81, 2) := by decide +kernel
theorem dX3_guests_26 : decode cX3_guests 26 = .ok (.ireturn, 1) := by decide +kernel
theorem dX3_guests_27 : decode cX3_guests 27 = .ok (.aload_n 0, 1) := by decide +kernel
theorem dX3_guests_28 : decode cX3_guests 28 = .ok (.getfield 38, 3) := by decide +kernel
theorem dX3_guests_31 : decode cX3_guests 31 = .ok (.iload_n 1, 1) := by decide +kernel
theorem dX3_guests_32 : decode cX3_guests 32 = .ok (.invokevirtual 210, 3) := by decide +kernel
theorem dX3_guests_35 : decode cX3_guests 35 = .ok (.ireturn, 1) := by decide +kernel
set_option maxRecDepth 20000 in
theorem ggX3_fewest_X1_isRead : GoodIn wsX3_fewest wsX1_isRead := goodIn_r _ [8, 9, 10, 96, 97, 98, 99, 100, 101, 102, 103, 104, 105, 106, 107, 108, 109] (by decide +kernel) (by decide +kernel)
set_option maxRecDepth 20000 in
theorem gX3_fewest_X1_isRead : GoodIn wsX3_fewest (wsV RX3 154 RX1 yX1_isRead wsX1_isRead) := goodIn_app (goodIn_of _ (by decide +kernel)) ggX3_fewest_X1_isRead
set_option maxRecDepth 20000 in
theorem ggX3_fewest_X1_areVisitors : GoodIn wsX3_fewest wsX1_areVisitors := goodIn_r _ [14, 10, 15, 16, 17, 96, 97, 98, 99, 100, 101, 102, 103, 104, 105, 106, 107, 108, 109] (by decide +kernel) (by decide +kernel)
set_option maxRecDepth 20000 in
theorem gX3_fewest_X1_areVisitors : GoodIn wsX3_fewest (wsV RX3 213 RX1 yX1_areVisitors wsX1_areVisitors) := goodIn_app (goodIn_of _ (by decide +kernel)) ggX3_fewest_X1_areVisitors
set_option maxRecDepth 20000 in
theorem ggX3_fewest_X3_isIn : GoodIn wsX3_fewest wsX3_isIn := goodIn_r _ [17] (by decide +kernel) (by decide +kernel)
set_option maxRecDepth 20000 in
theorem gX3_fewest_X3_isIn : GoodIn wsX3_fewest (va_wsS RX3 77 yX3_isIn wsX3_isIn) := goodIn_app (goodIn_of _ (by decide +kernel)) ggX3_fewest_X3_isIn
set_option maxRecDepth 20000 in
theorem ggX3_fewest_X1_allSquares : GoodIn wsX3_fewest wsX1_allSquares := goodIn_r _ [22, 9, 96, 97, 98, 99, 100, 101, 102, 103, 104, 105, 106, 107, 108, 109] (by decide +kernel) (by decide +kernel)
set_option maxRecDepth 20000 in
theorem gX3_fewest_X1_allSquares : GoodIn wsX3_fewest (wsV RX3 216 RX1 yX1_allSquares wsX1_allSquares) := goodIn_app (goodIn_of _ (by decide +kernel)) ggX3_fewest_X1_allSquares
set_option maxRecDepth 20000 in
theorem ggX3_fewest_X1_fewestWithin : GoodIn wsX3_fewest wsX1_fewestWithin := goodIn_r _ [26, 27, 28, 29, 30, 7, 31, 10, 32, 33, 34, 35, 36, 37, 38, 39, 40, 9, 41, 42, 43, 44, 45, 16, 46, 47, 48, 49, 50, 51, 52, 53, 54, 55, 56, 57, 58, 59, 60, 61, 62, 63, 64, 65, 66, 67, 68, 69, 70, 71, 72, 73, 74, 75, 76, 77, 96, 97, 98, 99, 100, 101, 102, 103, 104, 105, 106, 107, 108, 109] (by decide +kernel) (by decide +kernel)
set_option maxRecDepth 20000 in
theorem gX3_fewest_X1_fewestWithin : GoodIn wsX3_fewest (wsV RX3 220 RX1 yX1_fewestWithin wsX1_fewestWithin) := goodIn_app (goodIn_of _ (by decide +kernel)) ggX3_fewest_X1_fewestWithin
set_option maxRecDepth 20000 in
theorem ggX3_fewest_X3_sizeOrBits : GoodIn wsX3_fewest wsX3_sizeOrBits := goodIn_r _ [80, 81, 82, 67, 68, 69, 70, 71, 72] (by decide +kernel) (by decide +kernel)
set_option maxRecDepth 20000 in
theorem gX3_fewest_X3_sizeOrBits : GoodIn wsX3_fewest (va_wsS RX3 223 yX3_sizeOrBits wsX3_sizeOrBits) := goodIn_app (goodIn_of _ (by decide +kernel)) ggX3_fewest_X3_sizeOrBits
theorem dX3_fewest_0 : decode cX3_fewest 0 = .ok (.aload_n 0, 1) := by decide +kernel
theorem dX3_fewest_1 : decode cX3_fewest 1 = .ok (.getfield 38, 3) := by decide +kernel
theorem dX3_fewest_4 : decode cX3_fewest 4 = .ok (.invokevirtual 154, 3) := by decide +kernel
theorem dX3_fewest_7 : decode cX3_fewest 7 = .ok (.ifCond .ne 6, 3) := by decide +kernel
theorem dX3_fewest_10 : decode cX3_fewest 10 = .ok (.ldc 137, 2) := by decide +kernel
theorem dX3_fewest_12 : decode cX3_fewest 12 = .ok (.ireturn, 1) := by decide +kernel
theorem dX3_fewest_13 : decode cX3_fewest 13 = .ok (.aload_n 0, 1) := by decide +kernel
theorem dX3_fewest_14 : decode cX3_fewest 14 = .ok (.getfield 38, 3) := by decide +kernel
theorem dX3_fewest_17 : decode cX3_fewest 17 = .ok (.iload_n 1, 1) := by decide +kernel
theorem dX3_fewest_18 : decode cX3_fewest 18 = .ok (.invokevirtual 213, 3) := by decide +kernel
theorem dX3_fewest_21 : decode cX3_fewest 21 = .ok (.ifCond .eq 12, 3) := by decide +kernel
theorem dX3_fewest_24 : decode cX3_fewest 24 = .ok (.iload_n 2, 1) := by decide +kernel
theorem dX3_fewest_25 : decode cX3_fewest 25 = .ok (.iconst 0, 1) := by decide +kernel
theorem dX3_fewest_26 : decode cX3_fewest 26 = .ok (.iconst 1, 1) := by decide +kernel
theorem dX3_fewest_27 : decode cX3_fewest 27 = .ok (.invokestatic 77, 3) := by decide +kernel
theorem dX3_fewest_30 : decode cX3_fewest 30 = .ok (.ifCond .ne 6, 3) := by decide +kernel
theorem dX3_fewest_33 : decode cX3_fewest 33 = .ok (.ldc 81, 2) := by decide +kernel
theorem dX3_fewest_35 : decode cX3_fewest 35 = .ok (.ireturn, 1) := by decide +kernel
theorem dX3_fewest_36 : decode cX3_fewest 36 = .ok (.aload_n 0, 1) := by decide +kernel
theorem dX3_fewest_37 : decode cX3_fewest 37 = .ok (.getfield 38, 3) := by decide +kernel
theorem dX3_fewest_40 : decode cX3_fewest 40 = .ok (.aload_n 0, 1) := by decide +kernel
theorem dX3_fewest_41 : decode cX3_fewest 41 = .ok (.getfield 38, 3) := by decide +kernel
theorem dX3_fewest_44 : decode cX3_fewest 44 = .ok (.invokevirtual 216, 3) := by decide +kernel
theorem dX3_fewest_47 : decode cX3_fewest 47 = .ok (.iload_n 1, 1) := by decide +kernel
theorem dX3_fewest_48 : decode cX3_fewest 48 = .ok (.invokevirtual 220, 3) := by decide +kernel
theorem dX3_fewest_51 : decode cX3_fewest 51 = .ok (.iload_n 2, 1) := by decide +kernel
theorem dX3_fewest_52 : decode cX3_fewest 52 = .ok (.invokestatic 223, 3) := by decide +kernel
theorem dX3_fewest_55 : decode cX3_fewest 55 = .ok (.ireturn, 1) := by decide +kernel
set_option maxRecDepth 20000 in
theorem ggX3_harsh_X1_isRead : GoodIn wsX3_harsh wsX1_isRead := goodIn_r _ [8, 9, 10, 92, 93, 94, 95, 96, 97, 98, 99, 100, 101, 102, 103, 104, 105] (by decide +kernel) (by decide +kernel)
set_option maxRecDepth 20000 in
theorem gX3_harsh_X1_isRead : GoodIn wsX3_harsh (wsV RX3 154 RX1 yX1_isRead wsX1_isRead) := goodIn_app (goodIn_of _ (by decide +kernel)) ggX3_harsh_X1_isRead
set_option maxRecDepth 20000 in
theorem ggX3_harsh_X1_areVisitors : GoodIn wsX3_harsh wsX1_areVisitors := goodIn_r _ [14, 10, 15, 16, 17, 92, 93, 94, 95, 96, 97, 98, 99, 100, 101, 102, 103, 104, 105] (by decide +kernel) (by decide +kernel)
set_option maxRecDepth 20000 in
theorem gX3_harsh_X1_areVisitors : GoodIn wsX3_harsh (wsV RX3 213 RX1 yX1_areVisitors wsX1_areVisitors) := goodIn_app (goodIn_of _ (by decide +kernel)) ggX3_harsh_X1_areVisitors
set_option maxRecDepth 20000 in
theorem ggX3_harsh_X1_areSquares : GoodIn wsX3_harsh wsX1_areSquares := goodIn_r _ [21, 22, 23, 24, 7, 25, 9, 15, 16, 17, 92, 93, 94, 95, 96, 97, 98, 99, 100, 101, 102, 103, 104, 105] (by decide +kernel) (by decide +kernel)
set_option maxRecDepth 20000 in
theorem gX3_harsh_X1_areSquares : GoodIn wsX3_harsh (wsV RX3 144 RX1 yX1_areSquares wsX1_areSquares) := goodIn_app (goodIn_of _ (by decide +kernel)) ggX3_harsh_X1_areSquares
set_option maxRecDepth 20000 in
theorem ggX3_harsh_X1_leastStrict : GoodIn wsX3_harsh wsX1_leastStrict := goodIn_r _ [29, 10, 30, 31, 32, 33, 34, 35, 36, 7, 37, 38, 39, 40, 41, 42, 43, 44, 45, 9, 46, 47, 48, 49, 50, 16, 51, 52, 53, 54, 55, 56, 57, 58, 59, 60, 61, 62, 63, 64, 65, 66, 67, 68, 69, 70, 71, 72, 73, 74, 75, 76, 77, 78, 92, 93, 94, 95, 96, 97, 98, 99, 100, 101, 102, 103, 104, 105] (by decide +kernel) (by decide +kernel)
set_option maxRecDepth 20000 in
theorem gX3_harsh_X1_leastStrict : GoodIn wsX3_harsh (wsV RX3 226 RX1 yX1_leastStrict wsX1_leastStrict) := goodIn_app (goodIn_of _ (by decide +kernel)) ggX3_harsh_X1_leastStrict
theorem dX3_harsh_0 : decode cX3_harsh 0 = .ok (.aload_n 0, 1) := by decide +kernel
theorem dX3_harsh_1 : decode cX3_harsh 1 = .ok (.getfield 38, 3) := by decide +kernel
theorem dX3_harsh_4 : decode cX3_harsh 4 = .ok (.invokevirtual 154, 3) := by decide +kernel
theorem dX3_harsh_7 : decode cX3_harsh 7 = .ok (.ifCond .ne 6, 3) := by decide +kernel
theorem dX3_harsh_10 : decode cX3_harsh 10 = .ok (.ldc 137, 2) := by decide +kernel
theorem dX3_harsh_12 : decode cX3_harsh 12 = .ok (.ireturn, 1) := by decide +kernel
theorem dX3_harsh_13 : decode cX3_harsh 13 = .ok (.aload_n 0, 1) := by decide +kernel
theorem dX3_harsh_14 : decode cX3_harsh 14 = .ok (.getfield 38, 3) := by decide +kernel
theorem dX3_harsh_17 : decode cX3_harsh 17 = .ok (.iload_n 1, 1) := by decide +kernel
theorem dX3_harsh_18 : decode cX3_harsh 18 = .ok (.invokevirtual 213, 3) := by decide +kernel
theorem dX3_harsh_21 : decode cX3_harsh 21 = .ok (.ifCond .eq 14, 3) := by decide +kernel
theorem dX3_harsh_24 : decode cX3_harsh 24 = .ok (.aload_n 0, 1) := by decide +kernel
theorem dX3_harsh_25 : decode cX3_harsh 25 = .ok (.getfield 38, 3) := by decide +kernel
theorem dX3_harsh_28 : decode cX3_harsh 28 = .ok (.iload_n 2, 1) := by decide +kernel
theorem dX3_harsh_29 : decode cX3_harsh 29 = .ok (.invokevirtual 144, 3) := by decide +kernel
theorem dX3_harsh_32 : decode cX3_harsh 32 = .ok (.ifCond .ne 6, 3) := by decide +kernel
theorem dX3_harsh_35 : decode cX3_harsh 35 = .ok (.ldc 81, 2) := by decide +kernel
theorem dX3_harsh_37 : decode cX3_harsh 37 = .ok (.ireturn, 1) := by decide +kernel
theorem dX3_harsh_38 : decode cX3_harsh 38 = .ok (.aload_n 0, 1) := by decide +kernel
theorem dX3_harsh_39 : decode cX3_harsh 39 = .ok (.getfield 38, 3) := by decide +kernel
theorem dX3_harsh_42 : decode cX3_harsh 42 = .ok (.iload_n 1, 1) := by decide +kernel
theorem dX3_harsh_43 : decode cX3_harsh 43 = .ok (.iload_n 2, 1) := by decide +kernel
theorem dX3_harsh_44 : decode cX3_harsh 44 = .ok (.invokevirtual 226, 3) := by decide +kernel
theorem dX3_harsh_47 : decode cX3_harsh 47 = .ok (.ireturn, 1) := by decide +kernel
set_option maxRecDepth 20000 in
theorem ggX3_keen_X1_isRead : GoodIn wsX3_keen wsX1_isRead := goodIn_r _ [9, 10, 11, 76, 77, 78, 79, 80, 81, 82, 83, 84, 85, 86, 87, 88, 89] (by decide +kernel) (by decide +kernel)
set_option maxRecDepth 20000 in
theorem gX3_keen_X1_isRead : GoodIn wsX3_keen (wsV RX3 154 RX1 yX1_isRead wsX1_isRead) := goodIn_app (goodIn_of _ (by decide +kernel)) ggX3_keen_X1_isRead
set_option maxRecDepth 20000 in
theorem ggX3_keen_X3_isIn : GoodIn wsX3_keen wsX3_isIn := goodIn_r _ [15] (by decide +kernel) (by decide +kernel)
set_option maxRecDepth 20000 in
theorem gX3_keen_X3_isIn : GoodIn wsX3_keen (va_wsS RX3 77 yX3_isIn wsX3_isIn) := goodIn_app (goodIn_of _ (by decide +kernel)) ggX3_keen_X3_isIn
set_option maxRecDepth 20000 in
theorem ggX3_keen_X1_keenest : GoodIn wsX3_keen wsX1_keenest := goodIn_r _ [19, 20, 10, 21, 22, 23, 8, 24, 25, 26, 27, 14, 28, 29, 30, 31, 32, 11, 33, 34, 35, 36, 37, 38, 39, 40, 41, 42, 43, 44, 45, 46, 47, 48, 49, 50, 51, 52, 53, 54, 55, 56, 57, 58, 59, 60, 61, 76, 77, 78, 79, 80, 81, 82, 83, 84, 85, 86, 87, 88, 89] (by decide +kernel) (by decide +kernel)
set_option maxRecDepth 20000 in
theorem gX3_keen_X1_keenest : GoodIn wsX3_keen (wsV RX3 229 RX1 yX1_keenest wsX1_keenest) := goodIn_app (goodIn_of _ (by decide +kernel)) ggX3_keen_X1_keenest
set_option maxRecDepth 20000 in
theorem ggX3_keen_X1_difference : GoodIn wsX3_keen wsX1_difference := goodIn_r _ [32, 11, 33, 34, 35, 36, 37, 38, 39, 8, 40, 41, 42, 43, 44, 10, 45, 46, 25, 47, 48, 14, 49, 50, 51, 52, 53, 54, 55, 56, 26, 20, 57, 58, 59, 60, 61, 21, 22, 23, 24, 27, 28, 76, 77, 78, 79, 80, 81, 82, 83, 84, 85, 86, 87, 88, 89] (by decide +kernel) (by decide +kernel)
set_option maxRecDepth 20000 in
theorem gX3_keen_X1_difference : GoodIn wsX3_keen (wsV RX3 232 RX1 yX1_difference wsX1_difference) := goodIn_app (goodIn_of _ (by decide +kernel)) ggX3_keen_X1_difference
theorem dX3_keen_0 : decode cX3_keen 0 = .ok (.aload_n 0, 1) := by decide +kernel
theorem dX3_keen_1 : decode cX3_keen 1 = .ok (.getfield 38, 3) := by decide +kernel
theorem dX3_keen_4 : decode cX3_keen 4 = .ok (.invokevirtual 154, 3) := by decide +kernel
theorem dX3_keen_7 : decode cX3_keen 7 = .ok (.ifCond .ne 6, 3) := by decide +kernel
theorem dX3_keen_10 : decode cX3_keen 10 = .ok (.ldc 137, 2) := by decide +kernel
theorem dX3_keen_12 : decode cX3_keen 12 = .ok (.ireturn, 1) := by decide +kernel
theorem dX3_keen_13 : decode cX3_keen 13 = .ok (.iload_n 1, 1) := by decide +kernel
theorem dX3_keen_14 : decode cX3_keen 14 = .ok (.iconst 0, 1) := by decide +kernel
theorem dX3_keen_15 : decode cX3_keen 15 = .ok (.iconst 1, 1) := by decide +kernel
theorem dX3_keen_16 : decode cX3_keen 16 = .ok (.invokestatic 77, 3) := by decide +kernel
theorem dX3_keen_19 : decode cX3_keen 19 = .ok (.ifCond .ne 6, 3) := by decide +kernel
theorem dX3_keen_22 : decode cX3_keen 22 = .ok (.ldc 81, 2) := by decide +kernel
theorem dX3_keen_24 : decode cX3_keen 24 = .ok (.ireturn, 1) := by decide +kernel
theorem dX3_keen_25 : decode cX3_keen 25 = .ok (.aload_n 0, 1) := by decide +kernel
theorem dX3_keen_26 : decode cX3_keen 26 = .ok (.getfield 38, 3) := by decide +kernel
theorem dX3_keen_29 : decode cX3_keen 29 = .ok (.invokevirtual 229, 3) := by decide +kernel
theorem dX3_keen_32 : decode cX3_keen 32 = .ok (.istore_n 2, 1) := by decide +kernel
theorem dX3_keen_33 : decode cX3_keen 33 = .ok (.iload_n 1, 1) := by decide +kernel
theorem dX3_keen_34 : decode cX3_keen 34 = .ok (.ifCond .eq 9, 3) := by decide +kernel
theorem dX3_keen_37 : decode cX3_keen 37 = .ok (.iload_n 2, 1) := by decide +kernel
theorem dX3_keen_38 : decode cX3_keen 38 = .ok (.ldc 66, 2) := by decide +kernel
theorem dX3_keen_40 : decode cX3_keen 40 = .ok (.if_icmp .ne 7, 3) := by decide +kernel
theorem dX3_keen_43 : decode cX3_keen 43 = .ok (.iload_n 2, 1) := by decide +kernel
theorem dX3_keen_44 : decode cX3_keen 44 = .ok (.goto 11, 3) := by decide +kernel
theorem dX3_keen_47 : decode cX3_keen 47 = .ok (.aload_n 0, 1) := by decide +kernel
theorem dX3_keen_48 : decode cX3_keen 48 = .ok (.getfield 38, 3) := by decide +kernel
theorem dX3_keen_51 : decode cX3_keen 51 = .ok (.iload_n 2, 1) := by decide +kernel
theorem dX3_keen_52 : decode cX3_keen 52 = .ok (.invokevirtual 232, 3) := by decide +kernel
theorem dX3_keen_55 : decode cX3_keen 55 = .ok (.ireturn, 1) := by decide +kernel
set_option maxRecDepth 20000 in
theorem ggX3_tells_X1_isRead : GoodIn wsX3_tells wsX1_isRead := goodIn_r _ [8, 9, 10, 62, 63, 64, 65, 66, 67, 68, 69, 70, 71, 72, 73, 74, 75] (by decide +kernel) (by decide +kernel)
set_option maxRecDepth 20000 in
theorem gX3_tells_X1_isRead : GoodIn wsX3_tells (wsV RX3 154 RX1 yX1_isRead wsX1_isRead) := goodIn_app (goodIn_of _ (by decide +kernel)) ggX3_tells_X1_isRead
set_option maxRecDepth 20000 in
theorem ggX3_tells_X1_areSquares : GoodIn wsX3_tells wsX1_areSquares := goodIn_r _ [14, 15, 16, 17, 7, 18, 9, 19, 20, 21, 62, 63, 64, 65, 66, 67, 68, 69, 70, 71, 72, 73, 74, 75] (by decide +kernel) (by decide +kernel)
set_option maxRecDepth 20000 in
theorem gX3_tells_X1_areSquares : GoodIn wsX3_tells (wsV RX3 144 RX1 yX1_areSquares wsX1_areSquares) := goodIn_app (goodIn_of _ (by decide +kernel)) ggX3_tells_X1_areSquares
set_option maxRecDepth 20000 in
theorem ggX3_tells_X3_isIn : GoodIn wsX3_tells wsX3_isIn := goodIn_r _ [21] (by decide +kernel) (by decide +kernel)
set_option maxRecDepth 20000 in
theorem gX3_tells_X3_isIn : GoodIn wsX3_tells (va_wsS RX3 77 yX3_isIn wsX3_isIn) := goodIn_app (goodIn_of _ (by decide +kernel)) ggX3_tells_X3_isIn
set_option maxRecDepth 20000 in
theorem ggX3_tells_X1_pairsToldApart : GoodIn wsX3_tells wsX1_pairsToldApart := goodIn_r _ [26, 10, 27, 28, 29, 7, 30, 31, 32, 33, 34, 9, 35, 36, 37, 38, 39, 20, 40, 41, 42, 43, 62, 63, 64, 65, 66, 67, 68, 69, 70, 71, 72, 73, 74, 75] (by decide +kernel) (by decide +kernel)
set_option maxRecDepth 20000 in
theorem gX3_tells_X1_pairsToldApart : GoodIn wsX3_tells (wsV RX3 235 RX1 yX1_pairsToldApart wsX1_pairsToldApart) := goodIn_app (goodIn_of _ (by decide +kernel)) ggX3_tells_X1_pairsToldApart
set_option maxRecDepth 20000 in
theorem ggX3_tells_X1_firstPairAlike : GoodIn wsX3_tells wsX1_firstPairAlike := goodIn_r _ [47, 10, 48, 27, 28, 29, 7, 30, 31, 32, 33, 34, 9, 35, 36, 37, 38, 39, 20, 40, 41, 42, 43, 62, 63, 64, 65, 66, 67, 68, 69, 70, 71, 72, 73, 74, 75] (by decide +kernel) (by decide +kernel)
set_option maxRecDepth 20000 in
theorem gX3_tells_X1_firstPairAlike : GoodIn wsX3_tells (wsV RX3 238 RX1 yX1_firstPairAlike wsX1_firstPairAlike) := goodIn_app (goodIn_of _ (by decide +kernel)) ggX3_tells_X1_firstPairAlike
theorem dX3_tells_0 : decode cX3_tells 0 = .ok (.aload_n 0, 1) := by decide +kernel
theorem dX3_tells_1 : decode cX3_tells 1 = .ok (.getfield 38, 3) := by decide +kernel
theorem dX3_tells_4 : decode cX3_tells 4 = .ok (.invokevirtual 154, 3) := by decide +kernel
theorem dX3_tells_7 : decode cX3_tells 7 = .ok (.ifCond .ne 6, 3) := by decide +kernel
theorem dX3_tells_10 : decode cX3_tells 10 = .ok (.ldc 137, 2) := by decide +kernel
theorem dX3_tells_12 : decode cX3_tells 12 = .ok (.ireturn, 1) := by decide +kernel
theorem dX3_tells_13 : decode cX3_tells 13 = .ok (.aload_n 0, 1) := by decide +kernel
theorem dX3_tells_14 : decode cX3_tells 14 = .ok (.getfield 38, 3) := by decide +kernel
theorem dX3_tells_17 : decode cX3_tells 17 = .ok (.iload_n 1, 1) := by decide +kernel
theorem dX3_tells_18 : decode cX3_tells 18 = .ok (.invokevirtual 144, 3) := by decide +kernel
theorem dX3_tells_21 : decode cX3_tells 21 = .ok (.ifCond .eq 12, 3) := by decide +kernel
theorem dX3_tells_24 : decode cX3_tells 24 = .ok (.iload_n 2, 1) := by decide +kernel
theorem dX3_tells_25 : decode cX3_tells 25 = .ok (.iconst 0, 1) := by decide +kernel
theorem dX3_tells_26 : decode cX3_tells 26 = .ok (.iconst 1, 1) := by decide +kernel
theorem dX3_tells_27 : decode cX3_tells 27 = .ok (.invokestatic 77, 3) := by decide +kernel
theorem dX3_tells_30 : decode cX3_tells 30 = .ok (.ifCond .ne 6, 3) := by decide +kernel
theorem dX3_tells_33 : decode cX3_tells 33 = .ok (.ldc 81, 2) := by decide +kernel
theorem dX3_tells_35 : decode cX3_tells 35 = .ok (.ireturn, 1) := by decide +kernel
theorem dX3_tells_36 : decode cX3_tells 36 = .ok (.iload_n 2, 1) := by decide +kernel
theorem dX3_tells_37 : decode cX3_tells 37 = .ok (.ifCond .ne 14, 3) := by decide +kernel
theorem dX3_tells_40 : decode cX3_tells 40 = .ok (.aload_n 0, 1) := by decide +kernel
theorem dX3_tells_41 : decode cX3_tells 41 = .ok (.getfield 38, 3) := by decide +kernel
theorem dX3_tells_44 : decode cX3_tells 44 = .ok (.iload_n 1, 1) := by decide +kernel
theorem dX3_tells_45 : decode cX3_tells 45 = .ok (.invokevirtual 235, 3) := by decide +kernel
theorem dX3_tells_48 : decode cX3_tells 48 = .ok (.goto 11, 3) := by decide +kernel
theorem dX3_tells_51 : decode cX3_tells 51 = .ok (.aload_n 0, 1) := by decide +kernel
theorem dX3_tells_52 : decode cX3_tells 52 = .ok (.getfield 38, 3) := by decide +kernel
theorem dX3_tells_55 : decode cX3_tells 55 = .ok (.iload_n 1, 1) := by decide +kernel
theorem dX3_tells_56 : decode cX3_tells 56 = .ok (.invokevirtual 238, 3) := by decide +kernel
theorem dX3_tells_59 : decode cX3_tells 59 = .ok (.ireturn, 1) := by decide +kernel
set_option maxRecDepth 20000 in
theorem ggX3_as_X1_isSquare : GoodIn wsX3_as wsX1_isSquare := goodIn_r _ [9, 10, 11, 12, 13, 36, 37, 38, 39, 40, 41, 42, 43, 44, 45, 46, 47, 48, 49] (by decide +kernel) (by decide +kernel)
set_option maxRecDepth 20000 in
theorem gX3_as_X1_isSquare : GoodIn wsX3_as (wsV RX3 161 RX1 yX1_isSquare wsX1_isSquare) := goodIn_app (goodIn_of _ (by decide +kernel)) ggX3_as_X1_isSquare
set_option maxRecDepth 20000 in
theorem ggX3_as_X3_isIn : GoodIn wsX3_as wsX3_isIn := goodIn_r _ [13] (by decide +kernel) (by decide +kernel)
set_option maxRecDepth 20000 in
theorem gX3_as_X3_isIn : GoodIn wsX3_as (va_wsS RX3 77 yX3_isIn wsX3_isIn) := goodIn_app (goodIn_of _ (by decide +kernel)) ggX3_as_X3_isIn
set_option maxRecDepth 20000 in
theorem ggX3_as_X3_isOfKind : GoodIn wsX3_as wsX3_isOfKind := goodIn_r _ [17] (by decide +kernel) (by decide +kernel)
set_option maxRecDepth 20000 in
theorem gX3_as_X3_isOfKind : GoodIn wsX3_as (va_wsS RX3 289 yX3_isOfKind wsX3_isOfKind) := goodIn_app (goodIn_of _ (by decide +kernel)) ggX3_as_X3_isOfKind
set_option maxRecDepth 20000 in
theorem ggX3_as_X3_found : GoodIn wsX3_as wsX3_found := goodIn_r _ [21, 4, 22, 23, 24, 25, 26, 27, 28, 29, 30, 31, 32, 33, 34, 35] (by decide +kernel) (by decide +kernel)
set_option maxRecDepth 20000 in
theorem gX3_as_X3_found : GoodIn wsX3_as (wsV RX3 82 RX3 yX3_found wsX3_found) := goodIn_app (goodIn_of _ (by decide +kernel)) ggX3_as_X3_found
theorem dX3_as_0 : decode cX3_as 0 = .ok (.aload_n 0, 1) := by decide +kernel
theorem dX3_as_1 : decode cX3_as 1 = .ok (.getfield 38, 3) := by decide +kernel
theorem dX3_as_4 : decode cX3_as 4 = .ok (.iload_n 1, 1) := by decide +kernel
theorem dX3_as_5 : decode cX3_as 5 = .ok (.invokevirtual 161, 3) := by decide +kernel
theorem dX3_as_8 : decode cX3_as 8 = .ok (.ifCond .eq 12, 3) := by decide +kernel
theorem dX3_as_11 : decode cX3_as 11 = .ok (.iload_n 2, 1) := by decide +kernel
theorem dX3_as_12 : decode cX3_as 12 = .ok (.iconst 0, 1) := by decide +kernel
theorem dX3_as_13 : decode cX3_as 13 = .ok (.iconst 5, 1) := by decide +kernel
theorem dX3_as_14 : decode cX3_as 14 = .ok (.invokestatic 77, 3) := by decide +kernel
theorem dX3_as_17 : decode cX3_as 17 = .ok (.ifCond .ne 6, 3) := by decide +kernel
theorem dX3_as_20 : decode cX3_as 20 = .ok (.ldc 81, 2) := by decide +kernel
theorem dX3_as_22 : decode cX3_as 22 = .ok (.ireturn, 1) := by decide +kernel
theorem dX3_as_23 : decode cX3_as 23 = .ok (.aload_n 0, 1) := by decide +kernel
theorem dX3_as_24 : decode cX3_as 24 = .ok (.getfield 38, 3) := by decide +kernel
theorem dX3_as_27 : decode cX3_as 27 = .ok (.getfield 197, 3) := by decide +kernel
theorem dX3_as_30 : decode cX3_as 30 = .ok (.iload_n 1, 1) := by decide +kernel
theorem dX3_as_31 : decode cX3_as 31 = .ok (.iaload, 1) := by decide +kernel
theorem dX3_as_32 : decode cX3_as 32 = .ok (.iload_n 2, 1) := by decide +kernel
theorem dX3_as_33 : decode cX3_as 33 = .ok (.invokestatic 289, 3) := by decide +kernel
theorem dX3_as_36 : decode cX3_as 36 = .ok (.ifCond .ne 9, 3) := by decide +kernel
theorem dX3_as_39 : decode cX3_as 39 = .ok (.aload_n 0, 1) := by decide +kernel
theorem dX3_as_40 : decode cX3_as 40 = .ok (.iconst 3, 1) := by decide +kernel
theorem dX3_as_41 : decode cX3_as 41 = .ok (.invokevirtual 82, 3) := by decide +kernel
theorem dX3_as_44 : decode cX3_as 44 = .ok (.ireturn, 1) := by decide +kernel
theorem dX3_as_45 : decode cX3_as 45 = .ok (.aload_n 0, 1) := by decide +kernel
theorem dX3_as_46 : decode cX3_as 46 = .ok (.iconst 0, 1) := by decide +kernel
theorem dX3_as_47 : decode cX3_as 47 = .ok (.putfield 21, 3) := by decide +kernel
theorem dX3_as_50 : decode cX3_as 50 = .ok (.iload_n 1, 1) := by decide +kernel
theorem dX3_as_51 : decode cX3_as 51 = .ok (.ireturn, 1) := by decide +kernel
set_option maxRecDepth 20000 in
theorem ggX3_trace_X3_isIn : GoodIn wsX3_trace wsX3_isIn := goodIn_r _ [7] (by decide +kernel) (by decide +kernel)
set_option maxRecDepth 20000 in
theorem gX3_trace_X3_isIn : GoodIn wsX3_trace (va_wsS RX3 77 yX3_isIn wsX3_isIn) := goodIn_app (goodIn_of _ (by decide +kernel)) ggX3_trace_X3_isIn
theorem dX3_trace_0 : decode cX3_trace 0 = .ok (.iload_n 1, 1) := by decide +kernel
theorem dX3_trace_1 : decode cX3_trace 1 = .ok (.iconst 0, 1) := by decide +kernel
theorem dX3_trace_2 : decode cX3_trace 2 = .ok (.aload_n 0, 1) := by decide +kernel
theorem dX3_trace_3 : decode cX3_trace 3 = .ok (.getfield 59, 3) := by decide +kernel
theorem dX3_trace_6 : decode cX3_trace 6 = .ok (.iconst 1, 1) := by decide +kernel
theorem dX3_trace_7 : decode cX3_trace 7 = .ok (.isub, 1) := by decide +kernel
theorem dX3_trace_8 : decode cX3_trace 8 = .ok (.invokestatic 77, 3) := by decide +kernel
theorem dX3_trace_11 : decode cX3_trace 11 = .ok (.ifCond .eq 12, 3) := by decide +kernel
theorem dX3_trace_14 : decode cX3_trace 14 = .ok (.aload_n 0, 1) := by decide +kernel
theorem dX3_trace_15 : decode cX3_trace 15 = .ok (.getfield 56, 3) := by decide +kernel
theorem dX3_trace_18 : decode cX3_trace 18 = .ok (.iload_n 1, 1) := by decide +kernel
theorem dX3_trace_19 : decode cX3_trace 19 = .ok (.iaload, 1) := by decide +kernel
theorem dX3_trace_20 : decode cX3_trace 20 = .ok (.goto 5, 3) := by decide +kernel
theorem dX3_trace_23 : decode cX3_trace 23 = .ok (.ldc 66, 2) := by decide +kernel
theorem dX3_trace_25 : decode cX3_trace 25 = .ok (.ireturn, 1) := by decide +kernel
set_option maxRecDepth 20000 in
theorem ggX3_lookAt_X3_isMissing : GoodIn wsX3_lookAt wsX3_isMissing := goodIn_r _ [6, 7, 8, 18, 19, 20, 21, 22, 23, 24, 25, 26, 27, 28, 29, 30] (by decide +kernel) (by decide +kernel)
set_option maxRecDepth 20000 in
theorem gX3_lookAt_X3_isMissing : GoodIn wsX3_lookAt (wsV RX3 94 RX3 yX3_isMissing wsX3_isMissing) := goodIn_app (goodIn_of _ (by decide +kernel)) ggX3_lookAt_X3_isMissing
set_option maxRecDepth 20000 in
theorem ggX3_lookAt_X3_found : GoodIn wsX3_lookAt wsX3_found := goodIn_r _ [12, 1, 13, 18, 19, 20, 21, 22, 23, 24, 25, 26, 27, 28, 29, 30] (by decide +kernel) (by decide +kernel)
set_option maxRecDepth 20000 in
theorem gX3_lookAt_X3_found : GoodIn wsX3_lookAt (wsV RX3 82 RX3 yX3_found wsX3_found) := goodIn_app (goodIn_of _ (by decide +kernel)) ggX3_lookAt_X3_found
set_option maxRecDepth 20000 in
theorem ggX3_lookAt_X3_hasItems : GoodIn wsX3_lookAt wsX3_hasItems := goodIn_r _ [17, 7, 18, 19, 20, 21, 22, 23, 24, 25, 26, 27, 28, 29, 30] (by decide +kernel) (by decide +kernel)
set_option maxRecDepth 20000 in
theorem gX3_lookAt_X3_hasItems : GoodIn wsX3_lookAt (wsV RX3 97 RX3 yX3_hasItems wsX3_hasItems) := goodIn_app (goodIn_of _ (by decide +kernel)) ggX3_lookAt_X3_hasItems
theorem dX3_lookAt_0 : decode cX3_lookAt 0 = .ok (.aload_n 0, 1) := by decide +kernel
theorem dX3_lookAt_1 : decode cX3_lookAt 1 = .ok (.iload_n 1, 1) := by decide +kernel
theorem dX3_lookAt_2 : decode cX3_lookAt 2 = .ok (.invokevirtual 94, 3) := by decide +kernel
theorem dX3_lookAt_5 : decode cX3_lookAt 5 = .ok (.ifCond .eq 9, 3) := by decide +kernel
theorem dX3_lookAt_8 : decode cX3_lookAt 8 = .ok (.aload_n 0, 1) := by decide +kernel
theorem dX3_lookAt_9 : decode cX3_lookAt 9 = .ok (.iconst 1, 1) := by decide +kernel
theorem dX3_lookAt_10 : decode cX3_lookAt 10 = .ok (.invokevirtual 82, 3) := by decide +kernel
theorem dX3_lookAt_13 : decode cX3_lookAt 13 = .ok (.ireturn, 1) := by decide +kernel
theorem dX3_lookAt_14 : decode cX3_lookAt 14 = .ok (.aload_n 0, 1) := by decide +kernel
theorem dX3_lookAt_15 : decode cX3_lookAt 15 = .ok (.iload_n 1, 1) := by decide +kernel
theorem dX3_lookAt_16 : decode cX3_lookAt 16 = .ok (.iload_n 2, 1) := by decide +kernel
theorem dX3_lookAt_17 : decode cX3_lookAt 17 = .ok (.iload_n 3, 1) := by decide +kernel
theorem dX3_lookAt_18 : decode cX3_lookAt 18 = .ok (.invokevirtual 97, 3) := by decide +kernel
theorem dX3_lookAt_21 : decode cX3_lookAt 21 = .ok (.ifCond .ne 9, 3) := by decide +kernel
theorem dX3_lookAt_24 : decode cX3_lookAt 24 = .ok (.aload_n 0, 1) := by decide +kernel
theorem dX3_lookAt_25 : decode cX3_lookAt 25 = .ok (.iconst 2, 1) := by decide +kernel
theorem dX3_lookAt_26 : decode cX3_lookAt 26 = .ok (.invokevirtual 82, 3) := by decide +kernel
theorem dX3_lookAt_29 : decode cX3_lookAt 29 = .ok (.ireturn, 1) := by decide +kernel
theorem dX3_lookAt_30 : decode cX3_lookAt 30 = .ok (.aload_n 0, 1) := by decide +kernel
theorem dX3_lookAt_31 : decode cX3_lookAt 31 = .ok (.iconst 0, 1) := by decide +kernel
theorem dX3_lookAt_32 : decode cX3_lookAt 32 = .ok (.putfield 21, 3) := by decide +kernel
theorem dX3_lookAt_35 : decode cX3_lookAt 35 = .ok (.iconst 0, 1) := by decide +kernel
theorem dX3_lookAt_36 : decode cX3_lookAt 36 = .ok (.ireturn, 1) := by decide +kernel
