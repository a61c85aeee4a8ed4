set_option maxRecDepth 20000 in
theorem ggX1_putTo_X1_timesWrong : GoodIn wsX1_putTo wsX1_timesWrong := goodIn_r _ [8, 9, 10, 11, 7, 12, 13, 14, 15, 16, 17, 18, 19, 20, 21, 22, 23, 24, 25, 26, 27, 28, 29, 30, 31, 32, 33, 34, 35, 36, 37, 38, 39, 40, 41, 42, 43, 44, 45, 46, 47, 48, 49, 50, 51, 62, 63, 64, 65, 66, 67, 68, 69, 70, 71, 72, 73, 74, 75] (by decide +kernel) (by decide +kernel)
set_option maxRecDepth 20000 in
theorem gX1_putTo_X1_timesWrong : GoodIn wsX1_putTo (wsV RX1 106 RX1 yX1_timesWrong wsX1_timesWrong) := goodIn_app (goodIn_of _ (by decide +kernel)) ggX1_putTo_X1_timesWrong
set_option maxRecDepth 20000 in
theorem ggX1_putTo_X1_countedBits : GoodIn wsX1_putTo wsX1_countedBits := goodIn_r _ [38, 17, 39, 40, 41, 7, 42, 20, 32, 33, 43, 23, 44, 62, 63, 64, 65, 66, 67, 68, 69, 70, 71, 72, 73, 74, 75] (by decide +kernel) (by decide +kernel)
set_option maxRecDepth 20000 in
theorem gX1_putTo_X1_countedBits : GoodIn wsX1_putTo (wsV RX1 95 RX1 yX1_countedBits wsX1_countedBits) := goodIn_app (goodIn_of _ (by decide +kernel)) ggX1_putTo_X1_countedBits
set_option maxRecDepth 20000 in
theorem ggX1_putTo_X1_clickBits : GoodIn wsX1_putTo wsX1_clickBits := goodIn_r _ [16, 17, 18, 19, 20, 21, 22, 23, 24, 25, 26, 27, 62, 63, 64, 65, 66, 67, 68, 69, 70, 71, 72, 73, 74, 75] (by decide +kernel) (by decide +kernel)
set_option maxRecDepth 20000 in
theorem gX1_putTo_X1_clickBits : GoodIn wsX1_putTo (wsV RX1 88 RX1 yX1_clickBits wsX1_clickBits) := goodIn_app (goodIn_of _ (by decide +kernel)) ggX1_putTo_X1_clickBits
set_option maxRecDepth 20000 in
theorem ggX1_putTo_X1_vote : GoodIn wsX1_putTo wsX1_vote := goodIn_r _ [55, 17, 56, 57, 58, 59, 60, 61, 62, 63, 64, 65, 66, 67, 68, 69, 70, 71, 72, 73, 74, 75] (by decide +kernel) (by decide +kernel)
set_option maxRecDepth 20000 in
theorem gX1_putTo_X1_vote : GoodIn wsX1_putTo (wsV RX1 110 RX1 yX1_vote wsX1_vote) := goodIn_app (goodIn_of _ (by decide +kernel)) ggX1_putTo_X1_vote
theorem dX1_putTo_0 : decode cX1_putTo 0 = .ok (.aload_n 0, 1) := by decide +kernel
theorem dX1_putTo_1 : decode cX1_putTo 1 = .ok (.getfield 46, 3) := by decide +kernel
theorem dX1_putTo_4 : decode cX1_putTo 4 = .ok (.iload_n 1, 1) := by decide +kernel
theorem dX1_putTo_5 : decode cX1_putTo 5 = .ok (.dup2, 1) := by decide +kernel
theorem dX1_putTo_6 : decode cX1_putTo 6 = .ok (.iaload, 1) := by decide +kernel
theorem dX1_putTo_7 : decode cX1_putTo 7 = .ok (.iconst 1, 1) := by decide +kernel
theorem dX1_putTo_8 : decode cX1_putTo 8 = .ok (.iadd, 1) := by decide +kernel
theorem dX1_putTo_9 : decode cX1_putTo 9 = .ok (.iastore, 1) := by decide +kernel
theorem dX1_putTo_10 : decode cX1_putTo 10 = .ok (.aload_n 0, 1) := by decide +kernel
theorem dX1_putTo_11 : decode cX1_putTo 11 = .ok (.iload_n 1, 1) := by decide +kernel
theorem dX1_putTo_12 : decode cX1_putTo 12 = .ok (.iload_n 2, 1) := by decide +kernel
theorem dX1_putTo_13 : decode cX1_putTo 13 = .ok (.invokevirtual 106, 3) := by decide +kernel
theorem dX1_putTo_16 : decode cX1_putTo 16 = .ok (.aload_n 0, 1) := by decide +kernel
theorem dX1_putTo_17 : decode cX1_putTo 17 = .ok (.getfield 15, 3) := by decide +kernel
theorem dX1_putTo_20 : decode cX1_putTo 20 = .ok (.if_icmp .le 5, 3) := by decide +kernel
theorem dX1_putTo_23 : decode cX1_putTo 23 = .ok (.iconst 0, 1) := by decide +kernel
theorem dX1_putTo_24 : decode cX1_putTo 24 = .ok (.ireturn, 1) := by decide +kernel
theorem dX1_putTo_25 : decode cX1_putTo 25 = .ok (.aload_n 0, 1) := by decide +kernel
theorem dX1_putTo_26 : decode cX1_putTo 26 = .ok (.getfield 49, 3) := by decide +kernel
theorem dX1_putTo_29 : decode cX1_putTo 29 = .ok (.iload_n 1, 1) := by decide +kernel
theorem dX1_putTo_30 : decode cX1_putTo 30 = .ok (.dup2, 1) := by decide +kernel
theorem dX1_putTo_31 : decode cX1_putTo 31 = .ok (.iaload, 1) := by decide +kernel
theorem dX1_putTo_32 : decode cX1_putTo 32 = .ok (.iconst 1, 1) := by decide +kernel
theorem dX1_putTo_33 : decode cX1_putTo 33 = .ok (.iadd, 1) := by decide +kernel
theorem dX1_putTo_34 : decode cX1_putTo 34 = .ok (.iastore, 1) := by decide +kernel
theorem dX1_putTo_35 : decode cX1_putTo 35 = .ok (.aload_n 0, 1) := by decide +kernel
theorem dX1_putTo_36 : decode cX1_putTo 36 = .ok (.iload_n 2, 1) := by decide +kernel
theorem dX1_putTo_37 : decode cX1_putTo 37 = .ok (.aload_n 0, 1) := by decide +kernel
theorem dX1_putTo_38 : decode cX1_putTo 38 = .ok (.invokevirtual 95, 3) := by decide +kernel
theorem dX1_putTo_41 : decode cX1_putTo 41 = .ok (.iconst (-1), 1) := by decide +kernel
theorem dX1_putTo_42 : decode cX1_putTo 42 = .ok (.ixor, 1) := by decide +kernel
theorem dX1_putTo_43 : decode cX1_putTo 43 = .ok (.iand, 1) := by decide +kernel
theorem dX1_putTo_44 : decode cX1_putTo 44 = .ok (.aload_n 0, 1) := by decide +kernel
theorem dX1_putTo_45 : decode cX1_putTo 45 = .ok (.iload_n 1, 1) := by decide +kernel
theorem dX1_putTo_46 : decode cX1_putTo 46 = .ok (.invokevirtual 88, 3) := by decide +kernel
theorem dX1_putTo_49 : decode cX1_putTo 49 = .ok (.invokevirtual 110, 3) := by decide +kernel
theorem dX1_putTo_52 : decode cX1_putTo 52 = .ok (.iconst 1, 1) := by decide +kernel
theorem dX1_putTo_53 : decode cX1_putTo 53 = .ok (.ireturn, 1) := by decide +kernel
set_option maxRecDepth 20000 in
theorem ggX1_fewestWithin_X1_noteWrong : GoodIn wsX1_fewestWithin wsX1_noteWrong := goodIn_r _ [6, 7, 8, 9, 10, 11, 5, 12, 13, 14, 15, 16, 17, 18, 19, 20, 21, 22, 23, 24, 25, 26, 27, 28, 29, 30, 31, 32, 1, 33, 34, 35, 36, 37, 38, 39, 40, 41, 42, 43, 56, 57, 58, 59, 60, 61, 62, 63, 64, 65, 66, 67, 68, 69] (by decide +kernel) (by decide +kernel)
set_option maxRecDepth 20000 in
theorem gX1_fewestWithin_X1_noteWrong : GoodIn wsX1_fewestWithin (wsV RX1 119 RX1 yX1_noteWrong wsX1_noteWrong) := goodIn_app (goodIn_of _ (by decide +kernel)) ggX1_fewestWithin_X1_noteWrong
set_option maxRecDepth 20000 in
theorem ggX1_fewestWithin_J6_bitCount_0f7a4 : GoodIn wsX1_fewestWithin wsJ6_bitCount_0f7a4 := goodIn_r _ [47, 48, 49, 50] (by decide +kernel) (by decide +kernel)
set_option maxRecDepth 20000 in
theorem gX1_fewestWithin_J6_bitCount_0f7a4 : GoodIn wsX1_fewestWithin (va_wsS RX1 101 yJ6_bitCount_0f7a4 wsJ6_bitCount_0f7a4) := goodIn_app (goodIn_of _ (by decide +kernel)) ggX1_fewestWithin_J6_bitCount_0f7a4
set_option maxRecDepth 20000 in
theorem ggX1_fewestWithin_X1_notedGuests : GoodIn wsX1_fewestWithin wsX1_notedGuests := goodIn_r _ [54, 7, 8, 55, 44, 45, 46, 47, 48, 49, 50, 56, 57, 58, 59, 60, 61, 62, 63, 64, 65, 66, 67, 68, 69] (by decide +kernel) (by decide +kernel)
set_option maxRecDepth 20000 in
theorem gX1_fewestWithin_X1_notedGuests : GoodIn wsX1_fewestWithin (wsV RX1 122 RX1 yX1_notedGuests wsX1_notedGuests) := goodIn_app (goodIn_of _ (by decide +kernel)) ggX1_fewestWithin_X1_notedGuests
theorem dX1_fewestWithin_0 : decode cX1_fewestWithin 0 = .ok (.aload_n 0, 1) := by decide +kernel
theorem dX1_fewestWithin_1 : decode cX1_fewestWithin 1 = .ok (.invokevirtual 119, 3) := by decide +kernel
theorem dX1_fewestWithin_4 : decode cX1_fewestWithin 4 = .ok (.ldc 61, 2) := by decide +kernel
theorem dX1_fewestWithin_6 : decode cX1_fewestWithin 6 = .ok (.istore_n 3, 1) := by decide +kernel
theorem dX1_fewestWithin_7 : decode cX1_fewestWithin 7 = .ok (.bipush 9, 2) := by decide +kernel
theorem dX1_fewestWithin_9 : decode cX1_fewestWithin 9 = .ok (.istore 4, 2) := by decide +kernel
theorem dX1_fewestWithin_11 : decode cX1_fewestWithin 11 = .ok (.iconst 0, 1) := by decide +kernel
theorem dX1_fewestWithin_12 : decode cX1_fewestWithin 12 = .ok (.istore 5, 2) := by decide +kernel
theorem dX1_fewestWithin_14 : decode cX1_fewestWithin 14 = .ok (.iload 5, 2) := by decide +kernel
theorem dX1_fewestWithin_16 : decode cX1_fewestWithin 16 = .ok (.iload_n 1, 1) := by decide +kernel
theorem dX1_fewestWithin_17 : decode cX1_fewestWithin 17 = .ok (.if_icmp .gt 60, 3) := by decide +kernel
theorem dX1_fewestWithin_20 : decode cX1_fewestWithin 20 = .ok (.iload 5, 2) := by decide +kernel
theorem dX1_fewestWithin_22 : decode cX1_fewestWithin 22 = .ok (.iload_n 1, 1) := by decide +kernel
theorem dX1_fewestWithin_23 : decode cX1_fewestWithin 23 = .ok (.iconst (-1), 1) := by decide +kernel
theorem dX1_fewestWithin_24 : decode cX1_fewestWithin 24 = .ok (.ixor, 1) := by decide +kernel
theorem dX1_fewestWithin_25 : decode cX1_fewestWithin 25 = .ok (.iand, 1) := by decide +kernel
theorem dX1_fewestWithin_26 : decode cX1_fewestWithin 26 = .ok (.ifCond .ne 7, 3) := by decide +kernel
theorem dX1_fewestWithin_29 : decode cX1_fewestWithin 29 = .ok (.iconst 1, 1) := by decide +kernel
theorem dX1_fewestWithin_30 : decode cX1_fewestWithin 30 = .ok (.goto 4, 3) := by decide +kernel
theorem dX1_fewestWithin_33 : decode cX1_fewestWithin 33 = .ok (.iconst 0, 1) := by decide +kernel
theorem dX1_fewestWithin_34 : decode cX1_fewestWithin 34 = .ok (.istore 6, 2) := by decide +kernel
theorem dX1_fewestWithin_36 : decode cX1_fewestWithin 36 = .ok (.iload 6, 2) := by decide +kernel
theorem dX1_fewestWithin_38 : decode cX1_fewestWithin 38 = .ok (.ifCond .eq 33, 3) := by decide +kernel
theorem dX1_fewestWithin_41 : decode cX1_fewestWithin 41 = .ok (.iload 5, 2) := by decide +kernel
theorem dX1_fewestWithin_43 : decode cX1_fewestWithin 43 = .ok (.invokestatic 101, 3) := by decide +kernel
theorem dX1_fewestWithin_46 : decode cX1_fewestWithin 46 = .ok (.iload 4, 2) := by decide +kernel
theorem dX1_fewestWithin_48 : decode cX1_fewestWithin 48 = .ok (.if_icmp .ge 23, 3) := by decide +kernel
theorem dX1_fewestWithin_51 : decode cX1_fewestWithin 51 = .ok (.aload_n 0, 1) := by decide +kernel
theorem dX1_fewestWithin_52 : decode cX1_fewestWithin 52 = .ok (.iload 5, 2) := by decide +kernel
theorem dX1_fewestWithin_54 : decode cX1_fewestWithin 54 = .ok (.invokevirtual 122, 3) := by decide +kernel
theorem dX1_fewestWithin_57 : decode cX1_fewestWithin 57 = .ok (.iload_n 2, 1) := by decide +kernel
theorem dX1_fewestWithin_58 : decode cX1_fewestWithin 58 = .ok (.if_icmp .ne 13, 3) := by decide +kernel
theorem dX1_fewestWithin_61 : decode cX1_fewestWithin 61 = .ok (.iload 5, 2) := by decide +kernel
theorem dX1_fewestWithin_63 : decode cX1_fewestWithin 63 = .ok (.istore_n 3, 1) := by decide +kernel
theorem dX1_fewestWithin_64 : decode cX1_fewestWithin 64 = .ok (.iload 5, 2) := by decide +kernel
theorem dX1_fewestWithin_66 : decode cX1_fewestWithin 66 = .ok (.invokestatic 101, 3) := by decide +kernel
theorem dX1_fewestWithin_69 : decode cX1_fewestWithin 69 = .ok (.istore 4, 2) := by decide +kernel
theorem dX1_fewestWithin_71 : decode cX1_fewestWithin 71 = .ok (.iinc 5 1, 3) := by decide +kernel
theorem dX1_fewestWithin_74 : decode cX1_fewestWithin 74 = .ok (.goto (-60), 3) := by decide +kernel
theorem dX1_fewestWithin_77 : decode cX1_fewestWithin 77 = .ok (.iload_n 3, 1) := by decide +kernel
theorem dX1_fewestWithin_78 : decode cX1_fewestWithin 78 = .ok (.ireturn, 1) := by decide +kernel
set_option maxRecDepth 20000 in
theorem ggX3_lentSize_X3_begin : GoodIn wsX3_lentSize wsX3_begin := goodIn_r _ [7, 8, 9, 10, 11, 12, 13, 14, 15, 16, 17, 18, 19, 20, 21, 22] (by decide +kernel) (by decide +kernel)
set_option maxRecDepth 20000 in
theorem gX3_lentSize_X3_begin : GoodIn wsX3_lentSize (wsV RX3 317 RX3 yX3_begin wsX3_begin) := goodIn_app (goodIn_of _ (by decide +kernel)) ggX3_lentSize_X3_begin
theorem dX3_lentSize_0 : decode cX3_lentSize 0 = .ok (.aload_n 0, 1) := by decide +kernel
theorem dX3_lentSize_1 : decode cX3_lentSize 1 = .ok (.bipush 10, 2) := by decide +kernel
theorem dX3_lentSize_3 : decode cX3_lentSize 3 = .ok (.invokevirtual 317, 3) := by decide +kernel
theorem dX3_lentSize_6 : decode cX3_lentSize 6 = .ok (.aload_n 0, 1) := by decide +kernel
theorem dX3_lentSize_7 : decode cX3_lentSize 7 = .ok (.getfield 38, 3) := by decide +kernel
theorem dX3_lentSize_10 : decode cX3_lentSize 10 = .ok (.getfield 164, 3) := by decide +kernel
theorem dX3_lentSize_13 : decode cX3_lentSize 13 = .ok (.iload_n 1, 1) := by decide +kernel
theorem dX3_lentSize_14 : decode cX3_lentSize 14 = .ok (.iaload, 1) := by decide +kernel
theorem dX3_lentSize_15 : decode cX3_lentSize 15 = .ok (.ireturn, 1) := by decide +kernel
set_option maxRecDepth 20000 in
theorem ggX3_lentMark_X3_begin : GoodIn wsX3_lentMark wsX3_begin := goodIn_r _ [5, 6, 7, 8, 9, 10, 11, 12, 13, 14, 15, 16, 17, 18, 19, 20] (by decide +kernel) (by decide +kernel)
set_option maxRecDepth 20000 in
theorem gX3_lentMark_X3_begin : GoodIn wsX3_lentMark (wsV RX3 317 RX3 yX3_begin wsX3_begin) := goodIn_app (goodIn_of _ (by decide +kernel)) ggX3_lentMark_X3_begin
theorem dX3_lentMark_0 : decode cX3_lentMark 0 = .ok (.aload_n 0, 1) := by decide +kernel
theorem dX3_lentMark_1 : decode cX3_lentMark 1 = .ok (.bipush 20, 2) := by decide +kernel
theorem dX3_lentMark_3 : decode cX3_lentMark 3 = .ok (.invokevirtual 317, 3) := by decide +kernel
theorem dX3_lentMark_6 : decode cX3_lentMark 6 = .ok (.iload_n 1, 1) := by decide +kernel
theorem dX3_lentMark_7 : decode cX3_lentMark 7 = .ok (.ireturn, 1) := by decide +kernel
set_option maxRecDepth 20000 in
theorem ggX3_knownSize_X3_begin : GoodIn wsX3_knownSize wsX3_begin := goodIn_r _ [7, 8, 9, 43, 44, 45, 46, 47, 48, 49, 50, 51, 52, 53, 54, 55] (by decide +kernel) (by decide +kernel)
set_option maxRecDepth 20000 in
theorem gX3_knownSize_X3_begin : GoodIn wsX3_knownSize (wsV RX3 317 RX3 yX3_begin wsX3_begin) := goodIn_app (goodIn_of _ (by decide +kernel)) ggX3_knownSize_X3_begin
set_option maxRecDepth 20000 in
theorem ggX3_knownSize_X3_lentSize : GoodIn wsX3_knownSize wsX3_lentSize := goodIn_r _ [13, 1, 14, 3, 4, 5, 6, 7, 8, 9, 43, 44, 45, 46, 47, 48, 49, 50, 51, 52, 53, 54, 55, 56, 57, 58, 59, 60, 61, 62, 63, 64, 65, 66, 67, 68, 69] (by decide +kernel) (by decide +kernel)
set_option maxRecDepth 20000 in
theorem gX3_knownSize_X3_lentSize : GoodIn wsX3_knownSize (wsV RX3 321 RX3 yX3_lentSize wsX3_lentSize) := goodIn_app (goodIn_of _ (by decide +kernel)) ggX3_knownSize_X3_lentSize
set_option maxRecDepth 20000 in
theorem ggX3_knownSize_X3_knownMark : GoodIn wsX3_knownSize wsX3_knownMark := goodIn_r _ [18, 1, 2, 3, 4, 5, 6, 7, 8, 9, 19, 20, 21, 22, 23, 24, 25, 26, 27, 28, 29, 30, 31, 32, 33, 34, 35, 36, 37, 38, 39, 40, 41, 42, 43, 44, 45, 46, 47, 48, 49, 50, 51, 52, 53, 54, 55, 56, 57, 58, 59, 60, 61, 62, 63, 64, 65, 66, 67, 68, 69] (by decide +kernel) (by decide +kernel)
set_option maxRecDepth 20000 in
theorem gX3_knownSize_X3_knownMark : GoodIn wsX3_knownSize (wsV RX3 295 RX3 yX3_knownMark wsX3_knownMark) := goodIn_app (goodIn_of _ (by decide +kernel)) ggX3_knownSize_X3_knownMark
theorem dX3_knownSize_0 : decode cX3_knownSize 0 = .ok (.aload_n 0, 1) := by decide +kernel
theorem dX3_knownSize_1 : decode cX3_knownSize 1 = .ok (.getfield 38, 3) := by decide +kernel
theorem dX3_knownSize_4 : decode cX3_knownSize 4 = .ok (.getfield 197, 3) := by decide +kernel
theorem dX3_knownSize_7 : decode cX3_knownSize 7 = .ok (.iload_n 1, 1) := by decide +kernel
theorem dX3_knownSize_8 : decode cX3_knownSize 8 = .ok (.iaload, 1) := by decide +kernel
theorem dX3_knownSize_9 : decode cX3_knownSize 9 = .ok (.iconst 2, 1) := by decide +kernel
theorem dX3_knownSize_10 : decode cX3_knownSize 10 = .ok (.if_icmp .ne 7, 3) := by decide +kernel
theorem dX3_knownSize_13 : decode cX3_knownSize 13 = .ok (.iconst 1, 1) := by decide +kernel
theorem dX3_knownSize_14 : decode cX3_knownSize 14 = .ok (.goto 4, 3) := by decide +kernel
theorem dX3_knownSize_17 : decode cX3_knownSize 17 = .ok (.iconst 0, 1) := by decide +kernel
theorem dX3_knownSize_18 : decode cX3_knownSize 18 = .ok (.istore_n 2, 1) := by decide +kernel
theorem dX3_knownSize_19 : decode cX3_knownSize 19 = .ok (.iload_n 2, 1) := by decide +kernel
theorem dX3_knownSize_20 : decode cX3_knownSize 20 = .ok (.ifCond .eq 9, 3) := by decide +kernel
theorem dX3_knownSize_23 : decode cX3_knownSize 23 = .ok (.aload_n 0, 1) := by decide +kernel
theorem dX3_knownSize_24 : decode cX3_knownSize 24 = .ok (.bipush 12, 2) := by decide +kernel
theorem dX3_knownSize_26 : decode cX3_knownSize 26 = .ok (.invokevirtual 317, 3) := by decide +kernel
theorem dX3_knownSize_29 : decode cX3_knownSize 29 = .ok (.aload_n 0, 1) := by decide +kernel
theorem dX3_knownSize_30 : decode cX3_knownSize 30 = .ok (.bipush 11, 2) := by decide +kernel
theorem dX3_knownSize_32 : decode cX3_knownSize 32 = .ok (.invokevirtual 317, 3) := by decide +kernel
theorem dX3_knownSize_35 : decode cX3_knownSize 35 = .ok (.aload_n 0, 1) := by decide +kernel
theorem dX3_knownSize_36 : decode cX3_knownSize 36 = .ok (.iload_n 1, 1) := by decide +kernel
theorem dX3_knownSize_37 : decode cX3_knownSize 37 = .ok (.invokevirtual 321, 3) := by decide +kernel
theorem dX3_knownSize_40 : decode cX3_knownSize 40 = .ok (.istore_n 3, 1) := by decide +kernel
theorem dX3_knownSize_41 : decode cX3_knownSize 41 = .ok (.iload_n 3, 1) := by decide +kernel
theorem dX3_knownSize_42 : decode cX3_knownSize 42 = .ok (.aload_n 0, 1) := by decide +kernel
theorem dX3_knownSize_43 : decode cX3_knownSize 43 = .ok (.iload_n 1, 1) := by decide +kernel
theorem dX3_knownSize_44 : decode cX3_knownSize 44 = .ok (.invokevirtual 295, 3) := by decide +kernel
theorem dX3_knownSize_47 : decode cX3_knownSize 47 = .ok (.iadd, 1) := by decide +kernel
theorem dX3_knownSize_48 : decode cX3_knownSize 48 = .ok (.istore 4, 2) := by decide +kernel
theorem dX3_knownSize_50 : decode cX3_knownSize 50 = .ok (.iload_n 2, 1) := by decide +kernel
theorem dX3_knownSize_51 : decode cX3_knownSize 51 = .ok (.ifCond .eq 10, 3) := by decide +kernel
theorem dX3_knownSize_54 : decode cX3_knownSize 54 = .ok (.iconst 0, 1) := by decide +kernel
theorem dX3_knownSize_55 : decode cX3_knownSize 55 = .ok (.iload 4, 2) := by decide +kernel
theorem dX3_knownSize_57 : decode cX3_knownSize 57 = .ok (.isub, 1) := by decide +kernel
theorem dX3_knownSize_58 : decode cX3_knownSize 58 = .ok (.goto 5, 3) := by decide +kernel
theorem dX3_knownSize_61 : decode cX3_knownSize 61 = .ok (.iload 4, 2) := by decide +kernel
theorem dX3_knownSize_63 : decode cX3_knownSize 63 = .ok (.ireturn, 1) := by decide +kernel
set_option maxRecDepth 20000 in
theorem ggX3_knownMark_X3_begin : GoodIn wsX3_knownMark wsX3_begin := goodIn_r _ [7, 8, 9, 34, 35, 36, 37, 38, 39, 40, 41, 42, 43, 44, 45, 46] (by decide +kernel) (by decide +kernel)
set_option maxRecDepth 20000 in
theorem gX3_knownMark_X3_begin : GoodIn wsX3_knownMark (wsV RX3 317 RX3 yX3_begin wsX3_begin) := goodIn_app (goodIn_of _ (by decide +kernel)) ggX3_knownMark_X3_begin
set_option maxRecDepth 20000 in
theorem ggX3_knownMark_X3_lentMark : GoodIn wsX3_knownMark wsX3_lentMark := goodIn_r _ [13, 3, 4, 5, 6, 7, 8, 9, 34, 35, 36, 37, 38, 39, 40, 41, 42, 43, 44, 45, 46] (by decide +kernel) (by decide +kernel)
set_option maxRecDepth 20000 in
theorem gX3_knownMark_X3_lentMark : GoodIn wsX3_knownMark (wsV RX3 324 RX3 yX3_lentMark wsX3_lentMark) := goodIn_app (goodIn_of _ (by decide +kernel)) ggX3_knownMark_X3_lentMark
set_option maxRecDepth 20000 in
theorem ggX3_knownMark_X1_howManyClick : GoodIn wsX3_knownMark wsX1_howManyClick := goodIn_r _ [18, 19, 20, 21, 22, 17, 23, 24, 25, 26, 27, 28, 29, 6, 30, 31, 32, 33, 47, 48, 49, 50, 51, 52, 53, 54, 55, 56, 57, 58, 59, 60] (by decide +kernel) (by decide +kernel)
set_option maxRecDepth 20000 in
theorem gX3_knownMark_X1_howManyClick : GoodIn wsX3_knownMark (wsV RX3 327 RX1 yX1_howManyClick wsX1_howManyClick) := goodIn_app (goodIn_of _ (by decide +kernel)) ggX3_knownMark_X1_howManyClick
theorem dX3_knownMark_0 : decode cX3_knownMark 0 = .ok (.aload_n 0, 1) := by decide +kernel
theorem dX3_knownMark_1 : decode cX3_knownMark 1 = .ok (.getfield 38, 3) := by decide +kernel
theorem dX3_knownMark_4 : decode cX3_knownMark 4 = .ok (.getfield 197, 3) := by decide +kernel
theorem dX3_knownMark_7 : decode cX3_knownMark 7 = .ok (.iload_n 1, 1) := by decide +kernel
theorem dX3_knownMark_8 : decode cX3_knownMark 8 = .ok (.iaload, 1) := by decide +kernel
theorem dX3_knownMark_9 : decode cX3_knownMark 9 = .ok (.istore_n 2, 1) := by decide +kernel
theorem dX3_knownMark_10 : decode cX3_knownMark 10 = .ok (.iload_n 2, 1) := by decide +kernel
theorem dX3_knownMark_11 : decode cX3_knownMark 11 = .ok (.iconst 3, 1) := by decide +kernel
theorem dX3_knownMark_12 : decode cX3_knownMark 12 = .ok (.if_icmp .ne 9, 3) := by decide +kernel
theorem dX3_knownMark_15 : decode cX3_knownMark 15 = .ok (.aload_n 0, 1) := by decide +kernel
theorem dX3_knownMark_16 : decode cX3_knownMark 16 = .ok (.bipush 22, 2) := by decide +kernel
theorem dX3_knownMark_18 : decode cX3_knownMark 18 = .ok (.invokevirtual 317, 3) := by decide +kernel
theorem dX3_knownMark_21 : decode cX3_knownMark 21 = .ok (.iload_n 2, 1) := by decide +kernel
theorem dX3_knownMark_22 : decode cX3_knownMark 22 = .ok (.iconst 2, 1) := by decide +kernel
theorem dX3_knownMark_23 : decode cX3_knownMark 23 = .ok (.if_icmp .ne 9, 3) := by decide +kernel
theorem dX3_knownMark_26 : decode cX3_knownMark 26 = .ok (.aload_n 0, 1) := by decide +kernel
theorem dX3_knownMark_27 : decode cX3_knownMark 27 = .ok (.bipush 24, 2) := by decide +kernel
theorem dX3_knownMark_29 : decode cX3_knownMark 29 = .ok (.invokevirtual 317, 3) := by decide +kernel
theorem dX3_knownMark_32 : decode cX3_knownMark 32 = .ok (.aload_n 0, 1) := by decide +kernel
theorem dX3_knownMark_33 : decode cX3_knownMark 33 = .ok (.bipush 21, 2) := by decide +kernel
theorem dX3_knownMark_35 : decode cX3_knownMark 35 = .ok (.invokevirtual 317, 3) := by decide +kernel
theorem dX3_knownMark_38 : decode cX3_knownMark 38 = .ok (.aload_n 0, 1) := by decide +kernel
theorem dX3_knownMark_39 : decode cX3_knownMark 39 = .ok (.iload_n 1, 1) := by decide +kernel
theorem dX3_knownMark_40 : decode cX3_knownMark 40 = .ok (.invokevirtual 324, 3) := by decide +kernel
theorem dX3_knownMark_43 : decode cX3_knownMark 43 = .ok (.aload_n 0, 1) := by decide +kernel
theorem dX3_knownMark_44 : decode cX3_knownMark 44 = .ok (.getfield 38, 3) := by decide +kernel
theorem dX3_knownMark_47 : decode cX3_knownMark 47 = .ok (.iload_n 1, 1) := by decide +kernel
theorem dX3_knownMark_48 : decode cX3_knownMark 48 = .ok (.invokevirtual 327, 3) := by decide +kernel
theorem dX3_knownMark_51 : decode cX3_knownMark 51 = .ok (.iadd, 1) := by decide +kernel
theorem dX3_knownMark_52 : decode cX3_knownMark 52 = .ok (.istore_n 3, 1) := by decide +kernel
theorem dX3_knownMark_53 : decode cX3_knownMark 53 = .ok (.iload_n 2, 1) := by decide +kernel
theorem dX3_knownMark_54 : decode cX3_knownMark 54 = .ok (.iconst 3, 1) := by decide +kernel
theorem dX3_knownMark_55 : decode cX3_knownMark 55 = .ok (.if_icmp .ne 9, 3) := by decide +kernel
theorem dX3_knownMark_58 : decode cX3_knownMark 58 = .ok (.iload_n 3, 1) := by decide +kernel
theorem dX3_knownMark_59 : decode cX3_knownMark 59 = .ok (.sipush 1000, 3) := by decide +kernel
theorem dX3_knownMark_62 : decode cX3_knownMark 62 = .ok (.isub, 1) := by decide +kernel
theorem dX3_knownMark_63 : decode cX3_knownMark 63 = .ok (.ireturn, 1) := by decide +kernel
theorem dX3_knownMark_64 : decode cX3_knownMark 64 = .ok (.iload_n 2, 1) := by decide +kernel
theorem dX3_knownMark_65 : decode cX3_knownMark 65 = .ok (.iconst 2, 1) := by decide +kernel
theorem dX3_knownMark_66 : decode cX3_knownMark 66 = .ok (.if_icmp .ne 9, 3) := by decide +kernel
theorem dX3_knownMark_69 : decode cX3_knownMark 69 = .ok (.iconst 2, 1) := by decide +kernel
theorem dX3_knownMark_70 : decode cX3_knownMark 70 = .ok (.iload_n 3, 1) := by decide +kernel
theorem dX3_knownMark_71 : decode cX3_knownMark 71 = .ok (.imul, 1) := by decide +kernel
theorem dX3_knownMark_72 : decode cX3_knownMark 72 = .ok (.goto 4, 3) := by decide +kernel
theorem dX3_knownMark_75 : decode cX3_knownMark 75 = .ok (.iload_n 3, 1) := by decide +kernel
theorem dX3_knownMark_76 : decode cX3_knownMark 76 = .ok (.ireturn, 1) := by decide +kernel
set_option maxRecDepth 20000 in
theorem ggX3_unknownSize_X3_begin : GoodIn wsX3_unknownSize wsX3_begin := goodIn_r _ [7, 8, 9, 15, 16, 17, 18, 19, 20, 21, 22, 23, 24, 25, 26, 27] (by decide +kernel) (by decide +kernel)
set_option maxRecDepth 20000 in
theorem gX3_unknownSize_X3_begin : GoodIn wsX3_unknownSize (wsV RX3 317 RX3 yX3_begin wsX3_begin) := goodIn_app (goodIn_of _ (by decide +kernel)) ggX3_unknownSize_X3_begin
set_option maxRecDepth 20000 in
theorem ggX3_unknownSize_X3_lentSize : GoodIn wsX3_unknownSize wsX3_lentSize := goodIn_r _ [13, 1, 14, 3, 4, 5, 6, 7, 8, 9, 15, 16, 17, 18, 19, 20, 21, 22, 23, 24, 25, 26, 27, 28, 29, 30, 31, 32, 33, 34, 35, 36, 37, 38, 39, 40, 41] (by decide +kernel) (by decide +kernel)
set_option maxRecDepth 20000 in
theorem gX3_unknownSize_X3_lentSize : GoodIn wsX3_unknownSize (wsV RX3 321 RX3 yX3_lentSize wsX3_lentSize) := goodIn_app (goodIn_of _ (by decide +kernel)) ggX3_unknownSize_X3_lentSize
theorem dX3_unknownSize_0 : decode cX3_unknownSize 0 = .ok (.aload_n 0, 1) := by decide +kernel
theorem dX3_unknownSize_1 : decode cX3_unknownSize 1 = .ok (.getfield 38, 3) := by decide +kernel
theorem dX3_unknownSize_4 : decode cX3_unknownSize 4 = .ok (.getfield 197, 3) := by decide +kernel
theorem dX3_unknownSize_7 : decode cX3_unknownSize 7 = .ok (.iload_n 1, 1) := by decide +kernel
theorem dX3_unknownSize_8 : decode cX3_unknownSize 8 = .ok (.iaload, 1) := by decide +kernel
theorem dX3_unknownSize_9 : decode cX3_unknownSize 9 = .ok (.iconst 5, 1) := by decide +kernel
theorem dX3_unknownSize_10 : decode cX3_unknownSize 10 = .ok (.if_icmp .ne 7, 3) := by decide +kernel
theorem dX3_unknownSize_13 : decode cX3_unknownSize 13 = .ok (.iconst 1, 1) := by decide +kernel
theorem dX3_unknownSize_14 : decode cX3_unknownSize 14 = .ok (.goto 4, 3) := by decide +kernel
theorem dX3_unknownSize_17 : decode cX3_unknownSize 17 = .ok (.iconst 0, 1) := by decide +kernel
theorem dX3_unknownSize_18 : decode cX3_unknownSize 18 = .ok (.istore_n 2, 1) := by decide +kernel
theorem dX3_unknownSize_19 : decode cX3_unknownSize 19 = .ok (.iload_n 2, 1) := by decide +kernel
theorem dX3_unknownSize_20 : decode cX3_unknownSize 20 = .ok (.ifCond .eq 9, 3) := by decide +kernel
theorem dX3_unknownSize_23 : decode cX3_unknownSize 23 = .ok (.aload_n 0, 1) := by decide +kernel
theorem dX3_unknownSize_24 : decode cX3_unknownSize 24 = .ok (.bipush 14, 2) := by decide +kernel
theorem dX3_unknownSize_26 : decode cX3_unknownSize 26 = .ok (.invokevirtual 317, 3) := by decide +kernel
theorem dX3_unknownSize_29 : decode cX3_unknownSize 29 = .ok (.aload_n 0, 1) := by decide +kernel
theorem dX3_unknownSize_30 : decode cX3_unknownSize 30 = .ok (.bipush 13, 2) := by decide +kernel
theorem dX3_unknownSize_32 : decode cX3_unknownSize 32 = .ok (.invokevirtual 317, 3) := by decide +kernel
theorem dX3_unknownSize_35 : decode cX3_unknownSize 35 = .ok (.aload_n 0, 1) := by decide +kernel
theorem dX3_unknownSize_36 : decode cX3_unknownSize 36 = .ok (.iload_n 1, 1) := by decide +kernel
theorem dX3_unknownSize_37 : decode cX3_unknownSize 37 = .ok (.invokevirtual 321, 3) := by decide +kernel
theorem dX3_unknownSize_40 : decode cX3_unknownSize 40 = .ok (.bipush 100, 2) := by decide +kernel
theorem dX3_unknownSize_42 : decode cX3_unknownSize 42 = .ok (.isub, 1) := by decide +kernel
theorem dX3_unknownSize_43 : decode cX3_unknownSize 43 = .ok (.istore_n 3, 1) := by decide +kernel
theorem dX3_unknownSize_44 : decode cX3_unknownSize 44 = .ok (.iload_n 2, 1) := by decide +kernel
theorem dX3_unknownSize_45 : decode cX3_unknownSize 45 = .ok (.ifCond .eq 9, 3) := by decide +kernel
theorem dX3_unknownSize_48 : decode cX3_unknownSize 48 = .ok (.iconst 2, 1) := by decide +kernel
theorem dX3_unknownSize_49 : decode cX3_unknownSize 49 = .ok (.iload_n 3, 1) := by decide +kernel
theorem dX3_unknownSize_50 : decode cX3_unknownSize 50 = .ok (.imul, 1) := by decide +kernel
theorem dX3_unknownSize_51 : decode cX3_unknownSize 51 = .ok (.goto 4, 3) := by decide +kernel
theorem dX3_unknownSize_54 : decode cX3_unknownSize 54 = .ok (.iload_n 3, 1) := by decide +kernel
theorem dX3_unknownSize_55 : decode cX3_unknownSize 55 = .ok (.ireturn, 1) := by decide +kernel
set_option maxRecDepth 20000 in
theorem ggX3_unknownMark_X3_begin : GoodIn wsX3_unknownMark wsX3_begin := goodIn_r _ [5, 6, 7, 23, 24, 25, 26, 27, 28, 29, 30, 31, 32, 33, 34, 35] (by decide +kernel) (by decide +kernel)
set_option maxRecDepth 20000 in
theorem gX3_unknownMark_X3_begin : GoodIn wsX3_unknownMark (wsV RX3 317 RX3 yX3_begin wsX3_begin) := goodIn_app (goodIn_of _ (by decide +kernel)) ggX3_unknownMark_X3_begin
set_option maxRecDepth 20000 in
theorem ggX3_unknownMark_X3_lentMark : GoodIn wsX3_unknownMark wsX3_lentMark := goodIn_r _ [11, 1, 2, 3, 4, 5, 6, 7, 23, 24, 25, 26, 27, 28, 29, 30, 31, 32, 33, 34, 35] (by decide +kernel) (by decide +kernel)
set_option maxRecDepth 20000 in
theorem gX3_unknownMark_X3_lentMark : GoodIn wsX3_unknownMark (wsV RX3 324 RX3 yX3_lentMark wsX3_lentMark) := goodIn_app (goodIn_of _ (by decide +kernel)) ggX3_unknownMark_X3_lentMark
set_option maxRecDepth 20000 in
theorem ggX3_unknownMark_X3_unknownSize : GoodIn wsX3_unknownMark wsX3_unknownSize := goodIn_r _ [15, 16, 17, 1, 2, 3, 4, 5, 6, 7, 18, 19, 20, 21, 22, 23, 24, 25, 26, 27, 28, 29, 30, 31, 32, 33, 34, 35, 36, 37, 38, 39, 40, 41, 42, 43, 44, 45, 46, 47, 48, 49] (by decide +kernel) (by decide +kernel)
set_option maxRecDepth 20000 in
theorem gX3_unknownMark_X3_unknownSize : GoodIn wsX3_unknownMark (wsV RX3 298 RX3 yX3_unknownSize wsX3_unknownSize) := goodIn_app (goodIn_of _ (by decide +kernel)) ggX3_unknownMark_X3_unknownSize
theorem dX3_unknownMark_0 : decode cX3_unknownMark 0 = .ok (.aload_n 0, 1) := by decide +kernel
theorem dX3_unknownMark_1 : decode cX3_unknownMark 1 = .ok (.bipush 23, 2) := by decide +kernel
theorem dX3_unknownMark_3 : decode cX3_unknownMark 3 = .ok (.invokevirtual 317, 3) := by decide +kernel
theorem dX3_unknownMark_6 : decode cX3_unknownMark 6 = .ok (.aload_n 0, 1) := by decide +kernel
theorem dX3_unknownMark_7 : decode cX3_unknownMark 7 = .ok (.iload_n 1, 1) := by decide +kernel
theorem dX3_unknownMark_8 : decode cX3_unknownMark 8 = .ok (.invokevirtual 324, 3) := by decide +kernel
theorem dX3_unknownMark_11 : decode cX3_unknownMark 11 = .ok (.istore_n 2, 1) := by decide +kernel
theorem dX3_unknownMark_12 : decode cX3_unknownMark 12 = .ok (.iload_n 2, 1) := by decide +kernel
theorem dX3_unknownMark_13 : decode cX3_unknownMark 13 = .ok (.aload_n 0, 1) := by decide +kernel
theorem dX3_unknownMark_14 : decode cX3_unknownMark 14 = .ok (.iload_n 1, 1) := by decide +kernel
theorem dX3_unknownMark_15 : decode cX3_unknownMark 15 = .ok (.invokevirtual 298, 3) := by decide +kernel
theorem dX3_unknownMark_18 : decode cX3_unknownMark 18 = .ok (.isub, 1) := by decide +kernel
theorem dX3_unknownMark_19 : decode cX3_unknownMark 19 = .ok (.ireturn, 1) := by decide +kernel
set_option maxRecDepth 20000 in
theorem ggX4_plainSize_X4_began : GoodIn wsX4_plainSize wsX4_began := goodIn_r _ [6, 7, 8, 12, 13, 14, 15, 16, 17, 18, 19, 20, 21, 22, 23, 24, 25, 26, 27, 28, 29, 30, 31, 32, 33, 34, 35] (by decide +kernel) (by decide +kernel)
set_option maxRecDepth 20000 in
theorem gX4_plainSize_X4_began : GoodIn wsX4_plainSize (wsV RX4 266 RX4 yX4_began wsX4_began) := goodIn_app (goodIn_of _ (by decide +kernel)) ggX4_plainSize_X4_began
set_option maxRecDepth 20000 in
theorem ggX4_plainSize_X4_of : GoodIn wsX4_plainSize wsX4_of := goodIn_r _ [11] (by decide +kernel) (by decide +kernel)
set_option maxRecDepth 20000 in
theorem gX4_plainSize_X4_of : GoodIn wsX4_plainSize (va_wsS RX4 157 yX4_of wsX4_of) := goodIn_app (goodIn_of _ (by decide +kernel)) ggX4_plainSize_X4_of
theorem dX4_plainSize_0 : decode cX4_plainSize 0 = .ok (.aload_n 0, 1) := by decide +kernel
theorem dX4_plainSize_1 : decode cX4_plainSize 1 = .ok (.bipush 10, 2) := by decide +kernel
theorem dX4_plainSize_3 : decode cX4_plainSize 3 = .ok (.invokevirtual 266, 3) := by decide +kernel
theorem dX4_plainSize_6 : decode cX4_plainSize 6 = .ok (.aload_n 0, 1) := by decide +kernel
theorem dX4_plainSize_7 : decode cX4_plainSize 7 = .ok (.getfield 19, 3) := by decide +kernel
theorem dX4_plainSize_10 : decode cX4_plainSize 10 = .ok (.iload_n 1, 1) := by decide +kernel
theorem dX4_plainSize_11 : decode cX4_plainSize 11 = .ok (.iconst 1, 1) := by decide +kernel
theorem dX4_plainSize_12 : decode cX4_plainSize 12 = .ok (.invokestatic 157, 3) := by decide +kernel
theorem dX4_plainSize_15 : decode cX4_plainSize 15 = .ok (.ireturn, 1) := by decide +kernel
set_option maxRecDepth 20000 in
theorem ggX4_unknownSize_X4_of : GoodIn wsX4_unknownSize wsX4_of := goodIn_r _ [5] (by decide +kernel) (by decide +kernel)
set_option maxRecDepth 20000 in
theorem gX4_unknownSize_X4_of : GoodIn wsX4_unknownSize (va_wsS RX4 157 yX4_of wsX4_of) := goodIn_app (goodIn_of _ (by decide +kernel)) ggX4_unknownSize_X4_of
set_option maxRecDepth 20000 in
theorem ggX4_unknownSize_X4_began : GoodIn wsX4_unknownSize wsX4_began := goodIn_r _ [9, 10, 11, 16, 17, 18, 19, 20, 21, 22, 23, 24, 25, 26, 27, 28, 29, 30, 31, 32, 33, 34, 35, 36, 37, 38, 39] (by decide +kernel) (by decide +kernel)
set_option maxRecDepth 20000 in
theorem gX4_unknownSize_X4_began : GoodIn wsX4_unknownSize (wsV RX4 266 RX4 yX4_began wsX4_began) := goodIn_app (goodIn_of _ (by decide +kernel)) ggX4_unknownSize_X4_began
set_option maxRecDepth 20000 in
theorem ggX4_unknownSize_X4_plainSize : GoodIn wsX4_unknownSize wsX4_plainSize := goodIn_r _ [15, 1, 6, 7, 8, 4, 9, 10, 11, 2, 3, 5, 16, 17, 18, 19, 20, 21, 22, 23, 24, 25, 26, 27, 28, 29, 30, 31, 32, 33, 34, 35, 36, 37, 38, 39] (by decide +kernel) (by decide +kernel)
set_option maxRecDepth 20000 in
theorem gX4_unknownSize_X4_plainSize : GoodIn wsX4_unknownSize (wsV RX4 269 RX4 yX4_plainSize wsX4_plainSize) := goodIn_app (goodIn_of _ (by decide +kernel)) ggX4_unknownSize_X4_plainSize
theorem dX4_unknownSize_0 : decode cX4_unknownSize 0 = .ok (.aload_n 0, 1) := by decide +kernel
theorem dX4_unknownSize_1 : decode cX4_unknownSize 1 = .ok (.getfield 19, 3) := by decide +kernel
theorem dX4_unknownSize_4 : decode cX4_unknownSize 4 = .ok (.iload_n 1, 1) := by decide +kernel
theorem dX4_unknownSize_5 : decode cX4_unknownSize 5 = .ok (.iconst 0, 1) := by decide +kernel
theorem dX4_unknownSize_6 : decode cX4_unknownSize 6 = .ok (.invokestatic 157, 3) := by decide +kernel
theorem dX4_unknownSize_9 : decode cX4_unknownSize 9 = .ok (.iconst 5, 1) := by decide +kernel
theorem dX4_unknownSize_10 : decode cX4_unknownSize 10 = .ok (.if_icmp .ne 7, 3) := by decide +kernel
theorem dX4_unknownSize_13 : decode cX4_unknownSize 13 = .ok (.iconst 1, 1) := by decide +kernel
theorem dX4_unknownSize_14 : decode cX4_unknownSize 14 = .ok (.goto 4, 3) := by decide +kernel
theorem dX4_unknownSize_17 : decode cX4_unknownSize 17 = .ok (.iconst 0, 1) := by decide +kernel
theorem dX4_unknownSize_18 : decode cX4_unknownSize 18 = .ok (.istore_n 2, 1) := by decide +kernel
theorem dX4_unknownSize_19 : decode cX4_unknownSize 19 = .ok (.iload_n 2, 1) := by decide +kernel
theorem dX4_unknownSize_20 : decode cX4_unknownSize 20 = .ok (.ifCond .eq 9, 3) := by decide +kernel
theorem dX4_unknownSize_23 : decode cX4_unknownSize 23 = .ok (.aload_n 0, 1) := by decide +kernel
theorem dX4_unknownSize_24 : decode cX4_unknownSize 24 = .ok (.bipush 14, 2) := by decide +kernel
theorem dX4_unknownSize_26 : decode cX4_unknownSize 26 = .ok (.invokevirtual 266, 3) := by decide +kernel
theorem dX4_unknownSize_29 : decode cX4_unknownSize 29 = .ok (.aload_n 0, 1) := by decide +kernel
theorem dX4_unknownSize_30 : decode cX4_unknownSize 30 = .ok (.bipush 13, 2) := by decide +kernel
theorem dX4_unknownSize_32 : decode cX4_unknownSize 32 = .ok (.invokevirtual 266, 3) := by decide +kernel
theorem dX4_unknownSize_35 : decode cX4_unknownSize 35 = .ok (.aload_n 0, 1) := by decide +kernel
theorem dX4_unknownSize_36 : decode cX4_unknownSize 36 = .ok (.iload_n 1, 1) := by decide +kernel
theorem dX4_unknownSize_37 : decode cX4_unknownSize 37 = .ok (.invokevirtual 269, 3) := by decide +kernel
theorem dX4_unknownSize_40 : decode cX4_unknownSize 40 = .ok (.bipush 100, 2) := by decide +kernel
theorem dX4_unknownSize_42 : decode cX4_unknownSize 42 = .ok (.isub, 1) := by decide +kernel
theorem dX4_unknownSize_43 : decode cX4_unknownSize 43 = .ok (.istore_n 3, 1) := by decide +kernel
theorem dX4_unknownSize_44 : decode cX4_unknownSize 44 = .ok (.iload_n 2, 1) := by decide +kernel
theorem dX4_unknownSize_45 : decode cX4_unknownSize 45 = .ok (.ifCond .eq 9, 3) := by decide +kernel
theorem dX4_unknownSize_48 : decode cX4_unknownSize 48 = .ok (.iconst 2, 1) := by decide +kernel
theorem dX4_unknownSize_49 : decode cX4_unknownSize 49 = .ok (.iload_n 3, 1) := by decide +kernel
theorem dX4_unknownSize_50 : decode cX4_unknownSize 50 = .ok (.imul, 1) := by decide +kernel
theorem dX4_unknownSize_51 : decode cX4_unknownSize 51 = .ok (.goto 4, 3) := by decide +kernel
theorem dX4_unknownSize_54 : decode cX4_unknownSize 54 = .ok (.iload_n 3, 1) := by decide +kernel
theorem dX4_unknownSize_55 : decode cX4_unknownSize 55 = .ok (.ireturn, 1) := by decide +kernel
set_option maxRecDepth 20000 in
theorem ggX4_markOf_X4_of : GoodIn wsX4_markOf wsX4_of := goodIn_r _ [5] (by decide +kernel) (by decide +kernel)
set_option maxRecDepth 20000 in
theorem gX4_markOf_X4_of : GoodIn wsX4_markOf (va_wsS RX4 157 yX4_of wsX4_of) := goodIn_app (goodIn_of _ (by decide +kernel)) ggX4_markOf_X4_of
set_option maxRecDepth 20000 in
theorem ggX4_markOf_X4_began : GoodIn wsX4_markOf wsX4_began := goodIn_r _ [9, 10, 11, 32, 33, 34, 35, 36, 37, 38, 39, 40, 41, 42, 43, 44, 45, 46, 47, 48, 49, 50, 51, 52, 53, 54, 55] (by decide +kernel) (by decide +kernel)
set_option maxRecDepth 20000 in
theorem gX4_markOf_X4_began : GoodIn wsX4_markOf (wsV RX4 266 RX4 yX4_began wsX4_began) := goodIn_app (goodIn_of _ (by decide +kernel)) ggX4_markOf_X4_began
set_option maxRecDepth 20000 in
theorem ggX4_markOf_X4_unknownSize : GoodIn wsX4_markOf wsX4_unknownSize := goodIn_r _ [15, 1, 2, 3, 4, 5, 6, 7, 8, 9, 10, 11, 16, 17, 18, 19, 32, 33, 34, 35, 36, 37, 38, 39, 40, 41, 42, 43, 44, 45, 46, 47, 48, 49, 50, 51, 52, 53, 54, 55] (by decide +kernel) (by decide +kernel)
set_option maxRecDepth 20000 in
theorem gX4_markOf_X4_unknownSize : GoodIn wsX4_markOf (wsV RX4 272 RX4 yX4_unknownSize wsX4_unknownSize) := goodIn_app (goodIn_of _ (by decide +kernel)) ggX4_markOf_X4_unknownSize
set_option maxRecDepth 20000 in
theorem ggX4_markOf_X4_clicksIt : GoodIn wsX4_markOf wsX4_clicksIt := goodIn_r _ [22, 2, 3, 4, 5, 23, 24, 25, 26, 27, 28, 29, 30, 31] (by decide +kernel) (by decide +kernel)
set_option maxRecDepth 20000 in
theorem gX4_markOf_X4_clicksIt : GoodIn wsX4_markOf (va_wsS RX4 172 yX4_clicksIt wsX4_clicksIt) := goodIn_app (goodIn_of _ (by decide +kernel)) ggX4_markOf_X4_clicksIt
theorem dX4_markOf_0 : decode cX4_markOf 0 = .ok (.aload_n 0, 1) := by decide +kernel
theorem dX4_markOf_1 : decode cX4_markOf 1 = .ok (.getfield 19, 3) := by decide +kernel
theorem dX4_markOf_4 : decode cX4_markOf 4 = .ok (.iload_n 1, 1) := by decide +kernel
theorem dX4_markOf_5 : decode cX4_markOf 5 = .ok (.iconst 0, 1) := by decide +kernel
theorem dX4_markOf_6 : decode cX4_markOf 6 = .ok (.invokestatic 157, 3) := by decide +kernel
theorem dX4_markOf_9 : decode cX4_markOf 9 = .ok (.istore_n 2, 1) := by decide +kernel
theorem dX4_markOf_10 : decode cX4_markOf 10 = .ok (.iload_n 2, 1) := by decide +kernel
theorem dX4_markOf_11 : decode cX4_markOf 11 = .ok (.iconst 4, 1) := by decide +kernel
theorem dX4_markOf_12 : decode cX4_markOf 12 = .ok (.if_icmp .lt 23, 3) := by decide +kernel
theorem dX4_markOf_15 : decode cX4_markOf 15 = .ok (.aload_n 0, 1) := by decide +kernel
theorem dX4_markOf_16 : decode cX4_markOf 16 = .ok (.bipush 23, 2) := by decide +kernel
theorem dX4_markOf_18 : decode cX4_markOf 18 = .ok (.invokevirtual 266, 3) := by decide +kernel
theorem dX4_markOf_21 : decode cX4_markOf 21 = .ok (.aload_n 0, 1) := by decide +kernel
theorem dX4_markOf_22 : decode cX4_markOf 22 = .ok (.bipush 20, 2) := by decide +kernel
theorem dX4_markOf_24 : decode cX4_markOf 24 = .ok (.invokevirtual 266, 3) := by decide +kernel
theorem dX4_markOf_27 : decode cX4_markOf 27 = .ok (.iload_n 1, 1) := by decide +kernel
theorem dX4_markOf_28 : decode cX4_markOf 28 = .ok (.aload_n 0, 1) := by decide +kernel
theorem dX4_markOf_29 : decode cX4_markOf 29 = .ok (.iload_n 1, 1) := by decide +kernel
theorem dX4_markOf_30 : decode cX4_markOf 30 = .ok (.invokevirtual 272, 3) := by decide +kernel
theorem dX4_markOf_33 : decode cX4_markOf 33 = .ok (.isub, 1) := by decide +kernel
theorem dX4_markOf_34 : decode cX4_markOf 34 = .ok (.ireturn, 1) := by decide +kernel
theorem dX4_markOf_35 : decode cX4_markOf 35 = .ok (.iload_n 2, 1) := by decide +kernel
theorem dX4_markOf_36 : decode cX4_markOf 36 = .ok (.iconst 1, 1) := by decide +kernel
theorem dX4_markOf_37 : decode cX4_markOf 37 = .ok (.if_icmp .eq 19, 3) := by decide +kernel
theorem dX4_markOf_40 : decode cX4_markOf 40 = .ok (.aload_n 0, 1) := by decide +kernel
theorem dX4_markOf_41 : decode cX4_markOf 41 = .ok (.iload_n 2, 1) := by decide +kernel
theorem dX4_markOf_42 : decode cX4_markOf 42 = .ok (.iconst 3, 1) := by decide +kernel
theorem dX4_markOf_43 : decode cX4_markOf 43 = .ok (.if_icmp .ne 8, 3) := by decide +kernel
theorem dX4_markOf_46 : decode cX4_markOf 46 = .ok (.bipush 22, 2) := by decide +kernel
theorem dX4_markOf_48 : decode cX4_markOf 48 = .ok (.goto 5, 3) := by decide +kernel
theorem dX4_markOf_51 : decode cX4_markOf 51 = .ok (.bipush 24, 2) := by decide +kernel
theorem dX4_markOf_53 : decode cX4_markOf 53 = .ok (.invokevirtual 266, 3) := by decide +kernel
theorem dX4_markOf_56 : decode cX4_markOf 56 = .ok (.aload_n 0, 1) := by decide +kernel
theorem dX4_markOf_57 : decode cX4_markOf 57 = .ok (.bipush 21, 2) := by decide +kernel
theorem dX4_markOf_59 : decode cX4_markOf 59 = .ok (.invokevirtual 266, 3) := by decide +kernel
theorem dX4_markOf_62 : decode cX4_markOf 62 = .ok (.aload_n 0, 1) := by decide +kernel
theorem dX4_markOf_63 : decode cX4_markOf 63 = .ok (.bipush 20, 2) := by decide +kernel
theorem dX4_markOf_65 : decode cX4_markOf 65 = .ok (.invokevirtual 266, 3) := by decide +kernel
theorem dX4_markOf_68 : decode cX4_markOf 68 = .ok (.iload_n 1, 1) := by decide +kernel
theorem dX4_markOf_69 : decode cX4_markOf 69 = .ok (.istore_n 3, 1) := by decide +kernel
theorem dX4_markOf_70 : decode cX4_markOf 70 = .ok (.iconst 0, 1) := by decide +kernel
theorem dX4_markOf_71 : decode cX4_markOf 71 = .ok (.istore 4, 2) := by decide +kernel
theorem dX4_markOf_73 : decode cX4_markOf 73 = .ok (.iload 4, 2) := by decide +kernel
theorem dX4_markOf_75 : decode cX4_markOf 75 = .ok (.aload_n 0, 1) := by decide +kernel
theorem dX4_markOf_76 : decode cX4_markOf 76 = .ok (.getfield 19, 3) := by decide +kernel
theorem dX4_markOf_79 : decode cX4_markOf 79 = .ok (.iconst 3, 1) := by decide +kernel
theorem dX4_markOf_80 : decode cX4_markOf 80 = .ok (.iaload, 1) := by decide +kernel
theorem dX4_markOf_81 : decode cX4_markOf 81 = .ok (.if_icmp .ge 30, 3) := by decide +kernel
theorem dX4_markOf_84 : decode cX4_markOf 84 = .ok (.iload_n 3, 1) := by decide +kernel
theorem dX4_markOf_85 : decode cX4_markOf 85 = .ok (.aload_n 0, 1) := by decide +kernel
theorem dX4_markOf_86 : decode cX4_markOf 86 = .ok (.getfield 19, 3) := by decide +kernel
theorem dX4_markOf_89 : decode cX4_markOf 89 = .ok (.iload 4, 2) := by decide +kernel
theorem dX4_markOf_91 : decode cX4_markOf 91 = .ok (.iload_n 1, 1) := by decide +kernel
theorem dX4_markOf_92 : decode cX4_markOf 92 = .ok (.invokestatic 172, 3) := by decide +kernel
theorem dX4_markOf_95 : decode cX4_markOf 95 = .ok (.ifCond .eq 7, 3) := by decide +kernel
theorem dX4_markOf_98 : decode cX4_markOf 98 = .ok (.iconst 1, 1) := by decide +kernel
theorem dX4_markOf_99 : decode cX4_markOf 99 = .ok (.goto 4, 3) := by decide +kernel
theorem dX4_markOf_102 : decode cX4_markOf 102 = .ok (.iconst 0, 1) := by decide +kernel
theorem dX4_markOf_103 : decode cX4_markOf 103 = .ok (.iadd, 1) := by decide +kernel
theorem dX4_markOf_104 : decode cX4_markOf 104 = .ok (.istore_n 3, 1) := by decide +kernel
theorem dX4_markOf_105 : decode cX4_markOf 105 = .ok (.iinc 4 1, 3) := by decide +kernel
theorem dX4_markOf_108 : decode cX4_markOf 108 = .ok (.goto (-35), 3) := by decide +kernel
theorem dX4_markOf_111 : decode cX4_markOf 111 = .ok (.iload_n 2, 1) := by decide +kernel
theorem dX4_markOf_112 : decode cX4_markOf 112 = .ok (.iconst 1, 1) := by decide +kernel
theorem dX4_markOf_113 : decode cX4_markOf 113 = .ok (.if_icmp .ne 7, 3) := by decide +kernel
theorem dX4_markOf_116 : decode cX4_markOf 116 = .ok (.iload_n 3, 1) := by decide +kernel
theorem dX4_markOf_117 : decode cX4_markOf 117 = .ok (.goto 19, 3) := by decide +kernel
theorem dX4_markOf_120 : decode cX4_markOf 120 = .ok (.iload_n 2, 1) := by decide +kernel
theorem dX4_markOf_121 : decode cX4_markOf 121 = .ok (.iconst 3, 1) := by decide +kernel
theorem dX4_markOf_122 : decode cX4_markOf 122 = .ok (.if_icmp .ne 11, 3) := by decide +kernel
theorem dX4_markOf_125 : decode cX4_markOf 125 = .ok (.iload_n 3, 1) := by decide +kernel
theorem dX4_markOf_126 : decode cX4_markOf 126 = .ok (.sipush 1000, 3) := by decide +kernel
theorem dX4_markOf_129 : decode cX4_markOf 129 = .ok (.isub, 1) := by decide +kernel
theorem dX4_markOf_130 : decode cX4_markOf 130 = .ok (.goto 6, 3) := by decide +kernel
theorem dX4_markOf_133 : decode cX4_markOf 133 = .ok (.iconst 2, 1) := by decide +kernel
theorem dX4_markOf_134 : decode cX4_markOf 134 = .ok (.iload_n 3, 1) := by decide +kernel
theorem dX4_markOf_135 : decode cX4_markOf 135 = .ok (.imul, 1) := by decide +kernel
theorem dX4_markOf_136 : decode cX4_markOf 136 = .ok (.ireturn, 1) := by decide +kernel
set_option maxRecDepth 20000 in
theorem ggX4_sizeOf_X4_of : GoodIn wsX4_sizeOf wsX4_of := goodIn_r _ [5] (by decide +kernel) (by decide +kernel)
set_option maxRecDepth 20000 in
theorem gX4_sizeOf_X4_of : GoodIn wsX4_sizeOf (va_wsS RX4 157 yX4_of wsX4_of) := goodIn_app (goodIn_of _ (by decide +kernel)) ggX4_sizeOf_X4_of
set_option maxRecDepth 20000 in
theorem ggX4_sizeOf_X4_unknownSize : GoodIn wsX4_sizeOf wsX4_unknownSize := goodIn_r _ [9, 1, 2, 3, 4, 5, 10, 11, 12, 13, 14, 15, 16, 17, 18, 19, 36, 37, 38, 39, 40, 41, 42, 43, 44, 45, 46, 47, 48, 49, 50, 51, 52, 53, 54, 55, 56, 57, 58, 59] (by decide +kernel) (by decide +kernel)
set_option maxRecDepth 20000 in
theorem gX4_sizeOf_X4_unknownSize : GoodIn wsX4_sizeOf (wsV RX4 272 RX4 yX4_unknownSize wsX4_unknownSize) := goodIn_app (goodIn_of _ (by decide +kernel)) ggX4_sizeOf_X4_unknownSize
set_option maxRecDepth 20000 in
theorem ggX4_sizeOf_X4_began : GoodIn wsX4_sizeOf wsX4_began := goodIn_r _ [13, 14, 15, 36, 37, 38, 39, 40, 41, 42, 43, 44, 45, 46, 47, 48, 49, 50, 51, 52, 53, 54, 55, 56, 57, 58, 59] (by decide +kernel) (by decide +kernel)
set_option maxRecDepth 20000 in
theorem gX4_sizeOf_X4_began : GoodIn wsX4_sizeOf (wsV RX4 266 RX4 yX4_began wsX4_began) := goodIn_app (goodIn_of _ (by decide +kernel)) ggX4_sizeOf_X4_began
set_option maxRecDepth 20000 in
theorem ggX4_sizeOf_X4_plainSize : GoodIn wsX4_sizeOf wsX4_plainSize := goodIn_r _ [19, 1, 10, 11, 12, 4, 13, 14, 15, 2, 3, 5, 36, 37, 38, 39, 40, 41, 42, 43, 44, 45, 46, 47, 48, 49, 50, 51, 52, 53, 54, 55, 56, 57, 58, 59] (by decide +kernel) (by decide +kernel)
set_option maxRecDepth 20000 in
theorem gX4_sizeOf_X4_plainSize : GoodIn wsX4_sizeOf (wsV RX4 269 RX4 yX4_plainSize wsX4_plainSize) := goodIn_app (goodIn_of _ (by decide +kernel)) ggX4_sizeOf_X4_plainSize
set_option maxRecDepth 20000 in
theorem ggX4_sizeOf_X4_markOf : GoodIn wsX4_sizeOf wsX4_markOf := goodIn_r _ [23, 1, 2, 3, 4, 5, 10, 11, 12, 13, 14, 15, 6, 7, 8, 9, 16, 17, 18, 19, 24, 25, 26, 27, 28, 29, 30, 31, 32, 33, 34, 35, 36, 37, 38, 39, 40, 41, 42, 43, 44, 45, 46, 47, 48, 49, 50, 51, 52, 53, 54, 55, 56, 57, 58, 59] (by decide +kernel) (by decide +kernel)
set_option maxRecDepth 20000 in
theorem gX4_sizeOf_X4_markOf : GoodIn wsX4_sizeOf (wsV RX4 275 RX4 yX4_markOf wsX4_markOf) := goodIn_app (goodIn_of _ (by decide +kernel)) ggX4_sizeOf_X4_markOf
theorem dX4_sizeOf_0 : decode cX4_sizeOf 0 = .ok (.aload_n 0, 1) := by decide +kernel
theorem dX4_sizeOf_1 : decode cX4_sizeOf 1 = .ok (.getfield 19, 3) := by decide +kernel
theorem dX4_sizeOf_4 : decode cX4_sizeOf 4 = .ok (.iload_n 1, 1) := by decide +kernel
theorem dX4_sizeOf_5 : decode cX4_sizeOf 5 = .ok (.iconst 0, 1) := by decide +kernel
theorem dX4_sizeOf_6 : decode cX4_sizeOf 6 = .ok (.invokestatic 157, 3) := by decide +kernel
theorem dX4_sizeOf_9 : decode cX4_sizeOf 9 = .ok (.istore_n 2, 1) := by decide +kernel
theorem dX4_sizeOf_10 : decode cX4_sizeOf 10 = .ok (.iload_n 2, 1) := by decide +kernel
theorem dX4_sizeOf_11 : decode cX4_sizeOf 11 = .ok (.iconst 4, 1) := by decide +kernel
theorem dX4_sizeOf_12 : decode cX4_sizeOf 12 = .ok (.if_icmp .lt 9, 3) := by decide +kernel
theorem dX4_sizeOf_15 : decode cX4_sizeOf 15 = .ok (.aload_n 0, 1) := by decide +kernel
theorem dX4_sizeOf_16 : decode cX4_sizeOf 16 = .ok (.iload_n 1, 1) := by decide +kernel
theorem dX4_sizeOf_17 : decode cX4_sizeOf 17 = .ok (.invokevirtual 272, 3) := by decide +kernel
theorem dX4_sizeOf_20 : decode cX4_sizeOf 20 = .ok (.ireturn, 1) := by decide +kernel
theorem dX4_sizeOf_21 : decode cX4_sizeOf 21 = .ok (.iload_n 2, 1) := by decide +kernel
theorem dX4_sizeOf_22 : decode cX4_sizeOf 22 = .ok (.iconst 2, 1) := by decide +kernel
theorem dX4_sizeOf_23 : decode cX4_sizeOf 23 = .ok (.if_icmp .ne 9, 3) := by decide +kernel
theorem dX4_sizeOf_26 : decode cX4_sizeOf 26 = .ok (.aload_n 0, 1) := by decide +kernel
theorem dX4_sizeOf_27 : decode cX4_sizeOf 27 = .ok (.bipush 12, 2) := by decide +kernel
theorem dX4_sizeOf_29 : decode cX4_sizeOf 29 = .ok (.invokevirtual 266, 3) := by decide +kernel
theorem dX4_sizeOf_32 : decode cX4_sizeOf 32 = .ok (.aload_n 0, 1) := by decide +kernel
theorem dX4_sizeOf_33 : decode cX4_sizeOf 33 = .ok (.bipush 11, 2) := by decide +kernel
theorem dX4_sizeOf_35 : decode cX4_sizeOf 35 = .ok (.invokevirtual 266, 3) := by decide +kernel
theorem dX4_sizeOf_38 : decode cX4_sizeOf 38 = .ok (.aload_n 0, 1) := by decide +kernel
theorem dX4_sizeOf_39 : decode cX4_sizeOf 39 = .ok (.iload_n 1, 1) := by decide +kernel
theorem dX4_sizeOf_40 : decode cX4_sizeOf 40 = .ok (.invokevirtual 269, 3) := by decide +kernel
theorem dX4_sizeOf_43 : decode cX4_sizeOf 43 = .ok (.istore_n 3, 1) := by decide +kernel
theorem dX4_sizeOf_44 : decode cX4_sizeOf 44 = .ok (.iload_n 3, 1) := by decide +kernel
theorem dX4_sizeOf_45 : decode cX4_sizeOf 45 = .ok (.aload_n 0, 1) := by decide +kernel
theorem dX4_sizeOf_46 : decode cX4_sizeOf 46 = .ok (.iload_n 1, 1) := by decide +kernel
theorem dX4_sizeOf_47 : decode cX4_sizeOf 47 = .ok (.invokevirtual 275, 3) := by decide +kernel
theorem dX4_sizeOf_50 : decode cX4_sizeOf 50 = .ok (.iadd, 1) := by decide +kernel
theorem dX4_sizeOf_51 : decode cX4_sizeOf 51 = .ok (.istore_n 3, 1) := by decide +kernel
theorem dX4_sizeOf_52 : decode cX4_sizeOf 52 = .ok (.iload_n 2, 1) := by decide +kernel
theorem dX4_sizeOf_53 : decode cX4_sizeOf 53 = .ok (.iconst 2, 1) := by decide +kernel
theorem dX4_sizeOf_54 : decode cX4_sizeOf 54 = .ok (.if_icmp .ne 8, 3) := by decide +kernel
theorem dX4_sizeOf_57 : decode cX4_sizeOf 57 = .ok (.iload_n 3, 1) := by decide +kernel
theorem dX4_sizeOf_58 : decode cX4_sizeOf 58 = .ok (.ineg, 1) := by decide +kernel
theorem dX4_sizeOf_59 : decode cX4_sizeOf 59 = .ok (.goto 4, 3) := by decide +kernel
theorem dX4_sizeOf_62 : decode cX4_sizeOf 62 = .ok (.iload_n 3, 1) := by decide +kernel
theorem dX4_sizeOf_63 : decode cX4_sizeOf 63 = .ok (.ireturn, 1) := by decide +kernel
