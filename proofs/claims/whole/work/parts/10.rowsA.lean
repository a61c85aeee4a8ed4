set_option maxRecDepth 20000 in
theorem ggX1_isSquare_X3_isIn : GoodIn wsX1_isSquare wsX3_isIn := goodIn_r _ [4] (by decide +kernel) (by decide +kernel)
set_option maxRecDepth 20000 in
theorem gX1_isSquare_X3_isIn_n68 : GoodIn wsX1_isSquare (wsX3_isIn) := ggX1_isSquare_X3_isIn
theorem dX1_isSquare_0 : decode cX1_isSquare 0 = .ok (.iload_n 1, 1) := by decide +kernel
theorem dX1_isSquare_1 : decode cX1_isSquare 1 = .ok (.iconst 0, 1) := by decide +kernel
theorem dX1_isSquare_2 : decode cX1_isSquare 2 = .ok (.aload_n 0, 1) := by decide +kernel
theorem dX1_isSquare_3 : decode cX1_isSquare 3 = .ok (.getfield 18, 3) := by decide +kernel
theorem dX1_isSquare_6 : decode cX1_isSquare 6 = .ok (.iconst 1, 1) := by decide +kernel
theorem dX1_isSquare_7 : decode cX1_isSquare 7 = .ok (.isub, 1) := by decide +kernel
theorem dX1_isSquare_8 : decode cX1_isSquare 8 = .ok (.invokestatic 68, 3) := by decide +kernel
theorem dX1_isSquare_11 : decode cX1_isSquare 11 = .ok (.ireturn, 1) := by decide +kernel
set_option maxRecDepth 20000 in
theorem ggX1_isVisitor_X3_isIn : GoodIn wsX1_isVisitor wsX3_isIn := goodIn_r _ [4] (by decide +kernel) (by decide +kernel)
set_option maxRecDepth 20000 in
theorem gX1_isVisitor_X3_isIn_n68 : GoodIn wsX1_isVisitor (wsX3_isIn) := ggX1_isVisitor_X3_isIn
theorem dX1_isVisitor_0 : decode cX1_isVisitor 0 = .ok (.iload_n 1, 1) := by decide +kernel
theorem dX1_isVisitor_1 : decode cX1_isVisitor 1 = .ok (.iconst 0, 1) := by decide +kernel
theorem dX1_isVisitor_2 : decode cX1_isVisitor 2 = .ok (.aload_n 0, 1) := by decide +kernel
theorem dX1_isVisitor_3 : decode cX1_isVisitor 3 = .ok (.getfield 21, 3) := by decide +kernel
theorem dX1_isVisitor_6 : decode cX1_isVisitor 6 = .ok (.iconst 1, 1) := by decide +kernel
theorem dX1_isVisitor_7 : decode cX1_isVisitor 7 = .ok (.isub, 1) := by decide +kernel
theorem dX1_isVisitor_8 : decode cX1_isVisitor 8 = .ok (.invokestatic 68, 3) := by decide +kernel
theorem dX1_isVisitor_11 : decode cX1_isVisitor 11 = .ok (.ireturn, 1) := by decide +kernel
set_option maxRecDepth 20000 in
theorem ggX1_isCounted_X3_isOfKind : GoodIn wsX1_isCounted wsX3_isOfKind := goodIn_r _ [6] (by decide +kernel) (by decide +kernel)
set_option maxRecDepth 20000 in
theorem gX1_isCounted_X3_isOfKind_n76 : GoodIn wsX1_isCounted (wsX3_isOfKind) := ggX1_isCounted_X3_isOfKind
theorem dX1_isCounted_0 : decode cX1_isCounted 0 = .ok (.aload_n 0, 1) := by decide +kernel
theorem dX1_isCounted_1 : decode cX1_isCounted 1 = .ok (.getfield 24, 3) := by decide +kernel
theorem dX1_isCounted_4 : decode cX1_isCounted 4 = .ok (.iload_n 1, 1) := by decide +kernel
theorem dX1_isCounted_5 : decode cX1_isCounted 5 = .ok (.iaload, 1) := by decide +kernel
theorem dX1_isCounted_6 : decode cX1_isCounted 6 = .ok (.iconst 1, 1) := by decide +kernel
theorem dX1_isCounted_7 : decode cX1_isCounted 7 = .ok (.invokestatic 76, 3) := by decide +kernel
theorem dX1_isCounted_10 : decode cX1_isCounted 10 = .ok (.ifCond .ne 14, 3) := by decide +kernel
theorem dX1_isCounted_13 : decode cX1_isCounted 13 = .ok (.aload_n 0, 1) := by decide +kernel
theorem dX1_isCounted_14 : decode cX1_isCounted 14 = .ok (.getfield 37, 3) := by decide +kernel
theorem dX1_isCounted_17 : decode cX1_isCounted 17 = .ok (.iload_n 1, 1) := by decide +kernel
theorem dX1_isCounted_18 : decode cX1_isCounted 18 = .ok (.iaload, 1) := by decide +kernel
theorem dX1_isCounted_19 : decode cX1_isCounted 19 = .ok (.ldc 61, 2) := by decide +kernel
theorem dX1_isCounted_21 : decode cX1_isCounted 21 = .ok (.if_icmp .eq 7, 3) := by decide +kernel
theorem dX1_isCounted_24 : decode cX1_isCounted 24 = .ok (.iconst 1, 1) := by decide +kernel
theorem dX1_isCounted_25 : decode cX1_isCounted 25 = .ok (.goto 4, 3) := by decide +kernel
theorem dX1_isCounted_28 : decode cX1_isCounted 28 = .ok (.iconst 0, 1) := by decide +kernel
theorem dX1_isCounted_29 : decode cX1_isCounted 29 = .ok (.ireturn, 1) := by decide +kernel
set_option maxRecDepth 20000 in
theorem ggX1_countedBits_X1_isCounted : GoodIn wsX1_countedBits wsX1_isCounted := goodIn_r _ [6, 7, 8, 9, 10, 11, 12, 13, 14, 15, 16, 17, 18, 19, 20, 21, 22, 23, 24, 25, 26] (by decide +kernel) (by decide +kernel)
set_option maxRecDepth 20000 in
theorem gX1_countedBits_X1_isCounted : GoodIn wsX1_countedBits (wsV RX1 80 RX1 yX1_isCounted wsX1_isCounted) := goodIn_app (goodIn_of _ (by decide +kernel)) ggX1_countedBits_X1_isCounted
theorem dX1_countedBits_0 : decode cX1_countedBits 0 = .ok (.iconst 0, 1) := by decide +kernel
theorem dX1_countedBits_1 : decode cX1_countedBits 1 = .ok (.istore_n 1, 1) := by decide +kernel
theorem dX1_countedBits_2 : decode cX1_countedBits 2 = .ok (.iconst 0, 1) := by decide +kernel
theorem dX1_countedBits_3 : decode cX1_countedBits 3 = .ok (.istore_n 2, 1) := by decide +kernel
theorem dX1_countedBits_4 : decode cX1_countedBits 4 = .ok (.iload_n 2, 1) := by decide +kernel
theorem dX1_countedBits_5 : decode cX1_countedBits 5 = .ok (.aload_n 0, 1) := by decide +kernel
theorem dX1_countedBits_6 : decode cX1_countedBits 6 = .ok (.getfield 18, 3) := by decide +kernel
theorem dX1_countedBits_9 : decode cX1_countedBits 9 = .ok (.if_icmp .ge 23, 3) := by decide +kernel
theorem dX1_countedBits_12 : decode cX1_countedBits 12 = .ok (.aload_n 0, 1) := by decide +kernel
theorem dX1_countedBits_13 : decode cX1_countedBits 13 = .ok (.iload_n 2, 1) := by decide +kernel
theorem dX1_countedBits_14 : decode cX1_countedBits 14 = .ok (.invokevirtual 80, 3) := by decide +kernel
theorem dX1_countedBits_17 : decode cX1_countedBits 17 = .ok (.ifCond .eq 9, 3) := by decide +kernel
theorem dX1_countedBits_20 : decode cX1_countedBits 20 = .ok (.iload_n 1, 1) := by decide +kernel
theorem dX1_countedBits_21 : decode cX1_countedBits 21 = .ok (.iconst 1, 1) := by decide +kernel
theorem dX1_countedBits_22 : decode cX1_countedBits 22 = .ok (.iload_n 2, 1) := by decide +kernel
theorem dX1_countedBits_23 : decode cX1_countedBits 23 = .ok (.ishl, 1) := by decide +kernel
theorem dX1_countedBits_24 : decode cX1_countedBits 24 = .ok (.ior, 1) := by decide +kernel
theorem dX1_countedBits_25 : decode cX1_countedBits 25 = .ok (.istore_n 1, 1) := by decide +kernel
theorem dX1_countedBits_26 : decode cX1_countedBits 26 = .ok (.iinc 2 1, 3) := by decide +kernel
theorem dX1_countedBits_29 : decode cX1_countedBits 29 = .ok (.goto (-25), 3) := by decide +kernel
theorem dX1_countedBits_32 : decode cX1_countedBits 32 = .ok (.iload_n 1, 1) := by decide +kernel
theorem dX1_countedBits_33 : decode cX1_countedBits 33 = .ok (.ireturn, 1) := by decide +kernel
theorem dX3_isIn_0 : decode cX3_isIn 0 = .ok (.iload_n 0, 1) := by decide +kernel
theorem dX3_isIn_1 : decode cX3_isIn 1 = .ok (.iload_n 1, 1) := by decide +kernel
theorem dX3_isIn_2 : decode cX3_isIn 2 = .ok (.if_icmp .lt 12, 3) := by decide +kernel
theorem dX3_isIn_5 : decode cX3_isIn 5 = .ok (.iload_n 0, 1) := by decide +kernel
theorem dX3_isIn_6 : decode cX3_isIn 6 = .ok (.iload_n 2, 1) := by decide +kernel
theorem dX3_isIn_7 : decode cX3_isIn 7 = .ok (.if_icmp .gt 7, 3) := by decide +kernel
theorem dX3_isIn_10 : decode cX3_isIn 10 = .ok (.iconst 1, 1) := by decide +kernel
theorem dX3_isIn_11 : decode cX3_isIn 11 = .ok (.goto 4, 3) := by decide +kernel
theorem dX3_isIn_14 : decode cX3_isIn 14 = .ok (.iconst 0, 1) := by decide +kernel
theorem dX3_isIn_15 : decode cX3_isIn 15 = .ok (.ireturn, 1) := by decide +kernel
set_option maxRecDepth 20000 in
theorem ggX3_isRow_X3_isIn : GoodIn wsX3_isRow wsX3_isIn := goodIn_r _ [4] (by decide +kernel) (by decide +kernel)
set_option maxRecDepth 20000 in
theorem gX3_isRow_X3_isIn : GoodIn wsX3_isRow (va_wsS RX3 77 yX3_isIn wsX3_isIn) := goodIn_app (goodIn_of _ (by decide +kernel)) ggX3_isRow_X3_isIn
theorem dX3_isRow_0 : decode cX3_isRow 0 = .ok (.iload_n 0, 1) := by decide +kernel
theorem dX3_isRow_1 : decode cX3_isRow 1 = .ok (.iconst 0, 1) := by decide +kernel
theorem dX3_isRow_2 : decode cX3_isRow 2 = .ok (.bipush 7, 2) := by decide +kernel
theorem dX3_isRow_4 : decode cX3_isRow 4 = .ok (.invokestatic 77, 3) := by decide +kernel
theorem dX3_isRow_7 : decode cX3_isRow 7 = .ok (.ireturn, 1) := by decide +kernel
theorem dX3_seenBy_0 : decode cX3_seenBy 0 = .ok (.iload_n 2, 1) := by decide +kernel
theorem dX3_seenBy_1 : decode cX3_seenBy 1 = .ok (.tableswitch 68 2 5 #[31, 43, 68, 57], 31) := by decide +kernel
theorem dX3_seenBy_32 : decode cX3_seenBy 32 = .ok (.iload_n 3, 1) := by decide +kernel
theorem dX3_seenBy_33 : decode cX3_seenBy 33 = .ok (.ifCond .ne 7, 3) := by decide +kernel
theorem dX3_seenBy_36 : decode cX3_seenBy 36 = .ok (.iconst 0, 1) := by decide +kernel
theorem dX3_seenBy_37 : decode cX3_seenBy 37 = .ok (.goto 6, 3) := by decide +kernel
theorem dX3_seenBy_40 : decode cX3_seenBy 40 = .ok (.iload_n 3, 1) := by decide +kernel
theorem dX3_seenBy_41 : decode cX3_seenBy 41 = .ok (.iconst 1, 1) := by decide +kernel
theorem dX3_seenBy_42 : decode cX3_seenBy 42 = .ok (.isub, 1) := by decide +kernel
theorem dX3_seenBy_43 : decode cX3_seenBy 43 = .ok (.ireturn, 1) := by decide +kernel
theorem dX3_seenBy_44 : decode cX3_seenBy 44 = .ok (.iload_n 0, 1) := by decide +kernel
theorem dX3_seenBy_45 : decode cX3_seenBy 45 = .ok (.iconst 5, 1) := by decide +kernel
theorem dX3_seenBy_46 : decode cX3_seenBy 46 = .ok (.if_icmp .ge 10, 3) := by decide +kernel
theorem dX3_seenBy_49 : decode cX3_seenBy 49 = .ok (.bipush 9, 2) := by decide +kernel
theorem dX3_seenBy_51 : decode cX3_seenBy 51 = .ok (.iload_n 3, 1) := by decide +kernel
theorem dX3_seenBy_52 : decode cX3_seenBy 52 = .ok (.isub, 1) := by decide +kernel
theorem dX3_seenBy_53 : decode cX3_seenBy 53 = .ok (.goto 4, 3) := by decide +kernel
theorem dX3_seenBy_56 : decode cX3_seenBy 56 = .ok (.iload_n 3, 1) := by decide +kernel
theorem dX3_seenBy_57 : decode cX3_seenBy 57 = .ok (.ireturn, 1) := by decide +kernel
theorem dX3_seenBy_58 : decode cX3_seenBy 58 = .ok (.iload_n 1, 1) := by decide +kernel
theorem dX3_seenBy_59 : decode cX3_seenBy 59 = .ok (.iconst 5, 1) := by decide +kernel
theorem dX3_seenBy_60 : decode cX3_seenBy 60 = .ok (.if_icmp .lt 7, 3) := by decide +kernel
theorem dX3_seenBy_63 : decode cX3_seenBy 63 = .ok (.iload_n 3, 1) := by decide +kernel
theorem dX3_seenBy_64 : decode cX3_seenBy 64 = .ok (.goto 4, 3) := by decide +kernel
theorem dX3_seenBy_67 : decode cX3_seenBy 67 = .ok (.iconst 0, 1) := by decide +kernel
theorem dX3_seenBy_68 : decode cX3_seenBy 68 = .ok (.ireturn, 1) := by decide +kernel
theorem dX3_seenBy_69 : decode cX3_seenBy 69 = .ok (.iload_n 3, 1) := by decide +kernel
theorem dX3_seenBy_70 : decode cX3_seenBy 70 = .ok (.ireturn, 1) := by decide +kernel
set_option maxRecDepth 20000 in
theorem ggX3_isClickedBy_X3_seenBy : GoodIn wsX3_isClickedBy wsX3_seenBy := goodIn_r _ [4] (by decide +kernel) (by decide +kernel)
set_option maxRecDepth 20000 in
theorem gX3_isClickedBy_X3_seenBy : GoodIn wsX3_isClickedBy (va_wsS RX3 200 yX3_seenBy wsX3_seenBy) := goodIn_app (goodIn_of _ (by decide +kernel)) ggX3_isClickedBy_X3_seenBy
theorem dX3_isClickedBy_0 : decode cX3_isClickedBy 0 = .ok (.iload_n 0, 1) := by decide +kernel
theorem dX3_isClickedBy_1 : decode cX3_isClickedBy 1 = .ok (.iload_n 1, 1) := by decide +kernel
theorem dX3_isClickedBy_2 : decode cX3_isClickedBy 2 = .ok (.iload_n 2, 1) := by decide +kernel
theorem dX3_isClickedBy_3 : decode cX3_isClickedBy 3 = .ok (.iload_n 3, 1) := by decide +kernel
theorem dX3_isClickedBy_4 : decode cX3_isClickedBy 4 = .ok (.invokestatic 200, 3) := by decide +kernel
theorem dX3_isClickedBy_7 : decode cX3_isClickedBy 7 = .ok (.bipush 9, 2) := by decide +kernel
theorem dX3_isClickedBy_9 : decode cX3_isClickedBy 9 = .ok (.iload_n 0, 1) := by decide +kernel
theorem dX3_isClickedBy_10 : decode cX3_isClickedBy 10 = .ok (.isub, 1) := by decide +kernel
theorem dX3_isClickedBy_11 : decode cX3_isClickedBy 11 = .ok (.if_icmp .le 7, 3) := by decide +kernel
theorem dX3_isClickedBy_14 : decode cX3_isClickedBy 14 = .ok (.iconst 1, 1) := by decide +kernel
theorem dX3_isClickedBy_15 : decode cX3_isClickedBy 15 = .ok (.goto 4, 3) := by decide +kernel
theorem dX3_isClickedBy_18 : decode cX3_isClickedBy 18 = .ok (.iconst 0, 1) := by decide +kernel
theorem dX3_isClickedBy_19 : decode cX3_isClickedBy 19 = .ok (.ireturn, 1) := by decide +kernel
theorem dX3_isOfKind_0 : decode cX3_isOfKind 0 = .ok (.iload_n 1, 1) := by decide +kernel
theorem dX3_isOfKind_1 : decode cX3_isOfKind 1 = .ok (.ifCond .eq 33, 3) := by decide +kernel
theorem dX3_isOfKind_4 : decode cX3_isOfKind 4 = .ok (.iload_n 1, 1) := by decide +kernel
theorem dX3_isOfKind_5 : decode cX3_isOfKind 5 = .ok (.iload_n 0, 1) := by decide +kernel
theorem dX3_isOfKind_6 : decode cX3_isOfKind 6 = .ok (.if_icmp .eq 28, 3) := by decide +kernel
theorem dX3_isOfKind_9 : decode cX3_isOfKind 9 = .ok (.iload_n 1, 1) := by decide +kernel
theorem dX3_isOfKind_10 : decode cX3_isOfKind 10 = .ok (.iconst 1, 1) := by decide +kernel
theorem dX3_isOfKind_11 : decode cX3_isOfKind 11 = .ok (.if_icmp .ne 13, 3) := by decide +kernel
theorem dX3_isOfKind_14 : decode cX3_isOfKind 14 = .ok (.iload_n 0, 1) := by decide +kernel
theorem dX3_isOfKind_15 : decode cX3_isOfKind 15 = .ok (.iconst 2, 1) := by decide +kernel
theorem dX3_isOfKind_16 : decode cX3_isOfKind 16 = .ok (.if_icmp .eq 18, 3) := by decide +kernel
theorem dX3_isOfKind_19 : decode cX3_isOfKind 19 = .ok (.iload_n 0, 1) := by decide +kernel
theorem dX3_isOfKind_20 : decode cX3_isOfKind 20 = .ok (.iconst 3, 1) := by decide +kernel
theorem dX3_isOfKind_21 : decode cX3_isOfKind 21 = .ok (.if_icmp .eq 13, 3) := by decide +kernel
theorem dX3_isOfKind_24 : decode cX3_isOfKind 24 = .ok (.iload_n 1, 1) := by decide +kernel
theorem dX3_isOfKind_25 : decode cX3_isOfKind 25 = .ok (.iconst 4, 1) := by decide +kernel
theorem dX3_isOfKind_26 : decode cX3_isOfKind 26 = .ok (.if_icmp .ne 12, 3) := by decide +kernel
theorem dX3_isOfKind_29 : decode cX3_isOfKind 29 = .ok (.iload_n 0, 1) := by decide +kernel
theorem dX3_isOfKind_30 : decode cX3_isOfKind 30 = .ok (.iconst 5, 1) := by decide +kernel
theorem dX3_isOfKind_31 : decode cX3_isOfKind 31 = .ok (.if_icmp .ne 7, 3) := by decide +kernel
theorem dX3_isOfKind_34 : decode cX3_isOfKind 34 = .ok (.iconst 1, 1) := by decide +kernel
theorem dX3_isOfKind_35 : decode cX3_isOfKind 35 = .ok (.goto 4, 3) := by decide +kernel
theorem dX3_isOfKind_38 : decode cX3_isOfKind 38 = .ok (.iconst 0, 1) := by decide +kernel
theorem dX3_isOfKind_39 : decode cX3_isOfKind 39 = .ok (.ireturn, 1) := by decide +kernel
theorem dX4_in_0 : decode cX4_in 0 = .ok (.lload_n 0, 1) := by decide +kernel
theorem dX4_in_1 : decode cX4_in 1 = .ok (.lload_n 2, 1) := by decide +kernel
theorem dX4_in_2 : decode cX4_in 2 = .ok (.lcmp, 1) := by decide +kernel
theorem dX4_in_3 : decode cX4_in 3 = .ok (.ifCond .lt 14, 3) := by decide +kernel
theorem dX4_in_6 : decode cX4_in 6 = .ok (.lload_n 0, 1) := by decide +kernel
theorem dX4_in_7 : decode cX4_in 7 = .ok (.lload 4, 2) := by decide +kernel
theorem dX4_in_9 : decode cX4_in 9 = .ok (.lcmp, 1) := by decide +kernel
theorem dX4_in_10 : decode cX4_in 10 = .ok (.ifCond .gt 7, 3) := by decide +kernel
theorem dX4_in_13 : decode cX4_in 13 = .ok (.iconst 1, 1) := by decide +kernel
theorem dX4_in_14 : decode cX4_in 14 = .ok (.goto 4, 3) := by decide +kernel
theorem dX4_in_17 : decode cX4_in 17 = .ok (.iconst 0, 1) := by decide +kernel
theorem dX4_in_18 : decode cX4_in 18 = .ok (.ireturn, 1) := by decide +kernel
set_option maxRecDepth 20000 in
theorem ggX4_isRow_X4_in : GoodIn wsX4_isRow wsX4_in := goodIn_r _ [5] (by decide +kernel) (by decide +kernel)
set_option maxRecDepth 20000 in
theorem gX4_isRow_X4_in : GoodIn wsX4_isRow (va_wsS RX4 58 yX4_in wsX4_in) := goodIn_app (goodIn_of _ (by decide +kernel)) ggX4_isRow_X4_in
theorem dX4_isRow_0 : decode cX4_isRow 0 = .ok (.iload_n 0, 1) := by decide +kernel
theorem dX4_isRow_1 : decode cX4_isRow 1 = .ok (.i2l, 1) := by decide +kernel
theorem dX4_isRow_2 : decode cX4_isRow 2 = .ok (.lconst 0, 1) := by decide +kernel
theorem dX4_isRow_3 : decode cX4_isRow 3 = .ok (.ldc2_w 56, 3) := by decide +kernel
theorem dX4_isRow_6 : decode cX4_isRow 6 = .ok (.invokestatic 58, 3) := by decide +kernel
theorem dX4_isRow_9 : decode cX4_isRow 9 = .ok (.ireturn, 1) := by decide +kernel
theorem dX4_has_0 : decode cX4_has 0 = .ok (.iload_n 0, 1) := by decide +kernel
theorem dX4_has_1 : decode cX4_has 1 = .ok (.iload_n 1, 1) := by decide +kernel
theorem dX4_has_2 : decode cX4_has 2 = .ok (.ishr, 1) := by decide +kernel
theorem dX4_has_3 : decode cX4_has 3 = .ok (.iconst 1, 1) := by decide +kernel
theorem dX4_has_4 : decode cX4_has 4 = .ok (.iand, 1) := by decide +kernel
theorem dX4_has_5 : decode cX4_has 5 = .ok (.iconst 1, 1) := by decide +kernel
theorem dX4_has_6 : decode cX4_has 6 = .ok (.if_icmp .ne 7, 3) := by decide +kernel
theorem dX4_has_9 : decode cX4_has 9 = .ok (.iconst 1, 1) := by decide +kernel
theorem dX4_has_10 : decode cX4_has 10 = .ok (.goto 4, 3) := by decide +kernel
theorem dX4_has_13 : decode cX4_has 13 = .ok (.iconst 0, 1) := by decide +kernel
theorem dX4_has_14 : decode cX4_has 14 = .ok (.ireturn, 1) := by decide +kernel
theorem dX4_of_0 : decode cX4_of 0 = .ok (.aload_n 0, 1) := by decide +kernel
theorem dX4_of_1 : decode cX4_of 1 = .ok (.iconst 4, 1) := by decide +kernel
theorem dX4_of_2 : decode cX4_of 2 = .ok (.iconst 5, 1) := by decide +kernel
theorem dX4_of_3 : decode cX4_of 3 = .ok (.iload_n 1, 1) := by decide +kernel
theorem dX4_of_4 : decode cX4_of 4 = .ok (.imul, 1) := by decide +kernel
theorem dX4_of_5 : decode cX4_of 5 = .ok (.iadd, 1) := by decide +kernel
theorem dX4_of_6 : decode cX4_of 6 = .ok (.iload_n 2, 1) := by decide +kernel
theorem dX4_of_7 : decode cX4_of 7 = .ok (.iadd, 1) := by decide +kernel
theorem dX4_of_8 : decode cX4_of 8 = .ok (.iaload, 1) := by decide +kernel
theorem dX4_of_9 : decode cX4_of 9 = .ok (.ireturn, 1) := by decide +kernel
theorem dX4_guest_0 : decode cX4_guest 0 = .ok (.aload_n 0, 1) := by decide +kernel
theorem dX4_guest_1 : decode cX4_guest 1 = .ok (.bipush 44, 2) := by decide +kernel
theorem dX4_guest_3 : decode cX4_guest 3 = .ok (.iconst 4, 1) := by decide +kernel
theorem dX4_guest_4 : decode cX4_guest 4 = .ok (.iload_n 1, 1) := by decide +kernel
theorem dX4_guest_5 : decode cX4_guest 5 = .ok (.imul, 1) := by decide +kernel
theorem dX4_guest_6 : decode cX4_guest 6 = .ok (.iadd, 1) := by decide +kernel
theorem dX4_guest_7 : decode cX4_guest 7 = .ok (.iload_n 2, 1) := by decide +kernel
theorem dX4_guest_8 : decode cX4_guest 8 = .ok (.iadd, 1) := by decide +kernel
theorem dX4_guest_9 : decode cX4_guest 9 = .ok (.iaload, 1) := by decide +kernel
theorem dX4_guest_10 : decode cX4_guest 10 = .ok (.ireturn, 1) := by decide +kernel
theorem dX4_seesBy_0 : decode cX4_seesBy 0 = .ok (.iload_n 0, 1) := by decide +kernel
theorem dX4_seesBy_1 : decode cX4_seesBy 1 = .ok (.tableswitch 68 2 5 #[31, 43, 68, 57], 31) := by decide +kernel
theorem dX4_seesBy_32 : decode cX4_seesBy 32 = .ok (.iload_n 1, 1) := by decide +kernel
theorem dX4_seesBy_33 : decode cX4_seesBy 33 = .ok (.ifCond .le 9, 3) := by decide +kernel
theorem dX4_seesBy_36 : decode cX4_seesBy 36 = .ok (.iload_n 1, 1) := by decide +kernel
theorem dX4_seesBy_37 : decode cX4_seesBy 37 = .ok (.iconst 1, 1) := by decide +kernel
theorem dX4_seesBy_38 : decode cX4_seesBy 38 = .ok (.isub, 1) := by decide +kernel
theorem dX4_seesBy_39 : decode cX4_seesBy 39 = .ok (.goto 4, 3) := by decide +kernel
theorem dX4_seesBy_42 : decode cX4_seesBy 42 = .ok (.iconst 0, 1) := by decide +kernel
theorem dX4_seesBy_43 : decode cX4_seesBy 43 = .ok (.ireturn, 1) := by decide +kernel
theorem dX4_seesBy_44 : decode cX4_seesBy 44 = .ok (.iload_n 2, 1) := by decide +kernel
theorem dX4_seesBy_45 : decode cX4_seesBy 45 = .ok (.iconst 5, 1) := by decide +kernel
theorem dX4_seesBy_46 : decode cX4_seesBy 46 = .ok (.if_icmp .ge 10, 3) := by decide +kernel
theorem dX4_seesBy_49 : decode cX4_seesBy 49 = .ok (.bipush 9, 2) := by decide +kernel
theorem dX4_seesBy_51 : decode cX4_seesBy 51 = .ok (.iload_n 1, 1) := by decide +kernel
theorem dX4_seesBy_52 : decode cX4_seesBy 52 = .ok (.isub, 1) := by decide +kernel
theorem dX4_seesBy_53 : decode cX4_seesBy 53 = .ok (.goto 4, 3) := by decide +kernel
theorem dX4_seesBy_56 : decode cX4_seesBy 56 = .ok (.iload_n 1, 1) := by decide +kernel
theorem dX4_seesBy_57 : decode cX4_seesBy 57 = .ok (.ireturn, 1) := by decide +kernel
theorem dX4_seesBy_58 : decode cX4_seesBy 58 = .ok (.iload_n 3, 1) := by decide +kernel
theorem dX4_seesBy_59 : decode cX4_seesBy 59 = .ok (.iconst 5, 1) := by decide +kernel
theorem dX4_seesBy_60 : decode cX4_seesBy 60 = .ok (.if_icmp .lt 7, 3) := by decide +kernel
theorem dX4_seesBy_63 : decode cX4_seesBy 63 = .ok (.iload_n 1, 1) := by decide +kernel
theorem dX4_seesBy_64 : decode cX4_seesBy 64 = .ok (.goto 4, 3) := by decide +kernel
theorem dX4_seesBy_67 : decode cX4_seesBy 67 = .ok (.iconst 0, 1) := by decide +kernel
theorem dX4_seesBy_68 : decode cX4_seesBy 68 = .ok (.ireturn, 1) := by decide +kernel
theorem dX4_seesBy_69 : decode cX4_seesBy 69 = .ok (.iload_n 1, 1) := by decide +kernel
theorem dX4_seesBy_70 : decode cX4_seesBy 70 = .ok (.ireturn, 1) := by decide +kernel
set_option maxRecDepth 20000 in
theorem ggX4_clicksBy_X4_seesBy : GoodIn wsX4_clicksBy wsX4_seesBy := goodIn_r _ [4] (by decide +kernel) (by decide +kernel)
set_option maxRecDepth 20000 in
theorem gX4_clicksBy_X4_seesBy : GoodIn wsX4_clicksBy (va_wsS RX4 153 yX4_seesBy wsX4_seesBy) := goodIn_app (goodIn_of _ (by decide +kernel)) ggX4_clicksBy_X4_seesBy
theorem dX4_clicksBy_0 : decode cX4_clicksBy 0 = .ok (.iload_n 0, 1) := by decide +kernel
theorem dX4_clicksBy_1 : decode cX4_clicksBy 1 = .ok (.iload_n 1, 1) := by decide +kernel
theorem dX4_clicksBy_2 : decode cX4_clicksBy 2 = .ok (.iload_n 2, 1) := by decide +kernel
theorem dX4_clicksBy_3 : decode cX4_clicksBy 3 = .ok (.iload_n 3, 1) := by decide +kernel
theorem dX4_clicksBy_4 : decode cX4_clicksBy 4 = .ok (.invokestatic 153, 3) := by decide +kernel
theorem dX4_clicksBy_7 : decode cX4_clicksBy 7 = .ok (.bipush 9, 2) := by decide +kernel
theorem dX4_clicksBy_9 : decode cX4_clicksBy 9 = .ok (.iload_n 2, 1) := by decide +kernel
theorem dX4_clicksBy_10 : decode cX4_clicksBy 10 = .ok (.isub, 1) := by decide +kernel
theorem dX4_clicksBy_11 : decode cX4_clicksBy 11 = .ok (.if_icmp .le 7, 3) := by decide +kernel
theorem dX4_clicksBy_14 : decode cX4_clicksBy 14 = .ok (.iconst 1, 1) := by decide +kernel
theorem dX4_clicksBy_15 : decode cX4_clicksBy 15 = .ok (.goto 4, 3) := by decide +kernel
theorem dX4_clicksBy_18 : decode cX4_clicksBy 18 = .ok (.iconst 0, 1) := by decide +kernel
theorem dX4_clicksBy_19 : decode cX4_clicksBy 19 = .ok (.ireturn, 1) := by decide +kernel
set_option maxRecDepth 20000 in
theorem ggX4_clicksIt_X4_of : GoodIn wsX4_clicksIt wsX4_of := goodIn_r _ [4] (by decide +kernel) (by decide +kernel)
set_option maxRecDepth 20000 in
theorem gX4_clicksIt_X4_of : GoodIn wsX4_clicksIt (va_wsS RX4 157 yX4_of wsX4_of) := goodIn_app (goodIn_of _ (by decide +kernel)) ggX4_clicksIt_X4_of
set_option maxRecDepth 20000 in
theorem ggX4_clicksIt_X4_guest : GoodIn wsX4_clicksIt wsX4_guest := goodIn_r _ [7] (by decide +kernel) (by decide +kernel)
set_option maxRecDepth 20000 in
theorem gX4_clicksIt_X4_guest : GoodIn wsX4_clicksIt (va_wsS RX4 161 yX4_guest wsX4_guest) := goodIn_app (goodIn_of _ (by decide +kernel)) ggX4_clicksIt_X4_guest
set_option maxRecDepth 20000 in
theorem ggX4_clicksIt_X4_clicksBy : GoodIn wsX4_clicksIt wsX4_clicksBy := goodIn_r _ [10, 11, 12, 3, 13] (by decide +kernel) (by decide +kernel)
set_option maxRecDepth 20000 in
theorem gX4_clicksIt_X4_clicksBy : GoodIn wsX4_clicksIt (va_wsS RX4 164 yX4_clicksBy wsX4_clicksBy) := goodIn_app (goodIn_of _ (by decide +kernel)) ggX4_clicksIt_X4_clicksBy
theorem dX4_clicksIt_0 : decode cX4_clicksIt 0 = .ok (.aload_n 0, 1) := by decide +kernel
theorem dX4_clicksIt_1 : decode cX4_clicksIt 1 = .ok (.iload_n 2, 1) := by decide +kernel
theorem dX4_clicksIt_2 : decode cX4_clicksIt 2 = .ok (.iconst 0, 1) := by decide +kernel
theorem dX4_clicksIt_3 : decode cX4_clicksIt 3 = .ok (.invokestatic 157, 3) := by decide +kernel
theorem dX4_clicksIt_6 : decode cX4_clicksIt 6 = .ok (.aload_n 0, 1) := by decide +kernel
theorem dX4_clicksIt_7 : decode cX4_clicksIt 7 = .ok (.iload_n 2, 1) := by decide +kernel
theorem dX4_clicksIt_8 : decode cX4_clicksIt 8 = .ok (.iconst 1, 1) := by decide +kernel
theorem dX4_clicksIt_9 : decode cX4_clicksIt 9 = .ok (.invokestatic 157, 3) := by decide +kernel
theorem dX4_clicksIt_12 : decode cX4_clicksIt 12 = .ok (.aload_n 0, 1) := by decide +kernel
theorem dX4_clicksIt_13 : decode cX4_clicksIt 13 = .ok (.iload_n 1, 1) := by decide +kernel
theorem dX4_clicksIt_14 : decode cX4_clicksIt 14 = .ok (.iconst 0, 1) := by decide +kernel
theorem dX4_clicksIt_15 : decode cX4_clicksIt 15 = .ok (.invokestatic 161, 3) := by decide +kernel
theorem dX4_clicksIt_18 : decode cX4_clicksIt 18 = .ok (.aload_n 0, 1) := by decide +kernel
theorem dX4_clicksIt_19 : decode cX4_clicksIt 19 = .ok (.iload_n 1, 1) := by decide +kernel
theorem dX4_clicksIt_20 : decode cX4_clicksIt 20 = .ok (.iconst 1, 1) := by decide +kernel
theorem dX4_clicksIt_21 : decode cX4_clicksIt 21 = .ok (.invokestatic 161, 3) := by decide +kernel
theorem dX4_clicksIt_24 : decode cX4_clicksIt 24 = .ok (.invokestatic 164, 3) := by decide +kernel
theorem dX4_clicksIt_27 : decode cX4_clicksIt 27 = .ok (.ireturn, 1) := by decide +kernel
set_option maxRecDepth 20000 in
theorem ggX4_counts_X4_of : GoodIn wsX4_counts wsX4_of := goodIn_r _ [4] (by decide +kernel) (by decide +kernel)
set_option maxRecDepth 20000 in
theorem gX4_counts_X4_of : GoodIn wsX4_counts (va_wsS RX4 157 yX4_of wsX4_of) := goodIn_app (goodIn_of _ (by decide +kernel)) ggX4_counts_X4_of
theorem dX4_counts_0 : decode cX4_counts 0 = .ok (.aload_n 0, 1) := by decide +kernel
theorem dX4_counts_1 : decode cX4_counts 1 = .ok (.iload_n 1, 1) := by decide +kernel
theorem dX4_counts_2 : decode cX4_counts 2 = .ok (.iconst 0, 1) := by decide +kernel
theorem dX4_counts_3 : decode cX4_counts 3 = .ok (.invokestatic 157, 3) := by decide +kernel
theorem dX4_counts_6 : decode cX4_counts 6 = .ok (.iconst 4, 1) := by decide +kernel
theorem dX4_counts_7 : decode cX4_counts 7 = .ok (.if_icmp .lt 12, 3) := by decide +kernel
theorem dX4_counts_10 : decode cX4_counts 10 = .ok (.aload_n 0, 1) := by decide +kernel
theorem dX4_counts_11 : decode cX4_counts 11 = .ok (.iload_n 1, 1) := by decide +kernel
theorem dX4_counts_12 : decode cX4_counts 12 = .ok (.iconst 4, 1) := by decide +kernel
theorem dX4_counts_13 : decode cX4_counts 13 = .ok (.invokestatic 157, 3) := by decide +kernel
theorem dX4_counts_16 : decode cX4_counts 16 = .ok (.ifCond .le 7, 3) := by decide +kernel
theorem dX4_counts_19 : decode cX4_counts 19 = .ok (.iconst 1, 1) := by decide +kernel
theorem dX4_counts_20 : decode cX4_counts 20 = .ok (.goto 4, 3) := by decide +kernel
theorem dX4_counts_23 : decode cX4_counts 23 = .ok (.iconst 0, 1) := by decide +kernel
theorem dX4_counts_24 : decode cX4_counts 24 = .ok (.ireturn, 1) := by decide +kernel
set_option maxRecDepth 20000 in
theorem ggX4_isLamp_X4_of : GoodIn wsX4_isLamp wsX4_of := goodIn_r _ [4] (by decide +kernel) (by decide +kernel)
set_option maxRecDepth 20000 in
theorem gX4_isLamp_X4_of : GoodIn wsX4_isLamp (va_wsS RX4 157 yX4_of wsX4_of) := goodIn_app (goodIn_of _ (by decide +kernel)) ggX4_isLamp_X4_of
theorem dX4_isLamp_0 : decode cX4_isLamp 0 = .ok (.aload_n 0, 1) := by decide +kernel
theorem dX4_isLamp_1 : decode cX4_isLamp 1 = .ok (.iload_n 1, 1) := by decide +kernel
theorem dX4_isLamp_2 : decode cX4_isLamp 2 = .ok (.iconst 4, 1) := by decide +kernel
theorem dX4_isLamp_3 : decode cX4_isLamp 3 = .ok (.invokestatic 157, 3) := by decide +kernel
theorem dX4_isLamp_6 : decode cX4_isLamp 6 = .ok (.ifCond .ne 23, 3) := by decide +kernel
theorem dX4_isLamp_9 : decode cX4_isLamp 9 = .ok (.aload_n 0, 1) := by decide +kernel
theorem dX4_isLamp_10 : decode cX4_isLamp 10 = .ok (.iload_n 1, 1) := by decide +kernel
theorem dX4_isLamp_11 : decode cX4_isLamp 11 = .ok (.iconst 1, 1) := by decide +kernel
theorem dX4_isLamp_12 : decode cX4_isLamp 12 = .ok (.invokestatic 157, 3) := by decide +kernel
theorem dX4_isLamp_15 : decode cX4_isLamp 15 = .ok (.aload_n 0, 1) := by decide +kernel
theorem dX4_isLamp_16 : decode cX4_isLamp 16 = .ok (.iconst 0, 1) := by decide +kernel
theorem dX4_isLamp_17 : decode cX4_isLamp 17 = .ok (.iaload, 1) := by decide +kernel
theorem dX4_isLamp_18 : decode cX4_isLamp 18 = .ok (.if_icmp .lt 7, 3) := by decide +kernel
theorem dX4_isLamp_21 : decode cX4_isLamp 21 = .ok (.iconst 1, 1) := by decide +kernel
theorem dX4_isLamp_22 : decode cX4_isLamp 22 = .ok (.goto 22, 3) := by decide +kernel
theorem dX4_isLamp_25 : decode cX4_isLamp 25 = .ok (.iconst 0, 1) := by decide +kernel
theorem dX4_isLamp_26 : decode cX4_isLamp 26 = .ok (.goto 18, 3) := by decide +kernel
theorem dX4_isLamp_29 : decode cX4_isLamp 29 = .ok (.aload_n 0, 1) := by decide +kernel
theorem dX4_isLamp_30 : decode cX4_isLamp 30 = .ok (.iload_n 1, 1) := by decide +kernel
theorem dX4_isLamp_31 : decode cX4_isLamp 31 = .ok (.iconst 4, 1) := by decide +kernel
theorem dX4_isLamp_32 : decode cX4_isLamp 32 = .ok (.invokestatic 157, 3) := by decide +kernel
theorem dX4_isLamp_35 : decode cX4_isLamp 35 = .ok (.iconst 2, 1) := by decide +kernel
theorem dX4_isLamp_36 : decode cX4_isLamp 36 = .ok (.if_icmp .ne 7, 3) := by decide +kernel
theorem dX4_isLamp_39 : decode cX4_isLamp 39 = .ok (.iconst 1, 1) := by decide +kernel
theorem dX4_isLamp_40 : decode cX4_isLamp 40 = .ok (.goto 4, 3) := by decide +kernel
theorem dX4_isLamp_43 : decode cX4_isLamp 43 = .ok (.iconst 0, 1) := by decide +kernel
theorem dX4_isLamp_44 : decode cX4_isLamp 44 = .ok (.ireturn, 1) := by decide +kernel
set_option maxRecDepth 20000 in
theorem ggX4_isWrong_X4_counts : GoodIn wsX4_isWrong wsX4_counts := goodIn_r _ [4, 5, 6, 3, 7] (by decide +kernel) (by decide +kernel)
set_option maxRecDepth 20000 in
theorem gX4_isWrong_X4_counts : GoodIn wsX4_isWrong (va_wsS RX4 168 yX4_counts wsX4_counts) := goodIn_app (goodIn_of _ (by decide +kernel)) ggX4_isWrong_X4_counts
set_option maxRecDepth 20000 in
theorem ggX4_isWrong_X4_clicksIt : GoodIn wsX4_isWrong wsX4_clicksIt := goodIn_r _ [10, 5, 6, 3, 7, 11, 12, 13, 14, 15, 16, 17, 18, 19] (by decide +kernel) (by decide +kernel)
set_option maxRecDepth 20000 in
theorem gX4_isWrong_X4_clicksIt : GoodIn wsX4_isWrong (va_wsS RX4 172 yX4_clicksIt wsX4_clicksIt) := goodIn_app (goodIn_of _ (by decide +kernel)) ggX4_isWrong_X4_clicksIt
set_option maxRecDepth 20000 in
theorem ggX4_isWrong_X4_isLamp : GoodIn wsX4_isWrong wsX4_isLamp := goodIn_r _ [22, 5, 6, 3, 7] (by decide +kernel) (by decide +kernel)
set_option maxRecDepth 20000 in
theorem gX4_isWrong_X4_isLamp : GoodIn wsX4_isWrong (va_wsS RX4 176 yX4_isLamp wsX4_isLamp) := goodIn_app (goodIn_of _ (by decide +kernel)) ggX4_isWrong_X4_isLamp
theorem dX4_isWrong_0 : decode cX4_isWrong 0 = .ok (.aload_n 0, 1) := by decide +kernel
theorem dX4_isWrong_1 : decode cX4_isWrong 1 = .ok (.iload_n 2, 1) := by decide +kernel
theorem dX4_isWrong_2 : decode cX4_isWrong 2 = .ok (.invokestatic 168, 3) := by decide +kernel
theorem dX4_isWrong_5 : decode cX4_isWrong 5 = .ok (.ifCond .eq 21, 3) := by decide +kernel
theorem dX4_isWrong_8 : decode cX4_isWrong 8 = .ok (.aload_n 0, 1) := by decide +kernel
theorem dX4_isWrong_9 : decode cX4_isWrong 9 = .ok (.iload_n 1, 1) := by decide +kernel
theorem dX4_isWrong_10 : decode cX4_isWrong 10 = .ok (.iload_n 2, 1) := by decide +kernel
theorem dX4_isWrong_11 : decode cX4_isWrong 11 = .ok (.invokestatic 172, 3) := by decide +kernel
theorem dX4_isWrong_14 : decode cX4_isWrong 14 = .ok (.aload_n 0, 1) := by decide +kernel
theorem dX4_isWrong_15 : decode cX4_isWrong 15 = .ok (.iload_n 2, 1) := by decide +kernel
theorem dX4_isWrong_16 : decode cX4_isWrong 16 = .ok (.invokestatic 176, 3) := by decide +kernel
theorem dX4_isWrong_19 : decode cX4_isWrong 19 = .ok (.if_icmp .eq 7, 3) := by decide +kernel
theorem dX4_isWrong_22 : decode cX4_isWrong 22 = .ok (.iconst 1, 1) := by decide +kernel
theorem dX4_isWrong_23 : decode cX4_isWrong 23 = .ok (.goto 4, 3) := by decide +kernel
theorem dX4_isWrong_26 : decode cX4_isWrong 26 = .ok (.iconst 0, 1) := by decide +kernel
theorem dX4_isWrong_27 : decode cX4_isWrong 27 = .ok (.ireturn, 1) := by decide +kernel
set_option maxRecDepth 20000 in
theorem ggX4_wrongOf_X4_has : GoodIn wsX4_wrongOf wsX4_has := goodIn_r _ [4] (by decide +kernel) (by decide +kernel)
set_option maxRecDepth 20000 in
theorem gX4_wrongOf_X4_has : GoodIn wsX4_wrongOf (va_wsS RX4 179 yX4_has wsX4_has) := goodIn_app (goodIn_of _ (by decide +kernel)) ggX4_wrongOf_X4_has
set_option maxRecDepth 20000 in
theorem ggX4_wrongOf_X4_isWrong : GoodIn wsX4_wrongOf wsX4_isWrong := goodIn_r _ [7, 8, 9, 3, 10, 11, 12, 13, 14, 15, 16, 17, 18, 19, 20, 21, 22, 23, 24, 25, 26, 27, 28] (by decide +kernel) (by decide +kernel)
set_option maxRecDepth 20000 in
theorem gX4_wrongOf_X4_isWrong : GoodIn wsX4_wrongOf (va_wsS RX4 183 yX4_isWrong wsX4_isWrong) := goodIn_app (goodIn_of _ (by decide +kernel)) ggX4_wrongOf_X4_isWrong
theorem dX4_wrongOf_0 : decode cX4_wrongOf 0 = .ok (.iconst 0, 1) := by decide +kernel
theorem dX4_wrongOf_1 : decode cX4_wrongOf 1 = .ok (.istore_n 3, 1) := by decide +kernel
theorem dX4_wrongOf_2 : decode cX4_wrongOf 2 = .ok (.iconst 0, 1) := by decide +kernel
theorem dX4_wrongOf_3 : decode cX4_wrongOf 3 = .ok (.istore 4, 2) := by decide +kernel
theorem dX4_wrongOf_5 : decode cX4_wrongOf 5 = .ok (.iload 4, 2) := by decide +kernel
theorem dX4_wrongOf_7 : decode cX4_wrongOf 7 = .ok (.aload_n 0, 1) := by decide +kernel
theorem dX4_wrongOf_8 : decode cX4_wrongOf 8 = .ok (.iconst 2, 1) := by decide +kernel
theorem dX4_wrongOf_9 : decode cX4_wrongOf 9 = .ok (.iaload, 1) := by decide +kernel
theorem dX4_wrongOf_10 : decode cX4_wrongOf 10 = .ok (.if_icmp .ge 36, 3) := by decide +kernel
theorem dX4_wrongOf_13 : decode cX4_wrongOf 13 = .ok (.iload_n 3, 1) := by decide +kernel
theorem dX4_wrongOf_14 : decode cX4_wrongOf 14 = .ok (.iload_n 2, 1) := by decide +kernel
theorem dX4_wrongOf_15 : decode cX4_wrongOf 15 = .ok (.iload 4, 2) := by decide +kernel
theorem dX4_wrongOf_17 : decode cX4_wrongOf 17 = .ok (.invokestatic 179, 3) := by decide +kernel
theorem dX4_wrongOf_20 : decode cX4_wrongOf 20 = .ok (.ifCond .eq 17, 3) := by decide +kernel
theorem dX4_wrongOf_23 : decode cX4_wrongOf 23 = .ok (.aload_n 0, 1) := by decide +kernel
theorem dX4_wrongOf_24 : decode cX4_wrongOf 24 = .ok (.iload_n 1, 1) := by decide +kernel
theorem dX4_wrongOf_25 : decode cX4_wrongOf 25 = .ok (.iload 4, 2) := by decide +kernel
theorem dX4_wrongOf_27 : decode cX4_wrongOf 27 = .ok (.invokestatic 183, 3) := by decide +kernel
theorem dX4_wrongOf_30 : decode cX4_wrongOf 30 = .ok (.ifCond .eq 7, 3) := by decide +kernel
theorem dX4_wrongOf_33 : decode cX4_wrongOf 33 = .ok (.iconst 1, 1) := by decide +kernel
theorem dX4_wrongOf_34 : decode cX4_wrongOf 34 = .ok (.goto 4, 3) := by decide +kernel
theorem dX4_wrongOf_37 : decode cX4_wrongOf 37 = .ok (.iconst 0, 1) := by decide +kernel
theorem dX4_wrongOf_38 : decode cX4_wrongOf 38 = .ok (.iadd, 1) := by decide +kernel
theorem dX4_wrongOf_39 : decode cX4_wrongOf 39 = .ok (.istore_n 3, 1) := by decide +kernel
theorem dX4_wrongOf_40 : decode cX4_wrongOf 40 = .ok (.iinc 4 1, 3) := by decide +kernel
theorem dX4_wrongOf_43 : decode cX4_wrongOf 43 = .ok (.goto (-38), 3) := by decide +kernel
theorem dX4_wrongOf_46 : decode cX4_wrongOf 46 = .ok (.iload_n 3, 1) := by decide +kernel
theorem dX4_wrongOf_47 : decode cX4_wrongOf 47 = .ok (.ireturn, 1) := by decide +kernel
set_option maxRecDepth 20000 in
theorem ggX4_votesOf_X4_of : GoodIn wsX4_votesOf wsX4_of := goodIn_r _ [4] (by decide +kernel) (by decide +kernel)
set_option maxRecDepth 20000 in
theorem gX4_votesOf_X4_of : GoodIn wsX4_votesOf (va_wsS RX4 157 yX4_of wsX4_of) := goodIn_app (goodIn_of _ (by decide +kernel)) ggX4_votesOf_X4_of
theorem dX4_votesOf_0 : decode cX4_votesOf 0 = .ok (.iconst 0, 1) := by decide +kernel
theorem dX4_votesOf_1 : decode cX4_votesOf 1 = .ok (.istore_n 1, 1) := by decide +kernel
theorem dX4_votesOf_2 : decode cX4_votesOf 2 = .ok (.iconst 0, 1) := by decide +kernel
theorem dX4_votesOf_3 : decode cX4_votesOf 3 = .ok (.istore_n 2, 1) := by decide +kernel
theorem dX4_votesOf_4 : decode cX4_votesOf 4 = .ok (.iload_n 2, 1) := by decide +kernel
theorem dX4_votesOf_5 : decode cX4_votesOf 5 = .ok (.aload_n 0, 1) := by decide +kernel
theorem dX4_votesOf_6 : decode cX4_votesOf 6 = .ok (.iconst 2, 1) := by decide +kernel
theorem dX4_votesOf_7 : decode cX4_votesOf 7 = .ok (.iaload, 1) := by decide +kernel
theorem dX4_votesOf_8 : decode cX4_votesOf 8 = .ok (.if_icmp .ge 25, 3) := by decide +kernel
theorem dX4_votesOf_11 : decode cX4_votesOf 11 = .ok (.iload_n 1, 1) := by decide +kernel
theorem dX4_votesOf_12 : decode cX4_votesOf 12 = .ok (.aload_n 0, 1) := by decide +kernel
theorem dX4_votesOf_13 : decode cX4_votesOf 13 = .ok (.iload_n 2, 1) := by decide +kernel
theorem dX4_votesOf_14 : decode cX4_votesOf 14 = .ok (.iconst 2, 1) := by decide +kernel
theorem dX4_votesOf_15 : decode cX4_votesOf 15 = .ok (.invokestatic 157, 3) := by decide +kernel
theorem dX4_votesOf_18 : decode cX4_votesOf 18 = .ok (.aload_n 0, 1) := by decide +kernel
theorem dX4_votesOf_19 : decode cX4_votesOf 19 = .ok (.iload_n 2, 1) := by decide +kernel
theorem dX4_votesOf_20 : decode cX4_votesOf 20 = .ok (.iconst 3, 1) := by decide +kernel
theorem dX4_votesOf_21 : decode cX4_votesOf 21 = .ok (.invokestatic 157, 3) := by decide +kernel
theorem dX4_votesOf_24 : decode cX4_votesOf 24 = .ok (.iadd, 1) := by decide +kernel
theorem dX4_votesOf_25 : decode cX4_votesOf 25 = .ok (.iadd, 1) := by decide +kernel
theorem dX4_votesOf_26 : decode cX4_votesOf 26 = .ok (.istore_n 1, 1) := by decide +kernel
theorem dX4_votesOf_27 : decode cX4_votesOf 27 = .ok (.iinc 2 1, 3) := by decide +kernel
theorem dX4_votesOf_30 : decode cX4_votesOf 30 = .ok (.goto (-26), 3) := by decide +kernel
theorem dX4_votesOf_33 : decode cX4_votesOf 33 = .ok (.iload_n 1, 1) := by decide +kernel
theorem dX4_votesOf_34 : decode cX4_votesOf 34 = .ok (.ireturn, 1) := by decide +kernel
