theorem dX2_add_0 : decode cX2_add 0 = .ok (.aload_n 0, 1) := by decide +kernel
theorem dX2_add_1 : decode cX2_add 1 = .ok (.getfield 15, 3) := by decide +kernel
theorem dX2_add_4 : decode cX2_add 4 = .ok (.bipush 120, 2) := by decide +kernel
theorem dX2_add_6 : decode cX2_add 6 = .ok (.if_icmp .lt 5, 3) := by decide +kernel
theorem dX2_add_9 : decode cX2_add 9 = .ok (.iconst 0, 1) := by decide +kernel
theorem dX2_add_10 : decode cX2_add 10 = .ok (.ireturn, 1) := by decide +kernel
theorem dX2_add_11 : decode cX2_add 11 = .ok (.aload_n 0, 1) := by decide +kernel
theorem dX2_add_12 : decode cX2_add 12 = .ok (.getfield 9, 3) := by decide +kernel
theorem dX2_add_15 : decode cX2_add 15 = .ok (.aload_n 0, 1) := by decide +kernel
theorem dX2_add_16 : decode cX2_add 16 = .ok (.getfield 15, 3) := by decide +kernel
theorem dX2_add_19 : decode cX2_add 19 = .ok (.iload_n 1, 1) := by decide +kernel
theorem dX2_add_20 : decode cX2_add 20 = .ok (.iastore, 1) := by decide +kernel
theorem dX2_add_21 : decode cX2_add 21 = .ok (.aload_n 0, 1) := by decide +kernel
theorem dX2_add_22 : decode cX2_add 22 = .ok (.dup, 1) := by decide +kernel
theorem dX2_add_23 : decode cX2_add 23 = .ok (.getfield 15, 3) := by decide +kernel
theorem dX2_add_26 : decode cX2_add 26 = .ok (.iconst 1, 1) := by decide +kernel
theorem dX2_add_27 : decode cX2_add 27 = .ok (.iadd, 1) := by decide +kernel
theorem dX2_add_28 : decode cX2_add 28 = .ok (.putfield 15, 3) := by decide +kernel
theorem dX2_add_31 : decode cX2_add 31 = .ok (.iconst 1, 1) := by decide +kernel
theorem dX2_add_32 : decode cX2_add 32 = .ok (.ireturn, 1) := by decide +kernel
set_option maxRecDepth 20000 in
theorem ggX2_readLaw_X2_readSign : GoodIn wsX2_readLaw wsX2_readSign := goodIn_r _ [7, 8, 9, 10, 11, 6, 12, 13, 14, 15, 16, 17, 18, 19, 20, 21, 22, 23, 24, 25, 26, 27, 50, 51, 52, 53] (by decide +kernel) (by decide +kernel)
set_option maxRecDepth 20000 in
theorem gX2_readLaw_X2_readSign : GoodIn wsX2_readLaw (wsV RX2 39 RX2 yX2_readSign wsX2_readSign) := goodIn_app (goodIn_of _ (by decide +kernel)) ggX2_readLaw_X2_readSign
set_option maxRecDepth 20000 in
theorem ggX2_readLaw_X2_readNumber : GoodIn wsX2_readLaw wsX2_readNumber := goodIn_r _ [31, 8, 23, 32, 33, 34, 6, 35, 13, 9, 10, 11, 12, 14, 15, 16, 17, 18, 24, 25, 26, 27, 50, 51, 52, 53] (by decide +kernel) (by decide +kernel)
set_option maxRecDepth 20000 in
theorem gX2_readLaw_X2_readNumber : GoodIn wsX2_readLaw (wsV RX2 43 RX2 yX2_readNumber wsX2_readNumber) := goodIn_app (goodIn_of _ (by decide +kernel)) ggX2_readLaw_X2_readNumber
theorem dX2_readLaw_0 : decode cX2_readLaw 0 = .ok (.aload_n 0, 1) := by decide +kernel
theorem dX2_readLaw_1 : decode cX2_readLaw 1 = .ok (.bipush 100, 2) := by decide +kernel
theorem dX2_readLaw_3 : decode cX2_readLaw 3 = .ok (.invokevirtual 39, 3) := by decide +kernel
theorem dX2_readLaw_6 : decode cX2_readLaw 6 = .ok (.aload_n 1, 1) := by decide +kernel
theorem dX2_readLaw_7 : decode cX2_readLaw 7 = .ok (.aload_n 0, 1) := by decide +kernel
theorem dX2_readLaw_8 : decode cX2_readLaw 8 = .ok (.iconst 1, 1) := by decide +kernel
theorem dX2_readLaw_9 : decode cX2_readLaw 9 = .ok (.bipush 9, 2) := by decide +kernel
theorem dX2_readLaw_11 : decode cX2_readLaw 11 = .ok (.invokevirtual 43, 3) := by decide +kernel
theorem dX2_readLaw_14 : decode cX2_readLaw 14 = .ok (.putfield 47, 3) := by decide +kernel
theorem dX2_readLaw_17 : decode cX2_readLaw 17 = .ok (.aload_n 0, 1) := by decide +kernel
theorem dX2_readLaw_18 : decode cX2_readLaw 18 = .ok (.bipush 44, 2) := by decide +kernel
theorem dX2_readLaw_20 : decode cX2_readLaw 20 = .ok (.invokevirtual 39, 3) := by decide +kernel
theorem dX2_readLaw_23 : decode cX2_readLaw 23 = .ok (.aload_n 1, 1) := by decide +kernel
theorem dX2_readLaw_24 : decode cX2_readLaw 24 = .ok (.aload_n 0, 1) := by decide +kernel
theorem dX2_readLaw_25 : decode cX2_readLaw 25 = .ok (.iconst 0, 1) := by decide +kernel
theorem dX2_readLaw_26 : decode cX2_readLaw 26 = .ok (.bipush 8, 2) := by decide +kernel
theorem dX2_readLaw_28 : decode cX2_readLaw 28 = .ok (.invokevirtual 43, 3) := by decide +kernel
theorem dX2_readLaw_31 : decode cX2_readLaw 31 = .ok (.putfield 52, 3) := by decide +kernel
theorem dX2_readLaw_34 : decode cX2_readLaw 34 = .ok (.aload_n 0, 1) := by decide +kernel
theorem dX2_readLaw_35 : decode cX2_readLaw 35 = .ok (.bipush 59, 2) := by decide +kernel
theorem dX2_readLaw_37 : decode cX2_readLaw 37 = .ok (.invokevirtual 39, 3) := by decide +kernel
theorem dX2_readLaw_40 : decode cX2_readLaw 40 = .ok (.return_, 1) := by decide +kernel
set_option maxRecDepth 20000 in
theorem ggX2_readVisitor_X2_byteAt : GoodIn wsX2_readVisitor wsX2_byteAt := goodIn_r _ [8, 9, 10, 11, 12, 13, 14, 43, 44, 45, 46] (by decide +kernel) (by decide +kernel)
set_option maxRecDepth 20000 in
theorem gX2_readVisitor_X2_byteAt : GoodIn wsX2_readVisitor (wsV RX2 66 RX2 yX2_byteAt wsX2_byteAt) := goodIn_app (goodIn_of _ (by decide +kernel)) ggX2_readVisitor_X2_byteAt
set_option maxRecDepth 20000 in
theorem ggX2_readVisitor_X2_readToken : GoodIn wsX2_readVisitor wsX2_readToken := goodIn_r _ [18, 3, 1, 19, 20, 21, 7, 22, 43, 44, 45, 46] (by decide +kernel) (by decide +kernel)
set_option maxRecDepth 20000 in
theorem gX2_readVisitor_X2_readToken : GoodIn wsX2_readVisitor (wsV RX2 58 RX2 yX2_readToken wsX2_readToken) := goodIn_app (goodIn_of _ (by decide +kernel)) ggX2_readVisitor_X2_readToken
set_option maxRecDepth 20000 in
theorem ggX2_readVisitor_X2_readNumber : GoodIn wsX2_readVisitor wsX2_readNumber := goodIn_r _ [26, 1, 3, 27, 28, 29, 7, 30, 9, 4, 5, 6, 8, 10, 11, 12, 13, 14, 19, 20, 21, 22, 43, 44, 45, 46] (by decide +kernel) (by decide +kernel)
set_option maxRecDepth 20000 in
theorem gX2_readVisitor_X2_readNumber : GoodIn wsX2_readVisitor (wsV RX2 43 RX2 yX2_readNumber wsX2_readNumber) := goodIn_app (goodIn_of _ (by decide +kernel)) ggX2_readVisitor_X2_readNumber
set_option maxRecDepth 20000 in
theorem ggX2_readVisitor_X2_readSign : GoodIn wsX2_readVisitor wsX2_readSign := goodIn_r _ [34, 1, 4, 5, 6, 7, 8, 9, 10, 11, 12, 13, 14, 15, 16, 17, 18, 3, 19, 20, 21, 22, 43, 44, 45, 46] (by decide +kernel) (by decide +kernel)
set_option maxRecDepth 20000 in
theorem gX2_readVisitor_X2_readSign : GoodIn wsX2_readVisitor (wsV RX2 39 RX2 yX2_readSign wsX2_readSign) := goodIn_app (goodIn_of _ (by decide +kernel)) ggX2_readVisitor_X2_readSign
set_option maxRecDepth 20000 in
theorem ggX2_readVisitor_X1_addVisitor : GoodIn wsX2_readVisitor wsX1_addVisitor := goodIn_r _ [39, 40, 41, 42, 47, 48, 49, 50, 51, 52, 53, 54, 55, 56, 57, 58, 59, 60] (by decide +kernel) (by decide +kernel)
set_option maxRecDepth 20000 in
theorem gX2_readVisitor_X1_addVisitor : GoodIn wsX2_readVisitor (wsV RX2 73 RX1 yX1_addVisitor wsX1_addVisitor) := goodIn_app (goodIn_of _ (by decide +kernel)) ggX2_readVisitor_X1_addVisitor
theorem dX2_readVisitor_0 : decode cX2_readVisitor 0 = .ok (.aload_n 0, 1) := by decide +kernel
theorem dX2_readVisitor_1 : decode cX2_readVisitor 1 = .ok (.aload_n 0, 1) := by decide +kernel
theorem dX2_readVisitor_2 : decode cX2_readVisitor 2 = .ok (.aload_n 0, 1) := by decide +kernel
theorem dX2_readVisitor_3 : decode cX2_readVisitor 3 = .ok (.getfield 19, 3) := by decide +kernel
theorem dX2_readVisitor_6 : decode cX2_readVisitor 6 = .ok (.invokevirtual 66, 3) := by decide +kernel
theorem dX2_readVisitor_9 : decode cX2_readVisitor 9 = .ok (.bipush 118, 2) := by decide +kernel
theorem dX2_readVisitor_11 : decode cX2_readVisitor 11 = .ok (.if_icmp .ne 7, 3) := by decide +kernel
theorem dX2_readVisitor_14 : decode cX2_readVisitor 14 = .ok (.iconst 1, 1) := by decide +kernel
theorem dX2_readVisitor_15 : decode cX2_readVisitor 15 = .ok (.goto 4, 3) := by decide +kernel
theorem dX2_readVisitor_18 : decode cX2_readVisitor 18 = .ok (.iconst 0, 1) := by decide +kernel
theorem dX2_readVisitor_19 : decode cX2_readVisitor 19 = .ok (.aload_n 1, 1) := by decide +kernel
theorem dX2_readVisitor_20 : decode cX2_readVisitor 20 = .ok (.getfield 70, 3) := by decide +kernel
theorem dX2_readVisitor_23 : decode cX2_readVisitor 23 = .ok (.iconst 5, 1) := by decide +kernel
theorem dX2_readVisitor_24 : decode cX2_readVisitor 24 = .ok (.if_icmp .ge 7, 3) := by decide +kernel
theorem dX2_readVisitor_27 : decode cX2_readVisitor 27 = .ok (.iconst 1, 1) := by decide +kernel
theorem dX2_readVisitor_28 : decode cX2_readVisitor 28 = .ok (.goto 4, 3) := by decide +kernel
theorem dX2_readVisitor_31 : decode cX2_readVisitor 31 = .ok (.iconst 0, 1) := by decide +kernel
theorem dX2_readVisitor_32 : decode cX2_readVisitor 32 = .ok (.invokevirtual 58, 3) := by decide +kernel
theorem dX2_readVisitor_35 : decode cX2_readVisitor 35 = .ok (.aload_n 0, 1) := by decide +kernel
theorem dX2_readVisitor_36 : decode cX2_readVisitor 36 = .ok (.iconst 0, 1) := by decide +kernel
theorem dX2_readVisitor_37 : decode cX2_readVisitor 37 = .ok (.bipush 9, 2) := by decide +kernel
theorem dX2_readVisitor_39 : decode cX2_readVisitor 39 = .ok (.invokevirtual 43, 3) := by decide +kernel
theorem dX2_readVisitor_42 : decode cX2_readVisitor 42 = .ok (.istore_n 2, 1) := by decide +kernel
theorem dX2_readVisitor_43 : decode cX2_readVisitor 43 = .ok (.aload_n 0, 1) := by decide +kernel
theorem dX2_readVisitor_44 : decode cX2_readVisitor 44 = .ok (.bipush 44, 2) := by decide +kernel
theorem dX2_readVisitor_46 : decode cX2_readVisitor 46 = .ok (.invokevirtual 39, 3) := by decide +kernel
theorem dX2_readVisitor_49 : decode cX2_readVisitor 49 = .ok (.aload_n 0, 1) := by decide +kernel
theorem dX2_readVisitor_50 : decode cX2_readVisitor 50 = .ok (.iconst 0, 1) := by decide +kernel
theorem dX2_readVisitor_51 : decode cX2_readVisitor 51 = .ok (.bipush 9, 2) := by decide +kernel
theorem dX2_readVisitor_53 : decode cX2_readVisitor 53 = .ok (.invokevirtual 43, 3) := by decide +kernel
theorem dX2_readVisitor_56 : decode cX2_readVisitor 56 = .ok (.istore_n 3, 1) := by decide +kernel
theorem dX2_readVisitor_57 : decode cX2_readVisitor 57 = .ok (.aload_n 0, 1) := by decide +kernel
theorem dX2_readVisitor_58 : decode cX2_readVisitor 58 = .ok (.bipush 59, 2) := by decide +kernel
theorem dX2_readVisitor_60 : decode cX2_readVisitor 60 = .ok (.invokevirtual 39, 3) := by decide +kernel
theorem dX2_readVisitor_63 : decode cX2_readVisitor 63 = .ok (.aload_n 0, 1) := by decide +kernel
theorem dX2_readVisitor_64 : decode cX2_readVisitor 64 = .ok (.getfield 22, 3) := by decide +kernel
theorem dX2_readVisitor_67 : decode cX2_readVisitor 67 = .ok (.ifCond .ne 9, 3) := by decide +kernel
theorem dX2_readVisitor_70 : decode cX2_readVisitor 70 = .ok (.aload_n 1, 1) := by decide +kernel
theorem dX2_readVisitor_71 : decode cX2_readVisitor 71 = .ok (.iload_n 2, 1) := by decide +kernel
theorem dX2_readVisitor_72 : decode cX2_readVisitor 72 = .ok (.iload_n 3, 1) := by decide +kernel
theorem dX2_readVisitor_73 : decode cX2_readVisitor 73 = .ok (.invokevirtual 73, 3) := by decide +kernel
theorem dX2_readVisitor_76 : decode cX2_readVisitor 76 = .ok (.return_, 1) := by decide +kernel
theorem dX2_fail_0 : decode cX2_fail 0 = .ok (.aload_n 0, 1) := by decide +kernel
theorem dX2_fail_1 : decode cX2_fail 1 = .ok (.getfield 22, 3) := by decide +kernel
theorem dX2_fail_4 : decode cX2_fail 4 = .ok (.ifCond .ne 8, 3) := by decide +kernel
theorem dX2_fail_7 : decode cX2_fail 7 = .ok (.aload_n 0, 1) := by decide +kernel
theorem dX2_fail_8 : decode cX2_fail 8 = .ok (.iload_n 1, 1) := by decide +kernel
theorem dX2_fail_9 : decode cX2_fail 9 = .ok (.putfield 22, 3) := by decide +kernel
theorem dX2_fail_12 : decode cX2_fail 12 = .ok (.return_, 1) := by decide +kernel
set_option maxRecDepth 20000 in
theorem ggX2_byteAt_X3_isIn : GoodIn wsX2_byteAt wsX3_isIn := goodIn_r _ [6] (by decide +kernel) (by decide +kernel)
set_option maxRecDepth 20000 in
theorem gX2_byteAt_X3_isIn_n76 : GoodIn wsX2_byteAt (wsX3_isIn) := ggX2_byteAt_X3_isIn
theorem dX2_byteAt_0 : decode cX2_byteAt 0 = .ok (.iload_n 1, 1) := by decide +kernel
theorem dX2_byteAt_1 : decode cX2_byteAt 1 = .ok (.iconst 0, 1) := by decide +kernel
theorem dX2_byteAt_2 : decode cX2_byteAt 2 = .ok (.aload_n 0, 1) := by decide +kernel
theorem dX2_byteAt_3 : decode cX2_byteAt 3 = .ok (.getfield 15, 3) := by decide +kernel
theorem dX2_byteAt_6 : decode cX2_byteAt 6 = .ok (.iconst 1, 1) := by decide +kernel
theorem dX2_byteAt_7 : decode cX2_byteAt 7 = .ok (.isub, 1) := by decide +kernel
theorem dX2_byteAt_8 : decode cX2_byteAt 8 = .ok (.invokestatic 76, 3) := by decide +kernel
theorem dX2_byteAt_11 : decode cX2_byteAt 11 = .ok (.ifCond .eq 12, 3) := by decide +kernel
theorem dX2_byteAt_14 : decode cX2_byteAt 14 = .ok (.aload_n 0, 1) := by decide +kernel
theorem dX2_byteAt_15 : decode cX2_byteAt 15 = .ok (.getfield 9, 3) := by decide +kernel
theorem dX2_byteAt_18 : decode cX2_byteAt 18 = .ok (.iload_n 1, 1) := by decide +kernel
theorem dX2_byteAt_19 : decode cX2_byteAt 19 = .ok (.iaload, 1) := by decide +kernel
theorem dX2_byteAt_20 : decode cX2_byteAt 20 = .ok (.goto 5, 3) := by decide +kernel
theorem dX2_byteAt_23 : decode cX2_byteAt 23 = .ok (.ldc 80, 2) := by decide +kernel
theorem dX2_byteAt_25 : decode cX2_byteAt 25 = .ok (.ireturn, 1) := by decide +kernel
set_option maxRecDepth 20000 in
theorem ggX2_readToken_X2_fail : GoodIn wsX2_readToken wsX2_fail := goodIn_r _ [7, 1, 8, 9, 10, 11] (by decide +kernel) (by decide +kernel)
set_option maxRecDepth 20000 in
theorem gX2_readToken_X2_fail : GoodIn wsX2_readToken (wsV RX2 88 RX2 yX2_fail wsX2_fail) := goodIn_app (goodIn_of _ (by decide +kernel)) ggX2_readToken_X2_fail
theorem dX2_readToken_0 : decode cX2_readToken 0 = .ok (.iload_n 1, 1) := by decide +kernel
theorem dX2_readToken_1 : decode cX2_readToken 1 = .ok (.ifCond .ne 11, 3) := by decide +kernel
theorem dX2_readToken_4 : decode cX2_readToken 4 = .ok (.aload_n 0, 1) := by decide +kernel
theorem dX2_readToken_5 : decode cX2_readToken 5 = .ok (.iconst 1, 1) := by decide +kernel
theorem dX2_readToken_6 : decode cX2_readToken 6 = .ok (.invokevirtual 88, 3) := by decide +kernel
theorem dX2_readToken_9 : decode cX2_readToken 9 = .ok (.goto 32, 3) := by decide +kernel
theorem dX2_readToken_12 : decode cX2_readToken 12 = .ok (.iload_n 2, 1) := by decide +kernel
theorem dX2_readToken_13 : decode cX2_readToken 13 = .ok (.ifCond .ne 11, 3) := by decide +kernel
theorem dX2_readToken_16 : decode cX2_readToken 16 = .ok (.aload_n 0, 1) := by decide +kernel
theorem dX2_readToken_17 : decode cX2_readToken 17 = .ok (.iconst 3, 1) := by decide +kernel
theorem dX2_readToken_18 : decode cX2_readToken 18 = .ok (.invokevirtual 88, 3) := by decide +kernel
theorem dX2_readToken_21 : decode cX2_readToken 21 = .ok (.goto 20, 3) := by decide +kernel
theorem dX2_readToken_24 : decode cX2_readToken 24 = .ok (.aload_n 0, 1) := by decide +kernel
theorem dX2_readToken_25 : decode cX2_readToken 25 = .ok (.getfield 22, 3) := by decide +kernel
theorem dX2_readToken_28 : decode cX2_readToken 28 = .ok (.ifCond .ne 13, 3) := by decide +kernel
theorem dX2_readToken_31 : decode cX2_readToken 31 = .ok (.aload_n 0, 1) := by decide +kernel
theorem dX2_readToken_32 : decode cX2_readToken 32 = .ok (.dup, 1) := by decide +kernel
theorem dX2_readToken_33 : decode cX2_readToken 33 = .ok (.getfield 19, 3) := by decide +kernel
theorem dX2_readToken_36 : decode cX2_readToken 36 = .ok (.iconst 1, 1) := by decide +kernel
theorem dX2_readToken_37 : decode cX2_readToken 37 = .ok (.iadd, 1) := by decide +kernel
theorem dX2_readToken_38 : decode cX2_readToken 38 = .ok (.putfield 19, 3) := by decide +kernel
theorem dX2_readToken_41 : decode cX2_readToken 41 = .ok (.return_, 1) := by decide +kernel
set_option maxRecDepth 20000 in
theorem ggX2_readSign_X2_byteAt : GoodIn wsX2_readSign wsX2_byteAt := goodIn_r _ [6, 7, 8, 9, 10, 11, 12, 22, 23, 24, 25] (by decide +kernel) (by decide +kernel)
set_option maxRecDepth 20000 in
theorem gX2_readSign_X2_byteAt : GoodIn wsX2_readSign (wsV RX2 66 RX2 yX2_byteAt wsX2_byteAt) := goodIn_app (goodIn_of _ (by decide +kernel)) ggX2_readSign_X2_byteAt
set_option maxRecDepth 20000 in
theorem ggX2_readSign_X2_readToken : GoodIn wsX2_readSign wsX2_readToken := goodIn_r _ [16, 17, 1, 18, 19, 20, 5, 21, 22, 23, 24, 25] (by decide +kernel) (by decide +kernel)
set_option maxRecDepth 20000 in
theorem gX2_readSign_X2_readToken : GoodIn wsX2_readSign (wsV RX2 58 RX2 yX2_readToken wsX2_readToken) := goodIn_app (goodIn_of _ (by decide +kernel)) ggX2_readSign_X2_readToken
theorem dX2_readSign_0 : decode cX2_readSign 0 = .ok (.aload_n 0, 1) := by decide +kernel
theorem dX2_readSign_1 : decode cX2_readSign 1 = .ok (.aload_n 0, 1) := by decide +kernel
theorem dX2_readSign_2 : decode cX2_readSign 2 = .ok (.aload_n 0, 1) := by decide +kernel
theorem dX2_readSign_3 : decode cX2_readSign 3 = .ok (.getfield 19, 3) := by decide +kernel
theorem dX2_readSign_6 : decode cX2_readSign 6 = .ok (.invokevirtual 66, 3) := by decide +kernel
theorem dX2_readSign_9 : decode cX2_readSign 9 = .ok (.iload_n 1, 1) := by decide +kernel
theorem dX2_readSign_10 : decode cX2_readSign 10 = .ok (.if_icmp .ne 7, 3) := by decide +kernel
theorem dX2_readSign_13 : decode cX2_readSign 13 = .ok (.iconst 1, 1) := by decide +kernel
theorem dX2_readSign_14 : decode cX2_readSign 14 = .ok (.goto 4, 3) := by decide +kernel
theorem dX2_readSign_17 : decode cX2_readSign 17 = .ok (.iconst 0, 1) := by decide +kernel
theorem dX2_readSign_18 : decode cX2_readSign 18 = .ok (.iconst 1, 1) := by decide +kernel
theorem dX2_readSign_19 : decode cX2_readSign 19 = .ok (.invokevirtual 58, 3) := by decide +kernel
theorem dX2_readSign_22 : decode cX2_readSign 22 = .ok (.return_, 1) := by decide +kernel
set_option maxRecDepth 20000 in
theorem ggX2_figuresHere_X2_byteAt : GoodIn wsX2_figuresHere wsX2_byteAt := goodIn_r _ [7, 2, 8, 9, 10, 11, 12, 13, 14, 15, 16] (by decide +kernel) (by decide +kernel)
set_option maxRecDepth 20000 in
theorem gX2_figuresHere_X2_byteAt : GoodIn wsX2_figuresHere (wsV RX2 66 RX2 yX2_byteAt wsX2_byteAt) := goodIn_app (goodIn_of _ (by decide +kernel)) ggX2_figuresHere_X2_byteAt
set_option maxRecDepth 20000 in
theorem ggX2_figuresHere_X3_isIn : GoodIn wsX2_figuresHere wsX3_isIn := goodIn_r _ [12] (by decide +kernel) (by decide +kernel)
set_option maxRecDepth 20000 in
theorem gX2_figuresHere_X3_isIn_n76 : GoodIn wsX2_figuresHere (wsX3_isIn) := ggX2_figuresHere_X3_isIn
theorem dX2_figuresHere_0 : decode cX2_figuresHere 0 = .ok (.iconst 0, 1) := by decide +kernel
theorem dX2_figuresHere_1 : decode cX2_figuresHere 1 = .ok (.istore_n 1, 1) := by decide +kernel
theorem dX2_figuresHere_2 : decode cX2_figuresHere 2 = .ok (.aload_n 0, 1) := by decide +kernel
theorem dX2_figuresHere_3 : decode cX2_figuresHere 3 = .ok (.getfield 19, 3) := by decide +kernel
theorem dX2_figuresHere_6 : decode cX2_figuresHere 6 = .ok (.istore_n 2, 1) := by decide +kernel
theorem dX2_figuresHere_7 : decode cX2_figuresHere 7 = .ok (.iload_n 2, 1) := by decide +kernel
theorem dX2_figuresHere_8 : decode cX2_figuresHere 8 = .ok (.aload_n 0, 1) := by decide +kernel
theorem dX2_figuresHere_9 : decode cX2_figuresHere 9 = .ok (.getfield 15, 3) := by decide +kernel
theorem dX2_figuresHere_12 : decode cX2_figuresHere 12 = .ok (.if_icmp .ge 27, 3) := by decide +kernel
theorem dX2_figuresHere_15 : decode cX2_figuresHere 15 = .ok (.aload_n 0, 1) := by decide +kernel
theorem dX2_figuresHere_16 : decode cX2_figuresHere 16 = .ok (.iload_n 2, 1) := by decide +kernel
theorem dX2_figuresHere_17 : decode cX2_figuresHere 17 = .ok (.invokevirtual 66, 3) := by decide +kernel
theorem dX2_figuresHere_20 : decode cX2_figuresHere 20 = .ok (.bipush 48, 2) := by decide +kernel
theorem dX2_figuresHere_22 : decode cX2_figuresHere 22 = .ok (.bipush 57, 2) := by decide +kernel
theorem dX2_figuresHere_24 : decode cX2_figuresHere 24 = .ok (.invokestatic 76, 3) := by decide +kernel
theorem dX2_figuresHere_27 : decode cX2_figuresHere 27 = .ok (.ifCond .eq 12, 3) := by decide +kernel
theorem dX2_figuresHere_30 : decode cX2_figuresHere 30 = .ok (.iinc 1 1, 3) := by decide +kernel
theorem dX2_figuresHere_33 : decode cX2_figuresHere 33 = .ok (.iinc 2 1, 3) := by decide +kernel
theorem dX2_figuresHere_36 : decode cX2_figuresHere 36 = .ok (.goto (-29), 3) := by decide +kernel
theorem dX2_figuresHere_39 : decode cX2_figuresHere 39 = .ok (.iload_n 1, 1) := by decide +kernel
theorem dX2_figuresHere_40 : decode cX2_figuresHere 40 = .ok (.ireturn, 1) := by decide +kernel
set_option maxRecDepth 20000 in
theorem ggX2_readNumber_X2_figuresHere : GoodIn wsX2_readNumber wsX2_figuresHere := goodIn_r _ [7, 1, 8, 9, 10, 11, 6, 12, 13, 14, 15, 16, 17, 22, 23, 24, 25] (by decide +kernel) (by decide +kernel)
set_option maxRecDepth 20000 in
theorem gX2_readNumber_X2_figuresHere : GoodIn wsX2_readNumber (wsV RX2 91 RX2 yX2_figuresHere wsX2_figuresHere) := goodIn_app (goodIn_of _ (by decide +kernel)) ggX2_readNumber_X2_figuresHere
set_option maxRecDepth 20000 in
theorem ggX2_readNumber_X2_fail : GoodIn wsX2_readNumber wsX2_fail := goodIn_r _ [21, 2, 22, 23, 24, 25] (by decide +kernel) (by decide +kernel)
set_option maxRecDepth 20000 in
theorem gX2_readNumber_X2_fail : GoodIn wsX2_readNumber (wsV RX2 88 RX2 yX2_fail wsX2_fail) := goodIn_app (goodIn_of _ (by decide +kernel)) ggX2_readNumber_X2_fail
set_option maxRecDepth 20000 in
theorem ggX2_readNumber_X2_byteAt : GoodIn wsX2_readNumber wsX2_byteAt := goodIn_r _ [12, 8, 13, 14, 15, 16, 17, 22, 23, 24, 25] (by decide +kernel) (by decide +kernel)
set_option maxRecDepth 20000 in
theorem gX2_readNumber_X2_byteAt : GoodIn wsX2_readNumber (wsV RX2 66 RX2 yX2_byteAt wsX2_byteAt) := goodIn_app (goodIn_of _ (by decide +kernel)) ggX2_readNumber_X2_byteAt
set_option maxRecDepth 20000 in
theorem ggX2_readNumber_X3_isIn : GoodIn wsX2_readNumber wsX3_isIn := goodIn_r _ [17] (by decide +kernel) (by decide +kernel)
set_option maxRecDepth 20000 in
theorem gX2_readNumber_X3_isIn_n76 : GoodIn wsX2_readNumber (wsX3_isIn) := ggX2_readNumber_X3_isIn
theorem dX2_readNumber_0 : decode cX2_readNumber 0 = .ok (.aload_n 0, 1) := by decide +kernel
theorem dX2_readNumber_1 : decode cX2_readNumber 1 = .ok (.invokevirtual 91, 3) := by decide +kernel
theorem dX2_readNumber_4 : decode cX2_readNumber 4 = .ok (.istore_n 3, 1) := by decide +kernel
theorem dX2_readNumber_5 : decode cX2_readNumber 5 = .ok (.iload_n 3, 1) := by decide +kernel
theorem dX2_readNumber_6 : decode cX2_readNumber 6 = .ok (.ifCond .eq 8, 3) := by decide +kernel
theorem dX2_readNumber_9 : decode cX2_readNumber 9 = .ok (.iload_n 3, 1) := by decide +kernel
theorem dX2_readNumber_10 : decode cX2_readNumber 10 = .ok (.iconst 2, 1) := by decide +kernel
theorem dX2_readNumber_11 : decode cX2_readNumber 11 = .ok (.if_icmp .le 8, 3) := by decide +kernel
theorem dX2_readNumber_14 : decode cX2_readNumber 14 = .ok (.aload_n 0, 1) := by decide +kernel
theorem dX2_readNumber_15 : decode cX2_readNumber 15 = .ok (.iconst 1, 1) := by decide +kernel
theorem dX2_readNumber_16 : decode cX2_readNumber 16 = .ok (.invokevirtual 88, 3) := by decide +kernel
theorem dX2_readNumber_19 : decode cX2_readNumber 19 = .ok (.iconst 0, 1) := by decide +kernel
theorem dX2_readNumber_20 : decode cX2_readNumber 20 = .ok (.istore 4, 2) := by decide +kernel
theorem dX2_readNumber_22 : decode cX2_readNumber 22 = .ok (.iconst 0, 1) := by decide +kernel
theorem dX2_readNumber_23 : decode cX2_readNumber 23 = .ok (.istore 5, 2) := by decide +kernel
theorem dX2_readNumber_25 : decode cX2_readNumber 25 = .ok (.iload 5, 2) := by decide +kernel
theorem dX2_readNumber_27 : decode cX2_readNumber 27 = .ok (.iload_n 3, 1) := by decide +kernel
theorem dX2_readNumber_28 : decode cX2_readNumber 28 = .ok (.if_icmp .ge 37, 3) := by decide +kernel
theorem dX2_readNumber_31 : decode cX2_readNumber 31 = .ok (.iload 5, 2) := by decide +kernel
theorem dX2_readNumber_33 : decode cX2_readNumber 33 = .ok (.iconst 2, 1) := by decide +kernel
theorem dX2_readNumber_34 : decode cX2_readNumber 34 = .ok (.if_icmp .ge 31, 3) := by decide +kernel
theorem dX2_readNumber_37 : decode cX2_readNumber 37 = .ok (.iload 4, 2) := by decide +kernel
theorem dX2_readNumber_39 : decode cX2_readNumber 39 = .ok (.bipush 10, 2) := by decide +kernel
theorem dX2_readNumber_41 : decode cX2_readNumber 41 = .ok (.imul, 1) := by decide +kernel
theorem dX2_readNumber_42 : decode cX2_readNumber 42 = .ok (.aload_n 0, 1) := by decide +kernel
theorem dX2_readNumber_43 : decode cX2_readNumber 43 = .ok (.aload_n 0, 1) := by decide +kernel
theorem dX2_readNumber_44 : decode cX2_readNumber 44 = .ok (.getfield 19, 3) := by decide +kernel
theorem dX2_readNumber_47 : decode cX2_readNumber 47 = .ok (.iload 5, 2) := by decide +kernel
theorem dX2_readNumber_49 : decode cX2_readNumber 49 = .ok (.iadd, 1) := by decide +kernel
theorem dX2_readNumber_50 : decode cX2_readNumber 50 = .ok (.invokevirtual 66, 3) := by decide +kernel
theorem dX2_readNumber_53 : decode cX2_readNumber 53 = .ok (.iadd, 1) := by decide +kernel
theorem dX2_readNumber_54 : decode cX2_readNumber 54 = .ok (.bipush 48, 2) := by decide +kernel
theorem dX2_readNumber_56 : decode cX2_readNumber 56 = .ok (.isub, 1) := by decide +kernel
theorem dX2_readNumber_57 : decode cX2_readNumber 57 = .ok (.istore 4, 2) := by decide +kernel
theorem dX2_readNumber_59 : decode cX2_readNumber 59 = .ok (.iinc 5 1, 3) := by decide +kernel
theorem dX2_readNumber_62 : decode cX2_readNumber 62 = .ok (.goto (-37), 3) := by decide +kernel
theorem dX2_readNumber_65 : decode cX2_readNumber 65 = .ok (.iload 4, 2) := by decide +kernel
theorem dX2_readNumber_67 : decode cX2_readNumber 67 = .ok (.iload_n 1, 1) := by decide +kernel
theorem dX2_readNumber_68 : decode cX2_readNumber 68 = .ok (.iload_n 2, 1) := by decide +kernel
theorem dX2_readNumber_69 : decode cX2_readNumber 69 = .ok (.invokestatic 76, 3) := by decide +kernel
theorem dX2_readNumber_72 : decode cX2_readNumber 72 = .ok (.ifCond .ne 8, 3) := by decide +kernel
theorem dX2_readNumber_75 : decode cX2_readNumber 75 = .ok (.aload_n 0, 1) := by decide +kernel
theorem dX2_readNumber_76 : decode cX2_readNumber 76 = .ok (.iconst 2, 1) := by decide +kernel
theorem dX2_readNumber_77 : decode cX2_readNumber 77 = .ok (.invokevirtual 88, 3) := by decide +kernel
theorem dX2_readNumber_80 : decode cX2_readNumber 80 = .ok (.aload_n 0, 1) := by decide +kernel
theorem dX2_readNumber_81 : decode cX2_readNumber 81 = .ok (.getfield 22, 3) := by decide +kernel
theorem dX2_readNumber_84 : decode cX2_readNumber 84 = .ok (.ifCond .ne 13, 3) := by decide +kernel
theorem dX2_readNumber_87 : decode cX2_readNumber 87 = .ok (.aload_n 0, 1) := by decide +kernel
theorem dX2_readNumber_88 : decode cX2_readNumber 88 = .ok (.dup, 1) := by decide +kernel
theorem dX2_readNumber_89 : decode cX2_readNumber 89 = .ok (.getfield 19, 3) := by decide +kernel
theorem dX2_readNumber_92 : decode cX2_readNumber 92 = .ok (.iload_n 3, 1) := by decide +kernel
theorem dX2_readNumber_93 : decode cX2_readNumber 93 = .ok (.iadd, 1) := by decide +kernel
theorem dX2_readNumber_94 : decode cX2_readNumber 94 = .ok (.putfield 19, 3) := by decide +kernel
theorem dX2_readNumber_97 : decode cX2_readNumber 97 = .ok (.iload 4, 2) := by decide +kernel
theorem dX2_readNumber_99 : decode cX2_readNumber 99 = .ok (.ireturn, 1) := by decide +kernel
