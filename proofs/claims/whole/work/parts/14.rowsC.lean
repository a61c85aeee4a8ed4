theorem dX3_isMissing_0 : decode cX3_isMissing 0 = .ok (.aload_n 0, 1) := by decide +kernel
theorem dX3_isMissing_1 : decode cX3_isMissing 1 = .ok (.getfield 18, 3) := by decide +kernel
theorem dX3_isMissing_4 : decode cX3_isMissing 4 = .ok (.iload_n 1, 1) := by decide +kernel
theorem dX3_isMissing_5 : decode cX3_isMissing 5 = .ok (.iaload, 1) := by decide +kernel
theorem dX3_isMissing_6 : decode cX3_isMissing 6 = .ok (.ldc 66, 2) := by decide +kernel
theorem dX3_isMissing_8 : decode cX3_isMissing 8 = .ok (.if_icmp .ne 7, 3) := by decide +kernel
theorem dX3_isMissing_11 : decode cX3_isMissing 11 = .ok (.iconst 1, 1) := by decide +kernel
theorem dX3_isMissing_12 : decode cX3_isMissing 12 = .ok (.goto 4, 3) := by decide +kernel
theorem dX3_isMissing_15 : decode cX3_isMissing 15 = .ok (.iconst 0, 1) := by decide +kernel
theorem dX3_isMissing_16 : decode cX3_isMissing 16 = .ok (.ireturn, 1) := by decide +kernel
theorem dX3_hasItems_0 : decode cX3_hasItems 0 = .ok (.iload_n 2, 1) := by decide +kernel
theorem dX3_hasItems_1 : decode cX3_hasItems 1 = .ok (.ifCond .lt 27, 3) := by decide +kernel
theorem dX3_hasItems_4 : decode cX3_hasItems 4 = .ok (.iload_n 3, 1) := by decide +kernel
theorem dX3_hasItems_5 : decode cX3_hasItems 5 = .ok (.ifCond .lt 23, 3) := by decide +kernel
theorem dX3_hasItems_8 : decode cX3_hasItems 8 = .ok (.iload_n 2, 1) := by decide +kernel
theorem dX3_hasItems_9 : decode cX3_hasItems 9 = .ok (.i2l, 1) := by decide +kernel
theorem dX3_hasItems_10 : decode cX3_hasItems 10 = .ok (.iload_n 3, 1) := by decide +kernel
theorem dX3_hasItems_11 : decode cX3_hasItems 11 = .ok (.i2l, 1) := by decide +kernel
theorem dX3_hasItems_12 : decode cX3_hasItems 12 = .ok (.ladd, 1) := by decide +kernel
theorem dX3_hasItems_13 : decode cX3_hasItems 13 = .ok (.aload_n 0, 1) := by decide +kernel
theorem dX3_hasItems_14 : decode cX3_hasItems 14 = .ok (.getfield 18, 3) := by decide +kernel
theorem dX3_hasItems_17 : decode cX3_hasItems 17 = .ok (.iload_n 1, 1) := by decide +kernel
theorem dX3_hasItems_18 : decode cX3_hasItems 18 = .ok (.iaload, 1) := by decide +kernel
theorem dX3_hasItems_19 : decode cX3_hasItems 19 = .ok (.i2l, 1) := by decide +kernel
theorem dX3_hasItems_20 : decode cX3_hasItems 20 = .ok (.lcmp, 1) := by decide +kernel
theorem dX3_hasItems_21 : decode cX3_hasItems 21 = .ok (.ifCond .gt 7, 3) := by decide +kernel
theorem dX3_hasItems_24 : decode cX3_hasItems 24 = .ok (.iconst 1, 1) := by decide +kernel
theorem dX3_hasItems_25 : decode cX3_hasItems 25 = .ok (.goto 4, 3) := by decide +kernel
theorem dX3_hasItems_28 : decode cX3_hasItems 28 = .ok (.iconst 0, 1) := by decide +kernel
theorem dX3_hasItems_29 : decode cX3_hasItems 29 = .ok (.ireturn, 1) := by decide +kernel
theorem dX3_lowestBits_0 : decode cX3_lowestBits 0 = .ok (.iload_n 1, 1) := by decide +kernel
theorem dX3_lowestBits_1 : decode cX3_lowestBits 1 = .ok (.lookupswitch 33 #[(0, 27), (1, 30)], 27) := by decide +kernel
theorem dX3_lowestBits_28 : decode cX3_lowestBits 28 = .ok (.iload_n 0, 1) := by decide +kernel
theorem dX3_lowestBits_29 : decode cX3_lowestBits 29 = .ok (.i2b, 1) := by decide +kernel
theorem dX3_lowestBits_30 : decode cX3_lowestBits 30 = .ok (.ireturn, 1) := by decide +kernel
theorem dX3_lowestBits_31 : decode cX3_lowestBits 31 = .ok (.iload_n 0, 1) := by decide +kernel
theorem dX3_lowestBits_32 : decode cX3_lowestBits 32 = .ok (.i2s, 1) := by decide +kernel
theorem dX3_lowestBits_33 : decode cX3_lowestBits 33 = .ok (.ireturn, 1) := by decide +kernel
theorem dX3_lowestBits_34 : decode cX3_lowestBits 34 = .ok (.iload_n 0, 1) := by decide +kernel
theorem dX3_lowestBits_35 : decode cX3_lowestBits 35 = .ok (.ireturn, 1) := by decide +kernel
set_option maxRecDepth 20000 in
theorem ggX3_rowsThere_X3_isMissing : GoodIn wsX3_rowsThere wsX3_isMissing := goodIn_r _ [5, 6, 7, 8, 9, 10, 11, 12, 13, 14, 15, 16, 17, 18, 19, 20] (by decide +kernel) (by decide +kernel)
set_option maxRecDepth 20000 in
theorem gX3_rowsThere_X3_isMissing : GoodIn wsX3_rowsThere (wsV RX3 94 RX3 yX3_isMissing wsX3_isMissing) := goodIn_app (goodIn_of _ (by decide +kernel)) ggX3_rowsThere_X3_isMissing
theorem dX3_rowsThere_0 : decode cX3_rowsThere 0 = .ok (.iconst 0, 1) := by decide +kernel
theorem dX3_rowsThere_1 : decode cX3_rowsThere 1 = .ok (.istore_n 1, 1) := by decide +kernel
theorem dX3_rowsThere_2 : decode cX3_rowsThere 2 = .ok (.iconst 0, 1) := by decide +kernel
theorem dX3_rowsThere_3 : decode cX3_rowsThere 3 = .ok (.istore_n 2, 1) := by decide +kernel
theorem dX3_rowsThere_4 : decode cX3_rowsThere 4 = .ok (.iload_n 2, 1) := by decide +kernel
theorem dX3_rowsThere_5 : decode cX3_rowsThere 5 = .ok (.bipush 8, 2) := by decide +kernel
theorem dX3_rowsThere_7 : decode cX3_rowsThere 7 = .ok (.if_icmp .ge 20, 3) := by decide +kernel
theorem dX3_rowsThere_10 : decode cX3_rowsThere 10 = .ok (.aload_n 0, 1) := by decide +kernel
theorem dX3_rowsThere_11 : decode cX3_rowsThere 11 = .ok (.iload_n 2, 1) := by decide +kernel
theorem dX3_rowsThere_12 : decode cX3_rowsThere 12 = .ok (.invokevirtual 94, 3) := by decide +kernel
theorem dX3_rowsThere_15 : decode cX3_rowsThere 15 = .ok (.ifCond .ne 6, 3) := by decide +kernel
theorem dX3_rowsThere_18 : decode cX3_rowsThere 18 = .ok (.iinc 1 1, 3) := by decide +kernel
theorem dX3_rowsThere_21 : decode cX3_rowsThere 21 = .ok (.iinc 2 1, 3) := by decide +kernel
theorem dX3_rowsThere_24 : decode cX3_rowsThere 24 = .ok (.goto (-20), 3) := by decide +kernel
theorem dX3_rowsThere_27 : decode cX3_rowsThere 27 = .ok (.iload_n 1, 1) := by decide +kernel
theorem dX3_rowsThere_28 : decode cX3_rowsThere 28 = .ok (.ireturn, 1) := by decide +kernel
theorem dX3_powerOfTen_0 : decode cX3_powerOfTen 0 = .ok (.lconst 1, 1) := by decide +kernel
theorem dX3_powerOfTen_1 : decode cX3_powerOfTen 1 = .ok (.lstore_n 1, 1) := by decide +kernel
theorem dX3_powerOfTen_2 : decode cX3_powerOfTen 2 = .ok (.iconst 0, 1) := by decide +kernel
theorem dX3_powerOfTen_3 : decode cX3_powerOfTen 3 = .ok (.istore_n 3, 1) := by decide +kernel
theorem dX3_powerOfTen_4 : decode cX3_powerOfTen 4 = .ok (.iload_n 3, 1) := by decide +kernel
theorem dX3_powerOfTen_5 : decode cX3_powerOfTen 5 = .ok (.iload_n 0, 1) := by decide +kernel
theorem dX3_powerOfTen_6 : decode cX3_powerOfTen 6 = .ok (.if_icmp .ge 15, 3) := by decide +kernel
theorem dX3_powerOfTen_9 : decode cX3_powerOfTen 9 = .ok (.lload_n 1, 1) := by decide +kernel
theorem dX3_powerOfTen_10 : decode cX3_powerOfTen 10 = .ok (.ldc2_w 311, 3) := by decide +kernel
theorem dX3_powerOfTen_13 : decode cX3_powerOfTen 13 = .ok (.lmul, 1) := by decide +kernel
theorem dX3_powerOfTen_14 : decode cX3_powerOfTen 14 = .ok (.lstore_n 1, 1) := by decide +kernel
theorem dX3_powerOfTen_15 : decode cX3_powerOfTen 15 = .ok (.iinc 3 1, 3) := by decide +kernel
theorem dX3_powerOfTen_18 : decode cX3_powerOfTen 18 = .ok (.goto (-14), 3) := by decide +kernel
theorem dX3_powerOfTen_21 : decode cX3_powerOfTen 21 = .ok (.lload_n 1, 1) := by decide +kernel
theorem dX3_powerOfTen_22 : decode cX3_powerOfTen 22 = .ok (.lreturn, 1) := by decide +kernel
theorem dX3_partInLowestTerms_0 : decode cX3_partInLowestTerms 0 = .ok (.lload_n 0, 1) := by decide +kernel
theorem dX3_partInLowestTerms_1 : decode cX3_partInLowestTerms 1 = .ok (.lstore 5, 2) := by decide +kernel
theorem dX3_partInLowestTerms_3 : decode cX3_partInLowestTerms 3 = .ok (.lload_n 2, 1) := by decide +kernel
theorem dX3_partInLowestTerms_4 : decode cX3_partInLowestTerms 4 = .ok (.lstore 7, 2) := by decide +kernel
theorem dX3_partInLowestTerms_6 : decode cX3_partInLowestTerms 6 = .ok (.iconst 0, 1) := by decide +kernel
theorem dX3_partInLowestTerms_7 : decode cX3_partInLowestTerms 7 = .ok (.istore 9, 2) := by decide +kernel
theorem dX3_partInLowestTerms_9 : decode cX3_partInLowestTerms 9 = .ok (.iload 9, 2) := by decide +kernel
theorem dX3_partInLowestTerms_11 : decode cX3_partInLowestTerms 11 = .ok (.bipush 8, 2) := by decide +kernel
theorem dX3_partInLowestTerms_13 : decode cX3_partInLowestTerms 13 = .ok (.if_icmp .ge 85, 3) := by decide +kernel
theorem dX3_partInLowestTerms_16 : decode cX3_partInLowestTerms 16 = .ok (.lload 5, 2) := by decide +kernel
theorem dX3_partInLowestTerms_18 : decode cX3_partInLowestTerms 18 = .ok (.ldc2_w 313, 3) := by decide +kernel
theorem dX3_partInLowestTerms_21 : decode cX3_partInLowestTerms 21 = .ok (.lrem, 1) := by decide +kernel
theorem dX3_partInLowestTerms_22 : decode cX3_partInLowestTerms 22 = .ok (.lconst 0, 1) := by decide +kernel
theorem dX3_partInLowestTerms_23 : decode cX3_partInLowestTerms 23 = .ok (.lcmp, 1) := by decide +kernel
theorem dX3_partInLowestTerms_24 : decode cX3_partInLowestTerms 24 = .ok (.ifCond .ne 30, 3) := by decide +kernel
theorem dX3_partInLowestTerms_27 : decode cX3_partInLowestTerms 27 = .ok (.lload 7, 2) := by decide +kernel
theorem dX3_partInLowestTerms_29 : decode cX3_partInLowestTerms 29 = .ok (.ldc2_w 313, 3) := by decide +kernel
theorem dX3_partInLowestTerms_32 : decode cX3_partInLowestTerms 32 = .ok (.lrem, 1) := by decide +kernel
theorem dX3_partInLowestTerms_33 : decode cX3_partInLowestTerms 33 = .ok (.lconst 0, 1) := by decide +kernel
theorem dX3_partInLowestTerms_34 : decode cX3_partInLowestTerms 34 = .ok (.lcmp, 1) := by decide +kernel
theorem dX3_partInLowestTerms_35 : decode cX3_partInLowestTerms 35 = .ok (.ifCond .ne 19, 3) := by decide +kernel
theorem dX3_partInLowestTerms_38 : decode cX3_partInLowestTerms 38 = .ok (.lload 5, 2) := by decide +kernel
theorem dX3_partInLowestTerms_40 : decode cX3_partInLowestTerms 40 = .ok (.ldc2_w 313, 3) := by decide +kernel
theorem dX3_partInLowestTerms_43 : decode cX3_partInLowestTerms 43 = .ok (.ldiv, 1) := by decide +kernel
theorem dX3_partInLowestTerms_44 : decode cX3_partInLowestTerms 44 = .ok (.lstore 5, 2) := by decide +kernel
theorem dX3_partInLowestTerms_46 : decode cX3_partInLowestTerms 46 = .ok (.lload 7, 2) := by decide +kernel
theorem dX3_partInLowestTerms_48 : decode cX3_partInLowestTerms 48 = .ok (.ldc2_w 313, 3) := by decide +kernel
theorem dX3_partInLowestTerms_51 : decode cX3_partInLowestTerms 51 = .ok (.ldiv, 1) := by decide +kernel
theorem dX3_partInLowestTerms_52 : decode cX3_partInLowestTerms 52 = .ok (.lstore 7, 2) := by decide +kernel
theorem dX3_partInLowestTerms_54 : decode cX3_partInLowestTerms 54 = .ok (.lload 5, 2) := by decide +kernel
theorem dX3_partInLowestTerms_56 : decode cX3_partInLowestTerms 56 = .ok (.ldc2_w 315, 3) := by decide +kernel
theorem dX3_partInLowestTerms_59 : decode cX3_partInLowestTerms 59 = .ok (.lrem, 1) := by decide +kernel
theorem dX3_partInLowestTerms_60 : decode cX3_partInLowestTerms 60 = .ok (.lconst 0, 1) := by decide +kernel
theorem dX3_partInLowestTerms_61 : decode cX3_partInLowestTerms 61 = .ok (.lcmp, 1) := by decide +kernel
theorem dX3_partInLowestTerms_62 : decode cX3_partInLowestTerms 62 = .ok (.ifCond .ne 30, 3) := by decide +kernel
theorem dX3_partInLowestTerms_65 : decode cX3_partInLowestTerms 65 = .ok (.lload 7, 2) := by decide +kernel
theorem dX3_partInLowestTerms_67 : decode cX3_partInLowestTerms 67 = .ok (.ldc2_w 315, 3) := by decide +kernel
theorem dX3_partInLowestTerms_70 : decode cX3_partInLowestTerms 70 = .ok (.lrem, 1) := by decide +kernel
theorem dX3_partInLowestTerms_71 : decode cX3_partInLowestTerms 71 = .ok (.lconst 0, 1) := by decide +kernel
theorem dX3_partInLowestTerms_72 : decode cX3_partInLowestTerms 72 = .ok (.lcmp, 1) := by decide +kernel
theorem dX3_partInLowestTerms_73 : decode cX3_partInLowestTerms 73 = .ok (.ifCond .ne 19, 3) := by decide +kernel
theorem dX3_partInLowestTerms_76 : decode cX3_partInLowestTerms 76 = .ok (.lload 5, 2) := by decide +kernel
theorem dX3_partInLowestTerms_78 : decode cX3_partInLowestTerms 78 = .ok (.ldc2_w 315, 3) := by decide +kernel
theorem dX3_partInLowestTerms_81 : decode cX3_partInLowestTerms 81 = .ok (.ldiv, 1) := by decide +kernel
theorem dX3_partInLowestTerms_82 : decode cX3_partInLowestTerms 82 = .ok (.lstore 5, 2) := by decide +kernel
theorem dX3_partInLowestTerms_84 : decode cX3_partInLowestTerms 84 = .ok (.lload 7, 2) := by decide +kernel
theorem dX3_partInLowestTerms_86 : decode cX3_partInLowestTerms 86 = .ok (.ldc2_w 315, 3) := by decide +kernel
theorem dX3_partInLowestTerms_89 : decode cX3_partInLowestTerms 89 = .ok (.ldiv, 1) := by decide +kernel
theorem dX3_partInLowestTerms_90 : decode cX3_partInLowestTerms 90 = .ok (.lstore 7, 2) := by decide +kernel
theorem dX3_partInLowestTerms_92 : decode cX3_partInLowestTerms 92 = .ok (.iinc 9 1, 3) := by decide +kernel
theorem dX3_partInLowestTerms_95 : decode cX3_partInLowestTerms 95 = .ok (.goto (-86), 3) := by decide +kernel
theorem dX3_partInLowestTerms_98 : decode cX3_partInLowestTerms 98 = .ok (.iload 4, 2) := by decide +kernel
theorem dX3_partInLowestTerms_100 : decode cX3_partInLowestTerms 100 = .ok (.ifCond .ne 8, 3) := by decide +kernel
theorem dX3_partInLowestTerms_103 : decode cX3_partInLowestTerms 103 = .ok (.lload 5, 2) := by decide +kernel
theorem dX3_partInLowestTerms_105 : decode cX3_partInLowestTerms 105 = .ok (.goto 5, 3) := by decide +kernel
theorem dX3_partInLowestTerms_108 : decode cX3_partInLowestTerms 108 = .ok (.lload 7, 2) := by decide +kernel
theorem dX3_partInLowestTerms_110 : decode cX3_partInLowestTerms 110 = .ok (.lreturn, 1) := by decide +kernel
theorem dX4_kindBy_0 : decode cX4_kindBy 0 = .ok (.iload_n 0, 1) := by decide +kernel
theorem dX4_kindBy_1 : decode cX4_kindBy 1 = .ok (.bipush 107, 2) := by decide +kernel
theorem dX4_kindBy_3 : decode cX4_kindBy 3 = .ok (.if_icmp .ne 7, 3) := by decide +kernel
theorem dX4_kindBy_6 : decode cX4_kindBy 6 = .ok (.iconst 1, 1) := by decide +kernel
theorem dX4_kindBy_7 : decode cX4_kindBy 7 = .ok (.goto 45, 3) := by decide +kernel
theorem dX4_kindBy_10 : decode cX4_kindBy 10 = .ok (.iload_n 0, 1) := by decide +kernel
theorem dX4_kindBy_11 : decode cX4_kindBy 11 = .ok (.bipush 101, 2) := by decide +kernel
theorem dX4_kindBy_13 : decode cX4_kindBy 13 = .ok (.if_icmp .ne 7, 3) := by decide +kernel
theorem dX4_kindBy_16 : decode cX4_kindBy 16 = .ok (.iconst 2, 1) := by decide +kernel
theorem dX4_kindBy_17 : decode cX4_kindBy 17 = .ok (.goto 35, 3) := by decide +kernel
theorem dX4_kindBy_20 : decode cX4_kindBy 20 = .ok (.iload_n 0, 1) := by decide +kernel
theorem dX4_kindBy_21 : decode cX4_kindBy 21 = .ok (.bipush 99, 2) := by decide +kernel
theorem dX4_kindBy_23 : decode cX4_kindBy 23 = .ok (.if_icmp .ne 7, 3) := by decide +kernel
theorem dX4_kindBy_26 : decode cX4_kindBy 26 = .ok (.iconst 3, 1) := by decide +kernel
theorem dX4_kindBy_27 : decode cX4_kindBy 27 = .ok (.goto 25, 3) := by decide +kernel
theorem dX4_kindBy_30 : decode cX4_kindBy 30 = .ok (.iload_n 0, 1) := by decide +kernel
theorem dX4_kindBy_31 : decode cX4_kindBy 31 = .ok (.bipush 117, 2) := by decide +kernel
theorem dX4_kindBy_33 : decode cX4_kindBy 33 = .ok (.if_icmp .ne 7, 3) := by decide +kernel
theorem dX4_kindBy_36 : decode cX4_kindBy 36 = .ok (.iconst 4, 1) := by decide +kernel
theorem dX4_kindBy_37 : decode cX4_kindBy 37 = .ok (.goto 15, 3) := by decide +kernel
theorem dX4_kindBy_40 : decode cX4_kindBy 40 = .ok (.iload_n 0, 1) := by decide +kernel
theorem dX4_kindBy_41 : decode cX4_kindBy 41 = .ok (.bipush 104, 2) := by decide +kernel
theorem dX4_kindBy_43 : decode cX4_kindBy 43 = .ok (.if_icmp .ne 7, 3) := by decide +kernel
theorem dX4_kindBy_46 : decode cX4_kindBy 46 = .ok (.iconst 5, 1) := by decide +kernel
theorem dX4_kindBy_47 : decode cX4_kindBy 47 = .ok (.goto 5, 3) := by decide +kernel
theorem dX4_kindBy_50 : decode cX4_kindBy 50 = .ok (.ldc 91, 2) := by decide +kernel
theorem dX4_kindBy_52 : decode cX4_kindBy 52 = .ok (.ireturn, 1) := by decide +kernel
theorem dX4_isThere_0 : decode cX4_isThere 0 = .ok (.aload_n 0, 1) := by decide +kernel
theorem dX4_isThere_1 : decode cX4_isThere 1 = .ok (.getfield 19, 3) := by decide +kernel
theorem dX4_isThere_4 : decode cX4_isThere 4 = .ok (.iconst 0, 1) := by decide +kernel
theorem dX4_isThere_5 : decode cX4_isThere 5 = .ok (.iaload, 1) := by decide +kernel
theorem dX4_isThere_6 : decode cX4_isThere 6 = .ok (.ifCond .le 7, 3) := by decide +kernel
theorem dX4_isThere_9 : decode cX4_isThere 9 = .ok (.iconst 1, 1) := by decide +kernel
theorem dX4_isThere_10 : decode cX4_isThere 10 = .ok (.goto 4, 3) := by decide +kernel
theorem dX4_isThere_13 : decode cX4_isThere 13 = .ok (.iconst 0, 1) := by decide +kernel
theorem dX4_isThere_14 : decode cX4_isThere 14 = .ok (.ireturn, 1) := by decide +kernel
set_option maxRecDepth 20000 in
theorem ggX4_isSquare_X4_in : GoodIn wsX4_isSquare wsX4_in := goodIn_r _ [5] (by decide +kernel) (by decide +kernel)
set_option maxRecDepth 20000 in
theorem gX4_isSquare_X4_in : GoodIn wsX4_isSquare (va_wsS RX4 58 yX4_in wsX4_in) := goodIn_app (goodIn_of _ (by decide +kernel)) ggX4_isSquare_X4_in
theorem dX4_isSquare_0 : decode cX4_isSquare 0 = .ok (.iload_n 1, 1) := by decide +kernel
theorem dX4_isSquare_1 : decode cX4_isSquare 1 = .ok (.i2l, 1) := by decide +kernel
theorem dX4_isSquare_2 : decode cX4_isSquare 2 = .ok (.lconst 0, 1) := by decide +kernel
theorem dX4_isSquare_3 : decode cX4_isSquare 3 = .ok (.aload_n 0, 1) := by decide +kernel
theorem dX4_isSquare_4 : decode cX4_isSquare 4 = .ok (.getfield 19, 3) := by decide +kernel
theorem dX4_isSquare_7 : decode cX4_isSquare 7 = .ok (.iconst 2, 1) := by decide +kernel
theorem dX4_isSquare_8 : decode cX4_isSquare 8 = .ok (.iaload, 1) := by decide +kernel
theorem dX4_isSquare_9 : decode cX4_isSquare 9 = .ok (.iconst 1, 1) := by decide +kernel
theorem dX4_isSquare_10 : decode cX4_isSquare 10 = .ok (.isub, 1) := by decide +kernel
theorem dX4_isSquare_11 : decode cX4_isSquare 11 = .ok (.i2l, 1) := by decide +kernel
theorem dX4_isSquare_12 : decode cX4_isSquare 12 = .ok (.invokestatic 58, 3) := by decide +kernel
theorem dX4_isSquare_15 : decode cX4_isSquare 15 = .ok (.ireturn, 1) := by decide +kernel
set_option maxRecDepth 20000 in
theorem ggX4_isVisitor_X4_in : GoodIn wsX4_isVisitor wsX4_in := goodIn_r _ [5] (by decide +kernel) (by decide +kernel)
set_option maxRecDepth 20000 in
theorem gX4_isVisitor_X4_in : GoodIn wsX4_isVisitor (va_wsS RX4 58 yX4_in wsX4_in) := goodIn_app (goodIn_of _ (by decide +kernel)) ggX4_isVisitor_X4_in
theorem dX4_isVisitor_0 : decode cX4_isVisitor 0 = .ok (.iload_n 1, 1) := by decide +kernel
theorem dX4_isVisitor_1 : decode cX4_isVisitor 1 = .ok (.i2l, 1) := by decide +kernel
theorem dX4_isVisitor_2 : decode cX4_isVisitor 2 = .ok (.lconst 0, 1) := by decide +kernel
theorem dX4_isVisitor_3 : decode cX4_isVisitor 3 = .ok (.aload_n 0, 1) := by decide +kernel
theorem dX4_isVisitor_4 : decode cX4_isVisitor 4 = .ok (.getfield 19, 3) := by decide +kernel
theorem dX4_isVisitor_7 : decode cX4_isVisitor 7 = .ok (.iconst 3, 1) := by decide +kernel
theorem dX4_isVisitor_8 : decode cX4_isVisitor 8 = .ok (.iaload, 1) := by decide +kernel
theorem dX4_isVisitor_9 : decode cX4_isVisitor 9 = .ok (.iconst 1, 1) := by decide +kernel
theorem dX4_isVisitor_10 : decode cX4_isVisitor 10 = .ok (.isub, 1) := by decide +kernel
theorem dX4_isVisitor_11 : decode cX4_isVisitor 11 = .ok (.i2l, 1) := by decide +kernel
theorem dX4_isVisitor_12 : decode cX4_isVisitor 12 = .ok (.invokestatic 58, 3) := by decide +kernel
theorem dX4_isVisitor_15 : decode cX4_isVisitor 15 = .ok (.ireturn, 1) := by decide +kernel
set_option maxRecDepth 20000 in
theorem ggX4_areSquares_X4_in : GoodIn wsX4_areSquares wsX4_in := goodIn_r _ [5] (by decide +kernel) (by decide +kernel)
set_option maxRecDepth 20000 in
theorem gX4_areSquares_X4_in : GoodIn wsX4_areSquares (va_wsS RX4 58 yX4_in wsX4_in) := goodIn_app (goodIn_of _ (by decide +kernel)) ggX4_areSquares_X4_in
theorem dX4_areSquares_0 : decode cX4_areSquares 0 = .ok (.iload_n 1, 1) := by decide +kernel
theorem dX4_areSquares_1 : decode cX4_areSquares 1 = .ok (.i2l, 1) := by decide +kernel
theorem dX4_areSquares_2 : decode cX4_areSquares 2 = .ok (.lconst 0, 1) := by decide +kernel
theorem dX4_areSquares_3 : decode cX4_areSquares 3 = .ok (.iconst 1, 1) := by decide +kernel
theorem dX4_areSquares_4 : decode cX4_areSquares 4 = .ok (.aload_n 0, 1) := by decide +kernel
theorem dX4_areSquares_5 : decode cX4_areSquares 5 = .ok (.getfield 19, 3) := by decide +kernel
theorem dX4_areSquares_8 : decode cX4_areSquares 8 = .ok (.iconst 2, 1) := by decide +kernel
theorem dX4_areSquares_9 : decode cX4_areSquares 9 = .ok (.iaload, 1) := by decide +kernel
theorem dX4_areSquares_10 : decode cX4_areSquares 10 = .ok (.ishl, 1) := by decide +kernel
theorem dX4_areSquares_11 : decode cX4_areSquares 11 = .ok (.iconst 1, 1) := by decide +kernel
theorem dX4_areSquares_12 : decode cX4_areSquares 12 = .ok (.isub, 1) := by decide +kernel
theorem dX4_areSquares_13 : decode cX4_areSquares 13 = .ok (.i2l, 1) := by decide +kernel
theorem dX4_areSquares_14 : decode cX4_areSquares 14 = .ok (.invokestatic 58, 3) := by decide +kernel
theorem dX4_areSquares_17 : decode cX4_areSquares 17 = .ok (.ireturn, 1) := by decide +kernel
set_option maxRecDepth 20000 in
theorem ggX4_areVisitors_X4_in : GoodIn wsX4_areVisitors wsX4_in := goodIn_r _ [5] (by decide +kernel) (by decide +kernel)
set_option maxRecDepth 20000 in
theorem gX4_areVisitors_X4_in : GoodIn wsX4_areVisitors (va_wsS RX4 58 yX4_in wsX4_in) := goodIn_app (goodIn_of _ (by decide +kernel)) ggX4_areVisitors_X4_in
theorem dX4_areVisitors_0 : decode cX4_areVisitors 0 = .ok (.iload_n 1, 1) := by decide +kernel
theorem dX4_areVisitors_1 : decode cX4_areVisitors 1 = .ok (.i2l, 1) := by decide +kernel
theorem dX4_areVisitors_2 : decode cX4_areVisitors 2 = .ok (.lconst 0, 1) := by decide +kernel
theorem dX4_areVisitors_3 : decode cX4_areVisitors 3 = .ok (.iconst 1, 1) := by decide +kernel
theorem dX4_areVisitors_4 : decode cX4_areVisitors 4 = .ok (.aload_n 0, 1) := by decide +kernel
theorem dX4_areVisitors_5 : decode cX4_areVisitors 5 = .ok (.getfield 19, 3) := by decide +kernel
theorem dX4_areVisitors_8 : decode cX4_areVisitors 8 = .ok (.iconst 3, 1) := by decide +kernel
theorem dX4_areVisitors_9 : decode cX4_areVisitors 9 = .ok (.iaload, 1) := by decide +kernel
theorem dX4_areVisitors_10 : decode cX4_areVisitors 10 = .ok (.ishl, 1) := by decide +kernel
theorem dX4_areVisitors_11 : decode cX4_areVisitors 11 = .ok (.iconst 1, 1) := by decide +kernel
theorem dX4_areVisitors_12 : decode cX4_areVisitors 12 = .ok (.isub, 1) := by decide +kernel
theorem dX4_areVisitors_13 : decode cX4_areVisitors 13 = .ok (.i2l, 1) := by decide +kernel
theorem dX4_areVisitors_14 : decode cX4_areVisitors 14 = .ok (.invokestatic 58, 3) := by decide +kernel
theorem dX4_areVisitors_17 : decode cX4_areVisitors 17 = .ok (.ireturn, 1) := by decide +kernel
theorem dX4_bits_0 : decode cX4_bits 0 = .ok (.iconst 0, 1) := by decide +kernel
theorem dX4_bits_1 : decode cX4_bits 1 = .ok (.istore_n 1, 1) := by decide +kernel
theorem dX4_bits_2 : decode cX4_bits 2 = .ok (.iconst 0, 1) := by decide +kernel
theorem dX4_bits_3 : decode cX4_bits 3 = .ok (.istore_n 2, 1) := by decide +kernel
theorem dX4_bits_4 : decode cX4_bits 4 = .ok (.iload_n 2, 1) := by decide +kernel
theorem dX4_bits_5 : decode cX4_bits 5 = .ok (.bipush 8, 2) := by decide +kernel
theorem dX4_bits_7 : decode cX4_bits 7 = .ok (.if_icmp .ge 17, 3) := by decide +kernel
theorem dX4_bits_10 : decode cX4_bits 10 = .ok (.iload_n 1, 1) := by decide +kernel
theorem dX4_bits_11 : decode cX4_bits 11 = .ok (.iload_n 0, 1) := by decide +kernel
theorem dX4_bits_12 : decode cX4_bits 12 = .ok (.iload_n 2, 1) := by decide +kernel
theorem dX4_bits_13 : decode cX4_bits 13 = .ok (.ishr, 1) := by decide +kernel
theorem dX4_bits_14 : decode cX4_bits 14 = .ok (.iconst 1, 1) := by decide +kernel
theorem dX4_bits_15 : decode cX4_bits 15 = .ok (.iand, 1) := by decide +kernel
theorem dX4_bits_16 : decode cX4_bits 16 = .ok (.iadd, 1) := by decide +kernel
theorem dX4_bits_17 : decode cX4_bits 17 = .ok (.istore_n 1, 1) := by decide +kernel
theorem dX4_bits_18 : decode cX4_bits 18 = .ok (.iinc 2 1, 3) := by decide +kernel
theorem dX4_bits_21 : decode cX4_bits 21 = .ok (.goto (-17), 3) := by decide +kernel
theorem dX4_bits_24 : decode cX4_bits 24 = .ok (.iload_n 1, 1) := by decide +kernel
theorem dX4_bits_25 : decode cX4_bits 25 = .ok (.ireturn, 1) := by decide +kernel
set_option maxRecDepth 20000 in
theorem ggX4_guestsOf_X4_wrongOf : GoodIn wsX4_guestsOf wsX4_wrongOf := goodIn_r _ [5, 6, 7, 4, 8, 9, 10, 11, 12, 13, 14, 15, 16, 17, 18, 19, 20, 21, 22, 23, 24, 25, 26, 27, 28, 29, 30, 31, 32] (by decide +kernel) (by decide +kernel)
set_option maxRecDepth 20000 in
theorem gX4_guestsOf_X4_wrongOf : GoodIn wsX4_guestsOf (va_wsS RX4 186 yX4_wrongOf wsX4_wrongOf) := goodIn_app (goodIn_of _ (by decide +kernel)) ggX4_guestsOf_X4_wrongOf
theorem dX4_guestsOf_0 : decode cX4_guestsOf 0 = .ok (.iconst 0, 1) := by decide +kernel
theorem dX4_guestsOf_1 : decode cX4_guestsOf 1 = .ok (.istore_n 2, 1) := by decide +kernel
theorem dX4_guestsOf_2 : decode cX4_guestsOf 2 = .ok (.iconst 0, 1) := by decide +kernel
theorem dX4_guestsOf_3 : decode cX4_guestsOf 3 = .ok (.istore_n 3, 1) := by decide +kernel
theorem dX4_guestsOf_4 : decode cX4_guestsOf 4 = .ok (.iload_n 3, 1) := by decide +kernel
theorem dX4_guestsOf_5 : decode cX4_guestsOf 5 = .ok (.aload_n 0, 1) := by decide +kernel
theorem dX4_guestsOf_6 : decode cX4_guestsOf 6 = .ok (.getfield 19, 3) := by decide +kernel
theorem dX4_guestsOf_9 : decode cX4_guestsOf 9 = .ok (.iconst 3, 1) := by decide +kernel
theorem dX4_guestsOf_10 : decode cX4_guestsOf 10 = .ok (.iaload, 1) := by decide +kernel
theorem dX4_guestsOf_11 : decode cX4_guestsOf 11 = .ok (.if_icmp .ge 37, 3) := by decide +kernel
theorem dX4_guestsOf_14 : decode cX4_guestsOf 14 = .ok (.iload_n 2, 1) := by decide +kernel
theorem dX4_guestsOf_15 : decode cX4_guestsOf 15 = .ok (.aload_n 0, 1) := by decide +kernel
theorem dX4_guestsOf_16 : decode cX4_guestsOf 16 = .ok (.getfield 19, 3) := by decide +kernel
theorem dX4_guestsOf_19 : decode cX4_guestsOf 19 = .ok (.iload_n 3, 1) := by decide +kernel
theorem dX4_guestsOf_20 : decode cX4_guestsOf 20 = .ok (.iload_n 1, 1) := by decide +kernel
theorem dX4_guestsOf_21 : decode cX4_guestsOf 21 = .ok (.invokestatic 186, 3) := by decide +kernel
theorem dX4_guestsOf_24 : decode cX4_guestsOf 24 = .ok (.aload_n 0, 1) := by decide +kernel
theorem dX4_guestsOf_25 : decode cX4_guestsOf 25 = .ok (.getfield 19, 3) := by decide +kernel
theorem dX4_guestsOf_28 : decode cX4_guestsOf 28 = .ok (.iconst 1, 1) := by decide +kernel
theorem dX4_guestsOf_29 : decode cX4_guestsOf 29 = .ok (.iaload, 1) := by decide +kernel
theorem dX4_guestsOf_30 : decode cX4_guestsOf 30 = .ok (.if_icmp .gt 9, 3) := by decide +kernel
theorem dX4_guestsOf_33 : decode cX4_guestsOf 33 = .ok (.iconst 1, 1) := by decide +kernel
theorem dX4_guestsOf_34 : decode cX4_guestsOf 34 = .ok (.iload_n 3, 1) := by decide +kernel
theorem dX4_guestsOf_35 : decode cX4_guestsOf 35 = .ok (.ishl, 1) := by decide +kernel
theorem dX4_guestsOf_36 : decode cX4_guestsOf 36 = .ok (.goto 4, 3) := by decide +kernel
theorem dX4_guestsOf_39 : decode cX4_guestsOf 39 = .ok (.iconst 0, 1) := by decide +kernel
theorem dX4_guestsOf_40 : decode cX4_guestsOf 40 = .ok (.ior, 1) := by decide +kernel
theorem dX4_guestsOf_41 : decode cX4_guestsOf 41 = .ok (.istore_n 2, 1) := by decide +kernel
theorem dX4_guestsOf_42 : decode cX4_guestsOf 42 = .ok (.iinc 3 1, 3) := by decide +kernel
theorem dX4_guestsOf_45 : decode cX4_guestsOf 45 = .ok (.goto (-41), 3) := by decide +kernel
theorem dX4_guestsOf_48 : decode cX4_guestsOf 48 = .ok (.iload_n 2, 1) := by decide +kernel
theorem dX4_guestsOf_49 : decode cX4_guestsOf 49 = .ok (.ireturn, 1) := by decide +kernel
set_option maxRecDepth 20000 in
theorem ggX4_clicksOf_X4_clicksIt : GoodIn wsX4_clicksOf wsX4_clicksIt := goodIn_r _ [5, 6, 7, 4, 8, 9, 10, 11, 12, 13, 14, 15, 16, 17] (by decide +kernel) (by decide +kernel)
set_option maxRecDepth 20000 in
theorem gX4_clicksOf_X4_clicksIt : GoodIn wsX4_clicksOf (va_wsS RX4 172 yX4_clicksIt wsX4_clicksIt) := goodIn_app (goodIn_of _ (by decide +kernel)) ggX4_clicksOf_X4_clicksIt
theorem dX4_clicksOf_0 : decode cX4_clicksOf 0 = .ok (.iconst 0, 1) := by decide +kernel
theorem dX4_clicksOf_1 : decode cX4_clicksOf 1 = .ok (.istore_n 2, 1) := by decide +kernel
theorem dX4_clicksOf_2 : decode cX4_clicksOf 2 = .ok (.iconst 0, 1) := by decide +kernel
theorem dX4_clicksOf_3 : decode cX4_clicksOf 3 = .ok (.istore_n 3, 1) := by decide +kernel
theorem dX4_clicksOf_4 : decode cX4_clicksOf 4 = .ok (.iload_n 3, 1) := by decide +kernel
theorem dX4_clicksOf_5 : decode cX4_clicksOf 5 = .ok (.aload_n 0, 1) := by decide +kernel
theorem dX4_clicksOf_6 : decode cX4_clicksOf 6 = .ok (.getfield 19, 3) := by decide +kernel
theorem dX4_clicksOf_9 : decode cX4_clicksOf 9 = .ok (.iconst 2, 1) := by decide +kernel
theorem dX4_clicksOf_10 : decode cX4_clicksOf 10 = .ok (.iaload, 1) := by decide +kernel
theorem dX4_clicksOf_11 : decode cX4_clicksOf 11 = .ok (.if_icmp .ge 31, 3) := by decide +kernel
theorem dX4_clicksOf_14 : decode cX4_clicksOf 14 = .ok (.iload_n 2, 1) := by decide +kernel
theorem dX4_clicksOf_15 : decode cX4_clicksOf 15 = .ok (.aload_n 0, 1) := by decide +kernel
theorem dX4_clicksOf_16 : decode cX4_clicksOf 16 = .ok (.getfield 19, 3) := by decide +kernel
theorem dX4_clicksOf_19 : decode cX4_clicksOf 19 = .ok (.iload_n 1, 1) := by decide +kernel
theorem dX4_clicksOf_20 : decode cX4_clicksOf 20 = .ok (.iload_n 3, 1) := by decide +kernel
theorem dX4_clicksOf_21 : decode cX4_clicksOf 21 = .ok (.invokestatic 172, 3) := by decide +kernel
theorem dX4_clicksOf_24 : decode cX4_clicksOf 24 = .ok (.ifCond .eq 9, 3) := by decide +kernel
theorem dX4_clicksOf_27 : decode cX4_clicksOf 27 = .ok (.iconst 1, 1) := by decide +kernel
theorem dX4_clicksOf_28 : decode cX4_clicksOf 28 = .ok (.iload_n 3, 1) := by decide +kernel
theorem dX4_clicksOf_29 : decode cX4_clicksOf 29 = .ok (.ishl, 1) := by decide +kernel
theorem dX4_clicksOf_30 : decode cX4_clicksOf 30 = .ok (.goto 4, 3) := by decide +kernel
theorem dX4_clicksOf_33 : decode cX4_clicksOf 33 = .ok (.iconst 0, 1) := by decide +kernel
theorem dX4_clicksOf_34 : decode cX4_clicksOf 34 = .ok (.ior, 1) := by decide +kernel
theorem dX4_clicksOf_35 : decode cX4_clicksOf 35 = .ok (.istore_n 2, 1) := by decide +kernel
theorem dX4_clicksOf_36 : decode cX4_clicksOf 36 = .ok (.iinc 3 1, 3) := by decide +kernel
theorem dX4_clicksOf_39 : decode cX4_clicksOf 39 = .ok (.goto (-35), 3) := by decide +kernel
theorem dX4_clicksOf_42 : decode cX4_clicksOf 42 = .ok (.iload_n 2, 1) := by decide +kernel
theorem dX4_clicksOf_43 : decode cX4_clicksOf 43 = .ok (.ireturn, 1) := by decide +kernel
set_option maxRecDepth 20000 in
theorem ggX4_fewestOf_X4_bits : GoodIn wsX4_fewestOf wsX4_bits := goodIn_r _ [5] (by decide +kernel) (by decide +kernel)
set_option maxRecDepth 20000 in
theorem gX4_fewestOf_X4_bits : GoodIn wsX4_fewestOf (va_wsS RX4 220 yX4_bits wsX4_bits) := goodIn_app (goodIn_of _ (by decide +kernel)) ggX4_fewestOf_X4_bits
set_option maxRecDepth 20000 in
theorem ggX4_fewestOf_X4_guestsOf : GoodIn wsX4_fewestOf wsX4_guestsOf := goodIn_r _ [9, 10, 11, 12, 4, 13, 14, 15, 16, 17, 18, 19, 20, 21, 22, 23, 24, 25, 26, 27, 28, 29, 30, 31, 32, 33, 34, 35, 36, 37, 38, 39, 40, 41, 42, 43, 44, 45, 46, 47, 48, 49, 50, 51, 52, 53, 54, 55, 56, 57, 58, 59, 60, 61, 62, 63, 64] (by decide +kernel) (by decide +kernel)
set_option maxRecDepth 20000 in
theorem gX4_fewestOf_X4_guestsOf : GoodIn wsX4_fewestOf (wsV RX4 217 RX4 yX4_guestsOf wsX4_guestsOf) := goodIn_app (goodIn_of _ (by decide +kernel)) ggX4_fewestOf_X4_guestsOf
theorem dX4_fewestOf_0 : decode cX4_fewestOf 0 = .ok (.ldc 91, 2) := by decide +kernel
theorem dX4_fewestOf_2 : decode cX4_fewestOf 2 = .ok (.istore_n 3, 1) := by decide +kernel
theorem dX4_fewestOf_3 : decode cX4_fewestOf 3 = .ok (.iconst 0, 1) := by decide +kernel
theorem dX4_fewestOf_4 : decode cX4_fewestOf 4 = .ok (.istore 4, 2) := by decide +kernel
theorem dX4_fewestOf_6 : decode cX4_fewestOf 6 = .ok (.iload 4, 2) := by decide +kernel
theorem dX4_fewestOf_8 : decode cX4_fewestOf 8 = .ok (.iload_n 1, 1) := by decide +kernel
theorem dX4_fewestOf_9 : decode cX4_fewestOf 9 = .ok (.if_icmp .gt 65, 3) := by decide +kernel
theorem dX4_fewestOf_12 : decode cX4_fewestOf 12 = .ok (.iload 4, 2) := by decide +kernel
theorem dX4_fewestOf_14 : decode cX4_fewestOf 14 = .ok (.iload_n 1, 1) := by decide +kernel
theorem dX4_fewestOf_15 : decode cX4_fewestOf 15 = .ok (.iconst (-1), 1) := by decide +kernel
theorem dX4_fewestOf_16 : decode cX4_fewestOf 16 = .ok (.ixor, 1) := by decide +kernel
theorem dX4_fewestOf_17 : decode cX4_fewestOf 17 = .ok (.iand, 1) := by decide +kernel
theorem dX4_fewestOf_18 : decode cX4_fewestOf 18 = .ok (.ifCond .ne 25, 3) := by decide +kernel
theorem dX4_fewestOf_21 : decode cX4_fewestOf 21 = .ok (.iload_n 3, 1) := by decide +kernel
theorem dX4_fewestOf_22 : decode cX4_fewestOf 22 = .ok (.ldc 91, 2) := by decide +kernel
theorem dX4_fewestOf_24 : decode cX4_fewestOf 24 = .ok (.if_icmp .eq 15, 3) := by decide +kernel
theorem dX4_fewestOf_27 : decode cX4_fewestOf 27 = .ok (.iload 4, 2) := by decide +kernel
theorem dX4_fewestOf_29 : decode cX4_fewestOf 29 = .ok (.invokestatic 220, 3) := by decide +kernel
theorem dX4_fewestOf_32 : decode cX4_fewestOf 32 = .ok (.iload_n 3, 1) := by decide +kernel
theorem dX4_fewestOf_33 : decode cX4_fewestOf 33 = .ok (.invokestatic 220, 3) := by decide +kernel
theorem dX4_fewestOf_36 : decode cX4_fewestOf 36 = .ok (.if_icmp .ge 7, 3) := by decide +kernel
theorem dX4_fewestOf_39 : decode cX4_fewestOf 39 = .ok (.iconst 1, 1) := by decide +kernel
theorem dX4_fewestOf_40 : decode cX4_fewestOf 40 = .ok (.goto 4, 3) := by decide +kernel
theorem dX4_fewestOf_43 : decode cX4_fewestOf 43 = .ok (.iconst 0, 1) := by decide +kernel
theorem dX4_fewestOf_44 : decode cX4_fewestOf 44 = .ok (.istore 5, 2) := by decide +kernel
theorem dX4_fewestOf_46 : decode cX4_fewestOf 46 = .ok (.iload 5, 2) := by decide +kernel
theorem dX4_fewestOf_48 : decode cX4_fewestOf 48 = .ok (.ifCond .eq 18, 3) := by decide +kernel
theorem dX4_fewestOf_51 : decode cX4_fewestOf 51 = .ok (.aload_n 0, 1) := by decide +kernel
theorem dX4_fewestOf_52 : decode cX4_fewestOf 52 = .ok (.iload 4, 2) := by decide +kernel
theorem dX4_fewestOf_54 : decode cX4_fewestOf 54 = .ok (.invokevirtual 217, 3) := by decide +kernel
theorem dX4_fewestOf_57 : decode cX4_fewestOf 57 = .ok (.iload_n 2, 1) := by decide +kernel
theorem dX4_fewestOf_58 : decode cX4_fewestOf 58 = .ok (.if_icmp .ne 8, 3) := by decide +kernel
theorem dX4_fewestOf_61 : decode cX4_fewestOf 61 = .ok (.iload 4, 2) := by decide +kernel
theorem dX4_fewestOf_63 : decode cX4_fewestOf 63 = .ok (.goto 4, 3) := by decide +kernel
theorem dX4_fewestOf_66 : decode cX4_fewestOf 66 = .ok (.iload_n 3, 1) := by decide +kernel
theorem dX4_fewestOf_67 : decode cX4_fewestOf 67 = .ok (.istore_n 3, 1) := by decide +kernel
theorem dX4_fewestOf_68 : decode cX4_fewestOf 68 = .ok (.iinc 4 1, 3) := by decide +kernel
theorem dX4_fewestOf_71 : decode cX4_fewestOf 71 = .ok (.goto (-65), 3) := by decide +kernel
theorem dX4_fewestOf_74 : decode cX4_fewestOf 74 = .ok (.iload_n 3, 1) := by decide +kernel
theorem dX4_fewestOf_75 : decode cX4_fewestOf 75 = .ok (.ireturn, 1) := by decide +kernel
set_option maxRecDepth 20000 in
theorem ggX4_allClickSo_X4_guest : GoodIn wsX4_allClickSo wsX4_guest := goodIn_r _ [6] (by decide +kernel) (by decide +kernel)
set_option maxRecDepth 20000 in
theorem gX4_allClickSo_X4_guest : GoodIn wsX4_allClickSo (va_wsS RX4 161 yX4_guest wsX4_guest) := goodIn_app (goodIn_of _ (by decide +kernel)) ggX4_allClickSo_X4_guest
set_option maxRecDepth 20000 in
theorem ggX4_allClickSo_X4_clicksBy : GoodIn wsX4_allClickSo wsX4_clicksBy := goodIn_r _ [9, 10, 11, 5, 12] (by decide +kernel) (by decide +kernel)
set_option maxRecDepth 20000 in
theorem gX4_allClickSo_X4_clicksBy : GoodIn wsX4_allClickSo (va_wsS RX4 164 yX4_clicksBy wsX4_clicksBy) := goodIn_app (goodIn_of _ (by decide +kernel)) ggX4_allClickSo_X4_clicksBy
theorem dX4_allClickSo_0 : decode cX4_allClickSo 0 = .ok (.iconst 1, 1) := by decide +kernel
theorem dX4_allClickSo_1 : decode cX4_allClickSo 1 = .ok (.istore 4, 2) := by decide +kernel
theorem dX4_allClickSo_3 : decode cX4_allClickSo 3 = .ok (.iconst 0, 1) := by decide +kernel
theorem dX4_allClickSo_4 : decode cX4_allClickSo 4 = .ok (.istore 5, 2) := by decide +kernel
theorem dX4_allClickSo_6 : decode cX4_allClickSo 6 = .ok (.iload 5, 2) := by decide +kernel
theorem dX4_allClickSo_8 : decode cX4_allClickSo 8 = .ok (.aload_n 0, 1) := by decide +kernel
theorem dX4_allClickSo_9 : decode cX4_allClickSo 9 = .ok (.getfield 19, 3) := by decide +kernel
theorem dX4_allClickSo_12 : decode cX4_allClickSo 12 = .ok (.iconst 3, 1) := by decide +kernel
theorem dX4_allClickSo_13 : decode cX4_allClickSo 13 = .ok (.iaload, 1) := by decide +kernel
theorem dX4_allClickSo_14 : decode cX4_allClickSo 14 = .ok (.if_icmp .ge 66, 3) := by decide +kernel
theorem dX4_allClickSo_17 : decode cX4_allClickSo 17 = .ok (.iload 4, 2) := by decide +kernel
theorem dX4_allClickSo_19 : decode cX4_allClickSo 19 = .ok (.ifCond .eq 52, 3) := by decide +kernel
theorem dX4_allClickSo_22 : decode cX4_allClickSo 22 = .ok (.iload_n 1, 1) := by decide +kernel
theorem dX4_allClickSo_23 : decode cX4_allClickSo 23 = .ok (.iload_n 2, 1) := by decide +kernel
theorem dX4_allClickSo_24 : decode cX4_allClickSo 24 = .ok (.aload_n 0, 1) := by decide +kernel
theorem dX4_allClickSo_25 : decode cX4_allClickSo 25 = .ok (.getfield 19, 3) := by decide +kernel
theorem dX4_allClickSo_28 : decode cX4_allClickSo 28 = .ok (.iload 5, 2) := by decide +kernel
theorem dX4_allClickSo_30 : decode cX4_allClickSo 30 = .ok (.iconst 0, 1) := by decide +kernel
theorem dX4_allClickSo_31 : decode cX4_allClickSo 31 = .ok (.invokestatic 161, 3) := by decide +kernel
theorem dX4_allClickSo_34 : decode cX4_allClickSo 34 = .ok (.aload_n 0, 1) := by decide +kernel
theorem dX4_allClickSo_35 : decode cX4_allClickSo 35 = .ok (.getfield 19, 3) := by decide +kernel
theorem dX4_allClickSo_38 : decode cX4_allClickSo 38 = .ok (.iload 5, 2) := by decide +kernel
theorem dX4_allClickSo_40 : decode cX4_allClickSo 40 = .ok (.iconst 1, 1) := by decide +kernel
theorem dX4_allClickSo_41 : decode cX4_allClickSo 41 = .ok (.invokestatic 161, 3) := by decide +kernel
theorem dX4_allClickSo_44 : decode cX4_allClickSo 44 = .ok (.invokestatic 164, 3) := by decide +kernel
theorem dX4_allClickSo_47 : decode cX4_allClickSo 47 = .ok (.ifCond .eq 7, 3) := by decide +kernel
theorem dX4_allClickSo_50 : decode cX4_allClickSo 50 = .ok (.iconst 1, 1) := by decide +kernel
theorem dX4_allClickSo_51 : decode cX4_allClickSo 51 = .ok (.goto 4, 3) := by decide +kernel
theorem dX4_allClickSo_54 : decode cX4_allClickSo 54 = .ok (.iconst 0, 1) := by decide +kernel
theorem dX4_allClickSo_55 : decode cX4_allClickSo 55 = .ok (.aload_n 0, 1) := by decide +kernel
theorem dX4_allClickSo_56 : decode cX4_allClickSo 56 = .ok (.getfield 16, 3) := by decide +kernel
theorem dX4_allClickSo_59 : decode cX4_allClickSo 59 = .ok (.iload_n 3, 1) := by decide +kernel
theorem dX4_allClickSo_60 : decode cX4_allClickSo 60 = .ok (.iload 5, 2) := by decide +kernel
theorem dX4_allClickSo_62 : decode cX4_allClickSo 62 = .ok (.iadd, 1) := by decide +kernel
theorem dX4_allClickSo_63 : decode cX4_allClickSo 63 = .ok (.iaload, 1) := by decide +kernel
theorem dX4_allClickSo_64 : decode cX4_allClickSo 64 = .ok (.if_icmp .ne 7, 3) := by decide +kernel
theorem dX4_allClickSo_67 : decode cX4_allClickSo 67 = .ok (.iconst 1, 1) := by decide +kernel
theorem dX4_allClickSo_68 : decode cX4_allClickSo 68 = .ok (.goto 4, 3) := by decide +kernel
theorem dX4_allClickSo_71 : decode cX4_allClickSo 71 = .ok (.iconst 0, 1) := by decide +kernel
theorem dX4_allClickSo_72 : decode cX4_allClickSo 72 = .ok (.istore 4, 2) := by decide +kernel
theorem dX4_allClickSo_74 : decode cX4_allClickSo 74 = .ok (.iinc 5 1, 3) := by decide +kernel
theorem dX4_allClickSo_77 : decode cX4_allClickSo 77 = .ok (.goto (-71), 3) := by decide +kernel
theorem dX4_allClickSo_80 : decode cX4_allClickSo 80 = .ok (.iload 4, 2) := by decide +kernel
theorem dX4_allClickSo_82 : decode cX4_allClickSo 82 = .ok (.ireturn, 1) := by decide +kernel
set_option maxRecDepth 20000 in
theorem ggX4_clicksSo_X4_of : GoodIn wsX4_clicksSo wsX4_of := goodIn_r _ [6] (by decide +kernel) (by decide +kernel)
set_option maxRecDepth 20000 in
theorem gX4_clicksSo_X4_of : GoodIn wsX4_clicksSo (va_wsS RX4 157 yX4_of wsX4_of) := goodIn_app (goodIn_of _ (by decide +kernel)) ggX4_clicksSo_X4_of
set_option maxRecDepth 20000 in
theorem ggX4_clicksSo_X4_clicksBy : GoodIn wsX4_clicksSo wsX4_clicksBy := goodIn_r _ [9, 10, 11, 5, 12] (by decide +kernel) (by decide +kernel)
set_option maxRecDepth 20000 in
theorem gX4_clicksSo_X4_clicksBy : GoodIn wsX4_clicksSo (va_wsS RX4 164 yX4_clicksBy wsX4_clicksBy) := goodIn_app (goodIn_of _ (by decide +kernel)) ggX4_clicksSo_X4_clicksBy
theorem dX4_clicksSo_0 : decode cX4_clicksSo 0 = .ok (.iconst 1, 1) := by decide +kernel
theorem dX4_clicksSo_1 : decode cX4_clicksSo 1 = .ok (.istore 4, 2) := by decide +kernel
theorem dX4_clicksSo_3 : decode cX4_clicksSo 3 = .ok (.iconst 0, 1) := by decide +kernel
theorem dX4_clicksSo_4 : decode cX4_clicksSo 4 = .ok (.istore 5, 2) := by decide +kernel
theorem dX4_clicksSo_6 : decode cX4_clicksSo 6 = .ok (.iload 5, 2) := by decide +kernel
theorem dX4_clicksSo_8 : decode cX4_clicksSo 8 = .ok (.aload_n 0, 1) := by decide +kernel
theorem dX4_clicksSo_9 : decode cX4_clicksSo 9 = .ok (.getfield 19, 3) := by decide +kernel
theorem dX4_clicksSo_12 : decode cX4_clicksSo 12 = .ok (.iconst 2, 1) := by decide +kernel
theorem dX4_clicksSo_13 : decode cX4_clicksSo 13 = .ok (.iaload, 1) := by decide +kernel
theorem dX4_clicksSo_14 : decode cX4_clicksSo 14 = .ok (.if_icmp .ge 66, 3) := by decide +kernel
theorem dX4_clicksSo_17 : decode cX4_clicksSo 17 = .ok (.iload 4, 2) := by decide +kernel
theorem dX4_clicksSo_19 : decode cX4_clicksSo 19 = .ok (.ifCond .eq 52, 3) := by decide +kernel
theorem dX4_clicksSo_22 : decode cX4_clicksSo 22 = .ok (.aload_n 0, 1) := by decide +kernel
theorem dX4_clicksSo_23 : decode cX4_clicksSo 23 = .ok (.getfield 19, 3) := by decide +kernel
theorem dX4_clicksSo_26 : decode cX4_clicksSo 26 = .ok (.iload 5, 2) := by decide +kernel
theorem dX4_clicksSo_28 : decode cX4_clicksSo 28 = .ok (.iconst 0, 1) := by decide +kernel
theorem dX4_clicksSo_29 : decode cX4_clicksSo 29 = .ok (.invokestatic 157, 3) := by decide +kernel
theorem dX4_clicksSo_32 : decode cX4_clicksSo 32 = .ok (.aload_n 0, 1) := by decide +kernel
theorem dX4_clicksSo_33 : decode cX4_clicksSo 33 = .ok (.getfield 19, 3) := by decide +kernel
theorem dX4_clicksSo_36 : decode cX4_clicksSo 36 = .ok (.iload 5, 2) := by decide +kernel
theorem dX4_clicksSo_38 : decode cX4_clicksSo 38 = .ok (.iconst 1, 1) := by decide +kernel
theorem dX4_clicksSo_39 : decode cX4_clicksSo 39 = .ok (.invokestatic 157, 3) := by decide +kernel
theorem dX4_clicksSo_42 : decode cX4_clicksSo 42 = .ok (.iload_n 1, 1) := by decide +kernel
theorem dX4_clicksSo_43 : decode cX4_clicksSo 43 = .ok (.iload_n 2, 1) := by decide +kernel
theorem dX4_clicksSo_44 : decode cX4_clicksSo 44 = .ok (.invokestatic 164, 3) := by decide +kernel
theorem dX4_clicksSo_47 : decode cX4_clicksSo 47 = .ok (.ifCond .eq 7, 3) := by decide +kernel
theorem dX4_clicksSo_50 : decode cX4_clicksSo 50 = .ok (.iconst 1, 1) := by decide +kernel
theorem dX4_clicksSo_51 : decode cX4_clicksSo 51 = .ok (.goto 4, 3) := by decide +kernel
theorem dX4_clicksSo_54 : decode cX4_clicksSo 54 = .ok (.iconst 0, 1) := by decide +kernel
theorem dX4_clicksSo_55 : decode cX4_clicksSo 55 = .ok (.aload_n 0, 1) := by decide +kernel
theorem dX4_clicksSo_56 : decode cX4_clicksSo 56 = .ok (.getfield 16, 3) := by decide +kernel
theorem dX4_clicksSo_59 : decode cX4_clicksSo 59 = .ok (.iload_n 3, 1) := by decide +kernel
theorem dX4_clicksSo_60 : decode cX4_clicksSo 60 = .ok (.iload 5, 2) := by decide +kernel
theorem dX4_clicksSo_62 : decode cX4_clicksSo 62 = .ok (.iadd, 1) := by decide +kernel
theorem dX4_clicksSo_63 : decode cX4_clicksSo 63 = .ok (.iaload, 1) := by decide +kernel
theorem dX4_clicksSo_64 : decode cX4_clicksSo 64 = .ok (.if_icmp .ne 7, 3) := by decide +kernel
theorem dX4_clicksSo_67 : decode cX4_clicksSo 67 = .ok (.iconst 1, 1) := by decide +kernel
theorem dX4_clicksSo_68 : decode cX4_clicksSo 68 = .ok (.goto 4, 3) := by decide +kernel
theorem dX4_clicksSo_71 : decode cX4_clicksSo 71 = .ok (.iconst 0, 1) := by decide +kernel
theorem dX4_clicksSo_72 : decode cX4_clicksSo 72 = .ok (.istore 4, 2) := by decide +kernel
theorem dX4_clicksSo_74 : decode cX4_clicksSo 74 = .ok (.iinc 5 1, 3) := by decide +kernel
theorem dX4_clicksSo_77 : decode cX4_clicksSo 77 = .ok (.goto (-71), 3) := by decide +kernel
theorem dX4_clicksSo_80 : decode cX4_clicksSo 80 = .ok (.iload 4, 2) := by decide +kernel
theorem dX4_clicksSo_82 : decode cX4_clicksSo 82 = .ok (.ireturn, 1) := by decide +kernel
theorem dX4_isOf_0 : decode cX4_isOf 0 = .ok (.iload_n 1, 1) := by decide +kernel
theorem dX4_isOf_1 : decode cX4_isOf 1 = .ok (.ifCond .eq 28, 3) := by decide +kernel
theorem dX4_isOf_4 : decode cX4_isOf 4 = .ok (.iload_n 0, 1) := by decide +kernel
theorem dX4_isOf_5 : decode cX4_isOf 5 = .ok (.iload_n 1, 1) := by decide +kernel
theorem dX4_isOf_6 : decode cX4_isOf 6 = .ok (.if_icmp .eq 23, 3) := by decide +kernel
theorem dX4_isOf_9 : decode cX4_isOf 9 = .ok (.iload_n 1, 1) := by decide +kernel
theorem dX4_isOf_10 : decode cX4_isOf 10 = .ok (.iconst 1, 1) := by decide +kernel
theorem dX4_isOf_11 : decode cX4_isOf 11 = .ok (.if_icmp .ne 8, 3) := by decide +kernel
theorem dX4_isOf_14 : decode cX4_isOf 14 = .ok (.iload_n 0, 1) := by decide +kernel
theorem dX4_isOf_15 : decode cX4_isOf 15 = .ok (.iconst 4, 1) := by decide +kernel
theorem dX4_isOf_16 : decode cX4_isOf 16 = .ok (.if_icmp .lt 13, 3) := by decide +kernel
theorem dX4_isOf_19 : decode cX4_isOf 19 = .ok (.iload_n 1, 1) := by decide +kernel
theorem dX4_isOf_20 : decode cX4_isOf 20 = .ok (.iconst 4, 1) := by decide +kernel
theorem dX4_isOf_21 : decode cX4_isOf 21 = .ok (.if_icmp .ne 12, 3) := by decide +kernel
theorem dX4_isOf_24 : decode cX4_isOf 24 = .ok (.iload_n 0, 1) := by decide +kernel
theorem dX4_isOf_25 : decode cX4_isOf 25 = .ok (.iconst 5, 1) := by decide +kernel
theorem dX4_isOf_26 : decode cX4_isOf 26 = .ok (.if_icmp .ne 7, 3) := by decide +kernel
theorem dX4_isOf_29 : decode cX4_isOf 29 = .ok (.iconst 1, 1) := by decide +kernel
theorem dX4_isOf_30 : decode cX4_isOf 30 = .ok (.goto 4, 3) := by decide +kernel
theorem dX4_isOf_33 : decode cX4_isOf 33 = .ok (.iconst 0, 1) := by decide +kernel
theorem dX4_isOf_34 : decode cX4_isOf 34 = .ok (.ireturn, 1) := by decide +kernel
