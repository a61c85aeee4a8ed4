set_option maxRecDepth 20000 in
theorem ggX4_rowFound_X4_finding : GoodIn wsX4_rowFound wsX4_finding := goodIn_r _ [8, 3, 9, 10, 11, 12, 13, 14, 15, 16, 17, 18, 19, 20, 21, 22, 23, 24, 25, 26, 27, 28, 29, 30, 31, 32, 33] (by decide +kernel) (by decide +kernel)
set_option maxRecDepth 20000 in
theorem gX4_rowFound_X4_finding : GoodIn wsX4_rowFound (wsV RX4 69 RX4 yX4_finding wsX4_finding) := goodIn_app (goodIn_of _ (by decide +kernel)) ggX4_rowFound_X4_finding
theorem dX4_rowFound_0 : decode cX4_rowFound 0 = .ok (.aload_n 0, 1) := by decide +kernel
theorem dX4_rowFound_1 : decode cX4_rowFound 1 = .ok (.getfield 7, 3) := by decide +kernel
theorem dX4_rowFound_4 : decode cX4_rowFound 4 = .ok (.iload_n 1, 1) := by decide +kernel
theorem dX4_rowFound_5 : decode cX4_rowFound 5 = .ok (.iaload, 1) := by decide +kernel
theorem dX4_rowFound_6 : decode cX4_rowFound 6 = .ok (.ifCond .ge 9, 3) := by decide +kernel
theorem dX4_rowFound_9 : decode cX4_rowFound 9 = .ok (.aload_n 0, 1) := by decide +kernel
theorem dX4_rowFound_10 : decode cX4_rowFound 10 = .ok (.iconst 1, 1) := by decide +kernel
theorem dX4_rowFound_11 : decode cX4_rowFound 11 = .ok (.invokevirtual 69, 3) := by decide +kernel
theorem dX4_rowFound_14 : decode cX4_rowFound 14 = .ok (.ireturn, 1) := by decide +kernel
theorem dX4_rowFound_15 : decode cX4_rowFound 15 = .ok (.iload_n 2, 1) := by decide +kernel
theorem dX4_rowFound_16 : decode cX4_rowFound 16 = .ok (.ifCond .lt 19, 3) := by decide +kernel
theorem dX4_rowFound_19 : decode cX4_rowFound 19 = .ok (.iload_n 2, 1) := by decide +kernel
theorem dX4_rowFound_20 : decode cX4_rowFound 20 = .ok (.i2l, 1) := by decide +kernel
theorem dX4_rowFound_21 : decode cX4_rowFound 21 = .ok (.iload_n 3, 1) := by decide +kernel
theorem dX4_rowFound_22 : decode cX4_rowFound 22 = .ok (.i2l, 1) := by decide +kernel
theorem dX4_rowFound_23 : decode cX4_rowFound 23 = .ok (.ladd, 1) := by decide +kernel
theorem dX4_rowFound_24 : decode cX4_rowFound 24 = .ok (.aload_n 0, 1) := by decide +kernel
theorem dX4_rowFound_25 : decode cX4_rowFound 25 = .ok (.getfield 13, 3) := by decide +kernel
theorem dX4_rowFound_28 : decode cX4_rowFound 28 = .ok (.iload_n 1, 1) := by decide +kernel
theorem dX4_rowFound_29 : decode cX4_rowFound 29 = .ok (.iaload, 1) := by decide +kernel
theorem dX4_rowFound_30 : decode cX4_rowFound 30 = .ok (.i2l, 1) := by decide +kernel
theorem dX4_rowFound_31 : decode cX4_rowFound 31 = .ok (.lcmp, 1) := by decide +kernel
theorem dX4_rowFound_32 : decode cX4_rowFound 32 = .ok (.ifCond .le 9, 3) := by decide +kernel
theorem dX4_rowFound_35 : decode cX4_rowFound 35 = .ok (.aload_n 0, 1) := by decide +kernel
theorem dX4_rowFound_36 : decode cX4_rowFound 36 = .ok (.iconst 2, 1) := by decide +kernel
theorem dX4_rowFound_37 : decode cX4_rowFound 37 = .ok (.invokevirtual 69, 3) := by decide +kernel
theorem dX4_rowFound_40 : decode cX4_rowFound 40 = .ok (.ireturn, 1) := by decide +kernel
theorem dX4_rowFound_41 : decode cX4_rowFound 41 = .ok (.aload_n 0, 1) := by decide +kernel
theorem dX4_rowFound_42 : decode cX4_rowFound 42 = .ok (.iconst 0, 1) := by decide +kernel
theorem dX4_rowFound_43 : decode cX4_rowFound 43 = .ok (.putfield 52, 3) := by decide +kernel
theorem dX4_rowFound_46 : decode cX4_rowFound 46 = .ok (.iconst 0, 1) := by decide +kernel
theorem dX4_rowFound_47 : decode cX4_rowFound 47 = .ok (.ireturn, 1) := by decide +kernel
set_option maxRecDepth 20000 in
theorem ggX4_shares_X4_isSquare : GoodIn wsX4_shares wsX4_isSquare := goodIn_r _ [8, 3, 9, 10, 7, 11, 45, 46, 47, 48, 49, 50, 51, 52, 53, 54, 55, 56, 57, 58, 59, 60, 61, 62, 63, 64, 65, 66, 67, 68] (by decide +kernel) (by decide +kernel)
set_option maxRecDepth 20000 in
theorem gX4_shares_X4_isSquare : GoodIn wsX4_shares (wsV RX4 207 RX4 yX4_isSquare wsX4_isSquare) := goodIn_app (goodIn_of _ (by decide +kernel)) ggX4_shares_X4_isSquare
set_option maxRecDepth 20000 in
theorem ggX4_shares_X4_isRow : GoodIn wsX4_shares wsX4_isRow := goodIn_r _ [14, 15, 9, 10, 7, 11] (by decide +kernel) (by decide +kernel)
set_option maxRecDepth 20000 in
theorem gX4_shares_X4_isRow : GoodIn wsX4_shares (va_wsS RX4 62 yX4_isRow wsX4_isRow) := goodIn_app (goodIn_of _ (by decide +kernel)) ggX4_shares_X4_isRow
set_option maxRecDepth 20000 in
theorem ggX4_shares_X4_rowFound : GoodIn wsX4_shares wsX4_rowFound := goodIn_r _ [19, 20, 21, 22, 23, 24, 25, 7, 26, 27, 45, 46, 47, 48, 49, 50, 51, 52, 53, 54, 55, 56, 57, 58, 59, 60, 61, 62, 63, 64, 65, 66, 67, 68] (by decide +kernel) (by decide +kernel)
set_option maxRecDepth 20000 in
theorem gX4_shares_X4_rowFound : GoodIn wsX4_shares (wsV RX4 229 RX4 yX4_rowFound wsX4_rowFound) := goodIn_app (goodIn_of _ (by decide +kernel)) ggX4_shares_X4_rowFound
set_option maxRecDepth 20000 in
theorem ggX4_shares_X4_of : GoodIn wsX4_shares wsX4_of := goodIn_r _ [30] (by decide +kernel) (by decide +kernel)
set_option maxRecDepth 20000 in
theorem gX4_shares_X4_of : GoodIn wsX4_shares (va_wsS RX4 157 yX4_of wsX4_of) := goodIn_app (goodIn_of _ (by decide +kernel)) ggX4_shares_X4_of
set_option maxRecDepth 20000 in
theorem ggX4_shares_X4_allClickSo : GoodIn wsX4_shares wsX4_allClickSo := goodIn_r _ [34, 3, 35, 36, 37, 7, 38, 39, 40, 41, 42, 43, 44, 45, 46, 47, 48, 49, 50, 51, 52, 53, 54, 55, 56, 57, 58, 59, 60, 61, 62, 63, 64, 65, 66, 67, 68] (by decide +kernel) (by decide +kernel)
set_option maxRecDepth 20000 in
theorem gX4_shares_X4_allClickSo : GoodIn wsX4_shares (wsV RX4 233 RX4 yX4_allClickSo wsX4_allClickSo) := goodIn_app (goodIn_of _ (by decide +kernel)) ggX4_shares_X4_allClickSo
theorem dX4_shares_0 : decode cX4_shares 0 = .ok (.aload_n 0, 1) := by decide +kernel
theorem dX4_shares_1 : decode cX4_shares 1 = .ok (.iconst 0, 1) := by decide +kernel
theorem dX4_shares_2 : decode cX4_shares 2 = .ok (.putfield 48, 3) := by decide +kernel
theorem dX4_shares_5 : decode cX4_shares 5 = .ok (.aload_n 0, 1) := by decide +kernel
theorem dX4_shares_6 : decode cX4_shares 6 = .ok (.iload_n 1, 1) := by decide +kernel
theorem dX4_shares_7 : decode cX4_shares 7 = .ok (.invokevirtual 207, 3) := by decide +kernel
theorem dX4_shares_10 : decode cX4_shares 10 = .ok (.ifCond .eq 10, 3) := by decide +kernel
theorem dX4_shares_13 : decode cX4_shares 13 = .ok (.iload_n 2, 1) := by decide +kernel
theorem dX4_shares_14 : decode cX4_shares 14 = .ok (.invokestatic 62, 3) := by decide +kernel
theorem dX4_shares_17 : decode cX4_shares 17 = .ok (.ifCond .ne 6, 3) := by decide +kernel
theorem dX4_shares_20 : decode cX4_shares 20 = .ok (.ldc 68, 2) := by decide +kernel
theorem dX4_shares_22 : decode cX4_shares 22 = .ok (.ireturn, 1) := by decide +kernel
theorem dX4_shares_23 : decode cX4_shares 23 = .ok (.aload_n 0, 1) := by decide +kernel
theorem dX4_shares_24 : decode cX4_shares 24 = .ok (.iload_n 2, 1) := by decide +kernel
theorem dX4_shares_25 : decode cX4_shares 25 = .ok (.iload_n 3, 1) := by decide +kernel
theorem dX4_shares_26 : decode cX4_shares 26 = .ok (.aload_n 0, 1) := by decide +kernel
theorem dX4_shares_27 : decode cX4_shares 27 = .ok (.getfield 19, 3) := by decide +kernel
theorem dX4_shares_30 : decode cX4_shares 30 = .ok (.iconst 3, 1) := by decide +kernel
theorem dX4_shares_31 : decode cX4_shares 31 = .ok (.iaload, 1) := by decide +kernel
theorem dX4_shares_32 : decode cX4_shares 32 = .ok (.invokevirtual 229, 3) := by decide +kernel
theorem dX4_shares_35 : decode cX4_shares 35 = .ok (.istore 4, 2) := by decide +kernel
theorem dX4_shares_37 : decode cX4_shares 37 = .ok (.iload 4, 2) := by decide +kernel
theorem dX4_shares_39 : decode cX4_shares 39 = .ok (.ifCond .eq 6, 3) := by decide +kernel
theorem dX4_shares_42 : decode cX4_shares 42 = .ok (.iload 4, 2) := by decide +kernel
theorem dX4_shares_44 : decode cX4_shares 44 = .ok (.ireturn, 1) := by decide +kernel
theorem dX4_shares_45 : decode cX4_shares 45 = .ok (.iconst 0, 1) := by decide +kernel
theorem dX4_shares_46 : decode cX4_shares 46 = .ok (.istore 5, 2) := by decide +kernel
theorem dX4_shares_48 : decode cX4_shares 48 = .ok (.iconst 0, 1) := by decide +kernel
theorem dX4_shares_49 : decode cX4_shares 49 = .ok (.istore 6, 2) := by decide +kernel
theorem dX4_shares_51 : decode cX4_shares 51 = .ok (.iload 6, 2) := by decide +kernel
theorem dX4_shares_53 : decode cX4_shares 53 = .ok (.bipush 10, 2) := by decide +kernel
theorem dX4_shares_55 : decode cX4_shares 55 = .ok (.if_icmp .ge 46, 3) := by decide +kernel
theorem dX4_shares_58 : decode cX4_shares 58 = .ok (.iload 5, 2) := by decide +kernel
theorem dX4_shares_60 : decode cX4_shares 60 = .ok (.aload_n 0, 1) := by decide +kernel
theorem dX4_shares_61 : decode cX4_shares 61 = .ok (.aload_n 0, 1) := by decide +kernel
theorem dX4_shares_62 : decode cX4_shares 62 = .ok (.getfield 19, 3) := by decide +kernel
theorem dX4_shares_65 : decode cX4_shares 65 = .ok (.iload_n 1, 1) := by decide +kernel
theorem dX4_shares_66 : decode cX4_shares 66 = .ok (.iconst 0, 1) := by decide +kernel
theorem dX4_shares_67 : decode cX4_shares 67 = .ok (.invokestatic 157, 3) := by decide +kernel
theorem dX4_shares_70 : decode cX4_shares 70 = .ok (.iload 6, 2) := by decide +kernel
theorem dX4_shares_72 : decode cX4_shares 72 = .ok (.bipush 40, 2) := by decide +kernel
theorem dX4_shares_74 : decode cX4_shares 74 = .ok (.iload_n 2, 1) := by decide +kernel
theorem dX4_shares_75 : decode cX4_shares 75 = .ok (.imul, 1) := by decide +kernel
theorem dX4_shares_76 : decode cX4_shares 76 = .ok (.iload_n 3, 1) := by decide +kernel
theorem dX4_shares_77 : decode cX4_shares 77 = .ok (.iadd, 1) := by decide +kernel
theorem dX4_shares_78 : decode cX4_shares 78 = .ok (.invokevirtual 233, 3) := by decide +kernel
theorem dX4_shares_81 : decode cX4_shares 81 = .ok (.ifCond .eq 10, 3) := by decide +kernel
theorem dX4_shares_84 : decode cX4_shares 84 = .ok (.iconst 1, 1) := by decide +kernel
theorem dX4_shares_85 : decode cX4_shares 85 = .ok (.iload 6, 2) := by decide +kernel
theorem dX4_shares_87 : decode cX4_shares 87 = .ok (.ishl, 1) := by decide +kernel
theorem dX4_shares_88 : decode cX4_shares 88 = .ok (.goto 4, 3) := by decide +kernel
theorem dX4_shares_91 : decode cX4_shares 91 = .ok (.iconst 0, 1) := by decide +kernel
theorem dX4_shares_92 : decode cX4_shares 92 = .ok (.ior, 1) := by decide +kernel
theorem dX4_shares_93 : decode cX4_shares 93 = .ok (.istore 5, 2) := by decide +kernel
theorem dX4_shares_95 : decode cX4_shares 95 = .ok (.iinc 6 1, 3) := by decide +kernel
theorem dX4_shares_98 : decode cX4_shares 98 = .ok (.goto (-47), 3) := by decide +kernel
theorem dX4_shares_101 : decode cX4_shares 101 = .ok (.iload 5, 2) := by decide +kernel
theorem dX4_shares_103 : decode cX4_shares 103 = .ok (.ireturn, 1) := by decide +kernel
set_option maxRecDepth 20000 in
theorem ggX4_kinds_X4_isSquare : GoodIn wsX4_kinds wsX4_isSquare := goodIn_r _ [8, 3, 9, 10, 7, 11, 45, 46, 47, 48, 49, 50, 51, 52, 53, 54, 55, 56, 57, 58, 59, 60, 61, 62, 63, 64, 65, 66, 67, 68] (by decide +kernel) (by decide +kernel)
set_option maxRecDepth 20000 in
theorem gX4_kinds_X4_isSquare : GoodIn wsX4_kinds (wsV RX4 207 RX4 yX4_isSquare wsX4_isSquare) := goodIn_app (goodIn_of _ (by decide +kernel)) ggX4_kinds_X4_isSquare
set_option maxRecDepth 20000 in
theorem ggX4_kinds_X4_isRow : GoodIn wsX4_kinds wsX4_isRow := goodIn_r _ [14, 15, 9, 10, 7, 11] (by decide +kernel) (by decide +kernel)
set_option maxRecDepth 20000 in
theorem gX4_kinds_X4_isRow : GoodIn wsX4_kinds (va_wsS RX4 62 yX4_isRow wsX4_isRow) := goodIn_app (goodIn_of _ (by decide +kernel)) ggX4_kinds_X4_isRow
set_option maxRecDepth 20000 in
theorem ggX4_kinds_X4_rowFound : GoodIn wsX4_kinds wsX4_rowFound := goodIn_r _ [19, 20, 21, 22, 23, 24, 25, 7, 26, 27, 45, 46, 47, 48, 49, 50, 51, 52, 53, 54, 55, 56, 57, 58, 59, 60, 61, 62, 63, 64, 65, 66, 67, 68] (by decide +kernel) (by decide +kernel)
set_option maxRecDepth 20000 in
theorem gX4_kinds_X4_rowFound : GoodIn wsX4_kinds (wsV RX4 229 RX4 yX4_rowFound wsX4_rowFound) := goodIn_app (goodIn_of _ (by decide +kernel)) ggX4_kinds_X4_rowFound
set_option maxRecDepth 20000 in
theorem ggX4_kinds_X4_of : GoodIn wsX4_kinds wsX4_of := goodIn_r _ [30] (by decide +kernel) (by decide +kernel)
set_option maxRecDepth 20000 in
theorem gX4_kinds_X4_of : GoodIn wsX4_kinds (va_wsS RX4 157 yX4_of wsX4_of) := goodIn_app (goodIn_of _ (by decide +kernel)) ggX4_kinds_X4_of
set_option maxRecDepth 20000 in
theorem ggX4_kinds_X4_allClickSo : GoodIn wsX4_kinds wsX4_allClickSo := goodIn_r _ [34, 3, 35, 36, 37, 7, 38, 39, 40, 41, 42, 43, 44, 45, 46, 47, 48, 49, 50, 51, 52, 53, 54, 55, 56, 57, 58, 59, 60, 61, 62, 63, 64, 65, 66, 67, 68] (by decide +kernel) (by decide +kernel)
set_option maxRecDepth 20000 in
theorem gX4_kinds_X4_allClickSo : GoodIn wsX4_kinds (wsV RX4 233 RX4 yX4_allClickSo wsX4_allClickSo) := goodIn_app (goodIn_of _ (by decide +kernel)) ggX4_kinds_X4_allClickSo
theorem dX4_kinds_0 : decode cX4_kinds 0 = .ok (.aload_n 0, 1) := by decide +kernel
theorem dX4_kinds_1 : decode cX4_kinds 1 = .ok (.iconst 0, 1) := by decide +kernel
theorem dX4_kinds_2 : decode cX4_kinds 2 = .ok (.putfield 48, 3) := by decide +kernel
theorem dX4_kinds_5 : decode cX4_kinds 5 = .ok (.aload_n 0, 1) := by decide +kernel
theorem dX4_kinds_6 : decode cX4_kinds 6 = .ok (.iload_n 1, 1) := by decide +kernel
theorem dX4_kinds_7 : decode cX4_kinds 7 = .ok (.invokevirtual 207, 3) := by decide +kernel
theorem dX4_kinds_10 : decode cX4_kinds 10 = .ok (.ifCond .eq 10, 3) := by decide +kernel
theorem dX4_kinds_13 : decode cX4_kinds 13 = .ok (.iload_n 2, 1) := by decide +kernel
theorem dX4_kinds_14 : decode cX4_kinds 14 = .ok (.invokestatic 62, 3) := by decide +kernel
theorem dX4_kinds_17 : decode cX4_kinds 17 = .ok (.ifCond .ne 6, 3) := by decide +kernel
theorem dX4_kinds_20 : decode cX4_kinds 20 = .ok (.ldc 68, 2) := by decide +kernel
theorem dX4_kinds_22 : decode cX4_kinds 22 = .ok (.ireturn, 1) := by decide +kernel
theorem dX4_kinds_23 : decode cX4_kinds 23 = .ok (.aload_n 0, 1) := by decide +kernel
theorem dX4_kinds_24 : decode cX4_kinds 24 = .ok (.iload_n 2, 1) := by decide +kernel
theorem dX4_kinds_25 : decode cX4_kinds 25 = .ok (.iload_n 3, 1) := by decide +kernel
theorem dX4_kinds_26 : decode cX4_kinds 26 = .ok (.aload_n 0, 1) := by decide +kernel
theorem dX4_kinds_27 : decode cX4_kinds 27 = .ok (.getfield 19, 3) := by decide +kernel
theorem dX4_kinds_30 : decode cX4_kinds 30 = .ok (.iconst 3, 1) := by decide +kernel
theorem dX4_kinds_31 : decode cX4_kinds 31 = .ok (.iaload, 1) := by decide +kernel
theorem dX4_kinds_32 : decode cX4_kinds 32 = .ok (.invokevirtual 229, 3) := by decide +kernel
theorem dX4_kinds_35 : decode cX4_kinds 35 = .ok (.istore 4, 2) := by decide +kernel
theorem dX4_kinds_37 : decode cX4_kinds 37 = .ok (.iload 4, 2) := by decide +kernel
theorem dX4_kinds_39 : decode cX4_kinds 39 = .ok (.ifCond .eq 6, 3) := by decide +kernel
theorem dX4_kinds_42 : decode cX4_kinds 42 = .ok (.iload 4, 2) := by decide +kernel
theorem dX4_kinds_44 : decode cX4_kinds 44 = .ok (.ireturn, 1) := by decide +kernel
theorem dX4_kinds_45 : decode cX4_kinds 45 = .ok (.iconst 0, 1) := by decide +kernel
theorem dX4_kinds_46 : decode cX4_kinds 46 = .ok (.istore 5, 2) := by decide +kernel
theorem dX4_kinds_48 : decode cX4_kinds 48 = .ok (.iconst 1, 1) := by decide +kernel
theorem dX4_kinds_49 : decode cX4_kinds 49 = .ok (.istore 6, 2) := by decide +kernel
theorem dX4_kinds_51 : decode cX4_kinds 51 = .ok (.iload 6, 2) := by decide +kernel
theorem dX4_kinds_53 : decode cX4_kinds 53 = .ok (.iconst 5, 1) := by decide +kernel
theorem dX4_kinds_54 : decode cX4_kinds 54 = .ok (.if_icmp .gt 46, 3) := by decide +kernel
theorem dX4_kinds_57 : decode cX4_kinds 57 = .ok (.iload 5, 2) := by decide +kernel
theorem dX4_kinds_59 : decode cX4_kinds 59 = .ok (.aload_n 0, 1) := by decide +kernel
theorem dX4_kinds_60 : decode cX4_kinds 60 = .ok (.iload 6, 2) := by decide +kernel
theorem dX4_kinds_62 : decode cX4_kinds 62 = .ok (.aload_n 0, 1) := by decide +kernel
theorem dX4_kinds_63 : decode cX4_kinds 63 = .ok (.getfield 19, 3) := by decide +kernel
theorem dX4_kinds_66 : decode cX4_kinds 66 = .ok (.iload_n 1, 1) := by decide +kernel
theorem dX4_kinds_67 : decode cX4_kinds 67 = .ok (.iconst 1, 1) := by decide +kernel
theorem dX4_kinds_68 : decode cX4_kinds 68 = .ok (.invokestatic 157, 3) := by decide +kernel
theorem dX4_kinds_71 : decode cX4_kinds 71 = .ok (.bipush 40, 2) := by decide +kernel
theorem dX4_kinds_73 : decode cX4_kinds 73 = .ok (.iload_n 2, 1) := by decide +kernel
theorem dX4_kinds_74 : decode cX4_kinds 74 = .ok (.imul, 1) := by decide +kernel
theorem dX4_kinds_75 : decode cX4_kinds 75 = .ok (.iload_n 3, 1) := by decide +kernel
theorem dX4_kinds_76 : decode cX4_kinds 76 = .ok (.iadd, 1) := by decide +kernel
theorem dX4_kinds_77 : decode cX4_kinds 77 = .ok (.invokevirtual 233, 3) := by decide +kernel
theorem dX4_kinds_80 : decode cX4_kinds 80 = .ok (.ifCond .eq 10, 3) := by decide +kernel
theorem dX4_kinds_83 : decode cX4_kinds 83 = .ok (.iconst 1, 1) := by decide +kernel
theorem dX4_kinds_84 : decode cX4_kinds 84 = .ok (.iload 6, 2) := by decide +kernel
theorem dX4_kinds_86 : decode cX4_kinds 86 = .ok (.ishl, 1) := by decide +kernel
theorem dX4_kinds_87 : decode cX4_kinds 87 = .ok (.goto 4, 3) := by decide +kernel
theorem dX4_kinds_90 : decode cX4_kinds 90 = .ok (.iconst 0, 1) := by decide +kernel
theorem dX4_kinds_91 : decode cX4_kinds 91 = .ok (.ior, 1) := by decide +kernel
theorem dX4_kinds_92 : decode cX4_kinds 92 = .ok (.istore 5, 2) := by decide +kernel
theorem dX4_kinds_94 : decode cX4_kinds 94 = .ok (.iinc 6 1, 3) := by decide +kernel
theorem dX4_kinds_97 : decode cX4_kinds 97 = .ok (.goto (-46), 3) := by decide +kernel
theorem dX4_kinds_100 : decode cX4_kinds 100 = .ok (.iload 5, 2) := by decide +kernel
theorem dX4_kinds_102 : decode cX4_kinds 102 = .ok (.ireturn, 1) := by decide +kernel
set_option maxRecDepth 20000 in
theorem ggX4_who_X4_isThere : GoodIn wsX4_who wsX4_isThere := goodIn_r _ [9, 4, 46, 47, 48, 49, 50, 51, 52, 53, 54, 55, 56, 57, 58, 59, 60, 61, 62, 63, 64, 65, 66, 67, 68, 69] (by decide +kernel) (by decide +kernel)
set_option maxRecDepth 20000 in
theorem gX4_who_X4_isThere : GoodIn wsX4_who (wsV RX4 201 RX4 yX4_isThere wsX4_isThere) := goodIn_app (goodIn_of _ (by decide +kernel)) ggX4_who_X4_isThere
set_option maxRecDepth 20000 in
theorem ggX4_who_X4_isRow : GoodIn wsX4_who wsX4_isRow := goodIn_r _ [12, 13, 14, 15, 8, 16] (by decide +kernel) (by decide +kernel)
set_option maxRecDepth 20000 in
theorem gX4_who_X4_isRow : GoodIn wsX4_who (va_wsS RX4 62 yX4_isRow wsX4_isRow) := goodIn_app (goodIn_of _ (by decide +kernel)) ggX4_who_X4_isRow
set_option maxRecDepth 20000 in
theorem ggX4_who_X4_rowFound : GoodIn wsX4_who wsX4_rowFound := goodIn_r _ [20, 21, 22, 23, 24, 25, 26, 8, 27, 28, 46, 47, 48, 49, 50, 51, 52, 53, 54, 55, 56, 57, 58, 59, 60, 61, 62, 63, 64, 65, 66, 67, 68, 69] (by decide +kernel) (by decide +kernel)
set_option maxRecDepth 20000 in
theorem gX4_who_X4_rowFound : GoodIn wsX4_who (wsV RX4 229 RX4 yX4_rowFound wsX4_rowFound) := goodIn_app (goodIn_of _ (by decide +kernel)) ggX4_who_X4_rowFound
set_option maxRecDepth 20000 in
theorem ggX4_who_X4_guest : GoodIn wsX4_who wsX4_guest := goodIn_r _ [31] (by decide +kernel) (by decide +kernel)
set_option maxRecDepth 20000 in
theorem gX4_who_X4_guest : GoodIn wsX4_who (va_wsS RX4 161 yX4_guest wsX4_guest) := goodIn_app (goodIn_of _ (by decide +kernel)) ggX4_who_X4_guest
set_option maxRecDepth 20000 in
theorem ggX4_who_X4_clicksSo : GoodIn wsX4_who wsX4_clicksSo := goodIn_r _ [35, 4, 36, 37, 38, 8, 39, 40, 41, 42, 43, 44, 45, 46, 47, 48, 49, 50, 51, 52, 53, 54, 55, 56, 57, 58, 59, 60, 61, 62, 63, 64, 65, 66, 67, 68, 69] (by decide +kernel) (by decide +kernel)
set_option maxRecDepth 20000 in
theorem gX4_who_X4_clicksSo : GoodIn wsX4_who (wsV RX4 237 RX4 yX4_clicksSo wsX4_clicksSo) := goodIn_app (goodIn_of _ (by decide +kernel)) ggX4_who_X4_clicksSo
theorem dX4_who_0 : decode cX4_who 0 = .ok (.aload_n 0, 1) := by decide +kernel
theorem dX4_who_1 : decode cX4_who 1 = .ok (.iconst 0, 1) := by decide +kernel
theorem dX4_who_2 : decode cX4_who 2 = .ok (.putfield 48, 3) := by decide +kernel
theorem dX4_who_5 : decode cX4_who 5 = .ok (.aload_n 0, 1) := by decide +kernel
theorem dX4_who_6 : decode cX4_who 6 = .ok (.invokevirtual 201, 3) := by decide +kernel
theorem dX4_who_9 : decode cX4_who 9 = .ok (.ifCond .ne 6, 3) := by decide +kernel
theorem dX4_who_12 : decode cX4_who 12 = .ok (.ldc 204, 2) := by decide +kernel
theorem dX4_who_14 : decode cX4_who 14 = .ok (.ireturn, 1) := by decide +kernel
theorem dX4_who_15 : decode cX4_who 15 = .ok (.iload_n 1, 1) := by decide +kernel
theorem dX4_who_16 : decode cX4_who 16 = .ok (.invokestatic 62, 3) := by decide +kernel
theorem dX4_who_19 : decode cX4_who 19 = .ok (.ifCond .ne 6, 3) := by decide +kernel
theorem dX4_who_22 : decode cX4_who 22 = .ok (.ldc 68, 2) := by decide +kernel
theorem dX4_who_24 : decode cX4_who 24 = .ok (.ireturn, 1) := by decide +kernel
theorem dX4_who_25 : decode cX4_who 25 = .ok (.aload_n 0, 1) := by decide +kernel
theorem dX4_who_26 : decode cX4_who 26 = .ok (.iload_n 1, 1) := by decide +kernel
theorem dX4_who_27 : decode cX4_who 27 = .ok (.iload_n 2, 1) := by decide +kernel
theorem dX4_who_28 : decode cX4_who 28 = .ok (.aload_n 0, 1) := by decide +kernel
theorem dX4_who_29 : decode cX4_who 29 = .ok (.getfield 19, 3) := by decide +kernel
theorem dX4_who_32 : decode cX4_who 32 = .ok (.iconst 2, 1) := by decide +kernel
theorem dX4_who_33 : decode cX4_who 33 = .ok (.iaload, 1) := by decide +kernel
theorem dX4_who_34 : decode cX4_who 34 = .ok (.invokevirtual 229, 3) := by decide +kernel
theorem dX4_who_37 : decode cX4_who 37 = .ok (.istore_n 3, 1) := by decide +kernel
theorem dX4_who_38 : decode cX4_who 38 = .ok (.iload_n 3, 1) := by decide +kernel
theorem dX4_who_39 : decode cX4_who 39 = .ok (.ifCond .eq 5, 3) := by decide +kernel
theorem dX4_who_42 : decode cX4_who 42 = .ok (.iload_n 3, 1) := by decide +kernel
theorem dX4_who_43 : decode cX4_who 43 = .ok (.ireturn, 1) := by decide +kernel
theorem dX4_who_44 : decode cX4_who 44 = .ok (.iconst 0, 1) := by decide +kernel
theorem dX4_who_45 : decode cX4_who 45 = .ok (.istore 4, 2) := by decide +kernel
theorem dX4_who_47 : decode cX4_who 47 = .ok (.iconst 0, 1) := by decide +kernel
theorem dX4_who_48 : decode cX4_who 48 = .ok (.istore 5, 2) := by decide +kernel
theorem dX4_who_50 : decode cX4_who 50 = .ok (.iload 5, 2) := by decide +kernel
theorem dX4_who_52 : decode cX4_who 52 = .ok (.aload_n 0, 1) := by decide +kernel
theorem dX4_who_53 : decode cX4_who 53 = .ok (.getfield 19, 3) := by decide +kernel
theorem dX4_who_56 : decode cX4_who 56 = .ok (.iconst 3, 1) := by decide +kernel
theorem dX4_who_57 : decode cX4_who 57 = .ok (.iaload, 1) := by decide +kernel
theorem dX4_who_58 : decode cX4_who 58 = .ok (.if_icmp .ge 55, 3) := by decide +kernel
theorem dX4_who_61 : decode cX4_who 61 = .ok (.iload 4, 2) := by decide +kernel
theorem dX4_who_63 : decode cX4_who 63 = .ok (.aload_n 0, 1) := by decide +kernel
theorem dX4_who_64 : decode cX4_who 64 = .ok (.aload_n 0, 1) := by decide +kernel
theorem dX4_who_65 : decode cX4_who 65 = .ok (.getfield 19, 3) := by decide +kernel
theorem dX4_who_68 : decode cX4_who 68 = .ok (.iload 5, 2) := by decide +kernel
theorem dX4_who_70 : decode cX4_who 70 = .ok (.iconst 0, 1) := by decide +kernel
theorem dX4_who_71 : decode cX4_who 71 = .ok (.invokestatic 161, 3) := by decide +kernel
theorem dX4_who_74 : decode cX4_who 74 = .ok (.aload_n 0, 1) := by decide +kernel
theorem dX4_who_75 : decode cX4_who 75 = .ok (.getfield 19, 3) := by decide +kernel
theorem dX4_who_78 : decode cX4_who 78 = .ok (.iload 5, 2) := by decide +kernel
theorem dX4_who_80 : decode cX4_who 80 = .ok (.iconst 1, 1) := by decide +kernel
theorem dX4_who_81 : decode cX4_who 81 = .ok (.invokestatic 161, 3) := by decide +kernel
theorem dX4_who_84 : decode cX4_who 84 = .ok (.bipush 40, 2) := by decide +kernel
theorem dX4_who_86 : decode cX4_who 86 = .ok (.iload_n 1, 1) := by decide +kernel
theorem dX4_who_87 : decode cX4_who 87 = .ok (.imul, 1) := by decide +kernel
theorem dX4_who_88 : decode cX4_who 88 = .ok (.iload_n 2, 1) := by decide +kernel
theorem dX4_who_89 : decode cX4_who 89 = .ok (.iadd, 1) := by decide +kernel
theorem dX4_who_90 : decode cX4_who 90 = .ok (.invokevirtual 237, 3) := by decide +kernel
theorem dX4_who_93 : decode cX4_who 93 = .ok (.ifCond .eq 10, 3) := by decide +kernel
theorem dX4_who_96 : decode cX4_who 96 = .ok (.iconst 1, 1) := by decide +kernel
theorem dX4_who_97 : decode cX4_who 97 = .ok (.iload 5, 2) := by decide +kernel
theorem dX4_who_99 : decode cX4_who 99 = .ok (.ishl, 1) := by decide +kernel
theorem dX4_who_100 : decode cX4_who 100 = .ok (.goto 4, 3) := by decide +kernel
theorem dX4_who_103 : decode cX4_who 103 = .ok (.iconst 0, 1) := by decide +kernel
theorem dX4_who_104 : decode cX4_who 104 = .ok (.ior, 1) := by decide +kernel
theorem dX4_who_105 : decode cX4_who 105 = .ok (.istore 4, 2) := by decide +kernel
theorem dX4_who_107 : decode cX4_who 107 = .ok (.iinc 5 1, 3) := by decide +kernel
theorem dX4_who_110 : decode cX4_who 110 = .ok (.goto (-60), 3) := by decide +kernel
theorem dX4_who_113 : decode cX4_who 113 = .ok (.iload 4, 2) := by decide +kernel
theorem dX4_who_115 : decode cX4_who 115 = .ok (.ireturn, 1) := by decide +kernel
set_option maxRecDepth 20000 in
theorem ggX4_cares_X4_isThere : GoodIn wsX4_cares wsX4_isThere := goodIn_r _ [10, 5, 44, 45, 46, 47, 48, 49, 50, 51, 52, 53, 54, 55, 56, 57, 58, 59, 60, 61, 62, 63, 64, 65, 66, 67] (by decide +kernel) (by decide +kernel)
set_option maxRecDepth 20000 in
theorem gX4_cares_X4_isThere : GoodIn wsX4_cares (wsV RX4 201 RX4 yX4_isThere wsX4_isThere) := goodIn_app (goodIn_of _ (by decide +kernel)) ggX4_cares_X4_isThere
set_option maxRecDepth 20000 in
theorem ggX4_cares_X4_in : GoodIn wsX4_cares wsX4_in := goodIn_r _ [13] (by decide +kernel) (by decide +kernel)
set_option maxRecDepth 20000 in
theorem gX4_cares_X4_in : GoodIn wsX4_cares (va_wsS RX4 58 yX4_in wsX4_in) := goodIn_app (goodIn_of _ (by decide +kernel)) ggX4_cares_X4_in
set_option maxRecDepth 20000 in
theorem ggX4_cares_X4_isRow : GoodIn wsX4_cares wsX4_isRow := goodIn_r _ [16, 17, 11, 12, 9, 13] (by decide +kernel) (by decide +kernel)
set_option maxRecDepth 20000 in
theorem gX4_cares_X4_isRow : GoodIn wsX4_cares (va_wsS RX4 62 yX4_isRow wsX4_isRow) := goodIn_app (goodIn_of _ (by decide +kernel)) ggX4_cares_X4_isRow
set_option maxRecDepth 20000 in
theorem ggX4_cares_X4_rowFound : GoodIn wsX4_cares wsX4_rowFound := goodIn_r _ [21, 22, 23, 24, 25, 26, 27, 9, 28, 29, 44, 45, 46, 47, 48, 49, 50, 51, 52, 53, 54, 55, 56, 57, 58, 59, 60, 61, 62, 63, 64, 65, 66, 67] (by decide +kernel) (by decide +kernel)
set_option maxRecDepth 20000 in
theorem gX4_cares_X4_rowFound : GoodIn wsX4_cares (wsV RX4 229 RX4 yX4_rowFound wsX4_rowFound) := goodIn_app (goodIn_of _ (by decide +kernel)) ggX4_cares_X4_rowFound
set_option maxRecDepth 20000 in
theorem ggX4_cares_X4_clicksSo : GoodIn wsX4_cares wsX4_clicksSo := goodIn_r _ [33, 5, 34, 35, 36, 9, 37, 38, 39, 40, 41, 42, 43, 44, 45, 46, 47, 48, 49, 50, 51, 52, 53, 54, 55, 56, 57, 58, 59, 60, 61, 62, 63, 64, 65, 66, 67] (by decide +kernel) (by decide +kernel)
set_option maxRecDepth 20000 in
theorem gX4_cares_X4_clicksSo : GoodIn wsX4_cares (wsV RX4 237 RX4 yX4_clicksSo wsX4_clicksSo) := goodIn_app (goodIn_of _ (by decide +kernel)) ggX4_cares_X4_clicksSo
theorem dX4_cares_0 : decode cX4_cares 0 = .ok (.aload_n 0, 1) := by decide +kernel
theorem dX4_cares_1 : decode cX4_cares 1 = .ok (.iconst 0, 1) := by decide +kernel
theorem dX4_cares_2 : decode cX4_cares 2 = .ok (.putfield 48, 3) := by decide +kernel
theorem dX4_cares_5 : decode cX4_cares 5 = .ok (.aload_n 0, 1) := by decide +kernel
theorem dX4_cares_6 : decode cX4_cares 6 = .ok (.invokevirtual 201, 3) := by decide +kernel
theorem dX4_cares_9 : decode cX4_cares 9 = .ok (.ifCond .ne 6, 3) := by decide +kernel
theorem dX4_cares_12 : decode cX4_cares 12 = .ok (.ldc 204, 2) := by decide +kernel
theorem dX4_cares_14 : decode cX4_cares 14 = .ok (.ireturn, 1) := by decide +kernel
theorem dX4_cares_15 : decode cX4_cares 15 = .ok (.iload_n 1, 1) := by decide +kernel
theorem dX4_cares_16 : decode cX4_cares 16 = .ok (.i2l, 1) := by decide +kernel
theorem dX4_cares_17 : decode cX4_cares 17 = .ok (.lconst 0, 1) := by decide +kernel
theorem dX4_cares_18 : decode cX4_cares 18 = .ok (.ldc2_w 210, 3) := by decide +kernel
theorem dX4_cares_21 : decode cX4_cares 21 = .ok (.invokestatic 58, 3) := by decide +kernel
theorem dX4_cares_24 : decode cX4_cares 24 = .ok (.ifCond .eq 10, 3) := by decide +kernel
theorem dX4_cares_27 : decode cX4_cares 27 = .ok (.iload_n 2, 1) := by decide +kernel
theorem dX4_cares_28 : decode cX4_cares 28 = .ok (.invokestatic 62, 3) := by decide +kernel
theorem dX4_cares_31 : decode cX4_cares 31 = .ok (.ifCond .ne 6, 3) := by decide +kernel
theorem dX4_cares_34 : decode cX4_cares 34 = .ok (.ldc 68, 2) := by decide +kernel
theorem dX4_cares_36 : decode cX4_cares 36 = .ok (.ireturn, 1) := by decide +kernel
theorem dX4_cares_37 : decode cX4_cares 37 = .ok (.aload_n 0, 1) := by decide +kernel
theorem dX4_cares_38 : decode cX4_cares 38 = .ok (.iload_n 2, 1) := by decide +kernel
theorem dX4_cares_39 : decode cX4_cares 39 = .ok (.iload_n 3, 1) := by decide +kernel
theorem dX4_cares_40 : decode cX4_cares 40 = .ok (.aload_n 0, 1) := by decide +kernel
theorem dX4_cares_41 : decode cX4_cares 41 = .ok (.getfield 19, 3) := by decide +kernel
theorem dX4_cares_44 : decode cX4_cares 44 = .ok (.iconst 2, 1) := by decide +kernel
theorem dX4_cares_45 : decode cX4_cares 45 = .ok (.iaload, 1) := by decide +kernel
theorem dX4_cares_46 : decode cX4_cares 46 = .ok (.invokevirtual 229, 3) := by decide +kernel
theorem dX4_cares_49 : decode cX4_cares 49 = .ok (.istore 4, 2) := by decide +kernel
theorem dX4_cares_51 : decode cX4_cares 51 = .ok (.iload 4, 2) := by decide +kernel
theorem dX4_cares_53 : decode cX4_cares 53 = .ok (.ifCond .eq 6, 3) := by decide +kernel
theorem dX4_cares_56 : decode cX4_cares 56 = .ok (.iload 4, 2) := by decide +kernel
theorem dX4_cares_58 : decode cX4_cares 58 = .ok (.ireturn, 1) := by decide +kernel
theorem dX4_cares_59 : decode cX4_cares 59 = .ok (.iconst 0, 1) := by decide +kernel
theorem dX4_cares_60 : decode cX4_cares 60 = .ok (.istore 5, 2) := by decide +kernel
theorem dX4_cares_62 : decode cX4_cares 62 = .ok (.iconst 0, 1) := by decide +kernel
theorem dX4_cares_63 : decode cX4_cares 63 = .ok (.istore 6, 2) := by decide +kernel
theorem dX4_cares_65 : decode cX4_cares 65 = .ok (.iload 6, 2) := by decide +kernel
theorem dX4_cares_67 : decode cX4_cares 67 = .ok (.bipush 10, 2) := by decide +kernel
theorem dX4_cares_69 : decode cX4_cares 69 = .ok (.if_icmp .ge 38, 3) := by decide +kernel
theorem dX4_cares_72 : decode cX4_cares 72 = .ok (.iload 5, 2) := by decide +kernel
theorem dX4_cares_74 : decode cX4_cares 74 = .ok (.aload_n 0, 1) := by decide +kernel
theorem dX4_cares_75 : decode cX4_cares 75 = .ok (.iload 6, 2) := by decide +kernel
theorem dX4_cares_77 : decode cX4_cares 77 = .ok (.iload_n 1, 1) := by decide +kernel
theorem dX4_cares_78 : decode cX4_cares 78 = .ok (.bipush 40, 2) := by decide +kernel
theorem dX4_cares_80 : decode cX4_cares 80 = .ok (.iload_n 2, 1) := by decide +kernel
theorem dX4_cares_81 : decode cX4_cares 81 = .ok (.imul, 1) := by decide +kernel
theorem dX4_cares_82 : decode cX4_cares 82 = .ok (.iload_n 3, 1) := by decide +kernel
theorem dX4_cares_83 : decode cX4_cares 83 = .ok (.iadd, 1) := by decide +kernel
theorem dX4_cares_84 : decode cX4_cares 84 = .ok (.invokevirtual 237, 3) := by decide +kernel
theorem dX4_cares_87 : decode cX4_cares 87 = .ok (.ifCond .eq 10, 3) := by decide +kernel
theorem dX4_cares_90 : decode cX4_cares 90 = .ok (.iconst 1, 1) := by decide +kernel
theorem dX4_cares_91 : decode cX4_cares 91 = .ok (.iload 6, 2) := by decide +kernel
theorem dX4_cares_93 : decode cX4_cares 93 = .ok (.ishl, 1) := by decide +kernel
theorem dX4_cares_94 : decode cX4_cares 94 = .ok (.goto 4, 3) := by decide +kernel
theorem dX4_cares_97 : decode cX4_cares 97 = .ok (.iconst 0, 1) := by decide +kernel
theorem dX4_cares_98 : decode cX4_cares 98 = .ok (.ior, 1) := by decide +kernel
theorem dX4_cares_99 : decode cX4_cares 99 = .ok (.istore 5, 2) := by decide +kernel
theorem dX4_cares_101 : decode cX4_cares 101 = .ok (.iinc 6 1, 3) := by decide +kernel
theorem dX4_cares_104 : decode cX4_cares 104 = .ok (.goto (-39), 3) := by decide +kernel
theorem dX4_cares_107 : decode cX4_cares 107 = .ok (.iload 5, 2) := by decide +kernel
theorem dX4_cares_109 : decode cX4_cares 109 = .ok (.ireturn, 1) := by decide +kernel
