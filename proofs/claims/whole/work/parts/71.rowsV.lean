set_option maxRecDepth 20000 in
theorem ggX3_shares_X1_isSquare : GoodIn wsX3_shares wsX1_isSquare := goodIn_r _ [10, 11, 12, 13, 14, 64, 65, 66, 67, 68, 69, 70, 71, 72, 73, 74, 75, 76, 77] (by decide +kernel) (by decide +kernel)
set_option maxRecDepth 20000 in
theorem gX3_shares_X1_isSquare : GoodIn wsX3_shares (wsV RX3 161 RX1 yX1_isSquare wsX1_isSquare) := goodIn_app (goodIn_of _ (by decide +kernel)) ggX3_shares_X1_isSquare
set_option maxRecDepth 20000 in
theorem ggX3_shares_X3_isRow : GoodIn wsX3_shares wsX3_isRow := goodIn_r _ [17, 18, 12, 13, 14] (by decide +kernel) (by decide +kernel)
set_option maxRecDepth 20000 in
theorem gX3_shares_X3_isRow : GoodIn wsX3_shares (va_wsS RX3 73 yX3_isRow wsX3_isRow) := goodIn_app (goodIn_of _ (by decide +kernel)) ggX3_shares_X3_isRow
set_option maxRecDepth 20000 in
theorem ggX3_shares_X3_lookAt : GoodIn wsX3_shares wsX3_lookAt := goodIn_r _ [22, 23, 24, 25, 26, 13, 27, 28, 29, 30, 31, 32, 33, 34, 35, 36, 37, 38, 51, 52, 53, 54, 55, 56, 57, 58, 59, 60, 61, 62, 63] (by decide +kernel) (by decide +kernel)
set_option maxRecDepth 20000 in
theorem gX3_shares_X3_lookAt : GoodIn wsX3_shares (wsV RX3 86 RX3 yX3_lookAt wsX3_lookAt) := goodIn_app (goodIn_of _ (by decide +kernel)) ggX3_shares_X3_lookAt
set_option maxRecDepth 20000 in
theorem ggX3_shares_X1_isClickedSo : GoodIn wsX3_shares wsX1_isClickedSo := goodIn_r _ [42, 43, 44, 45, 46, 13, 47, 48, 49, 50, 64, 65, 66, 67, 68, 69, 70, 71, 72, 73, 74, 75, 76, 77] (by decide +kernel) (by decide +kernel)
set_option maxRecDepth 20000 in
theorem gX3_shares_X1_isClickedSo : GoodIn wsX3_shares (wsV RX3 249 RX1 yX1_isClickedSo wsX1_isClickedSo) := goodIn_app (goodIn_of _ (by decide +kernel)) ggX3_shares_X1_isClickedSo
theorem dX3_shares_0 : decode cX3_shares 0 = .ok (.aload_n 0, 1) := by decide +kernel
theorem dX3_shares_1 : decode cX3_shares 1 = .ok (.getfield 38, 3) := by decide +kernel
theorem dX3_shares_4 : decode cX3_shares 4 = .ok (.iload_n 1, 1) := by decide +kernel
theorem dX3_shares_5 : decode cX3_shares 5 = .ok (.invokevirtual 161, 3) := by decide +kernel
theorem dX3_shares_8 : decode cX3_shares 8 = .ok (.ifCond .eq 10, 3) := by decide +kernel
theorem dX3_shares_11 : decode cX3_shares 11 = .ok (.iload_n 2, 1) := by decide +kernel
theorem dX3_shares_12 : decode cX3_shares 12 = .ok (.invokestatic 73, 3) := by decide +kernel
theorem dX3_shares_15 : decode cX3_shares 15 = .ok (.ifCond .ne 6, 3) := by decide +kernel
theorem dX3_shares_18 : decode cX3_shares 18 = .ok (.ldc 81, 2) := by decide +kernel
theorem dX3_shares_20 : decode cX3_shares 20 = .ok (.ireturn, 1) := by decide +kernel
theorem dX3_shares_21 : decode cX3_shares 21 = .ok (.aload_n 0, 1) := by decide +kernel
theorem dX3_shares_22 : decode cX3_shares 22 = .ok (.iload_n 2, 1) := by decide +kernel
theorem dX3_shares_23 : decode cX3_shares 23 = .ok (.iload_n 3, 1) := by decide +kernel
theorem dX3_shares_24 : decode cX3_shares 24 = .ok (.aload_n 0, 1) := by decide +kernel
theorem dX3_shares_25 : decode cX3_shares 25 = .ok (.getfield 38, 3) := by decide +kernel
theorem dX3_shares_28 : decode cX3_shares 28 = .ok (.getfield 246, 3) := by decide +kernel
theorem dX3_shares_31 : decode cX3_shares 31 = .ok (.invokevirtual 86, 3) := by decide +kernel
theorem dX3_shares_34 : decode cX3_shares 34 = .ok (.istore 4, 2) := by decide +kernel
theorem dX3_shares_36 : decode cX3_shares 36 = .ok (.iload 4, 2) := by decide +kernel
theorem dX3_shares_38 : decode cX3_shares 38 = .ok (.ifCond .eq 6, 3) := by decide +kernel
theorem dX3_shares_41 : decode cX3_shares 41 = .ok (.iload 4, 2) := by decide +kernel
theorem dX3_shares_43 : decode cX3_shares 43 = .ok (.ireturn, 1) := by decide +kernel
theorem dX3_shares_44 : decode cX3_shares 44 = .ok (.iconst 0, 1) := by decide +kernel
theorem dX3_shares_45 : decode cX3_shares 45 = .ok (.istore 5, 2) := by decide +kernel
theorem dX3_shares_47 : decode cX3_shares 47 = .ok (.iconst 0, 1) := by decide +kernel
theorem dX3_shares_48 : decode cX3_shares 48 = .ok (.istore 6, 2) := by decide +kernel
theorem dX3_shares_50 : decode cX3_shares 50 = .ok (.iload 6, 2) := by decide +kernel
theorem dX3_shares_52 : decode cX3_shares 52 = .ok (.bipush 9, 2) := by decide +kernel
theorem dX3_shares_54 : decode cX3_shares 54 = .ok (.if_icmp .gt 46, 3) := by decide +kernel
theorem dX3_shares_57 : decode cX3_shares 57 = .ok (.aload_n 0, 1) := by decide +kernel
theorem dX3_shares_58 : decode cX3_shares 58 = .ok (.getfield 38, 3) := by decide +kernel
theorem dX3_shares_61 : decode cX3_shares 61 = .ok (.aload_n 0, 1) := by decide +kernel
theorem dX3_shares_62 : decode cX3_shares 62 = .ok (.getfield 38, 3) := by decide +kernel
theorem dX3_shares_65 : decode cX3_shares 65 = .ok (.getfield 197, 3) := by decide +kernel
theorem dX3_shares_68 : decode cX3_shares 68 = .ok (.iload_n 1, 1) := by decide +kernel
theorem dX3_shares_69 : decode cX3_shares 69 = .ok (.iaload, 1) := by decide +kernel
theorem dX3_shares_70 : decode cX3_shares 70 = .ok (.iload 6, 2) := by decide +kernel
theorem dX3_shares_72 : decode cX3_shares 72 = .ok (.aload_n 0, 1) := by decide +kernel
theorem dX3_shares_73 : decode cX3_shares 73 = .ok (.getfield 11, 3) := by decide +kernel
theorem dX3_shares_76 : decode cX3_shares 76 = .ok (.iload_n 2, 1) := by decide +kernel
theorem dX3_shares_77 : decode cX3_shares 77 = .ok (.aaload, 1) := by decide +kernel
theorem dX3_shares_78 : decode cX3_shares 78 = .ok (.iload_n 3, 1) := by decide +kernel
theorem dX3_shares_79 : decode cX3_shares 79 = .ok (.invokevirtual 249, 3) := by decide +kernel
theorem dX3_shares_82 : decode cX3_shares 82 = .ok (.ifCond .eq 12, 3) := by decide +kernel
theorem dX3_shares_85 : decode cX3_shares 85 = .ok (.iload 5, 2) := by decide +kernel
theorem dX3_shares_87 : decode cX3_shares 87 = .ok (.iconst 1, 1) := by decide +kernel
theorem dX3_shares_88 : decode cX3_shares 88 = .ok (.iload 6, 2) := by decide +kernel
theorem dX3_shares_90 : decode cX3_shares 90 = .ok (.ishl, 1) := by decide +kernel
theorem dX3_shares_91 : decode cX3_shares 91 = .ok (.ior, 1) := by decide +kernel
theorem dX3_shares_92 : decode cX3_shares 92 = .ok (.istore 5, 2) := by decide +kernel
theorem dX3_shares_94 : decode cX3_shares 94 = .ok (.iinc 6 1, 3) := by decide +kernel
theorem dX3_shares_97 : decode cX3_shares 97 = .ok (.goto (-47), 3) := by decide +kernel
theorem dX3_shares_100 : decode cX3_shares 100 = .ok (.iload 5, 2) := by decide +kernel
theorem dX3_shares_102 : decode cX3_shares 102 = .ok (.ireturn, 1) := by decide +kernel
set_option maxRecDepth 20000 in
theorem ggX3_kinds_X1_isSquare : GoodIn wsX3_kinds wsX1_isSquare := goodIn_r _ [10, 11, 12, 13, 14, 64, 65, 66, 67, 68, 69, 70, 71, 72, 73, 74, 75, 76, 77] (by decide +kernel) (by decide +kernel)
set_option maxRecDepth 20000 in
theorem gX3_kinds_X1_isSquare : GoodIn wsX3_kinds (wsV RX3 161 RX1 yX1_isSquare wsX1_isSquare) := goodIn_app (goodIn_of _ (by decide +kernel)) ggX3_kinds_X1_isSquare
set_option maxRecDepth 20000 in
theorem ggX3_kinds_X3_isRow : GoodIn wsX3_kinds wsX3_isRow := goodIn_r _ [17, 18, 12, 13, 14] (by decide +kernel) (by decide +kernel)
set_option maxRecDepth 20000 in
theorem gX3_kinds_X3_isRow : GoodIn wsX3_kinds (va_wsS RX3 73 yX3_isRow wsX3_isRow) := goodIn_app (goodIn_of _ (by decide +kernel)) ggX3_kinds_X3_isRow
set_option maxRecDepth 20000 in
theorem ggX3_kinds_X3_lookAt : GoodIn wsX3_kinds wsX3_lookAt := goodIn_r _ [22, 23, 24, 25, 26, 13, 27, 28, 29, 30, 31, 32, 33, 34, 35, 36, 37, 38, 51, 52, 53, 54, 55, 56, 57, 58, 59, 60, 61, 62, 63] (by decide +kernel) (by decide +kernel)
set_option maxRecDepth 20000 in
theorem gX3_kinds_X3_lookAt : GoodIn wsX3_kinds (wsV RX3 86 RX3 yX3_lookAt wsX3_lookAt) := goodIn_app (goodIn_of _ (by decide +kernel)) ggX3_kinds_X3_lookAt
set_option maxRecDepth 20000 in
theorem ggX3_kinds_X1_isClickedSo : GoodIn wsX3_kinds wsX1_isClickedSo := goodIn_r _ [42, 43, 44, 45, 46, 13, 47, 48, 49, 50, 64, 65, 66, 67, 68, 69, 70, 71, 72, 73, 74, 75, 76, 77] (by decide +kernel) (by decide +kernel)
set_option maxRecDepth 20000 in
theorem gX3_kinds_X1_isClickedSo : GoodIn wsX3_kinds (wsV RX3 249 RX1 yX1_isClickedSo wsX1_isClickedSo) := goodIn_app (goodIn_of _ (by decide +kernel)) ggX3_kinds_X1_isClickedSo
theorem dX3_kinds_0 : decode cX3_kinds 0 = .ok (.aload_n 0, 1) := by decide +kernel
theorem dX3_kinds_1 : decode cX3_kinds 1 = .ok (.getfield 38, 3) := by decide +kernel
theorem dX3_kinds_4 : decode cX3_kinds 4 = .ok (.iload_n 1, 1) := by decide +kernel
theorem dX3_kinds_5 : decode cX3_kinds 5 = .ok (.invokevirtual 161, 3) := by decide +kernel
theorem dX3_kinds_8 : decode cX3_kinds 8 = .ok (.ifCond .eq 10, 3) := by decide +kernel
theorem dX3_kinds_11 : decode cX3_kinds 11 = .ok (.iload_n 2, 1) := by decide +kernel
theorem dX3_kinds_12 : decode cX3_kinds 12 = .ok (.invokestatic 73, 3) := by decide +kernel
theorem dX3_kinds_15 : decode cX3_kinds 15 = .ok (.ifCond .ne 6, 3) := by decide +kernel
theorem dX3_kinds_18 : decode cX3_kinds 18 = .ok (.ldc 81, 2) := by decide +kernel
theorem dX3_kinds_20 : decode cX3_kinds 20 = .ok (.ireturn, 1) := by decide +kernel
theorem dX3_kinds_21 : decode cX3_kinds 21 = .ok (.aload_n 0, 1) := by decide +kernel
theorem dX3_kinds_22 : decode cX3_kinds 22 = .ok (.iload_n 2, 1) := by decide +kernel
theorem dX3_kinds_23 : decode cX3_kinds 23 = .ok (.iload_n 3, 1) := by decide +kernel
theorem dX3_kinds_24 : decode cX3_kinds 24 = .ok (.aload_n 0, 1) := by decide +kernel
theorem dX3_kinds_25 : decode cX3_kinds 25 = .ok (.getfield 38, 3) := by decide +kernel
theorem dX3_kinds_28 : decode cX3_kinds 28 = .ok (.getfield 246, 3) := by decide +kernel
theorem dX3_kinds_31 : decode cX3_kinds 31 = .ok (.invokevirtual 86, 3) := by decide +kernel
theorem dX3_kinds_34 : decode cX3_kinds 34 = .ok (.istore 4, 2) := by decide +kernel
theorem dX3_kinds_36 : decode cX3_kinds 36 = .ok (.iload 4, 2) := by decide +kernel
theorem dX3_kinds_38 : decode cX3_kinds 38 = .ok (.ifCond .eq 6, 3) := by decide +kernel
theorem dX3_kinds_41 : decode cX3_kinds 41 = .ok (.iload 4, 2) := by decide +kernel
theorem dX3_kinds_43 : decode cX3_kinds 43 = .ok (.ireturn, 1) := by decide +kernel
theorem dX3_kinds_44 : decode cX3_kinds 44 = .ok (.iconst 0, 1) := by decide +kernel
theorem dX3_kinds_45 : decode cX3_kinds 45 = .ok (.istore 5, 2) := by decide +kernel
theorem dX3_kinds_47 : decode cX3_kinds 47 = .ok (.iconst 1, 1) := by decide +kernel
theorem dX3_kinds_48 : decode cX3_kinds 48 = .ok (.istore 6, 2) := by decide +kernel
theorem dX3_kinds_50 : decode cX3_kinds 50 = .ok (.iload 6, 2) := by decide +kernel
theorem dX3_kinds_52 : decode cX3_kinds 52 = .ok (.iconst 5, 1) := by decide +kernel
theorem dX3_kinds_53 : decode cX3_kinds 53 = .ok (.if_icmp .gt 46, 3) := by decide +kernel
theorem dX3_kinds_56 : decode cX3_kinds 56 = .ok (.aload_n 0, 1) := by decide +kernel
theorem dX3_kinds_57 : decode cX3_kinds 57 = .ok (.getfield 38, 3) := by decide +kernel
theorem dX3_kinds_60 : decode cX3_kinds 60 = .ok (.iload 6, 2) := by decide +kernel
theorem dX3_kinds_62 : decode cX3_kinds 62 = .ok (.aload_n 0, 1) := by decide +kernel
theorem dX3_kinds_63 : decode cX3_kinds 63 = .ok (.getfield 38, 3) := by decide +kernel
theorem dX3_kinds_66 : decode cX3_kinds 66 = .ok (.getfield 164, 3) := by decide +kernel
theorem dX3_kinds_69 : decode cX3_kinds 69 = .ok (.iload_n 1, 1) := by decide +kernel
theorem dX3_kinds_70 : decode cX3_kinds 70 = .ok (.iaload, 1) := by decide +kernel
theorem dX3_kinds_71 : decode cX3_kinds 71 = .ok (.aload_n 0, 1) := by decide +kernel
theorem dX3_kinds_72 : decode cX3_kinds 72 = .ok (.getfield 11, 3) := by decide +kernel
theorem dX3_kinds_75 : decode cX3_kinds 75 = .ok (.iload_n 2, 1) := by decide +kernel
theorem dX3_kinds_76 : decode cX3_kinds 76 = .ok (.aaload, 1) := by decide +kernel
theorem dX3_kinds_77 : decode cX3_kinds 77 = .ok (.iload_n 3, 1) := by decide +kernel
theorem dX3_kinds_78 : decode cX3_kinds 78 = .ok (.invokevirtual 249, 3) := by decide +kernel
theorem dX3_kinds_81 : decode cX3_kinds 81 = .ok (.ifCond .eq 12, 3) := by decide +kernel
theorem dX3_kinds_84 : decode cX3_kinds 84 = .ok (.iload 5, 2) := by decide +kernel
theorem dX3_kinds_86 : decode cX3_kinds 86 = .ok (.iconst 1, 1) := by decide +kernel
theorem dX3_kinds_87 : decode cX3_kinds 87 = .ok (.iload 6, 2) := by decide +kernel
theorem dX3_kinds_89 : decode cX3_kinds 89 = .ok (.ishl, 1) := by decide +kernel
theorem dX3_kinds_90 : decode cX3_kinds 90 = .ok (.ior, 1) := by decide +kernel
theorem dX3_kinds_91 : decode cX3_kinds 91 = .ok (.istore 5, 2) := by decide +kernel
theorem dX3_kinds_93 : decode cX3_kinds 93 = .ok (.iinc 6 1, 3) := by decide +kernel
theorem dX3_kinds_96 : decode cX3_kinds 96 = .ok (.goto (-46), 3) := by decide +kernel
theorem dX3_kinds_99 : decode cX3_kinds 99 = .ok (.iload 5, 2) := by decide +kernel
theorem dX3_kinds_101 : decode cX3_kinds 101 = .ok (.ireturn, 1) := by decide +kernel
set_option maxRecDepth 20000 in
theorem ggX3_who_X1_isRead : GoodIn wsX3_who wsX1_isRead := goodIn_r _ [13, 14, 15, 67, 68, 69, 70, 71, 72, 73, 74, 75, 76, 77, 78, 79, 80] (by decide +kernel) (by decide +kernel)
set_option maxRecDepth 20000 in
theorem gX3_who_X1_isRead : GoodIn wsX3_who (wsV RX3 154 RX1 yX1_isRead wsX1_isRead) := goodIn_app (goodIn_of _ (by decide +kernel)) ggX3_who_X1_isRead
set_option maxRecDepth 20000 in
theorem ggX3_who_X3_isRow : GoodIn wsX3_who wsX3_isRow := goodIn_r _ [19, 20, 21, 18, 22] (by decide +kernel) (by decide +kernel)
set_option maxRecDepth 20000 in
theorem gX3_who_X3_isRow : GoodIn wsX3_who (va_wsS RX3 73 yX3_isRow wsX3_isRow) := goodIn_app (goodIn_of _ (by decide +kernel)) ggX3_who_X3_isRow
set_option maxRecDepth 20000 in
theorem ggX3_who_X3_lookAt : GoodIn wsX3_who wsX3_lookAt := goodIn_r _ [26, 27, 28, 29, 30, 18, 31, 32, 33, 34, 35, 36, 37, 38, 39, 40, 41, 42, 54, 55, 56, 57, 58, 59, 60, 61, 62, 63, 64, 65, 66] (by decide +kernel) (by decide +kernel)
set_option maxRecDepth 20000 in
theorem gX3_who_X3_lookAt : GoodIn wsX3_who (wsV RX3 86 RX3 yX3_lookAt wsX3_lookAt) := goodIn_app (goodIn_of _ (by decide +kernel)) ggX3_who_X3_lookAt
set_option maxRecDepth 20000 in
theorem ggX3_who_X1_wouldClickSo : GoodIn wsX3_who wsX1_wouldClickSo := goodIn_r _ [46, 14, 47, 48, 49, 18, 50, 51, 52, 53, 67, 68, 69, 70, 71, 72, 73, 74, 75, 76, 77, 78, 79, 80] (by decide +kernel) (by decide +kernel)
set_option maxRecDepth 20000 in
theorem gX3_who_X1_wouldClickSo : GoodIn wsX3_who (wsV RX3 253 RX1 yX1_wouldClickSo wsX1_wouldClickSo) := goodIn_app (goodIn_of _ (by decide +kernel)) ggX3_who_X1_wouldClickSo
theorem dX3_who_0 : decode cX3_who 0 = .ok (.aload_n 0, 1) := by decide +kernel
theorem dX3_who_1 : decode cX3_who 1 = .ok (.getfield 38, 3) := by decide +kernel
theorem dX3_who_4 : decode cX3_who 4 = .ok (.invokevirtual 154, 3) := by decide +kernel
theorem dX3_who_7 : decode cX3_who 7 = .ok (.ifCond .ne 6, 3) := by decide +kernel
theorem dX3_who_10 : decode cX3_who 10 = .ok (.ldc 137, 2) := by decide +kernel
theorem dX3_who_12 : decode cX3_who 12 = .ok (.ireturn, 1) := by decide +kernel
theorem dX3_who_13 : decode cX3_who 13 = .ok (.iload_n 1, 1) := by decide +kernel
theorem dX3_who_14 : decode cX3_who 14 = .ok (.invokestatic 73, 3) := by decide +kernel
theorem dX3_who_17 : decode cX3_who 17 = .ok (.ifCond .ne 6, 3) := by decide +kernel
theorem dX3_who_20 : decode cX3_who 20 = .ok (.ldc 81, 2) := by decide +kernel
theorem dX3_who_22 : decode cX3_who 22 = .ok (.ireturn, 1) := by decide +kernel
theorem dX3_who_23 : decode cX3_who 23 = .ok (.aload_n 0, 1) := by decide +kernel
theorem dX3_who_24 : decode cX3_who 24 = .ok (.iload_n 1, 1) := by decide +kernel
theorem dX3_who_25 : decode cX3_who 25 = .ok (.iload_n 2, 1) := by decide +kernel
theorem dX3_who_26 : decode cX3_who 26 = .ok (.aload_n 0, 1) := by decide +kernel
theorem dX3_who_27 : decode cX3_who 27 = .ok (.getfield 38, 3) := by decide +kernel
theorem dX3_who_30 : decode cX3_who 30 = .ok (.getfield 131, 3) := by decide +kernel
theorem dX3_who_33 : decode cX3_who 33 = .ok (.invokevirtual 86, 3) := by decide +kernel
theorem dX3_who_36 : decode cX3_who 36 = .ok (.istore_n 3, 1) := by decide +kernel
theorem dX3_who_37 : decode cX3_who 37 = .ok (.iload_n 3, 1) := by decide +kernel
theorem dX3_who_38 : decode cX3_who 38 = .ok (.ifCond .eq 5, 3) := by decide +kernel
theorem dX3_who_41 : decode cX3_who 41 = .ok (.iload_n 3, 1) := by decide +kernel
theorem dX3_who_42 : decode cX3_who 42 = .ok (.ireturn, 1) := by decide +kernel
theorem dX3_who_43 : decode cX3_who 43 = .ok (.iconst 0, 1) := by decide +kernel
theorem dX3_who_44 : decode cX3_who 44 = .ok (.istore 4, 2) := by decide +kernel
theorem dX3_who_46 : decode cX3_who 46 = .ok (.iconst 0, 1) := by decide +kernel
theorem dX3_who_47 : decode cX3_who 47 = .ok (.istore 5, 2) := by decide +kernel
theorem dX3_who_49 : decode cX3_who 49 = .ok (.iload 5, 2) := by decide +kernel
theorem dX3_who_51 : decode cX3_who 51 = .ok (.aload_n 0, 1) := by decide +kernel
theorem dX3_who_52 : decode cX3_who 52 = .ok (.getfield 38, 3) := by decide +kernel
theorem dX3_who_55 : decode cX3_who 55 = .ok (.getfield 246, 3) := by decide +kernel
theorem dX3_who_58 : decode cX3_who 58 = .ok (.if_icmp .ge 55, 3) := by decide +kernel
theorem dX3_who_61 : decode cX3_who 61 = .ok (.aload_n 0, 1) := by decide +kernel
theorem dX3_who_62 : decode cX3_who 62 = .ok (.getfield 38, 3) := by decide +kernel
theorem dX3_who_65 : decode cX3_who 65 = .ok (.aload_n 0, 1) := by decide +kernel
theorem dX3_who_66 : decode cX3_who 66 = .ok (.getfield 38, 3) := by decide +kernel
theorem dX3_who_69 : decode cX3_who 69 = .ok (.getfield 185, 3) := by decide +kernel
theorem dX3_who_72 : decode cX3_who 72 = .ok (.iload 5, 2) := by decide +kernel
theorem dX3_who_74 : decode cX3_who 74 = .ok (.iaload, 1) := by decide +kernel
theorem dX3_who_75 : decode cX3_who 75 = .ok (.aload_n 0, 1) := by decide +kernel
theorem dX3_who_76 : decode cX3_who 76 = .ok (.getfield 38, 3) := by decide +kernel
theorem dX3_who_79 : decode cX3_who 79 = .ok (.getfield 188, 3) := by decide +kernel
theorem dX3_who_82 : decode cX3_who 82 = .ok (.iload 5, 2) := by decide +kernel
theorem dX3_who_84 : decode cX3_who 84 = .ok (.iaload, 1) := by decide +kernel
theorem dX3_who_85 : decode cX3_who 85 = .ok (.aload_n 0, 1) := by decide +kernel
theorem dX3_who_86 : decode cX3_who 86 = .ok (.getfield 11, 3) := by decide +kernel
theorem dX3_who_89 : decode cX3_who 89 = .ok (.iload_n 1, 1) := by decide +kernel
theorem dX3_who_90 : decode cX3_who 90 = .ok (.aaload, 1) := by decide +kernel
theorem dX3_who_91 : decode cX3_who 91 = .ok (.iload_n 2, 1) := by decide +kernel
theorem dX3_who_92 : decode cX3_who 92 = .ok (.invokevirtual 253, 3) := by decide +kernel
theorem dX3_who_95 : decode cX3_who 95 = .ok (.ifCond .eq 12, 3) := by decide +kernel
theorem dX3_who_98 : decode cX3_who 98 = .ok (.iload 4, 2) := by decide +kernel
theorem dX3_who_100 : decode cX3_who 100 = .ok (.iconst 1, 1) := by decide +kernel
theorem dX3_who_101 : decode cX3_who 101 = .ok (.iload 5, 2) := by decide +kernel
theorem dX3_who_103 : decode cX3_who 103 = .ok (.ishl, 1) := by decide +kernel
theorem dX3_who_104 : decode cX3_who 104 = .ok (.ior, 1) := by decide +kernel
theorem dX3_who_105 : decode cX3_who 105 = .ok (.istore 4, 2) := by decide +kernel
theorem dX3_who_107 : decode cX3_who 107 = .ok (.iinc 5 1, 3) := by decide +kernel
theorem dX3_who_110 : decode cX3_who 110 = .ok (.goto (-61), 3) := by decide +kernel
theorem dX3_who_113 : decode cX3_who 113 = .ok (.iload 4, 2) := by decide +kernel
theorem dX3_who_115 : decode cX3_who 115 = .ok (.ireturn, 1) := by decide +kernel
set_option maxRecDepth 20000 in
theorem ggX3_cares_X1_isRead : GoodIn wsX3_cares wsX1_isRead := goodIn_r _ [10, 11, 12, 64, 65, 66, 67, 68, 69, 70, 71, 72, 73, 74, 75, 76, 77] (by decide +kernel) (by decide +kernel)
set_option maxRecDepth 20000 in
theorem gX3_cares_X1_isRead : GoodIn wsX3_cares (wsV RX3 154 RX1 yX1_isRead wsX1_isRead) := goodIn_app (goodIn_of _ (by decide +kernel)) ggX3_cares_X1_isRead
set_option maxRecDepth 20000 in
theorem ggX3_cares_X3_isIn : GoodIn wsX3_cares wsX3_isIn := goodIn_r _ [16] (by decide +kernel) (by decide +kernel)
set_option maxRecDepth 20000 in
theorem gX3_cares_X3_isIn : GoodIn wsX3_cares (va_wsS RX3 77 yX3_isIn wsX3_isIn) := goodIn_app (goodIn_of _ (by decide +kernel)) ggX3_cares_X3_isIn
set_option maxRecDepth 20000 in
theorem ggX3_cares_X3_isRow : GoodIn wsX3_cares wsX3_isRow := goodIn_r _ [19, 13, 14, 15, 16] (by decide +kernel) (by decide +kernel)
set_option maxRecDepth 20000 in
theorem gX3_cares_X3_isRow : GoodIn wsX3_cares (va_wsS RX3 73 yX3_isRow wsX3_isRow) := goodIn_app (goodIn_of _ (by decide +kernel)) ggX3_cares_X3_isRow
set_option maxRecDepth 20000 in
theorem ggX3_cares_X3_lookAt : GoodIn wsX3_cares wsX3_lookAt := goodIn_r _ [23, 24, 25, 26, 27, 15, 28, 29, 30, 31, 32, 33, 34, 35, 36, 37, 38, 39, 51, 52, 53, 54, 55, 56, 57, 58, 59, 60, 61, 62, 63] (by decide +kernel) (by decide +kernel)
set_option maxRecDepth 20000 in
theorem gX3_cares_X3_lookAt : GoodIn wsX3_cares (wsV RX3 86 RX3 yX3_lookAt wsX3_lookAt) := goodIn_app (goodIn_of _ (by decide +kernel)) ggX3_cares_X3_lookAt
set_option maxRecDepth 20000 in
theorem ggX3_cares_X1_wouldClickSo : GoodIn wsX3_cares wsX1_wouldClickSo := goodIn_r _ [43, 11, 44, 45, 46, 15, 47, 48, 49, 50, 64, 65, 66, 67, 68, 69, 70, 71, 72, 73, 74, 75, 76, 77] (by decide +kernel) (by decide +kernel)
set_option maxRecDepth 20000 in
theorem gX3_cares_X1_wouldClickSo : GoodIn wsX3_cares (wsV RX3 253 RX1 yX1_wouldClickSo wsX1_wouldClickSo) := goodIn_app (goodIn_of _ (by decide +kernel)) ggX3_cares_X1_wouldClickSo
theorem dX3_cares_0 : decode cX3_cares 0 = .ok (.aload_n 0, 1) := by decide +kernel
theorem dX3_cares_1 : decode cX3_cares 1 = .ok (.getfield 38, 3) := by decide +kernel
theorem dX3_cares_4 : decode cX3_cares 4 = .ok (.invokevirtual 154, 3) := by decide +kernel
theorem dX3_cares_7 : decode cX3_cares 7 = .ok (.ifCond .ne 6, 3) := by decide +kernel
theorem dX3_cares_10 : decode cX3_cares 10 = .ok (.ldc 137, 2) := by decide +kernel
theorem dX3_cares_12 : decode cX3_cares 12 = .ok (.ireturn, 1) := by decide +kernel
theorem dX3_cares_13 : decode cX3_cares 13 = .ok (.iload_n 1, 1) := by decide +kernel
theorem dX3_cares_14 : decode cX3_cares 14 = .ok (.iconst 0, 1) := by decide +kernel
theorem dX3_cares_15 : decode cX3_cares 15 = .ok (.bipush 9, 2) := by decide +kernel
theorem dX3_cares_17 : decode cX3_cares 17 = .ok (.invokestatic 77, 3) := by decide +kernel
theorem dX3_cares_20 : decode cX3_cares 20 = .ok (.ifCond .eq 10, 3) := by decide +kernel
theorem dX3_cares_23 : decode cX3_cares 23 = .ok (.iload_n 2, 1) := by decide +kernel
theorem dX3_cares_24 : decode cX3_cares 24 = .ok (.invokestatic 73, 3) := by decide +kernel
theorem dX3_cares_27 : decode cX3_cares 27 = .ok (.ifCond .ne 6, 3) := by decide +kernel
theorem dX3_cares_30 : decode cX3_cares 30 = .ok (.ldc 81, 2) := by decide +kernel
theorem dX3_cares_32 : decode cX3_cares 32 = .ok (.ireturn, 1) := by decide +kernel
theorem dX3_cares_33 : decode cX3_cares 33 = .ok (.aload_n 0, 1) := by decide +kernel
theorem dX3_cares_34 : decode cX3_cares 34 = .ok (.iload_n 2, 1) := by decide +kernel
theorem dX3_cares_35 : decode cX3_cares 35 = .ok (.iload_n 3, 1) := by decide +kernel
theorem dX3_cares_36 : decode cX3_cares 36 = .ok (.aload_n 0, 1) := by decide +kernel
theorem dX3_cares_37 : decode cX3_cares 37 = .ok (.getfield 38, 3) := by decide +kernel
theorem dX3_cares_40 : decode cX3_cares 40 = .ok (.getfield 131, 3) := by decide +kernel
theorem dX3_cares_43 : decode cX3_cares 43 = .ok (.invokevirtual 86, 3) := by decide +kernel
theorem dX3_cares_46 : decode cX3_cares 46 = .ok (.istore 4, 2) := by decide +kernel
theorem dX3_cares_48 : decode cX3_cares 48 = .ok (.iload 4, 2) := by decide +kernel
theorem dX3_cares_50 : decode cX3_cares 50 = .ok (.ifCond .eq 6, 3) := by decide +kernel
theorem dX3_cares_53 : decode cX3_cares 53 = .ok (.iload 4, 2) := by decide +kernel
theorem dX3_cares_55 : decode cX3_cares 55 = .ok (.ireturn, 1) := by decide +kernel
theorem dX3_cares_56 : decode cX3_cares 56 = .ok (.iconst 0, 1) := by decide +kernel
theorem dX3_cares_57 : decode cX3_cares 57 = .ok (.istore 5, 2) := by decide +kernel
theorem dX3_cares_59 : decode cX3_cares 59 = .ok (.iconst 0, 1) := by decide +kernel
theorem dX3_cares_60 : decode cX3_cares 60 = .ok (.istore 6, 2) := by decide +kernel
theorem dX3_cares_62 : decode cX3_cares 62 = .ok (.iload 6, 2) := by decide +kernel
theorem dX3_cares_64 : decode cX3_cares 64 = .ok (.bipush 9, 2) := by decide +kernel
theorem dX3_cares_66 : decode cX3_cares 66 = .ok (.if_icmp .gt 38, 3) := by decide +kernel
theorem dX3_cares_69 : decode cX3_cares 69 = .ok (.aload_n 0, 1) := by decide +kernel
theorem dX3_cares_70 : decode cX3_cares 70 = .ok (.getfield 38, 3) := by decide +kernel
theorem dX3_cares_73 : decode cX3_cares 73 = .ok (.iload 6, 2) := by decide +kernel
theorem dX3_cares_75 : decode cX3_cares 75 = .ok (.iload_n 1, 1) := by decide +kernel
theorem dX3_cares_76 : decode cX3_cares 76 = .ok (.aload_n 0, 1) := by decide +kernel
theorem dX3_cares_77 : decode cX3_cares 77 = .ok (.getfield 11, 3) := by decide +kernel
theorem dX3_cares_80 : decode cX3_cares 80 = .ok (.iload_n 2, 1) := by decide +kernel
theorem dX3_cares_81 : decode cX3_cares 81 = .ok (.aaload, 1) := by decide +kernel
theorem dX3_cares_82 : decode cX3_cares 82 = .ok (.iload_n 3, 1) := by decide +kernel
theorem dX3_cares_83 : decode cX3_cares 83 = .ok (.invokevirtual 253, 3) := by decide +kernel
theorem dX3_cares_86 : decode cX3_cares 86 = .ok (.ifCond .eq 12, 3) := by decide +kernel
theorem dX3_cares_89 : decode cX3_cares 89 = .ok (.iload 5, 2) := by decide +kernel
theorem dX3_cares_91 : decode cX3_cares 91 = .ok (.iconst 1, 1) := by decide +kernel
theorem dX3_cares_92 : decode cX3_cares 92 = .ok (.iload 6, 2) := by decide +kernel
theorem dX3_cares_94 : decode cX3_cares 94 = .ok (.ishl, 1) := by decide +kernel
theorem dX3_cares_95 : decode cX3_cares 95 = .ok (.ior, 1) := by decide +kernel
theorem dX3_cares_96 : decode cX3_cares 96 = .ok (.istore 5, 2) := by decide +kernel
theorem dX3_cares_98 : decode cX3_cares 98 = .ok (.iinc 6 1, 3) := by decide +kernel
theorem dX3_cares_101 : decode cX3_cares 101 = .ok (.goto (-39), 3) := by decide +kernel
theorem dX3_cares_104 : decode cX3_cares 104 = .ok (.iload 5, 2) := by decide +kernel
theorem dX3_cares_106 : decode cX3_cares 106 = .ok (.ireturn, 1) := by decide +kernel
set_option maxRecDepth 20000 in
theorem ggX3_image_X3_isIn : GoodIn wsX3_image wsX3_isIn := goodIn_r _ [8] (by decide +kernel) (by decide +kernel)
set_option maxRecDepth 20000 in
theorem gX3_image_X3_isIn : GoodIn wsX3_image (va_wsS RX3 77 yX3_isIn wsX3_isIn) := goodIn_app (goodIn_of _ (by decide +kernel)) ggX3_image_X3_isIn
set_option maxRecDepth 20000 in
theorem ggX3_image_X1_isRead : GoodIn wsX3_image wsX1_isRead := goodIn_r _ [13, 14, 15, 48, 49, 50, 51, 52, 53, 54, 55, 56, 57, 58, 59, 60, 61] (by decide +kernel) (by decide +kernel)
set_option maxRecDepth 20000 in
theorem gX3_image_X1_isRead : GoodIn wsX3_image (wsV RX3 154 RX1 yX1_isRead wsX1_isRead) := goodIn_app (goodIn_of _ (by decide +kernel)) ggX3_image_X1_isRead
set_option maxRecDepth 20000 in
theorem ggX3_image_X1_takeFrom : GoodIn wsX3_image wsX1_takeFrom := goodIn_r _ [19, 20, 21, 14, 15, 22, 23, 24, 25, 26, 27, 28, 29, 30, 31, 32, 33, 34, 48, 49, 50, 51, 52, 53, 54, 55, 56, 57, 58, 59, 60, 61] (by decide +kernel) (by decide +kernel)
set_option maxRecDepth 20000 in
theorem gX3_image_X1_takeFrom : GoodIn wsX3_image (wsV RX3 124 RX1 yX1_takeFrom wsX1_takeFrom) := goodIn_app (goodIn_of _ (by decide +kernel)) ggX3_image_X1_takeFrom
theorem dX3_image_0 : decode cX3_image 0 = .ok (.iload_n 1, 1) := by decide +kernel
theorem dX3_image_1 : decode cX3_image 1 = .ok (.iconst 0, 1) := by decide +kernel
theorem dX3_image_2 : decode cX3_image 2 = .ok (.iconst 1, 1) := by decide +kernel
theorem dX3_image_3 : decode cX3_image 3 = .ok (.invokestatic 77, 3) := by decide +kernel
theorem dX3_image_6 : decode cX3_image 6 = .ok (.ifCond .ne 6, 3) := by decide +kernel
theorem dX3_image_9 : decode cX3_image 9 = .ok (.ldc 81, 2) := by decide +kernel
theorem dX3_image_11 : decode cX3_image 11 = .ok (.ireturn, 1) := by decide +kernel
theorem dX3_image_12 : decode cX3_image 12 = .ok (.aload_n 0, 1) := by decide +kernel
theorem dX3_image_13 : decode cX3_image 13 = .ok (.getfield 38, 3) := by decide +kernel
theorem dX3_image_16 : decode cX3_image 16 = .ok (.invokevirtual 154, 3) := by decide +kernel
theorem dX3_image_19 : decode cX3_image 19 = .ok (.ifCond .ne 6, 3) := by decide +kernel
theorem dX3_image_22 : decode cX3_image 22 = .ok (.ldc 137, 2) := by decide +kernel
theorem dX3_image_24 : decode cX3_image 24 = .ok (.ireturn, 1) := by decide +kernel
theorem dX3_image_25 : decode cX3_image 25 = .ok (.aload_n 0, 1) := by decide +kernel
theorem dX3_image_26 : decode cX3_image 26 = .ok (.getfield 52, 3) := by decide +kernel
theorem dX3_image_29 : decode cX3_image 29 = .ok (.iload_n 1, 1) := by decide +kernel
theorem dX3_image_30 : decode cX3_image 30 = .ok (.aaload, 1) := by decide +kernel
theorem dX3_image_31 : decode cX3_image 31 = .ok (.aload_n 0, 1) := by decide +kernel
theorem dX3_image_32 : decode cX3_image 32 = .ok (.getfield 38, 3) := by decide +kernel
theorem dX3_image_35 : decode cX3_image 35 = .ok (.invokevirtual 124, 3) := by decide +kernel
theorem dX3_image_38 : decode cX3_image 38 = .ok (.iconst 1, 1) := by decide +kernel
theorem dX3_image_39 : decode cX3_image 39 = .ok (.ireturn, 1) := by decide +kernel
set_option maxRecDepth 20000 in
theorem ggX3_restore_X3_isIn : GoodIn wsX3_restore wsX3_isIn := goodIn_r _ [9] (by decide +kernel) (by decide +kernel)
set_option maxRecDepth 20000 in
theorem gX3_restore_X3_isIn : GoodIn wsX3_restore (va_wsS RX3 77 yX3_isIn wsX3_isIn) := goodIn_app (goodIn_of _ (by decide +kernel)) ggX3_restore_X3_isIn
set_option maxRecDepth 20000 in
theorem ggX3_restore_X1_isRead : GoodIn wsX3_restore wsX1_isRead := goodIn_r _ [14, 15, 16, 55, 56, 57, 58, 59, 60, 61, 62, 63, 64, 65, 66, 67, 68] (by decide +kernel) (by decide +kernel)
set_option maxRecDepth 20000 in
theorem gX3_restore_X1_isRead : GoodIn wsX3_restore (wsV RX3 154 RX1 yX1_isRead wsX1_isRead) := goodIn_app (goodIn_of _ (by decide +kernel)) ggX3_restore_X1_isRead
set_option maxRecDepth 20000 in
theorem ggX3_restore_X1_takeFrom : GoodIn wsX3_restore wsX1_takeFrom := goodIn_r _ [20, 21, 22, 15, 16, 23, 24, 25, 26, 27, 28, 29, 30, 31, 32, 33, 34, 35, 55, 56, 57, 58, 59, 60, 61, 62, 63, 64, 65, 66, 67, 68] (by decide +kernel) (by decide +kernel)
set_option maxRecDepth 20000 in
theorem gX3_restore_X1_takeFrom : GoodIn wsX3_restore (wsV RX3 124 RX1 yX1_takeFrom wsX1_takeFrom) := goodIn_app (goodIn_of _ (by decide +kernel)) ggX3_restore_X1_takeFrom
set_option maxRecDepth 20000 in
theorem ggX3_restore_X0_forgetAll : GoodIn wsX3_restore wsX0_forgetAll := goodIn_r _ [40, 41, 69, 70, 71] (by decide +kernel) (by decide +kernel)
set_option maxRecDepth 20000 in
theorem gX3_restore_X0_forgetAll : GoodIn wsX3_restore (wsV RX3 128 RX0 yX0_forgetAll wsX0_forgetAll) := goodIn_app (goodIn_of _ (by decide +kernel)) ggX3_restore_X0_forgetAll
theorem dX3_restore_0 : decode cX3_restore 0 = .ok (.iload_n 1, 1) := by decide +kernel
theorem dX3_restore_1 : decode cX3_restore 1 = .ok (.iconst 0, 1) := by decide +kernel
theorem dX3_restore_2 : decode cX3_restore 2 = .ok (.iconst 1, 1) := by decide +kernel
theorem dX3_restore_3 : decode cX3_restore 3 = .ok (.invokestatic 77, 3) := by decide +kernel
theorem dX3_restore_6 : decode cX3_restore 6 = .ok (.ifCond .ne 6, 3) := by decide +kernel
theorem dX3_restore_9 : decode cX3_restore 9 = .ok (.ldc 81, 2) := by decide +kernel
theorem dX3_restore_11 : decode cX3_restore 11 = .ok (.ireturn, 1) := by decide +kernel
theorem dX3_restore_12 : decode cX3_restore 12 = .ok (.aload_n 0, 1) := by decide +kernel
theorem dX3_restore_13 : decode cX3_restore 13 = .ok (.getfield 52, 3) := by decide +kernel
theorem dX3_restore_16 : decode cX3_restore 16 = .ok (.iload_n 1, 1) := by decide +kernel
theorem dX3_restore_17 : decode cX3_restore 17 = .ok (.aaload, 1) := by decide +kernel
theorem dX3_restore_18 : decode cX3_restore 18 = .ok (.invokevirtual 154, 3) := by decide +kernel
theorem dX3_restore_21 : decode cX3_restore 21 = .ok (.ifCond .ne 6, 3) := by decide +kernel
theorem dX3_restore_24 : decode cX3_restore 24 = .ok (.ldc 137, 2) := by decide +kernel
theorem dX3_restore_26 : decode cX3_restore 26 = .ok (.ireturn, 1) := by decide +kernel
theorem dX3_restore_27 : decode cX3_restore 27 = .ok (.aload_n 0, 1) := by decide +kernel
theorem dX3_restore_28 : decode cX3_restore 28 = .ok (.getfield 38, 3) := by decide +kernel
theorem dX3_restore_31 : decode cX3_restore 31 = .ok (.aload_n 0, 1) := by decide +kernel
theorem dX3_restore_32 : decode cX3_restore 32 = .ok (.getfield 52, 3) := by decide +kernel
theorem dX3_restore_35 : decode cX3_restore 35 = .ok (.iload_n 1, 1) := by decide +kernel
theorem dX3_restore_36 : decode cX3_restore 36 = .ok (.aaload, 1) := by decide +kernel
theorem dX3_restore_37 : decode cX3_restore 37 = .ok (.invokevirtual 124, 3) := by decide +kernel
theorem dX3_restore_40 : decode cX3_restore 40 = .ok (.aload_n 0, 1) := by decide +kernel
theorem dX3_restore_41 : decode cX3_restore 41 = .ok (.getfield 48, 3) := by decide +kernel
theorem dX3_restore_44 : decode cX3_restore 44 = .ok (.invokevirtual 128, 3) := by decide +kernel
theorem dX3_restore_47 : decode cX3_restore 47 = .ok (.iconst 1, 1) := by decide +kernel
theorem dX3_restore_48 : decode cX3_restore 48 = .ok (.ireturn, 1) := by decide +kernel
