set_option maxRecDepth 20000 in
theorem ggX3_copy_X3_isRow : GoodIn wsX3_copy wsX3_isRow := goodIn_r _ [12, 13, 14, 11, 15] (by decide +kernel) (by decide +kernel)
set_option maxRecDepth 20000 in
theorem gX3_copy_X3_isRow : GoodIn wsX3_copy (va_wsS RX3 73 yX3_isRow wsX3_isRow) := goodIn_app (goodIn_of _ (by decide +kernel)) ggX3_copy_X3_isRow
set_option maxRecDepth 20000 in
theorem ggX3_copy_X3_isMissing : GoodIn wsX3_copy wsX3_isMissing := goodIn_r _ [19, 20, 21, 31, 32, 33, 34, 35, 36, 37, 38, 39, 40, 41, 42, 43] (by decide +kernel) (by decide +kernel)
set_option maxRecDepth 20000 in
theorem gX3_copy_X3_isMissing : GoodIn wsX3_copy (wsV RX3 94 RX3 yX3_isMissing wsX3_isMissing) := goodIn_app (goodIn_of _ (by decide +kernel)) ggX3_copy_X3_isMissing
set_option maxRecDepth 20000 in
theorem ggX3_copy_X3_found : GoodIn wsX3_copy wsX3_found := goodIn_r _ [25, 3, 26, 31, 32, 33, 34, 35, 36, 37, 38, 39, 40, 41, 42, 43] (by decide +kernel) (by decide +kernel)
set_option maxRecDepth 20000 in
theorem gX3_copy_X3_found : GoodIn wsX3_copy (wsV RX3 82 RX3 yX3_found wsX3_found) := goodIn_app (goodIn_of _ (by decide +kernel)) ggX3_copy_X3_found
set_option maxRecDepth 20000 in
theorem ggX3_copy_X3_hasItems : GoodIn wsX3_copy wsX3_hasItems := goodIn_r _ [30, 20, 31, 32, 33, 34, 35, 36, 37, 38, 39, 40, 41, 42, 43] (by decide +kernel) (by decide +kernel)
set_option maxRecDepth 20000 in
theorem gX3_copy_X3_hasItems : GoodIn wsX3_copy (wsV RX3 97 RX3 yX3_hasItems wsX3_hasItems) := goodIn_app (goodIn_of _ (by decide +kernel)) ggX3_copy_X3_hasItems
theorem dX3_copy_0 : decode cX3_copy 0 = .ok (.iload_n 1, 1) := by decide +kernel
theorem dX3_copy_1 : decode cX3_copy 1 = .ok (.invokestatic 73, 3) := by decide +kernel
theorem dX3_copy_4 : decode cX3_copy 4 = .ok (.ifCond .eq 10, 3) := by decide +kernel
theorem dX3_copy_7 : decode cX3_copy 7 = .ok (.iload_n 3, 1) := by decide +kernel
theorem dX3_copy_8 : decode cX3_copy 8 = .ok (.invokestatic 73, 3) := by decide +kernel
theorem dX3_copy_11 : decode cX3_copy 11 = .ok (.ifCond .ne 6, 3) := by decide +kernel
theorem dX3_copy_14 : decode cX3_copy 14 = .ok (.ldc 81, 2) := by decide +kernel
theorem dX3_copy_16 : decode cX3_copy 16 = .ok (.ireturn, 1) := by decide +kernel
theorem dX3_copy_17 : decode cX3_copy 17 = .ok (.aload_n 0, 1) := by decide +kernel
theorem dX3_copy_18 : decode cX3_copy 18 = .ok (.iload_n 1, 1) := by decide +kernel
theorem dX3_copy_19 : decode cX3_copy 19 = .ok (.invokevirtual 94, 3) := by decide +kernel
theorem dX3_copy_22 : decode cX3_copy 22 = .ok (.ifCond .ne 11, 3) := by decide +kernel
theorem dX3_copy_25 : decode cX3_copy 25 = .ok (.aload_n 0, 1) := by decide +kernel
theorem dX3_copy_26 : decode cX3_copy 26 = .ok (.iload_n 3, 1) := by decide +kernel
theorem dX3_copy_27 : decode cX3_copy 27 = .ok (.invokevirtual 94, 3) := by decide +kernel
theorem dX3_copy_30 : decode cX3_copy 30 = .ok (.ifCond .eq 9, 3) := by decide +kernel
theorem dX3_copy_33 : decode cX3_copy 33 = .ok (.aload_n 0, 1) := by decide +kernel
theorem dX3_copy_34 : decode cX3_copy 34 = .ok (.iconst 1, 1) := by decide +kernel
theorem dX3_copy_35 : decode cX3_copy 35 = .ok (.invokevirtual 82, 3) := by decide +kernel
theorem dX3_copy_38 : decode cX3_copy 38 = .ok (.ireturn, 1) := by decide +kernel
theorem dX3_copy_39 : decode cX3_copy 39 = .ok (.aload_n 0, 1) := by decide +kernel
theorem dX3_copy_40 : decode cX3_copy 40 = .ok (.getfield 14, 3) := by decide +kernel
theorem dX3_copy_43 : decode cX3_copy 43 = .ok (.iload_n 1, 1) := by decide +kernel
theorem dX3_copy_44 : decode cX3_copy 44 = .ok (.iaload, 1) := by decide +kernel
theorem dX3_copy_45 : decode cX3_copy 45 = .ok (.aload_n 0, 1) := by decide +kernel
theorem dX3_copy_46 : decode cX3_copy 46 = .ok (.getfield 14, 3) := by decide +kernel
theorem dX3_copy_49 : decode cX3_copy 49 = .ok (.iload_n 3, 1) := by decide +kernel
theorem dX3_copy_50 : decode cX3_copy 50 = .ok (.iaload, 1) := by decide +kernel
theorem dX3_copy_51 : decode cX3_copy 51 = .ok (.if_icmp .eq 9, 3) := by decide +kernel
theorem dX3_copy_54 : decode cX3_copy 54 = .ok (.aload_n 0, 1) := by decide +kernel
theorem dX3_copy_55 : decode cX3_copy 55 = .ok (.iconst 5, 1) := by decide +kernel
theorem dX3_copy_56 : decode cX3_copy 56 = .ok (.invokevirtual 82, 3) := by decide +kernel
theorem dX3_copy_59 : decode cX3_copy 59 = .ok (.ireturn, 1) := by decide +kernel
theorem dX3_copy_60 : decode cX3_copy 60 = .ok (.aload_n 0, 1) := by decide +kernel
theorem dX3_copy_61 : decode cX3_copy 61 = .ok (.iload_n 1, 1) := by decide +kernel
theorem dX3_copy_62 : decode cX3_copy 62 = .ok (.iload_n 2, 1) := by decide +kernel
theorem dX3_copy_63 : decode cX3_copy 63 = .ok (.iload 5, 2) := by decide +kernel
theorem dX3_copy_65 : decode cX3_copy 65 = .ok (.invokevirtual 97, 3) := by decide +kernel
theorem dX3_copy_68 : decode cX3_copy 68 = .ok (.ifCond .eq 15, 3) := by decide +kernel
theorem dX3_copy_71 : decode cX3_copy 71 = .ok (.aload_n 0, 1) := by decide +kernel
theorem dX3_copy_72 : decode cX3_copy 72 = .ok (.iload_n 3, 1) := by decide +kernel
theorem dX3_copy_73 : decode cX3_copy 73 = .ok (.iload 4, 2) := by decide +kernel
theorem dX3_copy_75 : decode cX3_copy 75 = .ok (.iload 5, 2) := by decide +kernel
theorem dX3_copy_77 : decode cX3_copy 77 = .ok (.invokevirtual 97, 3) := by decide +kernel
theorem dX3_copy_80 : decode cX3_copy 80 = .ok (.ifCond .ne 9, 3) := by decide +kernel
theorem dX3_copy_83 : decode cX3_copy 83 = .ok (.aload_n 0, 1) := by decide +kernel
theorem dX3_copy_84 : decode cX3_copy 84 = .ok (.iconst 2, 1) := by decide +kernel
theorem dX3_copy_85 : decode cX3_copy 85 = .ok (.invokevirtual 82, 3) := by decide +kernel
theorem dX3_copy_88 : decode cX3_copy 88 = .ok (.ireturn, 1) := by decide +kernel
theorem dX3_copy_89 : decode cX3_copy 89 = .ok (.aload_n 0, 1) := by decide +kernel
theorem dX3_copy_90 : decode cX3_copy 90 = .ok (.iconst 0, 1) := by decide +kernel
theorem dX3_copy_91 : decode cX3_copy 91 = .ok (.putfield 21, 3) := by decide +kernel
theorem dX3_copy_94 : decode cX3_copy 94 = .ok (.aload_n 0, 1) := by decide +kernel
theorem dX3_copy_95 : decode cX3_copy 95 = .ok (.getfield 11, 3) := by decide +kernel
theorem dX3_copy_98 : decode cX3_copy 98 = .ok (.iload_n 1, 1) := by decide +kernel
theorem dX3_copy_99 : decode cX3_copy 99 = .ok (.aaload, 1) := by decide +kernel
theorem dX3_copy_100 : decode cX3_copy 100 = .ok (.iload_n 2, 1) := by decide +kernel
theorem dX3_copy_101 : decode cX3_copy 101 = .ok (.aload_n 0, 1) := by decide +kernel
theorem dX3_copy_102 : decode cX3_copy 102 = .ok (.getfield 11, 3) := by decide +kernel
theorem dX3_copy_105 : decode cX3_copy 105 = .ok (.iload_n 3, 1) := by decide +kernel
theorem dX3_copy_106 : decode cX3_copy 106 = .ok (.aaload, 1) := by decide +kernel
theorem dX3_copy_107 : decode cX3_copy 107 = .ok (.iload 4, 2) := by decide +kernel
theorem dX3_copy_109 : decode cX3_copy 109 = .ok (.iload 5, 2) := by decide +kernel
theorem dX3_copy_111 : decode cX3_copy 111 = .ok (.invokestatic 100, 3) := by decide +kernel
theorem dX3_copy_114 : decode cX3_copy 114 = .ok (.iload 5, 2) := by decide +kernel
theorem dX3_copy_116 : decode cX3_copy 116 = .ok (.ireturn, 1) := by decide +kernel
set_option maxRecDepth 20000 in
theorem ggX3_spreadCases_J7_fill_d0a16 : GoodIn wsX3_spreadCases wsJ7_fill_d0a16 := goodIn_r _ [5] (by decide +kernel) (by decide +kernel)
set_option maxRecDepth 20000 in
theorem gX3_spreadCases_J7_fill_d0a16 : GoodIn wsX3_spreadCases (va_wsS RX3 308 yJ7_fill_d0a16 wsJ7_fill_d0a16) := goodIn_app (goodIn_of _ (by decide +kernel)) ggX3_spreadCases_J7_fill_d0a16
theorem dX3_spreadCases_0 : decode cX3_spreadCases 0 = .ok (.aload_n 0, 1) := by decide +kernel
theorem dX3_spreadCases_1 : decode cX3_spreadCases 1 = .ok (.getfield 62, 3) := by decide +kernel
theorem dX3_spreadCases_4 : decode cX3_spreadCases 4 = .ok (.lconst 0, 1) := by decide +kernel
theorem dX3_spreadCases_5 : decode cX3_spreadCases 5 = .ok (.invokestatic 308, 3) := by decide +kernel
theorem dX3_spreadCases_8 : decode cX3_spreadCases 8 = .ok (.aload_n 0, 1) := by decide +kernel
theorem dX3_spreadCases_9 : decode cX3_spreadCases 9 = .ok (.getfield 62, 3) := by decide +kernel
theorem dX3_spreadCases_12 : decode cX3_spreadCases 12 = .ok (.iconst 0, 1) := by decide +kernel
theorem dX3_spreadCases_13 : decode cX3_spreadCases 13 = .ok (.lconst 1, 1) := by decide +kernel
theorem dX3_spreadCases_14 : decode cX3_spreadCases 14 = .ok (.lastore, 1) := by decide +kernel
theorem dX3_spreadCases_15 : decode cX3_spreadCases 15 = .ok (.iconst 0, 1) := by decide +kernel
theorem dX3_spreadCases_16 : decode cX3_spreadCases 16 = .ok (.istore 4, 2) := by decide +kernel
theorem dX3_spreadCases_18 : decode cX3_spreadCases 18 = .ok (.iload 4, 2) := by decide +kernel
theorem dX3_spreadCases_20 : decode cX3_spreadCases 20 = .ok (.bipush 8, 2) := by decide +kernel
theorem dX3_spreadCases_22 : decode cX3_spreadCases 22 = .ok (.if_icmp .ge 104, 3) := by decide +kernel
theorem dX3_spreadCases_25 : decode cX3_spreadCases 25 = .ok (.iload_n 1, 1) := by decide +kernel
theorem dX3_spreadCases_26 : decode cX3_spreadCases 26 = .ok (.iload 4, 2) := by decide +kernel
theorem dX3_spreadCases_28 : decode cX3_spreadCases 28 = .ok (.ishr, 1) := by decide +kernel
theorem dX3_spreadCases_29 : decode cX3_spreadCases 29 = .ok (.iconst 1, 1) := by decide +kernel
theorem dX3_spreadCases_30 : decode cX3_spreadCases 30 = .ok (.iand, 1) := by decide +kernel
theorem dX3_spreadCases_31 : decode cX3_spreadCases 31 = .ok (.iconst 1, 1) := by decide +kernel
theorem dX3_spreadCases_32 : decode cX3_spreadCases 32 = .ok (.if_icmp .ne 88, 3) := by decide +kernel
theorem dX3_spreadCases_35 : decode cX3_spreadCases 35 = .ok (.iload_n 2, 1) := by decide +kernel
theorem dX3_spreadCases_36 : decode cX3_spreadCases 36 = .ok (.iload 4, 2) := by decide +kernel
theorem dX3_spreadCases_38 : decode cX3_spreadCases 38 = .ok (.ishr, 1) := by decide +kernel
theorem dX3_spreadCases_39 : decode cX3_spreadCases 39 = .ok (.iconst 1, 1) := by decide +kernel
theorem dX3_spreadCases_40 : decode cX3_spreadCases 40 = .ok (.iand, 1) := by decide +kernel
theorem dX3_spreadCases_41 : decode cX3_spreadCases 41 = .ok (.iconst 1, 1) := by decide +kernel
theorem dX3_spreadCases_42 : decode cX3_spreadCases 42 = .ok (.if_icmp .ne 10, 3) := by decide +kernel
theorem dX3_spreadCases_45 : decode cX3_spreadCases 45 = .ok (.bipush 10, 2) := by decide +kernel
theorem dX3_spreadCases_47 : decode cX3_spreadCases 47 = .ok (.iload_n 3, 1) := by decide +kernel
theorem dX3_spreadCases_48 : decode cX3_spreadCases 48 = .ok (.isub, 1) := by decide +kernel
theorem dX3_spreadCases_49 : decode cX3_spreadCases 49 = .ok (.goto 4, 3) := by decide +kernel
theorem dX3_spreadCases_52 : decode cX3_spreadCases 52 = .ok (.iload_n 3, 1) := by decide +kernel
theorem dX3_spreadCases_53 : decode cX3_spreadCases 53 = .ok (.istore 5, 2) := by decide +kernel
theorem dX3_spreadCases_55 : decode cX3_spreadCases 55 = .ok (.bipush 8, 2) := by decide +kernel
theorem dX3_spreadCases_57 : decode cX3_spreadCases 57 = .ok (.istore 6, 2) := by decide +kernel
theorem dX3_spreadCases_59 : decode cX3_spreadCases 59 = .ok (.iload 6, 2) := by decide +kernel
theorem dX3_spreadCases_61 : decode cX3_spreadCases 61 = .ok (.ifCond .le 44, 3) := by decide +kernel
theorem dX3_spreadCases_64 : decode cX3_spreadCases 64 = .ok (.aload_n 0, 1) := by decide +kernel
theorem dX3_spreadCases_65 : decode cX3_spreadCases 65 = .ok (.getfield 62, 3) := by decide +kernel
theorem dX3_spreadCases_68 : decode cX3_spreadCases 68 = .ok (.iload 6, 2) := by decide +kernel
theorem dX3_spreadCases_70 : decode cX3_spreadCases 70 = .ok (.aload_n 0, 1) := by decide +kernel
theorem dX3_spreadCases_71 : decode cX3_spreadCases 71 = .ok (.getfield 62, 3) := by decide +kernel
theorem dX3_spreadCases_74 : decode cX3_spreadCases 74 = .ok (.iload 6, 2) := by decide +kernel
theorem dX3_spreadCases_76 : decode cX3_spreadCases 76 = .ok (.laload, 1) := by decide +kernel
theorem dX3_spreadCases_77 : decode cX3_spreadCases 77 = .ok (.bipush 10, 2) := by decide +kernel
theorem dX3_spreadCases_79 : decode cX3_spreadCases 79 = .ok (.iload 5, 2) := by decide +kernel
theorem dX3_spreadCases_81 : decode cX3_spreadCases 81 = .ok (.isub, 1) := by decide +kernel
theorem dX3_spreadCases_82 : decode cX3_spreadCases 82 = .ok (.i2l, 1) := by decide +kernel
theorem dX3_spreadCases_83 : decode cX3_spreadCases 83 = .ok (.lmul, 1) := by decide +kernel
theorem dX3_spreadCases_84 : decode cX3_spreadCases 84 = .ok (.aload_n 0, 1) := by decide +kernel
theorem dX3_spreadCases_85 : decode cX3_spreadCases 85 = .ok (.getfield 62, 3) := by decide +kernel
theorem dX3_spreadCases_88 : decode cX3_spreadCases 88 = .ok (.iload 6, 2) := by decide +kernel
theorem dX3_spreadCases_90 : decode cX3_spreadCases 90 = .ok (.iconst 1, 1) := by decide +kernel
theorem dX3_spreadCases_91 : decode cX3_spreadCases 91 = .ok (.isub, 1) := by decide +kernel
theorem dX3_spreadCases_92 : decode cX3_spreadCases 92 = .ok (.laload, 1) := by decide +kernel
theorem dX3_spreadCases_93 : decode cX3_spreadCases 93 = .ok (.iload 5, 2) := by decide +kernel
theorem dX3_spreadCases_95 : decode cX3_spreadCases 95 = .ok (.i2l, 1) := by decide +kernel
theorem dX3_spreadCases_96 : decode cX3_spreadCases 96 = .ok (.lmul, 1) := by decide +kernel
theorem dX3_spreadCases_97 : decode cX3_spreadCases 97 = .ok (.ladd, 1) := by decide +kernel
theorem dX3_spreadCases_98 : decode cX3_spreadCases 98 = .ok (.lastore, 1) := by decide +kernel
theorem dX3_spreadCases_99 : decode cX3_spreadCases 99 = .ok (.iinc 6 (-1), 3) := by decide +kernel
theorem dX3_spreadCases_102 : decode cX3_spreadCases 102 = .ok (.goto (-43), 3) := by decide +kernel
theorem dX3_spreadCases_105 : decode cX3_spreadCases 105 = .ok (.aload_n 0, 1) := by decide +kernel
theorem dX3_spreadCases_106 : decode cX3_spreadCases 106 = .ok (.getfield 62, 3) := by decide +kernel
theorem dX3_spreadCases_109 : decode cX3_spreadCases 109 = .ok (.iconst 0, 1) := by decide +kernel
theorem dX3_spreadCases_110 : decode cX3_spreadCases 110 = .ok (.dup2, 1) := by decide +kernel
theorem dX3_spreadCases_111 : decode cX3_spreadCases 111 = .ok (.laload, 1) := by decide +kernel
theorem dX3_spreadCases_112 : decode cX3_spreadCases 112 = .ok (.bipush 10, 2) := by decide +kernel
theorem dX3_spreadCases_114 : decode cX3_spreadCases 114 = .ok (.iload 5, 2) := by decide +kernel
theorem dX3_spreadCases_116 : decode cX3_spreadCases 116 = .ok (.isub, 1) := by decide +kernel
theorem dX3_spreadCases_117 : decode cX3_spreadCases 117 = .ok (.i2l, 1) := by decide +kernel
theorem dX3_spreadCases_118 : decode cX3_spreadCases 118 = .ok (.lmul, 1) := by decide +kernel
theorem dX3_spreadCases_119 : decode cX3_spreadCases 119 = .ok (.lastore, 1) := by decide +kernel
theorem dX3_spreadCases_120 : decode cX3_spreadCases 120 = .ok (.iinc 4 1, 3) := by decide +kernel
theorem dX3_spreadCases_123 : decode cX3_spreadCases 123 = .ok (.goto (-105), 3) := by decide +kernel
theorem dX3_spreadCases_126 : decode cX3_spreadCases 126 = .ok (.return_, 1) := by decide +kernel
theorem dJ7_fill_d0a16_0 : decode cJ7_fill_d0a16 0 = .ok (.iconst 0, 1) := by decide +kernel
theorem dJ7_fill_d0a16_1 : decode cJ7_fill_d0a16 1 = .ok (.istore_n 3, 1) := by decide +kernel
theorem dJ7_fill_d0a16_2 : decode cJ7_fill_d0a16 2 = .ok (.aload_n 0, 1) := by decide +kernel
theorem dJ7_fill_d0a16_3 : decode cJ7_fill_d0a16 3 = .ok (.arraylength, 1) := by decide +kernel
theorem dJ7_fill_d0a16_4 : decode cJ7_fill_d0a16 4 = .ok (.istore 4, 2) := by decide +kernel
theorem dJ7_fill_d0a16_6 : decode cJ7_fill_d0a16 6 = .ok (.iload_n 3, 1) := by decide +kernel
theorem dJ7_fill_d0a16_7 : decode cJ7_fill_d0a16 7 = .ok (.iload 4, 2) := by decide +kernel
theorem dJ7_fill_d0a16_9 : decode cJ7_fill_d0a16 9 = .ok (.if_icmp .ge 13, 3) := by decide +kernel
theorem dJ7_fill_d0a16_12 : decode cJ7_fill_d0a16 12 = .ok (.aload_n 0, 1) := by decide +kernel
theorem dJ7_fill_d0a16_13 : decode cJ7_fill_d0a16 13 = .ok (.iload_n 3, 1) := by decide +kernel
theorem dJ7_fill_d0a16_14 : decode cJ7_fill_d0a16 14 = .ok (.lload_n 1, 1) := by decide +kernel
theorem dJ7_fill_d0a16_15 : decode cJ7_fill_d0a16 15 = .ok (.lastore, 1) := by decide +kernel
theorem dJ7_fill_d0a16_16 : decode cJ7_fill_d0a16 16 = .ok (.iinc 3 1, 3) := by decide +kernel
theorem dJ7_fill_d0a16_19 : decode cJ7_fill_d0a16 19 = .ok (.goto (-13), 3) := by decide +kernel
theorem dJ7_fill_d0a16_22 : decode cJ7_fill_d0a16 22 = .ok (.return_, 1) := by decide +kernel
