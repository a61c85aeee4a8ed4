set_option maxRecDepth 20000 in
theorem ggX3_copy_X3_isRow : GoodIn wsX3_copy wsX3_isRow := goodIn_r _ [12, 13, 14, 11, 15] (by decide +kernel) (by decide +kernel)
set_option maxRecDepth 20000 in
theorem gX3_copy_X3_isRow : GoodIn wsX3_copy (va_wsS RX3 73 yX3_isRow wsX3_isRow) := goodIn_app (goodIn_of _ (by decide +kernel)) ggX3_copy_X3_isRow
set_option maxRecDepth 20000 in
theorem ggX3_copy_X3_isMissing : GoodIn wsX3_copy wsX3_isMissing := goodIn_r _ [19, 20, 21, 31, 32, 33, 34, 35, 36, 37, 38, 39, 40, 41, 42, 43] (by decide +kernel) (by decide +kernel)
set_option maxRecDepth 20000 in
theorem gX3_copy_X3_isMissing : GoodIn wsX3_copy (wsV RX3 94 RX3 yX3_isMissing wsX3_isMissing) := goodIn_app (goodIn_of _ (by decide +kernel)) ggX3_copy_X3_isMissing
set_option maxRecDepth 20000 in
theorem ggX3_copy_X3_found : GoodIn wsX3_copy wsX3_found := goodIn_r _ [25, 3, 26, 31, 32, 33, 34, 35, 36, 37, 38, 39, 40, 41, 42, 43] (by decide +kernel) (by decide +kernel)
set_option maxRecDepth 20000 in
theorem gX3_copy_X3_found : GoodIn wsX3_copy (wsV RX3 82 RX3 yX3_found wsX3_found) := goodIn_app (goodIn_of _ (by decide +kernel)) ggX3_copy_X3_found
set_option maxRecDepth 20000 in
theorem ggX3_copy_X3_hasItems : GoodIn wsX3_copy wsX3_hasItems := goodIn_r _ [30, 20, 31, 32, 33, 34, 35, 36, 37, 38, 39, 40, 41, 42, 43] (by decide +kernel) (by decide +kernel)
set_option maxRecDepth 20000 in
theorem gX3_copy_X3_hasItems : GoodIn wsX3_copy (wsV RX3 97 RX3 yX3_hasItems wsX3_hasItems) := goodIn_app (goodIn_of _ (by decide +kernel)) ggX3_copy_X3_hasItems
theorem dX3_copy_0 : decode cX3_copy 0 = .ok (.iload_n 1, 1) := by decide +kernel
theorem dX3_copy_1 : decode cX3_copy 1 = .ok (.invokestatic 73, 3) := by decide +kernel
theorem dX3_copy_4 : decode cX3_copy 4 = .ok (.ifCond .eq 10, 3) := by decide +kernel
theorem dX3_copy_7 : decode cX3_copy 7 = .ok (.iload_n 3, 1) := by decide +kernel
theorem dX3_copy_8 : decode cX3_copy 8 = .ok (.invokestatic 73, 3) := by decide +kernel
theorem dX3_copy_11 : decode cX3_copy 11 = .ok (.ifCond .ne 6, 3) := by decide +kernel
theorem dX3_copy_14 : decode cX3_copy 14 = .ok (.ldc 81, 2) := by decide +kernel
theorem dX3_copy_16 : decode cX3_copy 16 = .ok (.ireturn, 1) := by decide +kernel
theorem dX3_copy_17 : decode cX3_copy 17 = .ok (.aload_n 0, 1) := by decide +kernel
theorem dX3_copy_18 : decode cX3_copy 18 = .ok (.iload_n 1, 1) := by decide +kernel
theorem dX3_copy_19 : decode cX3_copy 19 = .ok (.invokevirtual 94, 3) := by decide +kernel
theorem dX3_copy_22 : decode cX3_copy 22 = .ok (.ifCond .ne 11, 3) := by decide +kernel
theorem dX3_copy_25 : decode cX3_copy 25 = .ok (.aload_n 0, 1) := by decide +kernel
theorem dX3_copy_26 : decode cX3_copy 26 = .ok (.iload_n 3, 1) := by decide +kernel
theorem dX3_copy_27 : decode cX3_copy 27 = .ok (.invokevirtual 94, 3) := by decide +kernel
theorem dX3_copy_30 : decode cX3_copy 30 = .ok (.ifCond .eq 9, 3) := by decide +kernel
theorem dX3_copy_33 : decode cX3_copy 33 = .ok (.aload_n 0, 1) := by decide +kernel
theorem dX3_copy_34 : decode cX3_copy 34 = .ok (.iconst 1, 1) := by decide +kernel
theorem dX3_copy_35 : decode cX3_copy 35 = .ok (.invokevirtual 82, 3) := by decide +kernel
theorem dX3_copy_38 : decode cX3_copy 38 = .ok (.ireturn, 1) := by decide +kernel
theorem dX3_copy_39 : decode cX3_copy 39 = .ok (.aload_n 0, 1) := by decide +kernel
theorem dX3_copy_40 : decode cX3_copy 40 = .ok (.getfield 14, 3) := by decide +kernel
theorem dX3_copy_43 : decode cX3_copy 43 = .ok (.iload_n 1, 1) := by decide +kernel
theorem dX3_copy_44 : decode cX3_copy 44 = .ok (.iaload, 1) := by decide +kernel
theorem dX3_copy_45 : decode cX3_copy 45 = .ok (.aload_n 0, 1) := by decide +kernel
theorem dX3_copy_46 : decode cX3_copy 46 = .ok (.getfield 14, 3) := by decide +kernel
theorem dX3_copy_49 : decode cX3_copy 49 = .ok (.iload_n 3, 1) := by decide +kernel
theorem dX3_copy_50 : decode cX3_copy 50 = .ok (.iaload, 1) := by decide +kernel
theorem dX3_copy_51 : decode cX3_copy 51 = .ok (.if_icmp .eq 9, 3) := by decide +kernel
theorem dX3_copy_54 : decode cX3_copy 54 = .ok (.aload_n 0, 1) := by decide +kernel
theorem dX3_copy_55 : decode cX3_copy 55 = .ok (.iconst 5, 1) := by decide +kernel
theorem dX3_copy_56 : decode cX3_copy 56 = .ok (.invokevirtual 82, 3) := by decide +kernel
theorem dX3_copy_59 : decode cX3_copy 59 = .ok (.ireturn, 1) := by decide +kernel
theorem dX3_copy_60 : decode cX3_copy 60 = .ok (.aload_n 0, 1) := by decide +kernel
theorem dX3_copy_61 : decode cX3_copy 61 = .ok (.iload_n 1, 1) := by decide +kernel
theorem dX3_copy_62 : decode cX3_copy 62 = .ok (.iload_n 2, 1) := by decide +kernel
theorem dX3_copy_63 : decode cX3_copy 63 = .ok (.iload 5, 2) := by decide +kernel
theorem dX3_copy_65 : decode cX3_copy 65 = .ok (.invokevirtual 97, 3) := by decide +kernel
theorem dX3_copy_68 : decode cX3_copy 68 = .ok (.ifCond .eq 15, 3) := by decide +kernel
theorem dX3_copy_71 : decode cX3_copy 71 = .ok (.aload_n 0, 1) := by decide +kernel
theorem dX3_copy_72 : decode cX3_copy 72 = .ok (.iload_n 3, 1) := by decide +kernel
theorem dX3_copy_73 : decode cX3_copy 73 = .ok (.iload 4, 2) := by decide +kernel
theorem dX3_copy_75 : decode cX3_copy 75 = .ok (.iload 5, 2) := by decide +kernel
theorem dX3_copy_77 : decode cX3_copy 77 = .ok (.invokevirtual 97, 3) := by decide +kernel
theorem dX3_copy_80 : decode cX3_copy 80 = .ok (.ifCond .ne 9, 3) := by decide +kernel
theorem dX3_copy_83 : decode cX3_copy 83 = .ok (.aload_n 0, 1) := by decide +kernel
theorem dX3_copy_84 : decode cX3_copy 84 = .ok (.iconst 2, 1) := by decide +kernel
theorem dX3_copy_85 : decode cX3_copy 85 = .ok (.invokevirtual 82, 3) := by decide +kernel
theorem dX3_copy_88 : decode cX3_copy 88 = .ok (.ireturn, 1) := by decide +kernel
theorem dX3_copy_89 : decode cX3_copy 89 = .ok (.aload_n 0, 1) := by decide +kernel
theorem dX3_copy_90 : decode cX3_copy 90 = .ok (.iconst 0, 1) := by decide +kernel
theorem dX3_copy_91 : decode cX3_copy 91 = .ok (.putfield 21, 3) := by decide +kernel
theorem dX3_copy_94 : decode cX3_copy 94 = .ok (.aload_n 0, 1) := by decide +kernel
theorem dX3_copy_95 : decode cX3_copy 95 = .ok (.getfield 11, 3) := by decide +kernel
theorem dX3_copy_98 : decode cX3_copy 98 = .ok (.iload_n 1, 1) := by decide +kernel
theorem dX3_copy_99 : decode cX3_copy 99 = .ok (.aaload, 1) := by decide +kernel
theorem dX3_copy_100 : decode cX3_copy 100 = .ok (.iload_n 2, 1) := by decide +kernel
theorem dX3_copy_101 : decode cX3_copy 101 = .ok (.aload_n 0, 1) := by decide +kernel
theorem dX3_copy_102 : decode cX3_copy 102 = .ok (.getfield 11, 3) := by decide +kernel
theorem dX3_copy_105 : decode cX3_copy 105 = .ok (.iload_n 3, 1) := by decide +kernel
theorem dX3_copy_106 : decode cX3_copy 106 = .ok (.aaload, 1) := by decide +kernel
theorem dX3_copy_107 : decode cX3_copy 107 = .ok (.iload 4, 2) := by decide +kernel
theorem dX3_copy_109 : decode cX3_copy 109 = .ok (.iload 5, 2) := by decide +kernel
theorem dX3_copy_111 : decode cX3_copy 111 = .ok (.invokestatic 100, 3) := by decide +kernel
theorem dX3_copy_114 : decode cX3_copy 114 = .ok (.iload 5, 2) := by decide +kernel
theorem dX3_copy_116 : decode cX3_copy 116 = .ok (.ireturn, 1) := by decide +kernel
