set_option maxRecDepth 20000 in
theorem ggX4_row_X4_isRow : GoodIn wsX4_row wsX4_isRow := goodIn_r _ [11, 12, 13, 14, 10, 15] (by decide +kernel) (by decide +kernel)
set_option maxRecDepth 20000 in
theorem gX4_row_X4_isRow : GoodIn wsX4_row (va_wsS RX4 62 yX4_isRow wsX4_isRow) := goodIn_app (goodIn_of _ (by decide +kernel)) ggX4_row_X4_isRow
set_option maxRecDepth 20000 in
theorem ggX4_row_X4_in : GoodIn wsX4_row wsX4_in := goodIn_r _ [15] (by decide +kernel) (by decide +kernel)
set_option maxRecDepth 20000 in
theorem gX4_row_X4_in : GoodIn wsX4_row (va_wsS RX4 58 yX4_in wsX4_in) := goodIn_app (goodIn_of _ (by decide +kernel)) ggX4_row_X4_in
set_option maxRecDepth 20000 in
theorem ggX4_row_X4_finding : GoodIn wsX4_row wsX4_finding := goodIn_r _ [19, 4, 20, 21, 22, 23, 24, 25, 26, 27, 28, 29, 30, 31, 32, 33, 34, 35, 36, 37, 38, 39, 40, 41, 42, 43, 44] (by decide +kernel) (by decide +kernel)
set_option maxRecDepth 20000 in
theorem gX4_row_X4_finding : GoodIn wsX4_row (wsV RX4 69 RX4 yX4_finding wsX4_finding) := goodIn_app (goodIn_of _ (by decide +kernel)) ggX4_row_X4_finding
theorem dX4_row_0 : decode cX4_row 0 = .ok (.aload_n 0, 1) := by decide +kernel
theorem dX4_row_1 : decode cX4_row 1 = .ok (.iconst 0, 1) := by decide +kernel
theorem dX4_row_2 : decode cX4_row 2 = .ok (.putfield 48, 3) := by decide +kernel
theorem dX4_row_5 : decode cX4_row 5 = .ok (.iload_n 1, 1) := by decide +kernel
theorem dX4_row_6 : decode cX4_row 6 = .ok (.invokestatic 62, 3) := by decide +kernel
theorem dX4_row_9 : decode cX4_row 9 = .ok (.ifCond .eq 21, 3) := by decide +kernel
theorem dX4_row_12 : decode cX4_row 12 = .ok (.iload_n 2, 1) := by decide +kernel
theorem dX4_row_13 : decode cX4_row 13 = .ok (.i2l, 1) := by decide +kernel
theorem dX4_row_14 : decode cX4_row 14 = .ok (.lconst 0, 1) := by decide +kernel
theorem dX4_row_15 : decode cX4_row 15 = .ok (.ldc2_w 66, 3) := by decide +kernel
theorem dX4_row_18 : decode cX4_row 18 = .ok (.invokestatic 58, 3) := by decide +kernel
theorem dX4_row_21 : decode cX4_row 21 = .ok (.ifCond .eq 9, 3) := by decide +kernel
theorem dX4_row_24 : decode cX4_row 24 = .ok (.iload_n 3, 1) := by decide +kernel
theorem dX4_row_25 : decode cX4_row 25 = .ok (.bipush 40, 2) := by decide +kernel
theorem dX4_row_27 : decode cX4_row 27 = .ok (.if_icmp .le 6, 3) := by decide +kernel
theorem dX4_row_30 : decode cX4_row 30 = .ok (.ldc 68, 2) := by decide +kernel
theorem dX4_row_32 : decode cX4_row 32 = .ok (.ireturn, 1) := by decide +kernel
theorem dX4_row_33 : decode cX4_row 33 = .ok (.aload_n 0, 1) := by decide +kernel
theorem dX4_row_34 : decode cX4_row 34 = .ok (.iconst 0, 1) := by decide +kernel
theorem dX4_row_35 : decode cX4_row 35 = .ok (.putfield 52, 3) := by decide +kernel
theorem dX4_row_38 : decode cX4_row 38 = .ok (.iload_n 3, 1) := by decide +kernel
theorem dX4_row_39 : decode cX4_row 39 = .ok (.ifCond .ge 9, 3) := by decide +kernel
theorem dX4_row_42 : decode cX4_row 42 = .ok (.aload_n 0, 1) := by decide +kernel
theorem dX4_row_43 : decode cX4_row 43 = .ok (.iconst 4, 1) := by decide +kernel
theorem dX4_row_44 : decode cX4_row 44 = .ok (.invokevirtual 69, 3) := by decide +kernel
theorem dX4_row_47 : decode cX4_row 47 = .ok (.ireturn, 1) := by decide +kernel
theorem dX4_row_48 : decode cX4_row 48 = .ok (.aload_n 0, 1) := by decide +kernel
theorem dX4_row_49 : decode cX4_row 49 = .ok (.getfield 7, 3) := by decide +kernel
theorem dX4_row_52 : decode cX4_row 52 = .ok (.iload_n 1, 1) := by decide +kernel
theorem dX4_row_53 : decode cX4_row 53 = .ok (.iload_n 2, 1) := by decide +kernel
theorem dX4_row_54 : decode cX4_row 54 = .ok (.iastore, 1) := by decide +kernel
theorem dX4_row_55 : decode cX4_row 55 = .ok (.aload_n 0, 1) := by decide +kernel
theorem dX4_row_56 : decode cX4_row 56 = .ok (.getfield 13, 3) := by decide +kernel
theorem dX4_row_59 : decode cX4_row 59 = .ok (.iload_n 1, 1) := by decide +kernel
theorem dX4_row_60 : decode cX4_row 60 = .ok (.iload_n 3, 1) := by decide +kernel
theorem dX4_row_61 : decode cX4_row 61 = .ok (.iastore, 1) := by decide +kernel
theorem dX4_row_62 : decode cX4_row 62 = .ok (.iconst 0, 1) := by decide +kernel
theorem dX4_row_63 : decode cX4_row 63 = .ok (.istore 4, 2) := by decide +kernel
theorem dX4_row_65 : decode cX4_row 65 = .ok (.iload 4, 2) := by decide +kernel
theorem dX4_row_67 : decode cX4_row 67 = .ok (.bipush 40, 2) := by decide +kernel
theorem dX4_row_69 : decode cX4_row 69 = .ok (.if_icmp .ge 22, 3) := by decide +kernel
theorem dX4_row_72 : decode cX4_row 72 = .ok (.aload_n 0, 1) := by decide +kernel
theorem dX4_row_73 : decode cX4_row 73 = .ok (.getfield 16, 3) := by decide +kernel
theorem dX4_row_76 : decode cX4_row 76 = .ok (.bipush 40, 2) := by decide +kernel
theorem dX4_row_78 : decode cX4_row 78 = .ok (.iload_n 1, 1) := by decide +kernel
theorem dX4_row_79 : decode cX4_row 79 = .ok (.imul, 1) := by decide +kernel
theorem dX4_row_80 : decode cX4_row 80 = .ok (.iload 4, 2) := by decide +kernel
theorem dX4_row_82 : decode cX4_row 82 = .ok (.iadd, 1) := by decide +kernel
theorem dX4_row_83 : decode cX4_row 83 = .ok (.iconst 0, 1) := by decide +kernel
theorem dX4_row_84 : decode cX4_row 84 = .ok (.iastore, 1) := by decide +kernel
theorem dX4_row_85 : decode cX4_row 85 = .ok (.iinc 4 1, 3) := by decide +kernel
theorem dX4_row_88 : decode cX4_row 88 = .ok (.goto (-23), 3) := by decide +kernel
theorem dX4_row_91 : decode cX4_row 91 = .ok (.iload_n 3, 1) := by decide +kernel
theorem dX4_row_92 : decode cX4_row 92 = .ok (.ireturn, 1) := by decide +kernel
set_option maxRecDepth 20000 in
theorem ggX4_set_X4_isRow : GoodIn wsX4_set wsX4_isRow := goodIn_r _ [10, 11, 12, 13, 9, 14] (by decide +kernel) (by decide +kernel)
set_option maxRecDepth 20000 in
theorem gX4_set_X4_isRow : GoodIn wsX4_set (va_wsS RX4 62 yX4_isRow wsX4_isRow) := goodIn_app (goodIn_of _ (by decide +kernel)) ggX4_set_X4_isRow
set_option maxRecDepth 20000 in
theorem ggX4_set_X4_finding : GoodIn wsX4_set wsX4_finding := goodIn_r _ [18, 3, 19, 20, 21, 22, 23, 24, 25, 26, 27, 28, 29, 30, 31, 32, 33, 34, 35, 36, 37, 38, 39, 40, 41, 42, 43] (by decide +kernel) (by decide +kernel)
set_option maxRecDepth 20000 in
theorem gX4_set_X4_finding : GoodIn wsX4_set (wsV RX4 69 RX4 yX4_finding wsX4_finding) := goodIn_app (goodIn_of _ (by decide +kernel)) ggX4_set_X4_finding
set_option maxRecDepth 20000 in
theorem ggX4_set_X4_in : GoodIn wsX4_set wsX4_in := goodIn_r _ [14] (by decide +kernel) (by decide +kernel)
set_option maxRecDepth 20000 in
theorem gX4_set_X4_in : GoodIn wsX4_set (va_wsS RX4 58 yX4_in wsX4_in) := goodIn_app (goodIn_of _ (by decide +kernel)) ggX4_set_X4_in
theorem dX4_set_0 : decode cX4_set 0 = .ok (.aload_n 0, 1) := by decide +kernel
theorem dX4_set_1 : decode cX4_set 1 = .ok (.iconst 0, 1) := by decide +kernel
theorem dX4_set_2 : decode cX4_set 2 = .ok (.putfield 48, 3) := by decide +kernel
theorem dX4_set_5 : decode cX4_set 5 = .ok (.iload_n 1, 1) := by decide +kernel
theorem dX4_set_6 : decode cX4_set 6 = .ok (.invokestatic 62, 3) := by decide +kernel
theorem dX4_set_9 : decode cX4_set 9 = .ok (.ifCond .ne 6, 3) := by decide +kernel
theorem dX4_set_12 : decode cX4_set 12 = .ok (.ldc 68, 2) := by decide +kernel
theorem dX4_set_14 : decode cX4_set 14 = .ok (.ireturn, 1) := by decide +kernel
theorem dX4_set_15 : decode cX4_set 15 = .ok (.aload_n 0, 1) := by decide +kernel
theorem dX4_set_16 : decode cX4_set 16 = .ok (.iconst 0, 1) := by decide +kernel
theorem dX4_set_17 : decode cX4_set 17 = .ok (.putfield 52, 3) := by decide +kernel
theorem dX4_set_20 : decode cX4_set 20 = .ok (.aload_n 0, 1) := by decide +kernel
theorem dX4_set_21 : decode cX4_set 21 = .ok (.getfield 7, 3) := by decide +kernel
theorem dX4_set_24 : decode cX4_set 24 = .ok (.iload_n 1, 1) := by decide +kernel
theorem dX4_set_25 : decode cX4_set 25 = .ok (.iaload, 1) := by decide +kernel
theorem dX4_set_26 : decode cX4_set 26 = .ok (.ifCond .ge 9, 3) := by decide +kernel
theorem dX4_set_29 : decode cX4_set 29 = .ok (.aload_n 0, 1) := by decide +kernel
theorem dX4_set_30 : decode cX4_set 30 = .ok (.iconst 1, 1) := by decide +kernel
theorem dX4_set_31 : decode cX4_set 31 = .ok (.invokevirtual 69, 3) := by decide +kernel
theorem dX4_set_34 : decode cX4_set 34 = .ok (.ireturn, 1) := by decide +kernel
theorem dX4_set_35 : decode cX4_set 35 = .ok (.iload_n 2, 1) := by decide +kernel
theorem dX4_set_36 : decode cX4_set 36 = .ok (.i2l, 1) := by decide +kernel
theorem dX4_set_37 : decode cX4_set 37 = .ok (.lconst 0, 1) := by decide +kernel
theorem dX4_set_38 : decode cX4_set 38 = .ok (.aload_n 0, 1) := by decide +kernel
theorem dX4_set_39 : decode cX4_set 39 = .ok (.getfield 13, 3) := by decide +kernel
theorem dX4_set_42 : decode cX4_set 42 = .ok (.iload_n 1, 1) := by decide +kernel
theorem dX4_set_43 : decode cX4_set 43 = .ok (.iaload, 1) := by decide +kernel
theorem dX4_set_44 : decode cX4_set 44 = .ok (.iconst 1, 1) := by decide +kernel
theorem dX4_set_45 : decode cX4_set 45 = .ok (.isub, 1) := by decide +kernel
theorem dX4_set_46 : decode cX4_set 46 = .ok (.i2l, 1) := by decide +kernel
theorem dX4_set_47 : decode cX4_set 47 = .ok (.invokestatic 58, 3) := by decide +kernel
theorem dX4_set_50 : decode cX4_set 50 = .ok (.ifCond .ne 9, 3) := by decide +kernel
theorem dX4_set_53 : decode cX4_set 53 = .ok (.aload_n 0, 1) := by decide +kernel
theorem dX4_set_54 : decode cX4_set 54 = .ok (.iconst 2, 1) := by decide +kernel
theorem dX4_set_55 : decode cX4_set 55 = .ok (.invokevirtual 69, 3) := by decide +kernel
theorem dX4_set_58 : decode cX4_set 58 = .ok (.ireturn, 1) := by decide +kernel
theorem dX4_set_59 : decode cX4_set 59 = .ok (.aload_n 0, 1) := by decide +kernel
theorem dX4_set_60 : decode cX4_set 60 = .ok (.getfield 16, 3) := by decide +kernel
theorem dX4_set_63 : decode cX4_set 63 = .ok (.bipush 40, 2) := by decide +kernel
theorem dX4_set_65 : decode cX4_set 65 = .ok (.iload_n 1, 1) := by decide +kernel
theorem dX4_set_66 : decode cX4_set 66 = .ok (.imul, 1) := by decide +kernel
theorem dX4_set_67 : decode cX4_set 67 = .ok (.iload_n 2, 1) := by decide +kernel
theorem dX4_set_68 : decode cX4_set 68 = .ok (.iadd, 1) := by decide +kernel
theorem dX4_set_69 : decode cX4_set 69 = .ok (.aload_n 0, 1) := by decide +kernel
theorem dX4_set_70 : decode cX4_set 70 = .ok (.getfield 7, 3) := by decide +kernel
theorem dX4_set_73 : decode cX4_set 73 = .ok (.iload_n 1, 1) := by decide +kernel
theorem dX4_set_74 : decode cX4_set 74 = .ok (.iaload, 1) := by decide +kernel
theorem dX4_set_75 : decode cX4_set 75 = .ok (.ifCond .ne 8, 3) := by decide +kernel
theorem dX4_set_78 : decode cX4_set 78 = .ok (.iload_n 3, 1) := by decide +kernel
theorem dX4_set_79 : decode cX4_set 79 = .ok (.i2b, 1) := by decide +kernel
theorem dX4_set_80 : decode cX4_set 80 = .ok (.goto 19, 3) := by decide +kernel
theorem dX4_set_83 : decode cX4_set 83 = .ok (.aload_n 0, 1) := by decide +kernel
theorem dX4_set_84 : decode cX4_set 84 = .ok (.getfield 7, 3) := by decide +kernel
theorem dX4_set_87 : decode cX4_set 87 = .ok (.iload_n 1, 1) := by decide +kernel
theorem dX4_set_88 : decode cX4_set 88 = .ok (.iaload, 1) := by decide +kernel
theorem dX4_set_89 : decode cX4_set 89 = .ok (.iconst 1, 1) := by decide +kernel
theorem dX4_set_90 : decode cX4_set 90 = .ok (.if_icmp .ne 8, 3) := by decide +kernel
theorem dX4_set_93 : decode cX4_set 93 = .ok (.iload_n 3, 1) := by decide +kernel
theorem dX4_set_94 : decode cX4_set 94 = .ok (.i2s, 1) := by decide +kernel
theorem dX4_set_95 : decode cX4_set 95 = .ok (.goto 4, 3) := by decide +kernel
theorem dX4_set_98 : decode cX4_set 98 = .ok (.iload_n 3, 1) := by decide +kernel
theorem dX4_set_99 : decode cX4_set 99 = .ok (.iastore, 1) := by decide +kernel
theorem dX4_set_100 : decode cX4_set 100 = .ok (.aload_n 0, 1) := by decide +kernel
theorem dX4_set_101 : decode cX4_set 101 = .ok (.getfield 16, 3) := by decide +kernel
theorem dX4_set_104 : decode cX4_set 104 = .ok (.bipush 40, 2) := by decide +kernel
theorem dX4_set_106 : decode cX4_set 106 = .ok (.iload_n 1, 1) := by decide +kernel
theorem dX4_set_107 : decode cX4_set 107 = .ok (.imul, 1) := by decide +kernel
theorem dX4_set_108 : decode cX4_set 108 = .ok (.iload_n 2, 1) := by decide +kernel
theorem dX4_set_109 : decode cX4_set 109 = .ok (.iadd, 1) := by decide +kernel
theorem dX4_set_110 : decode cX4_set 110 = .ok (.iaload, 1) := by decide +kernel
theorem dX4_set_111 : decode cX4_set 111 = .ok (.ireturn, 1) := by decide +kernel
set_option maxRecDepth 20000 in
theorem ggX4_image_X4_in : GoodIn wsX4_image wsX4_in := goodIn_r _ [10] (by decide +kernel) (by decide +kernel)
set_option maxRecDepth 20000 in
theorem gX4_image_X4_in : GoodIn wsX4_image (va_wsS RX4 58 yX4_in wsX4_in) := goodIn_app (goodIn_of _ (by decide +kernel)) ggX4_image_X4_in
set_option maxRecDepth 20000 in
theorem ggX4_image_X4_isThere : GoodIn wsX4_image wsX4_isThere := goodIn_r _ [14, 5, 15, 16, 17, 18, 19, 20, 21, 22, 23, 24, 25, 26, 27, 28, 29, 30, 31, 32, 33, 34, 35, 36, 37, 38] (by decide +kernel) (by decide +kernel)
set_option maxRecDepth 20000 in
theorem gX4_image_X4_isThere : GoodIn wsX4_image (wsV RX4 201 RX4 yX4_isThere wsX4_isThere) := goodIn_app (goodIn_of _ (by decide +kernel)) ggX4_image_X4_isThere
theorem dX4_image_0 : decode cX4_image 0 = .ok (.aload_n 0, 1) := by decide +kernel
theorem dX4_image_1 : decode cX4_image 1 = .ok (.iconst 0, 1) := by decide +kernel
theorem dX4_image_2 : decode cX4_image 2 = .ok (.putfield 48, 3) := by decide +kernel
theorem dX4_image_5 : decode cX4_image 5 = .ok (.iload_n 1, 1) := by decide +kernel
theorem dX4_image_6 : decode cX4_image 6 = .ok (.i2l, 1) := by decide +kernel
theorem dX4_image_7 : decode cX4_image 7 = .ok (.lconst 0, 1) := by decide +kernel
theorem dX4_image_8 : decode cX4_image 8 = .ok (.lconst 1, 1) := by decide +kernel
theorem dX4_image_9 : decode cX4_image 9 = .ok (.invokestatic 58, 3) := by decide +kernel
theorem dX4_image_12 : decode cX4_image 12 = .ok (.ifCond .ne 6, 3) := by decide +kernel
theorem dX4_image_15 : decode cX4_image 15 = .ok (.ldc 68, 2) := by decide +kernel
theorem dX4_image_17 : decode cX4_image 17 = .ok (.ireturn, 1) := by decide +kernel
theorem dX4_image_18 : decode cX4_image 18 = .ok (.aload_n 0, 1) := by decide +kernel
theorem dX4_image_19 : decode cX4_image 19 = .ok (.invokevirtual 201, 3) := by decide +kernel
theorem dX4_image_22 : decode cX4_image 22 = .ok (.ifCond .ne 6, 3) := by decide +kernel
theorem dX4_image_25 : decode cX4_image 25 = .ok (.ldc 204, 2) := by decide +kernel
theorem dX4_image_27 : decode cX4_image 27 = .ok (.ireturn, 1) := by decide +kernel
theorem dX4_image_28 : decode cX4_image 28 = .ok (.iconst 0, 1) := by decide +kernel
theorem dX4_image_29 : decode cX4_image 29 = .ok (.istore_n 2, 1) := by decide +kernel
theorem dX4_image_30 : decode cX4_image 30 = .ok (.iload_n 2, 1) := by decide +kernel
theorem dX4_image_31 : decode cX4_image 31 = .ok (.bipush 64, 2) := by decide +kernel
theorem dX4_image_33 : decode cX4_image 33 = .ok (.if_icmp .ge 26, 3) := by decide +kernel
theorem dX4_image_36 : decode cX4_image 36 = .ok (.aload_n 0, 1) := by decide +kernel
theorem dX4_image_37 : decode cX4_image 37 = .ok (.getfield 42, 3) := by decide +kernel
theorem dX4_image_40 : decode cX4_image 40 = .ok (.bipush 64, 2) := by decide +kernel
theorem dX4_image_42 : decode cX4_image 42 = .ok (.iload_n 1, 1) := by decide +kernel
theorem dX4_image_43 : decode cX4_image 43 = .ok (.imul, 1) := by decide +kernel
theorem dX4_image_44 : decode cX4_image 44 = .ok (.iload_n 2, 1) := by decide +kernel
theorem dX4_image_45 : decode cX4_image 45 = .ok (.iadd, 1) := by decide +kernel
theorem dX4_image_46 : decode cX4_image 46 = .ok (.aload_n 0, 1) := by decide +kernel
theorem dX4_image_47 : decode cX4_image 47 = .ok (.getfield 19, 3) := by decide +kernel
theorem dX4_image_50 : decode cX4_image 50 = .ok (.iload_n 2, 1) := by decide +kernel
theorem dX4_image_51 : decode cX4_image 51 = .ok (.iaload, 1) := by decide +kernel
theorem dX4_image_52 : decode cX4_image 52 = .ok (.iastore, 1) := by decide +kernel
theorem dX4_image_53 : decode cX4_image 53 = .ok (.iinc 2 1, 3) := by decide +kernel
theorem dX4_image_56 : decode cX4_image 56 = .ok (.goto (-26), 3) := by decide +kernel
theorem dX4_image_59 : decode cX4_image 59 = .ok (.aload_n 0, 1) := by decide +kernel
theorem dX4_image_60 : decode cX4_image 60 = .ok (.getfield 38, 3) := by decide +kernel
theorem dX4_image_63 : decode cX4_image 63 = .ok (.iload_n 1, 1) := by decide +kernel
theorem dX4_image_64 : decode cX4_image 64 = .ok (.iconst 1, 1) := by decide +kernel
theorem dX4_image_65 : decode cX4_image 65 = .ok (.bastore, 1) := by decide +kernel
theorem dX4_image_66 : decode cX4_image 66 = .ok (.iconst 1, 1) := by decide +kernel
theorem dX4_image_67 : decode cX4_image 67 = .ok (.ireturn, 1) := by decide +kernel
set_option maxRecDepth 20000 in
theorem ggX4_restore_X4_in : GoodIn wsX4_restore wsX4_in := goodIn_r _ [11] (by decide +kernel) (by decide +kernel)
set_option maxRecDepth 20000 in
theorem gX4_restore_X4_in : GoodIn wsX4_restore (va_wsS RX4 58 yX4_in wsX4_in) := goodIn_app (goodIn_of _ (by decide +kernel)) ggX4_restore_X4_in
theorem dX4_restore_0 : decode cX4_restore 0 = .ok (.aload_n 0, 1) := by decide +kernel
theorem dX4_restore_1 : decode cX4_restore 1 = .ok (.iconst 0, 1) := by decide +kernel
theorem dX4_restore_2 : decode cX4_restore 2 = .ok (.putfield 48, 3) := by decide +kernel
theorem dX4_restore_5 : decode cX4_restore 5 = .ok (.iload_n 1, 1) := by decide +kernel
theorem dX4_restore_6 : decode cX4_restore 6 = .ok (.i2l, 1) := by decide +kernel
theorem dX4_restore_7 : decode cX4_restore 7 = .ok (.lconst 0, 1) := by decide +kernel
theorem dX4_restore_8 : decode cX4_restore 8 = .ok (.lconst 1, 1) := by decide +kernel
theorem dX4_restore_9 : decode cX4_restore 9 = .ok (.invokestatic 58, 3) := by decide +kernel
theorem dX4_restore_12 : decode cX4_restore 12 = .ok (.ifCond .ne 6, 3) := by decide +kernel
theorem dX4_restore_15 : decode cX4_restore 15 = .ok (.ldc 68, 2) := by decide +kernel
theorem dX4_restore_17 : decode cX4_restore 17 = .ok (.ireturn, 1) := by decide +kernel
theorem dX4_restore_18 : decode cX4_restore 18 = .ok (.aload_n 0, 1) := by decide +kernel
theorem dX4_restore_19 : decode cX4_restore 19 = .ok (.getfield 38, 3) := by decide +kernel
theorem dX4_restore_22 : decode cX4_restore 22 = .ok (.iload_n 1, 1) := by decide +kernel
theorem dX4_restore_23 : decode cX4_restore 23 = .ok (.baload, 1) := by decide +kernel
theorem dX4_restore_24 : decode cX4_restore 24 = .ok (.ifCond .ne 6, 3) := by decide +kernel
theorem dX4_restore_27 : decode cX4_restore 27 = .ok (.ldc 204, 2) := by decide +kernel
theorem dX4_restore_29 : decode cX4_restore 29 = .ok (.ireturn, 1) := by decide +kernel
theorem dX4_restore_30 : decode cX4_restore 30 = .ok (.iconst 0, 1) := by decide +kernel
theorem dX4_restore_31 : decode cX4_restore 31 = .ok (.istore_n 2, 1) := by decide +kernel
theorem dX4_restore_32 : decode cX4_restore 32 = .ok (.iload_n 2, 1) := by decide +kernel
theorem dX4_restore_33 : decode cX4_restore 33 = .ok (.bipush 64, 2) := by decide +kernel
theorem dX4_restore_35 : decode cX4_restore 35 = .ok (.if_icmp .ge 26, 3) := by decide +kernel
theorem dX4_restore_38 : decode cX4_restore 38 = .ok (.aload_n 0, 1) := by decide +kernel
theorem dX4_restore_39 : decode cX4_restore 39 = .ok (.getfield 19, 3) := by decide +kernel
theorem dX4_restore_42 : decode cX4_restore 42 = .ok (.iload_n 2, 1) := by decide +kernel
theorem dX4_restore_43 : decode cX4_restore 43 = .ok (.aload_n 0, 1) := by decide +kernel
theorem dX4_restore_44 : decode cX4_restore 44 = .ok (.getfield 42, 3) := by decide +kernel
theorem dX4_restore_47 : decode cX4_restore 47 = .ok (.bipush 64, 2) := by decide +kernel
theorem dX4_restore_49 : decode cX4_restore 49 = .ok (.iload_n 1, 1) := by decide +kernel
theorem dX4_restore_50 : decode cX4_restore 50 = .ok (.imul, 1) := by decide +kernel
theorem dX4_restore_51 : decode cX4_restore 51 = .ok (.iload_n 2, 1) := by decide +kernel
theorem dX4_restore_52 : decode cX4_restore 52 = .ok (.iadd, 1) := by decide +kernel
theorem dX4_restore_53 : decode cX4_restore 53 = .ok (.iaload, 1) := by decide +kernel
theorem dX4_restore_54 : decode cX4_restore 54 = .ok (.iastore, 1) := by decide +kernel
theorem dX4_restore_55 : decode cX4_restore 55 = .ok (.iinc 2 1, 3) := by decide +kernel
theorem dX4_restore_58 : decode cX4_restore 58 = .ok (.goto (-26), 3) := by decide +kernel
theorem dX4_restore_61 : decode cX4_restore 61 = .ok (.aload_n 0, 1) := by decide +kernel
theorem dX4_restore_62 : decode cX4_restore 62 = .ok (.iconst 0, 1) := by decide +kernel
theorem dX4_restore_63 : decode cX4_restore 63 = .ok (.putfield 150, 3) := by decide +kernel
theorem dX4_restore_66 : decode cX4_restore 66 = .ok (.iconst 1, 1) := by decide +kernel
theorem dX4_restore_67 : decode cX4_restore 67 = .ok (.ireturn, 1) := by decide +kernel
set_option maxRecDepth 20000 in
theorem ggX4_ask_X4_isSquare : GoodIn wsX4_ask wsX4_isSquare := goodIn_r _ [8, 9, 10, 11, 7, 12, 49, 50, 51, 52, 53, 54, 55, 56, 57, 58, 59, 60, 61, 62, 63, 64, 65, 66, 67, 68, 69, 70, 71, 72] (by decide +kernel) (by decide +kernel)
set_option maxRecDepth 20000 in
theorem gX4_ask_X4_isSquare : GoodIn wsX4_ask (wsV RX4 207 RX4 yX4_isSquare wsX4_isSquare) := goodIn_app (goodIn_of _ (by decide +kernel)) ggX4_ask_X4_isSquare
set_option maxRecDepth 20000 in
theorem ggX4_ask_X4_in : GoodIn wsX4_ask wsX4_in := goodIn_r _ [12] (by decide +kernel) (by decide +kernel)
set_option maxRecDepth 20000 in
theorem gX4_ask_X4_in : GoodIn wsX4_ask (va_wsS RX4 58 yX4_in wsX4_in) := goodIn_app (goodIn_of _ (by decide +kernel)) ggX4_ask_X4_in
set_option maxRecDepth 20000 in
theorem ggX4_ask_X4_sizeOf : GoodIn wsX4_ask wsX4_sizeOf := goodIn_r _ [16, 9, 17, 18, 7, 19, 20, 21, 22, 23, 24, 25, 26, 27, 3, 28, 29, 30, 31, 32, 33, 34, 35, 36, 37, 38, 39, 40, 41, 42, 43, 44, 45, 46, 47, 48, 49, 50, 51, 52, 53, 54, 55, 56, 57, 58, 59, 60, 61, 62, 63, 64, 65, 66, 67, 68, 69, 70, 71, 72] (by decide +kernel) (by decide +kernel)
set_option maxRecDepth 20000 in
theorem gX4_ask_X4_sizeOf : GoodIn wsX4_ask (wsV RX4 278 RX4 yX4_sizeOf wsX4_sizeOf) := goodIn_app (goodIn_of _ (by decide +kernel)) ggX4_ask_X4_sizeOf
set_option maxRecDepth 20000 in
theorem ggX4_ask_X4_markOf : GoodIn wsX4_ask wsX4_markOf := goodIn_r _ [36, 9, 17, 18, 7, 19, 24, 25, 26, 27, 3, 28, 20, 21, 22, 23, 29, 30, 31, 32, 37, 38, 39, 40, 41, 42, 43, 44, 45, 46, 47, 48, 49, 50, 51, 52, 53, 54, 55, 56, 57, 58, 59, 60, 61, 62, 63, 64, 65, 66, 67, 68, 69, 70, 71, 72] (by decide +kernel) (by decide +kernel)
set_option maxRecDepth 20000 in
theorem gX4_ask_X4_markOf : GoodIn wsX4_ask (wsV RX4 275 RX4 yX4_markOf wsX4_markOf) := goodIn_app (goodIn_of _ (by decide +kernel)) ggX4_ask_X4_markOf
theorem dX4_ask_0 : decode cX4_ask 0 = .ok (.aload_n 0, 1) := by decide +kernel
theorem dX4_ask_1 : decode cX4_ask 1 = .ok (.iconst 0, 1) := by decide +kernel
theorem dX4_ask_2 : decode cX4_ask 2 = .ok (.putfield 48, 3) := by decide +kernel
theorem dX4_ask_5 : decode cX4_ask 5 = .ok (.aload_n 0, 1) := by decide +kernel
theorem dX4_ask_6 : decode cX4_ask 6 = .ok (.iload_n 1, 1) := by decide +kernel
theorem dX4_ask_7 : decode cX4_ask 7 = .ok (.invokevirtual 207, 3) := by decide +kernel
theorem dX4_ask_10 : decode cX4_ask 10 = .ok (.ifCond .eq 13, 3) := by decide +kernel
theorem dX4_ask_13 : decode cX4_ask 13 = .ok (.iload_n 2, 1) := by decide +kernel
theorem dX4_ask_14 : decode cX4_ask 14 = .ok (.i2l, 1) := by decide +kernel
theorem dX4_ask_15 : decode cX4_ask 15 = .ok (.lconst 0, 1) := by decide +kernel
theorem dX4_ask_16 : decode cX4_ask 16 = .ok (.lconst 1, 1) := by decide +kernel
theorem dX4_ask_17 : decode cX4_ask 17 = .ok (.invokestatic 58, 3) := by decide +kernel
theorem dX4_ask_20 : decode cX4_ask 20 = .ok (.ifCond .ne 6, 3) := by decide +kernel
theorem dX4_ask_23 : decode cX4_ask 23 = .ok (.ldc 68, 2) := by decide +kernel
theorem dX4_ask_25 : decode cX4_ask 25 = .ok (.ireturn, 1) := by decide +kernel
theorem dX4_ask_26 : decode cX4_ask 26 = .ok (.aload_n 0, 1) := by decide +kernel
theorem dX4_ask_27 : decode cX4_ask 27 = .ok (.iconst 0, 1) := by decide +kernel
theorem dX4_ask_28 : decode cX4_ask 28 = .ok (.putfield 263, 3) := by decide +kernel
theorem dX4_ask_31 : decode cX4_ask 31 = .ok (.iload_n 2, 1) := by decide +kernel
theorem dX4_ask_32 : decode cX4_ask 32 = .ok (.ifCond .ne 11, 3) := by decide +kernel
theorem dX4_ask_35 : decode cX4_ask 35 = .ok (.aload_n 0, 1) := by decide +kernel
theorem dX4_ask_36 : decode cX4_ask 36 = .ok (.iload_n 1, 1) := by decide +kernel
theorem dX4_ask_37 : decode cX4_ask 37 = .ok (.invokevirtual 278, 3) := by decide +kernel
theorem dX4_ask_40 : decode cX4_ask 40 = .ok (.goto 8, 3) := by decide +kernel
theorem dX4_ask_43 : decode cX4_ask 43 = .ok (.aload_n 0, 1) := by decide +kernel
theorem dX4_ask_44 : decode cX4_ask 44 = .ok (.iload_n 1, 1) := by decide +kernel
theorem dX4_ask_45 : decode cX4_ask 45 = .ok (.invokevirtual 275, 3) := by decide +kernel
theorem dX4_ask_48 : decode cX4_ask 48 = .ok (.ireturn, 1) := by decide +kernel
set_option maxRecDepth 20000 in
theorem ggX4_count_X4_counts : GoodIn wsX4_count wsX4_counts := goodIn_r _ [10, 11, 12, 9, 13] (by decide +kernel) (by decide +kernel)
set_option maxRecDepth 20000 in
theorem gX4_count_X4_counts : GoodIn wsX4_count (va_wsS RX4 168 yX4_counts wsX4_counts) := goodIn_app (goodIn_of _ (by decide +kernel)) ggX4_count_X4_counts
set_option maxRecDepth 20000 in
theorem ggX4_count_X4_votesOf : GoodIn wsX4_count wsX4_votesOf := goodIn_r _ [16, 11, 12, 9, 13] (by decide +kernel) (by decide +kernel)
set_option maxRecDepth 20000 in
theorem gX4_count_X4_votesOf : GoodIn wsX4_count (va_wsS RX4 254 yX4_votesOf wsX4_votesOf) := goodIn_app (goodIn_of _ (by decide +kernel)) ggX4_count_X4_votesOf
theorem dX4_count_0 : decode cX4_count 0 = .ok (.aload_n 0, 1) := by decide +kernel
theorem dX4_count_1 : decode cX4_count 1 = .ok (.iconst 0, 1) := by decide +kernel
theorem dX4_count_2 : decode cX4_count 2 = .ok (.putfield 48, 3) := by decide +kernel
theorem dX4_count_5 : decode cX4_count 5 = .ok (.iconst 0, 1) := by decide +kernel
theorem dX4_count_6 : decode cX4_count 6 = .ok (.istore_n 2, 1) := by decide +kernel
theorem dX4_count_7 : decode cX4_count 7 = .ok (.iload_n 1, 1) := by decide +kernel
theorem dX4_count_8 : decode cX4_count 8 = .ok (.tableswitch 161 0 7 #[48, 81, 88, 95, 102, 143, 151, 156], 48) := by decide +kernel
theorem dX4_count_56 : decode cX4_count 56 = .ok (.iconst 0, 1) := by decide +kernel
theorem dX4_count_57 : decode cX4_count 57 = .ok (.istore_n 3, 1) := by decide +kernel
theorem dX4_count_58 : decode cX4_count 58 = .ok (.iload_n 3, 1) := by decide +kernel
theorem dX4_count_59 : decode cX4_count 59 = .ok (.bipush 8, 2) := by decide +kernel
theorem dX4_count_61 : decode cX4_count 61 = .ok (.if_icmp .ge 26, 3) := by decide +kernel
theorem dX4_count_64 : decode cX4_count 64 = .ok (.iload_n 2, 1) := by decide +kernel
theorem dX4_count_65 : decode cX4_count 65 = .ok (.aload_n 0, 1) := by decide +kernel
theorem dX4_count_66 : decode cX4_count 66 = .ok (.getfield 7, 3) := by decide +kernel
theorem dX4_count_69 : decode cX4_count 69 = .ok (.iload_n 3, 1) := by decide +kernel
theorem dX4_count_70 : decode cX4_count 70 = .ok (.iaload, 1) := by decide +kernel
theorem dX4_count_71 : decode cX4_count 71 = .ok (.ifCond .lt 7, 3) := by decide +kernel
theorem dX4_count_74 : decode cX4_count 74 = .ok (.iconst 1, 1) := by decide +kernel
theorem dX4_count_75 : decode cX4_count 75 = .ok (.goto 4, 3) := by decide +kernel
theorem dX4_count_78 : decode cX4_count 78 = .ok (.iconst 0, 1) := by decide +kernel
theorem dX4_count_79 : decode cX4_count 79 = .ok (.iadd, 1) := by decide +kernel
theorem dX4_count_80 : decode cX4_count 80 = .ok (.istore_n 2, 1) := by decide +kernel
theorem dX4_count_81 : decode cX4_count 81 = .ok (.iinc 3 1, 3) := by decide +kernel
theorem dX4_count_84 : decode cX4_count 84 = .ok (.goto (-26), 3) := by decide +kernel
theorem dX4_count_87 : decode cX4_count 87 = .ok (.iload_n 2, 1) := by decide +kernel
theorem dX4_count_88 : decode cX4_count 88 = .ok (.ireturn, 1) := by decide +kernel
theorem dX4_count_89 : decode cX4_count 89 = .ok (.aload_n 0, 1) := by decide +kernel
theorem dX4_count_90 : decode cX4_count 90 = .ok (.getfield 19, 3) := by decide +kernel
theorem dX4_count_93 : decode cX4_count 93 = .ok (.iconst 2, 1) := by decide +kernel
theorem dX4_count_94 : decode cX4_count 94 = .ok (.iaload, 1) := by decide +kernel
theorem dX4_count_95 : decode cX4_count 95 = .ok (.ireturn, 1) := by decide +kernel
theorem dX4_count_96 : decode cX4_count 96 = .ok (.aload_n 0, 1) := by decide +kernel
theorem dX4_count_97 : decode cX4_count 97 = .ok (.getfield 19, 3) := by decide +kernel
theorem dX4_count_100 : decode cX4_count 100 = .ok (.iconst 3, 1) := by decide +kernel
theorem dX4_count_101 : decode cX4_count 101 = .ok (.iaload, 1) := by decide +kernel
theorem dX4_count_102 : decode cX4_count 102 = .ok (.ireturn, 1) := by decide +kernel
theorem dX4_count_103 : decode cX4_count 103 = .ok (.aload_n 0, 1) := by decide +kernel
theorem dX4_count_104 : decode cX4_count 104 = .ok (.getfield 19, 3) := by decide +kernel
theorem dX4_count_107 : decode cX4_count 107 = .ok (.iconst 1, 1) := by decide +kernel
theorem dX4_count_108 : decode cX4_count 108 = .ok (.iaload, 1) := by decide +kernel
theorem dX4_count_109 : decode cX4_count 109 = .ok (.ireturn, 1) := by decide +kernel
theorem dX4_count_110 : decode cX4_count 110 = .ok (.iconst 0, 1) := by decide +kernel
theorem dX4_count_111 : decode cX4_count 111 = .ok (.istore_n 3, 1) := by decide +kernel
theorem dX4_count_112 : decode cX4_count 112 = .ok (.iload_n 3, 1) := by decide +kernel
theorem dX4_count_113 : decode cX4_count 113 = .ok (.aload_n 0, 1) := by decide +kernel
theorem dX4_count_114 : decode cX4_count 114 = .ok (.getfield 19, 3) := by decide +kernel
theorem dX4_count_117 : decode cX4_count 117 = .ok (.iconst 2, 1) := by decide +kernel
theorem dX4_count_118 : decode cX4_count 118 = .ok (.iaload, 1) := by decide +kernel
theorem dX4_count_119 : decode cX4_count 119 = .ok (.if_icmp .ge 30, 3) := by decide +kernel
theorem dX4_count_122 : decode cX4_count 122 = .ok (.iload_n 2, 1) := by decide +kernel
theorem dX4_count_123 : decode cX4_count 123 = .ok (.aload_n 0, 1) := by decide +kernel
theorem dX4_count_124 : decode cX4_count 124 = .ok (.getfield 19, 3) := by decide +kernel
theorem dX4_count_127 : decode cX4_count 127 = .ok (.iload_n 3, 1) := by decide +kernel
theorem dX4_count_128 : decode cX4_count 128 = .ok (.invokestatic 168, 3) := by decide +kernel
theorem dX4_count_131 : decode cX4_count 131 = .ok (.ifCond .eq 9, 3) := by decide +kernel
theorem dX4_count_134 : decode cX4_count 134 = .ok (.iconst 1, 1) := by decide +kernel
theorem dX4_count_135 : decode cX4_count 135 = .ok (.iload_n 3, 1) := by decide +kernel
theorem dX4_count_136 : decode cX4_count 136 = .ok (.ishl, 1) := by decide +kernel
theorem dX4_count_137 : decode cX4_count 137 = .ok (.goto 4, 3) := by decide +kernel
theorem dX4_count_140 : decode cX4_count 140 = .ok (.iconst 0, 1) := by decide +kernel
theorem dX4_count_141 : decode cX4_count 141 = .ok (.ior, 1) := by decide +kernel
theorem dX4_count_142 : decode cX4_count 142 = .ok (.istore_n 2, 1) := by decide +kernel
theorem dX4_count_143 : decode cX4_count 143 = .ok (.iinc 3 1, 3) := by decide +kernel
theorem dX4_count_146 : decode cX4_count 146 = .ok (.goto (-34), 3) := by decide +kernel
theorem dX4_count_149 : decode cX4_count 149 = .ok (.iload_n 2, 1) := by decide +kernel
theorem dX4_count_150 : decode cX4_count 150 = .ok (.ireturn, 1) := by decide +kernel
theorem dX4_count_151 : decode cX4_count 151 = .ok (.aload_n 0, 1) := by decide +kernel
theorem dX4_count_152 : decode cX4_count 152 = .ok (.getfield 19, 3) := by decide +kernel
theorem dX4_count_155 : decode cX4_count 155 = .ok (.invokestatic 254, 3) := by decide +kernel
theorem dX4_count_158 : decode cX4_count 158 = .ok (.ireturn, 1) := by decide +kernel
theorem dX4_count_159 : decode cX4_count 159 = .ok (.aload_n 0, 1) := by decide +kernel
theorem dX4_count_160 : decode cX4_count 160 = .ok (.getfield 150, 3) := by decide +kernel
theorem dX4_count_163 : decode cX4_count 163 = .ok (.ireturn, 1) := by decide +kernel
theorem dX4_count_164 : decode cX4_count 164 = .ok (.aload_n 0, 1) := by decide +kernel
theorem dX4_count_165 : decode cX4_count 165 = .ok (.getfield 75, 3) := by decide +kernel
theorem dX4_count_168 : decode cX4_count 168 = .ok (.ireturn, 1) := by decide +kernel
theorem dX4_count_169 : decode cX4_count 169 = .ok (.ldc 68, 2) := by decide +kernel
theorem dX4_count_171 : decode cX4_count 171 = .ok (.ireturn, 1) := by decide +kernel
