set_option maxRecDepth 20000 in
theorem ggX4_drop_X4_isRow : GoodIn wsX4_drop wsX4_isRow := goodIn_r _ [9, 10, 11, 12, 8, 13] (by decide +kernel) (by decide +kernel)
set_option maxRecDepth 20000 in
theorem gX4_drop_X4_isRow : GoodIn wsX4_drop (va_wsS RX4 62 yX4_isRow wsX4_isRow) := goodIn_app (goodIn_of _ (by decide +kernel)) ggX4_drop_X4_isRow
set_option maxRecDepth 20000 in
theorem ggX4_drop_X4_finding : GoodIn wsX4_drop wsX4_finding := goodIn_r _ [17, 3, 18, 19, 20, 21, 22, 23, 24, 25, 26, 27, 28, 29, 30, 31, 32, 33, 34, 35, 36, 37, 38, 39, 40, 41, 42] (by decide +kernel) (by decide +kernel)
set_option maxRecDepth 20000 in
theorem gX4_drop_X4_finding : GoodIn wsX4_drop (wsV RX4 69 RX4 yX4_finding wsX4_finding) := goodIn_app (goodIn_of _ (by decide +kernel)) ggX4_drop_X4_finding
theorem dX4_drop_0 : decode cX4_drop 0 = .ok (.aload_n 0, 1) := by decide +kernel
theorem dX4_drop_1 : decode cX4_drop 1 = .ok (.iconst 0, 1) := by decide +kernel
theorem dX4_drop_2 : decode cX4_drop 2 = .ok (.putfield 48, 3) := by decide +kernel
theorem dX4_drop_5 : decode cX4_drop 5 = .ok (.iload_n 1, 1) := by decide +kernel
theorem dX4_drop_6 : decode cX4_drop 6 = .ok (.invokestatic 62, 3) := by decide +kernel
theorem dX4_drop_9 : decode cX4_drop 9 = .ok (.ifCond .ne 6, 3) := by decide +kernel
theorem dX4_drop_12 : decode cX4_drop 12 = .ok (.ldc 68, 2) := by decide +kernel
theorem dX4_drop_14 : decode cX4_drop 14 = .ok (.ireturn, 1) := by decide +kernel
theorem dX4_drop_15 : decode cX4_drop 15 = .ok (.aload_n 0, 1) := by decide +kernel
theorem dX4_drop_16 : decode cX4_drop 16 = .ok (.iconst 0, 1) := by decide +kernel
theorem dX4_drop_17 : decode cX4_drop 17 = .ok (.putfield 52, 3) := by decide +kernel
theorem dX4_drop_20 : decode cX4_drop 20 = .ok (.aload_n 0, 1) := by decide +kernel
theorem dX4_drop_21 : decode cX4_drop 21 = .ok (.getfield 7, 3) := by decide +kernel
theorem dX4_drop_24 : decode cX4_drop 24 = .ok (.iload_n 1, 1) := by decide +kernel
theorem dX4_drop_25 : decode cX4_drop 25 = .ok (.iaload, 1) := by decide +kernel
theorem dX4_drop_26 : decode cX4_drop 26 = .ok (.ifCond .ge 9, 3) := by decide +kernel
theorem dX4_drop_29 : decode cX4_drop 29 = .ok (.aload_n 0, 1) := by decide +kernel
theorem dX4_drop_30 : decode cX4_drop 30 = .ok (.iconst 1, 1) := by decide +kernel
theorem dX4_drop_31 : decode cX4_drop 31 = .ok (.invokevirtual 69, 3) := by decide +kernel
theorem dX4_drop_34 : decode cX4_drop 34 = .ok (.ireturn, 1) := by decide +kernel
theorem dX4_drop_35 : decode cX4_drop 35 = .ok (.aload_n 0, 1) := by decide +kernel
theorem dX4_drop_36 : decode cX4_drop 36 = .ok (.getfield 7, 3) := by decide +kernel
theorem dX4_drop_39 : decode cX4_drop 39 = .ok (.iload_n 1, 1) := by decide +kernel
theorem dX4_drop_40 : decode cX4_drop 40 = .ok (.iconst (-1), 1) := by decide +kernel
theorem dX4_drop_41 : decode cX4_drop 41 = .ok (.iastore, 1) := by decide +kernel
theorem dX4_drop_42 : decode cX4_drop 42 = .ok (.aload_n 0, 1) := by decide +kernel
theorem dX4_drop_43 : decode cX4_drop 43 = .ok (.getfield 13, 3) := by decide +kernel
theorem dX4_drop_46 : decode cX4_drop 46 = .ok (.iload_n 1, 1) := by decide +kernel
theorem dX4_drop_47 : decode cX4_drop 47 = .ok (.iaload, 1) := by decide +kernel
theorem dX4_drop_48 : decode cX4_drop 48 = .ok (.ireturn, 1) := by decide +kernel
set_option maxRecDepth 20000 in
theorem ggX4_feed_X4_in : GoodIn wsX4_feed wsX4_in := goodIn_r _ [10] (by decide +kernel) (by decide +kernel)
set_option maxRecDepth 20000 in
theorem gX4_feed_X4_in : GoodIn wsX4_feed (va_wsS RX4 58 yX4_in wsX4_in) := goodIn_app (goodIn_of _ (by decide +kernel)) ggX4_feed_X4_in
theorem dX4_feed_0 : decode cX4_feed 0 = .ok (.aload_n 0, 1) := by decide +kernel
theorem dX4_feed_1 : decode cX4_feed 1 = .ok (.iconst 0, 1) := by decide +kernel
theorem dX4_feed_2 : decode cX4_feed 2 = .ok (.putfield 48, 3) := by decide +kernel
theorem dX4_feed_5 : decode cX4_feed 5 = .ok (.iload_n 1, 1) := by decide +kernel
theorem dX4_feed_6 : decode cX4_feed 6 = .ok (.i2l, 1) := by decide +kernel
theorem dX4_feed_7 : decode cX4_feed 7 = .ok (.lconst 0, 1) := by decide +kernel
theorem dX4_feed_8 : decode cX4_feed 8 = .ok (.ldc2_w 73, 3) := by decide +kernel
theorem dX4_feed_11 : decode cX4_feed 11 = .ok (.invokestatic 58, 3) := by decide +kernel
theorem dX4_feed_14 : decode cX4_feed 14 = .ok (.ifCond .ne 6, 3) := by decide +kernel
theorem dX4_feed_17 : decode cX4_feed 17 = .ok (.ldc 68, 2) := by decide +kernel
theorem dX4_feed_19 : decode cX4_feed 19 = .ok (.ireturn, 1) := by decide +kernel
theorem dX4_feed_20 : decode cX4_feed 20 = .ok (.aload_n 0, 1) := by decide +kernel
theorem dX4_feed_21 : decode cX4_feed 21 = .ok (.getfield 75, 3) := by decide +kernel
theorem dX4_feed_24 : decode cX4_feed 24 = .ok (.bipush 120, 2) := by decide +kernel
theorem dX4_feed_26 : decode cX4_feed 26 = .ok (.if_icmp .ne 6, 3) := by decide +kernel
theorem dX4_feed_29 : decode cX4_feed 29 = .ok (.ldc 78, 2) := by decide +kernel
theorem dX4_feed_31 : decode cX4_feed 31 = .ok (.ireturn, 1) := by decide +kernel
theorem dX4_feed_32 : decode cX4_feed 32 = .ok (.aload_n 0, 1) := by decide +kernel
theorem dX4_feed_33 : decode cX4_feed 33 = .ok (.getfield 31, 3) := by decide +kernel
theorem dX4_feed_36 : decode cX4_feed 36 = .ok (.aload_n 0, 1) := by decide +kernel
theorem dX4_feed_37 : decode cX4_feed 37 = .ok (.getfield 75, 3) := by decide +kernel
theorem dX4_feed_40 : decode cX4_feed 40 = .ok (.iload_n 1, 1) := by decide +kernel
theorem dX4_feed_41 : decode cX4_feed 41 = .ok (.iastore, 1) := by decide +kernel
theorem dX4_feed_42 : decode cX4_feed 42 = .ok (.aload_n 0, 1) := by decide +kernel
theorem dX4_feed_43 : decode cX4_feed 43 = .ok (.dup, 1) := by decide +kernel
theorem dX4_feed_44 : decode cX4_feed 44 = .ok (.getfield 75, 3) := by decide +kernel
theorem dX4_feed_47 : decode cX4_feed 47 = .ok (.iconst 1, 1) := by decide +kernel
theorem dX4_feed_48 : decode cX4_feed 48 = .ok (.iadd, 1) := by decide +kernel
theorem dX4_feed_49 : decode cX4_feed 49 = .ok (.putfield 75, 3) := by decide +kernel
theorem dX4_feed_52 : decode cX4_feed 52 = .ok (.aload_n 0, 1) := by decide +kernel
theorem dX4_feed_53 : decode cX4_feed 53 = .ok (.getfield 75, 3) := by decide +kernel
theorem dX4_feed_56 : decode cX4_feed 56 = .ok (.ireturn, 1) := by decide +kernel
set_option maxRecDepth 20000 in
theorem ggX4_poses_X4_wrongOf : GoodIn wsX4_poses wsX4_wrongOf := goodIn_r _ [4, 5, 6, 3, 7, 8, 9, 10, 11, 12, 13, 14, 15, 16, 17, 18, 19, 20, 21, 22, 23, 24, 25, 26, 27, 28, 29, 30, 31] (by decide +kernel) (by decide +kernel)
set_option maxRecDepth 20000 in
theorem gX4_poses_X4_wrongOf : GoodIn wsX4_poses (va_wsS RX4 186 yX4_wrongOf wsX4_wrongOf) := goodIn_app (goodIn_of _ (by decide +kernel)) ggX4_poses_X4_wrongOf
set_option maxRecDepth 20000 in
theorem ggX4_poses_X4_has : GoodIn wsX4_poses wsX4_has := goodIn_r _ [7] (by decide +kernel) (by decide +kernel)
set_option maxRecDepth 20000 in
theorem gX4_poses_X4_has : GoodIn wsX4_poses (va_wsS RX4 179 yX4_has wsX4_has) := goodIn_app (goodIn_of _ (by decide +kernel)) ggX4_poses_X4_has
set_option maxRecDepth 20000 in
theorem ggX4_poses_X4_counts : GoodIn wsX4_poses wsX4_counts := goodIn_r _ [13, 14, 15, 3, 16] (by decide +kernel) (by decide +kernel)
set_option maxRecDepth 20000 in
theorem gX4_poses_X4_counts : GoodIn wsX4_poses (va_wsS RX4 168 yX4_counts wsX4_counts) := goodIn_app (goodIn_of _ (by decide +kernel)) ggX4_poses_X4_counts
set_option maxRecDepth 20000 in
theorem ggX4_poses_X4_clicksIt : GoodIn wsX4_poses wsX4_clicksIt := goodIn_r _ [19, 14, 15, 3, 16, 20, 21, 22, 23, 24, 25, 26, 27, 28] (by decide +kernel) (by decide +kernel)
set_option maxRecDepth 20000 in
theorem gX4_poses_X4_clicksIt : GoodIn wsX4_poses (va_wsS RX4 172 yX4_clicksIt wsX4_clicksIt) := goodIn_app (goodIn_of _ (by decide +kernel)) ggX4_poses_X4_clicksIt
theorem dX4_poses_0 : decode cX4_poses 0 = .ok (.aload_n 0, 1) := by decide +kernel
theorem dX4_poses_1 : decode cX4_poses 1 = .ok (.iload_n 1, 1) := by decide +kernel
theorem dX4_poses_2 : decode cX4_poses 2 = .ok (.iload_n 2, 1) := by decide +kernel
theorem dX4_poses_3 : decode cX4_poses 3 = .ok (.invokestatic 186, 3) := by decide +kernel
theorem dX4_poses_6 : decode cX4_poses 6 = .ok (.aload_n 0, 1) := by decide +kernel
theorem dX4_poses_7 : decode cX4_poses 7 = .ok (.iconst 1, 1) := by decide +kernel
theorem dX4_poses_8 : decode cX4_poses 8 = .ok (.iaload, 1) := by decide +kernel
theorem dX4_poses_9 : decode cX4_poses 9 = .ok (.if_icmp .gt 7, 3) := by decide +kernel
theorem dX4_poses_12 : decode cX4_poses 12 = .ok (.iconst 1, 1) := by decide +kernel
theorem dX4_poses_13 : decode cX4_poses 13 = .ok (.goto 4, 3) := by decide +kernel
theorem dX4_poses_16 : decode cX4_poses 16 = .ok (.iconst 0, 1) := by decide +kernel
theorem dX4_poses_17 : decode cX4_poses 17 = .ok (.istore_n 3, 1) := by decide +kernel
theorem dX4_poses_18 : decode cX4_poses 18 = .ok (.iconst 0, 1) := by decide +kernel
theorem dX4_poses_19 : decode cX4_poses 19 = .ok (.istore 4, 2) := by decide +kernel
theorem dX4_poses_21 : decode cX4_poses 21 = .ok (.iload 4, 2) := by decide +kernel
theorem dX4_poses_23 : decode cX4_poses 23 = .ok (.aload_n 0, 1) := by decide +kernel
theorem dX4_poses_24 : decode cX4_poses 24 = .ok (.iconst 2, 1) := by decide +kernel
theorem dX4_poses_25 : decode cX4_poses 25 = .ok (.iaload, 1) := by decide +kernel
theorem dX4_poses_26 : decode cX4_poses 26 = .ok (.if_icmp .ge 76, 3) := by decide +kernel
theorem dX4_poses_29 : decode cX4_poses 29 = .ok (.iload_n 3, 1) := by decide +kernel
theorem dX4_poses_30 : decode cX4_poses 30 = .ok (.ifCond .eq 72, 3) := by decide +kernel
theorem dX4_poses_33 : decode cX4_poses 33 = .ok (.iload_n 2, 1) := by decide +kernel
theorem dX4_poses_34 : decode cX4_poses 34 = .ok (.iload 4, 2) := by decide +kernel
theorem dX4_poses_36 : decode cX4_poses 36 = .ok (.invokestatic 179, 3) := by decide +kernel
theorem dX4_poses_39 : decode cX4_poses 39 = .ok (.ifCond .eq 57, 3) := by decide +kernel
theorem dX4_poses_42 : decode cX4_poses 42 = .ok (.aload_n 0, 1) := by decide +kernel
theorem dX4_poses_43 : decode cX4_poses 43 = .ok (.iload 4, 2) := by decide +kernel
theorem dX4_poses_45 : decode cX4_poses 45 = .ok (.invokestatic 168, 3) := by decide +kernel
theorem dX4_poses_48 : decode cX4_poses 48 = .ok (.ifCond .ne 48, 3) := by decide +kernel
theorem dX4_poses_51 : decode cX4_poses 51 = .ok (.iconst 4, 1) := by decide +kernel
theorem dX4_poses_52 : decode cX4_poses 52 = .ok (.iconst 5, 1) := by decide +kernel
theorem dX4_poses_53 : decode cX4_poses 53 = .ok (.iload 4, 2) := by decide +kernel
theorem dX4_poses_55 : decode cX4_poses 55 = .ok (.imul, 1) := by decide +kernel
theorem dX4_poses_56 : decode cX4_poses 56 = .ok (.iadd, 1) := by decide +kernel
theorem dX4_poses_57 : decode cX4_poses 57 = .ok (.aload_n 0, 1) := by decide +kernel
theorem dX4_poses_58 : decode cX4_poses 58 = .ok (.iload_n 1, 1) := by decide +kernel
theorem dX4_poses_59 : decode cX4_poses 59 = .ok (.iload 4, 2) := by decide +kernel
theorem dX4_poses_61 : decode cX4_poses 61 = .ok (.invokestatic 172, 3) := by decide +kernel
theorem dX4_poses_64 : decode cX4_poses 64 = .ok (.ifCond .eq 7, 3) := by decide +kernel
theorem dX4_poses_67 : decode cX4_poses 67 = .ok (.iconst 2, 1) := by decide +kernel
theorem dX4_poses_68 : decode cX4_poses 68 = .ok (.goto 4, 3) := by decide +kernel
theorem dX4_poses_71 : decode cX4_poses 71 = .ok (.iconst 3, 1) := by decide +kernel
theorem dX4_poses_72 : decode cX4_poses 72 = .ok (.iadd, 1) := by decide +kernel
theorem dX4_poses_73 : decode cX4_poses 73 = .ok (.istore 5, 2) := by decide +kernel
theorem dX4_poses_75 : decode cX4_poses 75 = .ok (.aload_n 0, 1) := by decide +kernel
theorem dX4_poses_76 : decode cX4_poses 76 = .ok (.iload 5, 2) := by decide +kernel
theorem dX4_poses_78 : decode cX4_poses 78 = .ok (.dup2, 1) := by decide +kernel
theorem dX4_poses_79 : decode cX4_poses 79 = .ok (.iaload, 1) := by decide +kernel
theorem dX4_poses_80 : decode cX4_poses 80 = .ok (.aload_n 0, 1) := by decide +kernel
theorem dX4_poses_81 : decode cX4_poses 81 = .ok (.iload 5, 2) := by decide +kernel
theorem dX4_poses_83 : decode cX4_poses 83 = .ok (.iaload, 1) := by decide +kernel
theorem dX4_poses_84 : decode cX4_poses 84 = .ok (.bipush 99, 2) := by decide +kernel
theorem dX4_poses_86 : decode cX4_poses 86 = .ok (.if_icmp .ge 7, 3) := by decide +kernel
theorem dX4_poses_89 : decode cX4_poses 89 = .ok (.iconst 1, 1) := by decide +kernel
theorem dX4_poses_90 : decode cX4_poses 90 = .ok (.goto 4, 3) := by decide +kernel
theorem dX4_poses_93 : decode cX4_poses 93 = .ok (.iconst 0, 1) := by decide +kernel
theorem dX4_poses_94 : decode cX4_poses 94 = .ok (.iadd, 1) := by decide +kernel
theorem dX4_poses_95 : decode cX4_poses 95 = .ok (.iastore, 1) := by decide +kernel
theorem dX4_poses_96 : decode cX4_poses 96 = .ok (.iinc 4 1, 3) := by decide +kernel
theorem dX4_poses_99 : decode cX4_poses 99 = .ok (.goto (-78), 3) := by decide +kernel
theorem dX4_poses_102 : decode cX4_poses 102 = .ok (.aload_n 0, 1) := by decide +kernel
theorem dX4_poses_103 : decode cX4_poses 103 = .ok (.bipush 44, 2) := by decide +kernel
theorem dX4_poses_105 : decode cX4_poses 105 = .ok (.iconst 4, 1) := by decide +kernel
theorem dX4_poses_106 : decode cX4_poses 106 = .ok (.iload_n 1, 1) := by decide +kernel
theorem dX4_poses_107 : decode cX4_poses 107 = .ok (.imul, 1) := by decide +kernel
theorem dX4_poses_108 : decode cX4_poses 108 = .ok (.iadd, 1) := by decide +kernel
theorem dX4_poses_109 : decode cX4_poses 109 = .ok (.iconst 2, 1) := by decide +kernel
theorem dX4_poses_110 : decode cX4_poses 110 = .ok (.iadd, 1) := by decide +kernel
theorem dX4_poses_111 : decode cX4_poses 111 = .ok (.dup2, 1) := by decide +kernel
theorem dX4_poses_112 : decode cX4_poses 112 = .ok (.iaload, 1) := by decide +kernel
theorem dX4_poses_113 : decode cX4_poses 113 = .ok (.iconst 1, 1) := by decide +kernel
theorem dX4_poses_114 : decode cX4_poses 114 = .ok (.iadd, 1) := by decide +kernel
theorem dX4_poses_115 : decode cX4_poses 115 = .ok (.iastore, 1) := by decide +kernel
theorem dX4_poses_116 : decode cX4_poses 116 = .ok (.aload_n 0, 1) := by decide +kernel
theorem dX4_poses_117 : decode cX4_poses 117 = .ok (.bipush 44, 2) := by decide +kernel
theorem dX4_poses_119 : decode cX4_poses 119 = .ok (.iconst 4, 1) := by decide +kernel
theorem dX4_poses_120 : decode cX4_poses 120 = .ok (.iload_n 1, 1) := by decide +kernel
theorem dX4_poses_121 : decode cX4_poses 121 = .ok (.imul, 1) := by decide +kernel
theorem dX4_poses_122 : decode cX4_poses 122 = .ok (.iadd, 1) := by decide +kernel
theorem dX4_poses_123 : decode cX4_poses 123 = .ok (.iconst 3, 1) := by decide +kernel
theorem dX4_poses_124 : decode cX4_poses 124 = .ok (.iadd, 1) := by decide +kernel
theorem dX4_poses_125 : decode cX4_poses 125 = .ok (.dup2, 1) := by decide +kernel
theorem dX4_poses_126 : decode cX4_poses 126 = .ok (.iaload, 1) := by decide +kernel
theorem dX4_poses_127 : decode cX4_poses 127 = .ok (.iload_n 3, 1) := by decide +kernel
theorem dX4_poses_128 : decode cX4_poses 128 = .ok (.ifCond .eq 7, 3) := by decide +kernel
theorem dX4_poses_131 : decode cX4_poses 131 = .ok (.iconst 1, 1) := by decide +kernel
theorem dX4_poses_132 : decode cX4_poses 132 = .ok (.goto 4, 3) := by decide +kernel
theorem dX4_poses_135 : decode cX4_poses 135 = .ok (.iconst 0, 1) := by decide +kernel
theorem dX4_poses_136 : decode cX4_poses 136 = .ok (.iadd, 1) := by decide +kernel
theorem dX4_poses_137 : decode cX4_poses 137 = .ok (.iastore, 1) := by decide +kernel
theorem dX4_poses_138 : decode cX4_poses 138 = .ok (.iload_n 3, 1) := by decide +kernel
theorem dX4_poses_139 : decode cX4_poses 139 = .ok (.ireturn, 1) := by decide +kernel
theorem dX4_keep_0 : decode cX4_keep 0 = .ok (.aload_n 0, 1) := by decide +kernel
theorem dX4_keep_1 : decode cX4_keep 1 = .ok (.getfield 150, 3) := by decide +kernel
theorem dX4_keep_4 : decode cX4_keep 4 = .ok (.bipush 24, 2) := by decide +kernel
theorem dX4_keep_6 : decode cX4_keep 6 = .ok (.if_icmp .ne 43, 3) := by decide +kernel
theorem dX4_keep_9 : decode cX4_keep 9 = .ok (.iconst 0, 1) := by decide +kernel
theorem dX4_keep_10 : decode cX4_keep 10 = .ok (.istore_n 1, 1) := by decide +kernel
theorem dX4_keep_11 : decode cX4_keep 11 = .ok (.iload_n 1, 1) := by decide +kernel
theorem dX4_keep_12 : decode cX4_keep 12 = .ok (.sipush 1472, 3) := by decide +kernel
theorem dX4_keep_15 : decode cX4_keep 15 = .ok (.if_icmp .ge 24, 3) := by decide +kernel
theorem dX4_keep_18 : decode cX4_keep 18 = .ok (.aload_n 0, 1) := by decide +kernel
theorem dX4_keep_19 : decode cX4_keep 19 = .ok (.getfield 28, 3) := by decide +kernel
theorem dX4_keep_22 : decode cX4_keep 22 = .ok (.iload_n 1, 1) := by decide +kernel
theorem dX4_keep_23 : decode cX4_keep 23 = .ok (.aload_n 0, 1) := by decide +kernel
theorem dX4_keep_24 : decode cX4_keep 24 = .ok (.getfield 28, 3) := by decide +kernel
theorem dX4_keep_27 : decode cX4_keep 27 = .ok (.iload_n 1, 1) := by decide +kernel
theorem dX4_keep_28 : decode cX4_keep 28 = .ok (.bipush 64, 2) := by decide +kernel
theorem dX4_keep_30 : decode cX4_keep 30 = .ok (.iadd, 1) := by decide +kernel
theorem dX4_keep_31 : decode cX4_keep 31 = .ok (.iaload, 1) := by decide +kernel
theorem dX4_keep_32 : decode cX4_keep 32 = .ok (.iastore, 1) := by decide +kernel
theorem dX4_keep_33 : decode cX4_keep 33 = .ok (.iinc 1 1, 3) := by decide +kernel
theorem dX4_keep_36 : decode cX4_keep 36 = .ok (.goto (-25), 3) := by decide +kernel
theorem dX4_keep_39 : decode cX4_keep 39 = .ok (.aload_n 0, 1) := by decide +kernel
theorem dX4_keep_40 : decode cX4_keep 40 = .ok (.dup, 1) := by decide +kernel
theorem dX4_keep_41 : decode cX4_keep 41 = .ok (.getfield 150, 3) := by decide +kernel
theorem dX4_keep_44 : decode cX4_keep 44 = .ok (.iconst 1, 1) := by decide +kernel
theorem dX4_keep_45 : decode cX4_keep 45 = .ok (.isub, 1) := by decide +kernel
theorem dX4_keep_46 : decode cX4_keep 46 = .ok (.putfield 150, 3) := by decide +kernel
theorem dX4_keep_49 : decode cX4_keep 49 = .ok (.iconst 0, 1) := by decide +kernel
theorem dX4_keep_50 : decode cX4_keep 50 = .ok (.istore_n 1, 1) := by decide +kernel
theorem dX4_keep_51 : decode cX4_keep 51 = .ok (.iload_n 1, 1) := by decide +kernel
theorem dX4_keep_52 : decode cX4_keep 52 = .ok (.bipush 64, 2) := by decide +kernel
theorem dX4_keep_54 : decode cX4_keep 54 = .ok (.if_icmp .ge 29, 3) := by decide +kernel
theorem dX4_keep_57 : decode cX4_keep 57 = .ok (.aload_n 0, 1) := by decide +kernel
theorem dX4_keep_58 : decode cX4_keep 58 = .ok (.getfield 28, 3) := by decide +kernel
theorem dX4_keep_61 : decode cX4_keep 61 = .ok (.bipush 64, 2) := by decide +kernel
theorem dX4_keep_63 : decode cX4_keep 63 = .ok (.aload_n 0, 1) := by decide +kernel
theorem dX4_keep_64 : decode cX4_keep 64 = .ok (.getfield 150, 3) := by decide +kernel
theorem dX4_keep_67 : decode cX4_keep 67 = .ok (.imul, 1) := by decide +kernel
theorem dX4_keep_68 : decode cX4_keep 68 = .ok (.iload_n 1, 1) := by decide +kernel
theorem dX4_keep_69 : decode cX4_keep 69 = .ok (.iadd, 1) := by decide +kernel
theorem dX4_keep_70 : decode cX4_keep 70 = .ok (.aload_n 0, 1) := by decide +kernel
theorem dX4_keep_71 : decode cX4_keep 71 = .ok (.getfield 19, 3) := by decide +kernel
theorem dX4_keep_74 : decode cX4_keep 74 = .ok (.iload_n 1, 1) := by decide +kernel
theorem dX4_keep_75 : decode cX4_keep 75 = .ok (.iaload, 1) := by decide +kernel
theorem dX4_keep_76 : decode cX4_keep 76 = .ok (.iastore, 1) := by decide +kernel
theorem dX4_keep_77 : decode cX4_keep 77 = .ok (.iinc 1 1, 3) := by decide +kernel
theorem dX4_keep_80 : decode cX4_keep 80 = .ok (.goto (-29), 3) := by decide +kernel
theorem dX4_keep_83 : decode cX4_keep 83 = .ok (.aload_n 0, 1) := by decide +kernel
theorem dX4_keep_84 : decode cX4_keep 84 = .ok (.dup, 1) := by decide +kernel
theorem dX4_keep_85 : decode cX4_keep 85 = .ok (.getfield 150, 3) := by decide +kernel
theorem dX4_keep_88 : decode cX4_keep 88 = .ok (.iconst 1, 1) := by decide +kernel
theorem dX4_keep_89 : decode cX4_keep 89 = .ok (.iadd, 1) := by decide +kernel
theorem dX4_keep_90 : decode cX4_keep 90 = .ok (.putfield 150, 3) := by decide +kernel
theorem dX4_keep_93 : decode cX4_keep 93 = .ok (.return_, 1) := by decide +kernel
set_option maxRecDepth 20000 in
theorem ggX4_pose_X4_isVisitor : GoodIn wsX4_pose wsX4_isVisitor := goodIn_r _ [8, 3, 9, 10, 7, 11, 55, 56, 57, 58, 59, 60, 61, 62, 63, 64, 65, 66, 67, 68, 69, 70, 71, 72, 73, 74, 75, 76, 77, 78] (by decide +kernel) (by decide +kernel)
set_option maxRecDepth 20000 in
theorem gX4_pose_X4_isVisitor : GoodIn wsX4_pose (wsV RX4 189 RX4 yX4_isVisitor wsX4_isVisitor) := goodIn_app (goodIn_of _ (by decide +kernel)) ggX4_pose_X4_isVisitor
set_option maxRecDepth 20000 in
theorem ggX4_pose_X4_areSquares : GoodIn wsX4_pose wsX4_areSquares := goodIn_r _ [15, 3, 9, 10, 7, 11, 55, 56, 57, 58, 59, 60, 61, 62, 63, 64, 65, 66, 67, 68, 69, 70, 71, 72, 73, 74, 75, 76, 77, 78] (by decide +kernel) (by decide +kernel)
set_option maxRecDepth 20000 in
theorem gX4_pose_X4_areSquares : GoodIn wsX4_pose (wsV RX4 192 RX4 yX4_areSquares wsX4_areSquares) := goodIn_app (goodIn_of _ (by decide +kernel)) ggX4_pose_X4_areSquares
set_option maxRecDepth 20000 in
theorem ggX4_pose_X4_keep : GoodIn wsX4_pose wsX4_keep := goodIn_r _ [19, 20, 21, 3, 55, 56, 57, 58, 59, 60, 61, 62, 63, 64, 65, 66, 67, 68, 69, 70, 71, 72, 73, 74, 75, 76, 77, 78] (by decide +kernel) (by decide +kernel)
set_option maxRecDepth 20000 in
theorem gX4_pose_X4_keep : GoodIn wsX4_pose (wsV RX4 195 RX4 yX4_keep wsX4_keep) := goodIn_app (goodIn_of _ (by decide +kernel)) ggX4_pose_X4_keep
set_option maxRecDepth 20000 in
theorem ggX4_pose_X4_poses : GoodIn wsX4_pose wsX4_poses := goodIn_r _ [24, 25, 26, 7, 27, 28, 29, 30, 31, 32, 33, 34, 35, 36, 37, 38, 39, 40, 41, 42, 43, 44, 45, 46, 47, 48, 49, 50, 51, 52, 53, 54] (by decide +kernel) (by decide +kernel)
set_option maxRecDepth 20000 in
theorem gX4_pose_X4_poses : GoodIn wsX4_pose (va_wsS RX4 198 yX4_poses wsX4_poses) := goodIn_app (goodIn_of _ (by decide +kernel)) ggX4_pose_X4_poses
theorem dX4_pose_0 : decode cX4_pose 0 = .ok (.aload_n 0, 1) := by decide +kernel
theorem dX4_pose_1 : decode cX4_pose 1 = .ok (.iconst 0, 1) := by decide +kernel
theorem dX4_pose_2 : decode cX4_pose 2 = .ok (.putfield 48, 3) := by decide +kernel
theorem dX4_pose_5 : decode cX4_pose 5 = .ok (.aload_n 0, 1) := by decide +kernel
theorem dX4_pose_6 : decode cX4_pose 6 = .ok (.iload_n 1, 1) := by decide +kernel
theorem dX4_pose_7 : decode cX4_pose 7 = .ok (.invokevirtual 189, 3) := by decide +kernel
theorem dX4_pose_10 : decode cX4_pose 10 = .ok (.ifCond .eq 11, 3) := by decide +kernel
theorem dX4_pose_13 : decode cX4_pose 13 = .ok (.aload_n 0, 1) := by decide +kernel
theorem dX4_pose_14 : decode cX4_pose 14 = .ok (.iload_n 2, 1) := by decide +kernel
theorem dX4_pose_15 : decode cX4_pose 15 = .ok (.invokevirtual 192, 3) := by decide +kernel
theorem dX4_pose_18 : decode cX4_pose 18 = .ok (.ifCond .ne 6, 3) := by decide +kernel
theorem dX4_pose_21 : decode cX4_pose 21 = .ok (.ldc 68, 2) := by decide +kernel
theorem dX4_pose_23 : decode cX4_pose 23 = .ok (.ireturn, 1) := by decide +kernel
theorem dX4_pose_24 : decode cX4_pose 24 = .ok (.aload_n 0, 1) := by decide +kernel
theorem dX4_pose_25 : decode cX4_pose 25 = .ok (.invokevirtual 195, 3) := by decide +kernel
theorem dX4_pose_28 : decode cX4_pose 28 = .ok (.aload_n 0, 1) := by decide +kernel
theorem dX4_pose_29 : decode cX4_pose 29 = .ok (.getfield 19, 3) := by decide +kernel
theorem dX4_pose_32 : decode cX4_pose 32 = .ok (.iload_n 1, 1) := by decide +kernel
theorem dX4_pose_33 : decode cX4_pose 33 = .ok (.iload_n 2, 1) := by decide +kernel
theorem dX4_pose_34 : decode cX4_pose 34 = .ok (.invokestatic 198, 3) := by decide +kernel
theorem dX4_pose_37 : decode cX4_pose 37 = .ok (.ifCond .eq 7, 3) := by decide +kernel
theorem dX4_pose_40 : decode cX4_pose 40 = .ok (.iconst 1, 1) := by decide +kernel
theorem dX4_pose_41 : decode cX4_pose 41 = .ok (.goto 4, 3) := by decide +kernel
theorem dX4_pose_44 : decode cX4_pose 44 = .ok (.iconst 0, 1) := by decide +kernel
theorem dX4_pose_45 : decode cX4_pose 45 = .ok (.ireturn, 1) := by decide +kernel
set_option maxRecDepth 20000 in
theorem ggX4_strict_X4_isThere : GoodIn wsX4_strict wsX4_isThere := goodIn_r _ [10, 5, 20, 21, 22, 23, 24, 25, 26, 27, 28, 29, 30, 31, 32, 33, 34, 35, 36, 37, 38, 39, 40, 41, 42, 43] (by decide +kernel) (by decide +kernel)
set_option maxRecDepth 20000 in
theorem gX4_strict_X4_isThere : GoodIn wsX4_strict (wsV RX4 201 RX4 yX4_isThere wsX4_isThere) := goodIn_app (goodIn_of _ (by decide +kernel)) ggX4_strict_X4_isThere
set_option maxRecDepth 20000 in
theorem ggX4_strict_X4_in : GoodIn wsX4_strict wsX4_in := goodIn_r _ [13] (by decide +kernel) (by decide +kernel)
set_option maxRecDepth 20000 in
theorem gX4_strict_X4_in : GoodIn wsX4_strict (va_wsS RX4 58 yX4_in wsX4_in) := goodIn_app (goodIn_of _ (by decide +kernel)) ggX4_strict_X4_in
set_option maxRecDepth 20000 in
theorem ggX4_strict_X4_keep : GoodIn wsX4_strict wsX4_keep := goodIn_r _ [17, 18, 19, 5, 20, 21, 22, 23, 24, 25, 26, 27, 28, 29, 30, 31, 32, 33, 34, 35, 36, 37, 38, 39, 40, 41, 42, 43] (by decide +kernel) (by decide +kernel)
set_option maxRecDepth 20000 in
theorem gX4_strict_X4_keep : GoodIn wsX4_strict (wsV RX4 195 RX4 yX4_keep wsX4_keep) := goodIn_app (goodIn_of _ (by decide +kernel)) ggX4_strict_X4_keep
theorem dX4_strict_0 : decode cX4_strict 0 = .ok (.aload_n 0, 1) := by decide +kernel
theorem dX4_strict_1 : decode cX4_strict 1 = .ok (.iconst 0, 1) := by decide +kernel
theorem dX4_strict_2 : decode cX4_strict 2 = .ok (.putfield 48, 3) := by decide +kernel
theorem dX4_strict_5 : decode cX4_strict 5 = .ok (.aload_n 0, 1) := by decide +kernel
theorem dX4_strict_6 : decode cX4_strict 6 = .ok (.invokevirtual 201, 3) := by decide +kernel
theorem dX4_strict_9 : decode cX4_strict 9 = .ok (.ifCond .ne 6, 3) := by decide +kernel
theorem dX4_strict_12 : decode cX4_strict 12 = .ok (.ldc 204, 2) := by decide +kernel
theorem dX4_strict_14 : decode cX4_strict 14 = .ok (.ireturn, 1) := by decide +kernel
theorem dX4_strict_15 : decode cX4_strict 15 = .ok (.iload_n 1, 1) := by decide +kernel
theorem dX4_strict_16 : decode cX4_strict 16 = .ok (.i2l, 1) := by decide +kernel
theorem dX4_strict_17 : decode cX4_strict 17 = .ok (.lconst 0, 1) := by decide +kernel
theorem dX4_strict_18 : decode cX4_strict 18 = .ok (.ldc2_w 205, 3) := by decide +kernel
theorem dX4_strict_21 : decode cX4_strict 21 = .ok (.invokestatic 58, 3) := by decide +kernel
theorem dX4_strict_24 : decode cX4_strict 24 = .ok (.ifCond .ne 6, 3) := by decide +kernel
theorem dX4_strict_27 : decode cX4_strict 27 = .ok (.ldc 68, 2) := by decide +kernel
theorem dX4_strict_29 : decode cX4_strict 29 = .ok (.ireturn, 1) := by decide +kernel
theorem dX4_strict_30 : decode cX4_strict 30 = .ok (.aload_n 0, 1) := by decide +kernel
theorem dX4_strict_31 : decode cX4_strict 31 = .ok (.invokevirtual 195, 3) := by decide +kernel
theorem dX4_strict_34 : decode cX4_strict 34 = .ok (.aload_n 0, 1) := by decide +kernel
theorem dX4_strict_35 : decode cX4_strict 35 = .ok (.getfield 19, 3) := by decide +kernel
theorem dX4_strict_38 : decode cX4_strict 38 = .ok (.iconst 1, 1) := by decide +kernel
theorem dX4_strict_39 : decode cX4_strict 39 = .ok (.iaload, 1) := by decide +kernel
theorem dX4_strict_40 : decode cX4_strict 40 = .ok (.istore_n 2, 1) := by decide +kernel
theorem dX4_strict_41 : decode cX4_strict 41 = .ok (.aload_n 0, 1) := by decide +kernel
theorem dX4_strict_42 : decode cX4_strict 42 = .ok (.getfield 19, 3) := by decide +kernel
theorem dX4_strict_45 : decode cX4_strict 45 = .ok (.iconst 1, 1) := by decide +kernel
theorem dX4_strict_46 : decode cX4_strict 46 = .ok (.iload_n 1, 1) := by decide +kernel
theorem dX4_strict_47 : decode cX4_strict 47 = .ok (.iastore, 1) := by decide +kernel
theorem dX4_strict_48 : decode cX4_strict 48 = .ok (.iload_n 2, 1) := by decide +kernel
theorem dX4_strict_49 : decode cX4_strict 49 = .ok (.ireturn, 1) := by decide +kernel
set_option maxRecDepth 20000 in
theorem ggX4_share_X4_isSquare : GoodIn wsX4_share wsX4_isSquare := goodIn_r _ [9, 4, 10, 11, 8, 12, 22, 23, 24, 25, 26, 27, 28, 29, 30, 31, 32, 33, 34, 35, 36, 37, 38, 39, 40, 41, 42, 43, 44, 45] (by decide +kernel) (by decide +kernel)
set_option maxRecDepth 20000 in
theorem gX4_share_X4_isSquare : GoodIn wsX4_share (wsV RX4 207 RX4 yX4_isSquare wsX4_isSquare) := goodIn_app (goodIn_of _ (by decide +kernel)) ggX4_share_X4_isSquare
set_option maxRecDepth 20000 in
theorem ggX4_share_X4_in : GoodIn wsX4_share wsX4_in := goodIn_r _ [12] (by decide +kernel) (by decide +kernel)
set_option maxRecDepth 20000 in
theorem gX4_share_X4_in : GoodIn wsX4_share (va_wsS RX4 58 yX4_in wsX4_in) := goodIn_app (goodIn_of _ (by decide +kernel)) ggX4_share_X4_in
set_option maxRecDepth 20000 in
theorem ggX4_share_X4_keep : GoodIn wsX4_share wsX4_keep := goodIn_r _ [16, 17, 18, 4, 22, 23, 24, 25, 26, 27, 28, 29, 30, 31, 32, 33, 34, 35, 36, 37, 38, 39, 40, 41, 42, 43, 44, 45] (by decide +kernel) (by decide +kernel)
set_option maxRecDepth 20000 in
theorem gX4_share_X4_keep : GoodIn wsX4_share (wsV RX4 195 RX4 yX4_keep wsX4_keep) := goodIn_app (goodIn_of _ (by decide +kernel)) ggX4_share_X4_keep
set_option maxRecDepth 20000 in
theorem ggX4_share_X4_of : GoodIn wsX4_share wsX4_of := goodIn_r _ [21] (by decide +kernel) (by decide +kernel)
set_option maxRecDepth 20000 in
theorem gX4_share_X4_of : GoodIn wsX4_share (va_wsS RX4 157 yX4_of wsX4_of) := goodIn_app (goodIn_of _ (by decide +kernel)) ggX4_share_X4_of
theorem dX4_share_0 : decode cX4_share 0 = .ok (.aload_n 0, 1) := by decide +kernel
theorem dX4_share_1 : decode cX4_share 1 = .ok (.iconst 0, 1) := by decide +kernel
theorem dX4_share_2 : decode cX4_share 2 = .ok (.putfield 48, 3) := by decide +kernel
theorem dX4_share_5 : decode cX4_share 5 = .ok (.aload_n 0, 1) := by decide +kernel
theorem dX4_share_6 : decode cX4_share 6 = .ok (.iload_n 1, 1) := by decide +kernel
theorem dX4_share_7 : decode cX4_share 7 = .ok (.invokevirtual 207, 3) := by decide +kernel
theorem dX4_share_10 : decode cX4_share 10 = .ok (.ifCond .eq 15, 3) := by decide +kernel
theorem dX4_share_13 : decode cX4_share 13 = .ok (.iload_n 2, 1) := by decide +kernel
theorem dX4_share_14 : decode cX4_share 14 = .ok (.i2l, 1) := by decide +kernel
theorem dX4_share_15 : decode cX4_share 15 = .ok (.lconst 0, 1) := by decide +kernel
theorem dX4_share_16 : decode cX4_share 16 = .ok (.ldc2_w 210, 3) := by decide +kernel
theorem dX4_share_19 : decode cX4_share 19 = .ok (.invokestatic 58, 3) := by decide +kernel
theorem dX4_share_22 : decode cX4_share 22 = .ok (.ifCond .ne 6, 3) := by decide +kernel
theorem dX4_share_25 : decode cX4_share 25 = .ok (.ldc 68, 2) := by decide +kernel
theorem dX4_share_27 : decode cX4_share 27 = .ok (.ireturn, 1) := by decide +kernel
theorem dX4_share_28 : decode cX4_share 28 = .ok (.aload_n 0, 1) := by decide +kernel
theorem dX4_share_29 : decode cX4_share 29 = .ok (.invokevirtual 195, 3) := by decide +kernel
theorem dX4_share_32 : decode cX4_share 32 = .ok (.aload_n 0, 1) := by decide +kernel
theorem dX4_share_33 : decode cX4_share 33 = .ok (.getfield 19, 3) := by decide +kernel
theorem dX4_share_36 : decode cX4_share 36 = .ok (.iload_n 1, 1) := by decide +kernel
theorem dX4_share_37 : decode cX4_share 37 = .ok (.iconst 1, 1) := by decide +kernel
theorem dX4_share_38 : decode cX4_share 38 = .ok (.invokestatic 157, 3) := by decide +kernel
theorem dX4_share_41 : decode cX4_share 41 = .ok (.istore_n 3, 1) := by decide +kernel
theorem dX4_share_42 : decode cX4_share 42 = .ok (.aload_n 0, 1) := by decide +kernel
theorem dX4_share_43 : decode cX4_share 43 = .ok (.getfield 19, 3) := by decide +kernel
theorem dX4_share_46 : decode cX4_share 46 = .ok (.iconst 4, 1) := by decide +kernel
theorem dX4_share_47 : decode cX4_share 47 = .ok (.iconst 5, 1) := by decide +kernel
theorem dX4_share_48 : decode cX4_share 48 = .ok (.iload_n 1, 1) := by decide +kernel
theorem dX4_share_49 : decode cX4_share 49 = .ok (.imul, 1) := by decide +kernel
theorem dX4_share_50 : decode cX4_share 50 = .ok (.iadd, 1) := by decide +kernel
theorem dX4_share_51 : decode cX4_share 51 = .ok (.iconst 1, 1) := by decide +kernel
theorem dX4_share_52 : decode cX4_share 52 = .ok (.iadd, 1) := by decide +kernel
theorem dX4_share_53 : decode cX4_share 53 = .ok (.iload_n 2, 1) := by decide +kernel
theorem dX4_share_54 : decode cX4_share 54 = .ok (.iastore, 1) := by decide +kernel
theorem dX4_share_55 : decode cX4_share 55 = .ok (.iload_n 3, 1) := by decide +kernel
theorem dX4_share_56 : decode cX4_share 56 = .ok (.ireturn, 1) := by decide +kernel
set_option maxRecDepth 20000 in
theorem ggX4_settle_X4_isSquare : GoodIn wsX4_settle wsX4_isSquare := goodIn_r _ [9, 3, 10, 11, 8, 12, 25, 26, 27, 28, 29, 30, 31, 32, 33, 34, 35, 36, 37, 38, 39, 40, 41, 42, 43, 44, 45, 46, 47, 48] (by decide +kernel) (by decide +kernel)
set_option maxRecDepth 20000 in
theorem gX4_settle_X4_isSquare : GoodIn wsX4_settle (wsV RX4 207 RX4 yX4_isSquare wsX4_isSquare) := goodIn_app (goodIn_of _ (by decide +kernel)) ggX4_settle_X4_isSquare
set_option maxRecDepth 20000 in
theorem ggX4_settle_X4_counts : GoodIn wsX4_settle wsX4_counts := goodIn_r _ [15, 16, 17, 8, 18] (by decide +kernel) (by decide +kernel)
set_option maxRecDepth 20000 in
theorem gX4_settle_X4_counts : GoodIn wsX4_settle (va_wsS RX4 168 yX4_counts wsX4_counts) := goodIn_app (goodIn_of _ (by decide +kernel)) ggX4_settle_X4_counts
set_option maxRecDepth 20000 in
theorem ggX4_settle_X4_keep : GoodIn wsX4_settle wsX4_keep := goodIn_r _ [22, 23, 24, 3, 25, 26, 27, 28, 29, 30, 31, 32, 33, 34, 35, 36, 37, 38, 39, 40, 41, 42, 43, 44, 45, 46, 47, 48] (by decide +kernel) (by decide +kernel)
set_option maxRecDepth 20000 in
theorem gX4_settle_X4_keep : GoodIn wsX4_settle (wsV RX4 195 RX4 yX4_keep wsX4_keep) := goodIn_app (goodIn_of _ (by decide +kernel)) ggX4_settle_X4_keep
set_option maxRecDepth 20000 in
theorem ggX4_settle_X4_of : GoodIn wsX4_settle wsX4_of := goodIn_r _ [18] (by decide +kernel) (by decide +kernel)
set_option maxRecDepth 20000 in
theorem gX4_settle_X4_of : GoodIn wsX4_settle (va_wsS RX4 157 yX4_of wsX4_of) := goodIn_app (goodIn_of _ (by decide +kernel)) ggX4_settle_X4_of
theorem dX4_settle_0 : decode cX4_settle 0 = .ok (.aload_n 0, 1) := by decide +kernel
theorem dX4_settle_1 : decode cX4_settle 1 = .ok (.iconst 0, 1) := by decide +kernel
theorem dX4_settle_2 : decode cX4_settle 2 = .ok (.putfield 48, 3) := by decide +kernel
theorem dX4_settle_5 : decode cX4_settle 5 = .ok (.aload_n 0, 1) := by decide +kernel
theorem dX4_settle_6 : decode cX4_settle 6 = .ok (.iload_n 1, 1) := by decide +kernel
theorem dX4_settle_7 : decode cX4_settle 7 = .ok (.invokevirtual 207, 3) := by decide +kernel
theorem dX4_settle_10 : decode cX4_settle 10 = .ok (.ifCond .ne 6, 3) := by decide +kernel
theorem dX4_settle_13 : decode cX4_settle 13 = .ok (.ldc 68, 2) := by decide +kernel
theorem dX4_settle_15 : decode cX4_settle 15 = .ok (.ireturn, 1) := by decide +kernel
theorem dX4_settle_16 : decode cX4_settle 16 = .ok (.aload_n 0, 1) := by decide +kernel
theorem dX4_settle_17 : decode cX4_settle 17 = .ok (.getfield 19, 3) := by decide +kernel
theorem dX4_settle_20 : decode cX4_settle 20 = .ok (.iload_n 1, 1) := by decide +kernel
theorem dX4_settle_21 : decode cX4_settle 21 = .ok (.invokestatic 168, 3) := by decide +kernel
theorem dX4_settle_24 : decode cX4_settle 24 = .ok (.ifCond .eq 6, 3) := by decide +kernel
theorem dX4_settle_27 : decode cX4_settle 27 = .ok (.ldc 204, 2) := by decide +kernel
theorem dX4_settle_29 : decode cX4_settle 29 = .ok (.ireturn, 1) := by decide +kernel
theorem dX4_settle_30 : decode cX4_settle 30 = .ok (.aload_n 0, 1) := by decide +kernel
theorem dX4_settle_31 : decode cX4_settle 31 = .ok (.invokevirtual 195, 3) := by decide +kernel
theorem dX4_settle_34 : decode cX4_settle 34 = .ok (.aload_n 0, 1) := by decide +kernel
theorem dX4_settle_35 : decode cX4_settle 35 = .ok (.getfield 19, 3) := by decide +kernel
theorem dX4_settle_38 : decode cX4_settle 38 = .ok (.iload_n 1, 1) := by decide +kernel
theorem dX4_settle_39 : decode cX4_settle 39 = .ok (.iconst 2, 1) := by decide +kernel
theorem dX4_settle_40 : decode cX4_settle 40 = .ok (.invokestatic 157, 3) := by decide +kernel
theorem dX4_settle_43 : decode cX4_settle 43 = .ok (.aload_n 0, 1) := by decide +kernel
theorem dX4_settle_44 : decode cX4_settle 44 = .ok (.getfield 19, 3) := by decide +kernel
theorem dX4_settle_47 : decode cX4_settle 47 = .ok (.iload_n 1, 1) := by decide +kernel
theorem dX4_settle_48 : decode cX4_settle 48 = .ok (.iconst 3, 1) := by decide +kernel
theorem dX4_settle_49 : decode cX4_settle 49 = .ok (.invokestatic 157, 3) := by decide +kernel
theorem dX4_settle_52 : decode cX4_settle 52 = .ok (.if_icmp .le 7, 3) := by decide +kernel
theorem dX4_settle_55 : decode cX4_settle 55 = .ok (.iconst 1, 1) := by decide +kernel
theorem dX4_settle_56 : decode cX4_settle 56 = .ok (.goto 4, 3) := by decide +kernel
theorem dX4_settle_59 : decode cX4_settle 59 = .ok (.iconst 0, 1) := by decide +kernel
theorem dX4_settle_60 : decode cX4_settle 60 = .ok (.istore_n 2, 1) := by decide +kernel
theorem dX4_settle_61 : decode cX4_settle 61 = .ok (.aload_n 0, 1) := by decide +kernel
theorem dX4_settle_62 : decode cX4_settle 62 = .ok (.getfield 19, 3) := by decide +kernel
theorem dX4_settle_65 : decode cX4_settle 65 = .ok (.iconst 4, 1) := by decide +kernel
theorem dX4_settle_66 : decode cX4_settle 66 = .ok (.iconst 5, 1) := by decide +kernel
theorem dX4_settle_67 : decode cX4_settle 67 = .ok (.iload_n 1, 1) := by decide +kernel
theorem dX4_settle_68 : decode cX4_settle 68 = .ok (.imul, 1) := by decide +kernel
theorem dX4_settle_69 : decode cX4_settle 69 = .ok (.iadd, 1) := by decide +kernel
theorem dX4_settle_70 : decode cX4_settle 70 = .ok (.iconst 4, 1) := by decide +kernel
theorem dX4_settle_71 : decode cX4_settle 71 = .ok (.iadd, 1) := by decide +kernel
theorem dX4_settle_72 : decode cX4_settle 72 = .ok (.iload_n 2, 1) := by decide +kernel
theorem dX4_settle_73 : decode cX4_settle 73 = .ok (.ifCond .eq 7, 3) := by decide +kernel
theorem dX4_settle_76 : decode cX4_settle 76 = .ok (.iconst 2, 1) := by decide +kernel
theorem dX4_settle_77 : decode cX4_settle 77 = .ok (.goto 4, 3) := by decide +kernel
theorem dX4_settle_80 : decode cX4_settle 80 = .ok (.iconst 1, 1) := by decide +kernel
theorem dX4_settle_81 : decode cX4_settle 81 = .ok (.iastore, 1) := by decide +kernel
theorem dX4_settle_82 : decode cX4_settle 82 = .ok (.iload_n 2, 1) := by decide +kernel
theorem dX4_settle_83 : decode cX4_settle 83 = .ok (.ifCond .eq 7, 3) := by decide +kernel
theorem dX4_settle_86 : decode cX4_settle 86 = .ok (.iconst 1, 1) := by decide +kernel
theorem dX4_settle_87 : decode cX4_settle 87 = .ok (.goto 4, 3) := by decide +kernel
theorem dX4_settle_90 : decode cX4_settle 90 = .ok (.iconst 0, 1) := by decide +kernel
theorem dX4_settle_91 : decode cX4_settle 91 = .ok (.ireturn, 1) := by decide +kernel
theorem dX4_undo_0 : decode cX4_undo 0 = .ok (.aload_n 0, 1) := by decide +kernel
theorem dX4_undo_1 : decode cX4_undo 1 = .ok (.iconst 0, 1) := by decide +kernel
theorem dX4_undo_2 : decode cX4_undo 2 = .ok (.putfield 48, 3) := by decide +kernel
theorem dX4_undo_5 : decode cX4_undo 5 = .ok (.aload_n 0, 1) := by decide +kernel
theorem dX4_undo_6 : decode cX4_undo 6 = .ok (.getfield 150, 3) := by decide +kernel
theorem dX4_undo_9 : decode cX4_undo 9 = .ok (.ifCond .ne 6, 3) := by decide +kernel
theorem dX4_undo_12 : decode cX4_undo 12 = .ok (.ldc 204, 2) := by decide +kernel
theorem dX4_undo_14 : decode cX4_undo 14 = .ok (.ireturn, 1) := by decide +kernel
theorem dX4_undo_15 : decode cX4_undo 15 = .ok (.aload_n 0, 1) := by decide +kernel
theorem dX4_undo_16 : decode cX4_undo 16 = .ok (.dup, 1) := by decide +kernel
theorem dX4_undo_17 : decode cX4_undo 17 = .ok (.getfield 150, 3) := by decide +kernel
theorem dX4_undo_20 : decode cX4_undo 20 = .ok (.iconst 1, 1) := by decide +kernel
theorem dX4_undo_21 : decode cX4_undo 21 = .ok (.isub, 1) := by decide +kernel
theorem dX4_undo_22 : decode cX4_undo 22 = .ok (.putfield 150, 3) := by decide +kernel
theorem dX4_undo_25 : decode cX4_undo 25 = .ok (.iconst 0, 1) := by decide +kernel
theorem dX4_undo_26 : decode cX4_undo 26 = .ok (.istore_n 1, 1) := by decide +kernel
theorem dX4_undo_27 : decode cX4_undo 27 = .ok (.iload_n 1, 1) := by decide +kernel
theorem dX4_undo_28 : decode cX4_undo 28 = .ok (.bipush 64, 2) := by decide +kernel
theorem dX4_undo_30 : decode cX4_undo 30 = .ok (.if_icmp .ge 29, 3) := by decide +kernel
theorem dX4_undo_33 : decode cX4_undo 33 = .ok (.aload_n 0, 1) := by decide +kernel
theorem dX4_undo_34 : decode cX4_undo 34 = .ok (.getfield 19, 3) := by decide +kernel
theorem dX4_undo_37 : decode cX4_undo 37 = .ok (.iload_n 1, 1) := by decide +kernel
theorem dX4_undo_38 : decode cX4_undo 38 = .ok (.aload_n 0, 1) := by decide +kernel
theorem dX4_undo_39 : decode cX4_undo 39 = .ok (.getfield 28, 3) := by decide +kernel
theorem dX4_undo_42 : decode cX4_undo 42 = .ok (.bipush 64, 2) := by decide +kernel
theorem dX4_undo_44 : decode cX4_undo 44 = .ok (.aload_n 0, 1) := by decide +kernel
theorem dX4_undo_45 : decode cX4_undo 45 = .ok (.getfield 150, 3) := by decide +kernel
theorem dX4_undo_48 : decode cX4_undo 48 = .ok (.imul, 1) := by decide +kernel
theorem dX4_undo_49 : decode cX4_undo 49 = .ok (.iload_n 1, 1) := by decide +kernel
theorem dX4_undo_50 : decode cX4_undo 50 = .ok (.iadd, 1) := by decide +kernel
theorem dX4_undo_51 : decode cX4_undo 51 = .ok (.iaload, 1) := by decide +kernel
theorem dX4_undo_52 : decode cX4_undo 52 = .ok (.iastore, 1) := by decide +kernel
theorem dX4_undo_53 : decode cX4_undo 53 = .ok (.iinc 1 1, 3) := by decide +kernel
theorem dX4_undo_56 : decode cX4_undo 56 = .ok (.goto (-29), 3) := by decide +kernel
theorem dX4_undo_59 : decode cX4_undo 59 = .ok (.aload_n 0, 1) := by decide +kernel
theorem dX4_undo_60 : decode cX4_undo 60 = .ok (.getfield 150, 3) := by decide +kernel
theorem dX4_undo_63 : decode cX4_undo 63 = .ok (.ireturn, 1) := by decide +kernel
set_option maxRecDepth 20000 in
theorem ggX4_visitor_X4_isVisitor : GoodIn wsX4_visitor wsX4_isVisitor := goodIn_r _ [9, 3, 10, 11, 8, 12, 16, 17, 18, 19, 20, 21, 22, 23, 24, 25, 26, 27, 28, 29, 30, 31, 32, 33, 34, 35, 36, 37, 38, 39] (by decide +kernel) (by decide +kernel)
set_option maxRecDepth 20000 in
theorem gX4_visitor_X4_isVisitor : GoodIn wsX4_visitor (wsV RX4 189 RX4 yX4_isVisitor wsX4_isVisitor) := goodIn_app (goodIn_of _ (by decide +kernel)) ggX4_visitor_X4_isVisitor
set_option maxRecDepth 20000 in
theorem ggX4_visitor_X4_in : GoodIn wsX4_visitor wsX4_in := goodIn_r _ [12] (by decide +kernel) (by decide +kernel)
set_option maxRecDepth 20000 in
theorem gX4_visitor_X4_in : GoodIn wsX4_visitor (va_wsS RX4 58 yX4_in wsX4_in) := goodIn_app (goodIn_of _ (by decide +kernel)) ggX4_visitor_X4_in
set_option maxRecDepth 20000 in
theorem ggX4_visitor_X4_guest : GoodIn wsX4_visitor wsX4_guest := goodIn_r _ [15] (by decide +kernel) (by decide +kernel)
set_option maxRecDepth 20000 in
theorem gX4_visitor_X4_guest : GoodIn wsX4_visitor (va_wsS RX4 161 yX4_guest wsX4_guest) := goodIn_app (goodIn_of _ (by decide +kernel)) ggX4_visitor_X4_guest
theorem dX4_visitor_0 : decode cX4_visitor 0 = .ok (.aload_n 0, 1) := by decide +kernel
theorem dX4_visitor_1 : decode cX4_visitor 1 = .ok (.iconst 0, 1) := by decide +kernel
theorem dX4_visitor_2 : decode cX4_visitor 2 = .ok (.putfield 48, 3) := by decide +kernel
theorem dX4_visitor_5 : decode cX4_visitor 5 = .ok (.aload_n 0, 1) := by decide +kernel
theorem dX4_visitor_6 : decode cX4_visitor 6 = .ok (.iload_n 1, 1) := by decide +kernel
theorem dX4_visitor_7 : decode cX4_visitor 7 = .ok (.invokevirtual 189, 3) := by decide +kernel
theorem dX4_visitor_10 : decode cX4_visitor 10 = .ok (.ifCond .eq 27, 3) := by decide +kernel
theorem dX4_visitor_13 : decode cX4_visitor 13 = .ok (.iload_n 2, 1) := by decide +kernel
theorem dX4_visitor_14 : decode cX4_visitor 14 = .ok (.i2l, 1) := by decide +kernel
theorem dX4_visitor_15 : decode cX4_visitor 15 = .ok (.lconst 0, 1) := by decide +kernel
theorem dX4_visitor_16 : decode cX4_visitor 16 = .ok (.ldc2_w 212, 3) := by decide +kernel
theorem dX4_visitor_19 : decode cX4_visitor 19 = .ok (.invokestatic 58, 3) := by decide +kernel
theorem dX4_visitor_22 : decode cX4_visitor 22 = .ok (.ifCond .eq 15, 3) := by decide +kernel
theorem dX4_visitor_25 : decode cX4_visitor 25 = .ok (.aload_n 0, 1) := by decide +kernel
theorem dX4_visitor_26 : decode cX4_visitor 26 = .ok (.getfield 19, 3) := by decide +kernel
theorem dX4_visitor_29 : decode cX4_visitor 29 = .ok (.iload_n 1, 1) := by decide +kernel
theorem dX4_visitor_30 : decode cX4_visitor 30 = .ok (.iload_n 2, 1) := by decide +kernel
theorem dX4_visitor_31 : decode cX4_visitor 31 = .ok (.invokestatic 161, 3) := by decide +kernel
theorem dX4_visitor_34 : decode cX4_visitor 34 = .ok (.goto 5, 3) := by decide +kernel
theorem dX4_visitor_37 : decode cX4_visitor 37 = .ok (.ldc 68, 2) := by decide +kernel
theorem dX4_visitor_39 : decode cX4_visitor 39 = .ok (.ireturn, 1) := by decide +kernel
set_option maxRecDepth 20000 in
theorem ggX4_harsh_X4_isThere : GoodIn wsX4_harsh wsX4_isThere := goodIn_r _ [9, 4, 51, 52, 53, 54, 55, 56, 57, 58, 59, 60, 61, 62, 63, 64, 65, 66, 67, 68, 69, 70, 71, 72, 73, 74] (by decide +kernel) (by decide +kernel)
set_option maxRecDepth 20000 in
theorem gX4_harsh_X4_isThere : GoodIn wsX4_harsh (wsV RX4 201 RX4 yX4_isThere wsX4_isThere) := goodIn_app (goodIn_of _ (by decide +kernel)) ggX4_harsh_X4_isThere
set_option maxRecDepth 20000 in
theorem ggX4_harsh_X4_areVisitors : GoodIn wsX4_harsh wsX4_areVisitors := goodIn_r _ [13, 4, 14, 15, 8, 16, 51, 52, 53, 54, 55, 56, 57, 58, 59, 60, 61, 62, 63, 64, 65, 66, 67, 68, 69, 70, 71, 72, 73, 74] (by decide +kernel) (by decide +kernel)
set_option maxRecDepth 20000 in
theorem gX4_harsh_X4_areVisitors : GoodIn wsX4_harsh (wsV RX4 223 RX4 yX4_areVisitors wsX4_areVisitors) := goodIn_app (goodIn_of _ (by decide +kernel)) ggX4_harsh_X4_areVisitors
set_option maxRecDepth 20000 in
theorem ggX4_harsh_X4_areSquares : GoodIn wsX4_harsh wsX4_areSquares := goodIn_r _ [20, 4, 14, 15, 8, 16, 51, 52, 53, 54, 55, 56, 57, 58, 59, 60, 61, 62, 63, 64, 65, 66, 67, 68, 69, 70, 71, 72, 73, 74] (by decide +kernel) (by decide +kernel)
set_option maxRecDepth 20000 in
theorem gX4_harsh_X4_areSquares : GoodIn wsX4_harsh (wsV RX4 192 RX4 yX4_areSquares wsX4_areSquares) := goodIn_app (goodIn_of _ (by decide +kernel)) ggX4_harsh_X4_areSquares
set_option maxRecDepth 20000 in
theorem ggX4_harsh_X4_has : GoodIn wsX4_harsh wsX4_has := goodIn_r _ [23] (by decide +kernel) (by decide +kernel)
set_option maxRecDepth 20000 in
theorem gX4_harsh_X4_has : GoodIn wsX4_harsh (va_wsS RX4 179 yX4_has wsX4_has) := goodIn_app (goodIn_of _ (by decide +kernel)) ggX4_harsh_X4_has
set_option maxRecDepth 20000 in
theorem ggX4_harsh_X4_wrongOf : GoodIn wsX4_harsh wsX4_wrongOf := goodIn_r _ [26, 21, 22, 8, 23, 27, 28, 29, 30, 31, 32, 33, 34, 35, 36, 37, 38, 39, 40, 41, 42, 43, 44, 45, 46, 47, 48, 49, 50] (by decide +kernel) (by decide +kernel)
set_option maxRecDepth 20000 in
theorem gX4_harsh_X4_wrongOf : GoodIn wsX4_harsh (va_wsS RX4 186 yX4_wrongOf wsX4_wrongOf) := goodIn_app (goodIn_of _ (by decide +kernel)) ggX4_harsh_X4_wrongOf
theorem dX4_harsh_0 : decode cX4_harsh 0 = .ok (.aload_n 0, 1) := by decide +kernel
theorem dX4_harsh_1 : decode cX4_harsh 1 = .ok (.iconst 0, 1) := by decide +kernel
theorem dX4_harsh_2 : decode cX4_harsh 2 = .ok (.putfield 48, 3) := by decide +kernel
theorem dX4_harsh_5 : decode cX4_harsh 5 = .ok (.aload_n 0, 1) := by decide +kernel
theorem dX4_harsh_6 : decode cX4_harsh 6 = .ok (.invokevirtual 201, 3) := by decide +kernel
theorem dX4_harsh_9 : decode cX4_harsh 9 = .ok (.ifCond .ne 6, 3) := by decide +kernel
theorem dX4_harsh_12 : decode cX4_harsh 12 = .ok (.ldc 204, 2) := by decide +kernel
theorem dX4_harsh_14 : decode cX4_harsh 14 = .ok (.ireturn, 1) := by decide +kernel
theorem dX4_harsh_15 : decode cX4_harsh 15 = .ok (.aload_n 0, 1) := by decide +kernel
theorem dX4_harsh_16 : decode cX4_harsh 16 = .ok (.iload_n 1, 1) := by decide +kernel
theorem dX4_harsh_17 : decode cX4_harsh 17 = .ok (.invokevirtual 223, 3) := by decide +kernel
theorem dX4_harsh_20 : decode cX4_harsh 20 = .ok (.ifCond .eq 11, 3) := by decide +kernel
theorem dX4_harsh_23 : decode cX4_harsh 23 = .ok (.aload_n 0, 1) := by decide +kernel
theorem dX4_harsh_24 : decode cX4_harsh 24 = .ok (.iload_n 2, 1) := by decide +kernel
theorem dX4_harsh_25 : decode cX4_harsh 25 = .ok (.invokevirtual 192, 3) := by decide +kernel
theorem dX4_harsh_28 : decode cX4_harsh 28 = .ok (.ifCond .ne 6, 3) := by decide +kernel
theorem dX4_harsh_31 : decode cX4_harsh 31 = .ok (.ldc 68, 2) := by decide +kernel
theorem dX4_harsh_33 : decode cX4_harsh 33 = .ok (.ireturn, 1) := by decide +kernel
theorem dX4_harsh_34 : decode cX4_harsh 34 = .ok (.iconst 0, 1) := by decide +kernel
theorem dX4_harsh_35 : decode cX4_harsh 35 = .ok (.istore_n 3, 1) := by decide +kernel
theorem dX4_harsh_36 : decode cX4_harsh 36 = .ok (.iconst 0, 1) := by decide +kernel
theorem dX4_harsh_37 : decode cX4_harsh 37 = .ok (.istore 4, 2) := by decide +kernel
theorem dX4_harsh_39 : decode cX4_harsh 39 = .ok (.iload 4, 2) := by decide +kernel
theorem dX4_harsh_41 : decode cX4_harsh 41 = .ok (.aload_n 0, 1) := by decide +kernel
theorem dX4_harsh_42 : decode cX4_harsh 42 = .ok (.getfield 19, 3) := by decide +kernel
theorem dX4_harsh_45 : decode cX4_harsh 45 = .ok (.iconst 3, 1) := by decide +kernel
theorem dX4_harsh_46 : decode cX4_harsh 46 = .ok (.iaload, 1) := by decide +kernel
theorem dX4_harsh_47 : decode cX4_harsh 47 = .ok (.if_icmp .ge 47, 3) := by decide +kernel
theorem dX4_harsh_50 : decode cX4_harsh 50 = .ok (.iload_n 1, 1) := by decide +kernel
theorem dX4_harsh_51 : decode cX4_harsh 51 = .ok (.iload 4, 2) := by decide +kernel
theorem dX4_harsh_53 : decode cX4_harsh 53 = .ok (.invokestatic 179, 3) := by decide +kernel
theorem dX4_harsh_56 : decode cX4_harsh 56 = .ok (.ifCond .eq 16, 3) := by decide +kernel
theorem dX4_harsh_59 : decode cX4_harsh 59 = .ok (.aload_n 0, 1) := by decide +kernel
theorem dX4_harsh_60 : decode cX4_harsh 60 = .ok (.getfield 19, 3) := by decide +kernel
theorem dX4_harsh_63 : decode cX4_harsh 63 = .ok (.iload 4, 2) := by decide +kernel
theorem dX4_harsh_65 : decode cX4_harsh 65 = .ok (.iload_n 2, 1) := by decide +kernel
theorem dX4_harsh_66 : decode cX4_harsh 66 = .ok (.invokestatic 186, 3) := by decide +kernel
theorem dX4_harsh_69 : decode cX4_harsh 69 = .ok (.goto 4, 3) := by decide +kernel
theorem dX4_harsh_72 : decode cX4_harsh 72 = .ok (.iconst 0, 1) := by decide +kernel
theorem dX4_harsh_73 : decode cX4_harsh 73 = .ok (.istore 5, 2) := by decide +kernel
theorem dX4_harsh_75 : decode cX4_harsh 75 = .ok (.iload 5, 2) := by decide +kernel
theorem dX4_harsh_77 : decode cX4_harsh 77 = .ok (.iload_n 3, 1) := by decide +kernel
theorem dX4_harsh_78 : decode cX4_harsh 78 = .ok (.if_icmp .le 8, 3) := by decide +kernel
theorem dX4_harsh_81 : decode cX4_harsh 81 = .ok (.iload 5, 2) := by decide +kernel
theorem dX4_harsh_83 : decode cX4_harsh 83 = .ok (.goto 4, 3) := by decide +kernel
theorem dX4_harsh_86 : decode cX4_harsh 86 = .ok (.iload_n 3, 1) := by decide +kernel
theorem dX4_harsh_87 : decode cX4_harsh 87 = .ok (.istore_n 3, 1) := by decide +kernel
theorem dX4_harsh_88 : decode cX4_harsh 88 = .ok (.iinc 4 1, 3) := by decide +kernel
theorem dX4_harsh_91 : decode cX4_harsh 91 = .ok (.goto (-52), 3) := by decide +kernel
theorem dX4_harsh_94 : decode cX4_harsh 94 = .ok (.iload_n 3, 1) := by decide +kernel
theorem dX4_harsh_95 : decode cX4_harsh 95 = .ok (.ireturn, 1) := by decide +kernel
set_option maxRecDepth 20000 in
theorem ggX4_keen_X4_isThere : GoodIn wsX4_keen wsX4_isThere := goodIn_r _ [10, 5, 38, 39, 40, 41, 42, 43, 44, 45, 46, 47, 48, 49, 50, 51, 52, 53, 54, 55, 56, 57, 58, 59, 60, 61] (by decide +kernel) (by decide +kernel)
set_option maxRecDepth 20000 in
theorem gX4_keen_X4_isThere : GoodIn wsX4_keen (wsV RX4 201 RX4 yX4_isThere wsX4_isThere) := goodIn_app (goodIn_of _ (by decide +kernel)) ggX4_keen_X4_isThere
set_option maxRecDepth 20000 in
theorem ggX4_keen_X4_in : GoodIn wsX4_keen wsX4_in := goodIn_r _ [13] (by decide +kernel) (by decide +kernel)
set_option maxRecDepth 20000 in
theorem gX4_keen_X4_in : GoodIn wsX4_keen (va_wsS RX4 58 yX4_in wsX4_in) := goodIn_app (goodIn_of _ (by decide +kernel)) ggX4_keen_X4_in
set_option maxRecDepth 20000 in
theorem ggX4_keen_X4_isWrong : GoodIn wsX4_keen wsX4_isWrong := goodIn_r _ [16, 17, 18, 9, 19, 20, 21, 22, 23, 24, 25, 26, 27, 28, 29, 30, 31, 32, 33, 34, 35, 36, 37] (by decide +kernel) (by decide +kernel)
set_option maxRecDepth 20000 in
theorem gX4_keen_X4_isWrong : GoodIn wsX4_keen (va_wsS RX4 183 yX4_isWrong wsX4_isWrong) := goodIn_app (goodIn_of _ (by decide +kernel)) ggX4_keen_X4_isWrong
set_option maxRecDepth 20000 in
theorem ggX4_keen_X4_counts : GoodIn wsX4_keen wsX4_counts := goodIn_r _ [19, 20, 21, 9, 22] (by decide +kernel) (by decide +kernel)
set_option maxRecDepth 20000 in
theorem gX4_keen_X4_counts : GoodIn wsX4_keen (va_wsS RX4 168 yX4_counts wsX4_counts) := goodIn_app (goodIn_of _ (by decide +kernel)) ggX4_keen_X4_counts
theorem dX4_keen_0 : decode cX4_keen 0 = .ok (.aload_n 0, 1) := by decide +kernel
theorem dX4_keen_1 : decode cX4_keen 1 = .ok (.iconst 0, 1) := by decide +kernel
theorem dX4_keen_2 : decode cX4_keen 2 = .ok (.putfield 48, 3) := by decide +kernel
theorem dX4_keen_5 : decode cX4_keen 5 = .ok (.aload_n 0, 1) := by decide +kernel
theorem dX4_keen_6 : decode cX4_keen 6 = .ok (.invokevirtual 201, 3) := by decide +kernel
theorem dX4_keen_9 : decode cX4_keen 9 = .ok (.ifCond .ne 6, 3) := by decide +kernel
theorem dX4_keen_12 : decode cX4_keen 12 = .ok (.ldc 204, 2) := by decide +kernel
theorem dX4_keen_14 : decode cX4_keen 14 = .ok (.ireturn, 1) := by decide +kernel
theorem dX4_keen_15 : decode cX4_keen 15 = .ok (.iload_n 1, 1) := by decide +kernel
theorem dX4_keen_16 : decode cX4_keen 16 = .ok (.i2l, 1) := by decide +kernel
theorem dX4_keen_17 : decode cX4_keen 17 = .ok (.lconst 0, 1) := by decide +kernel
theorem dX4_keen_18 : decode cX4_keen 18 = .ok (.lconst 1, 1) := by decide +kernel
theorem dX4_keen_19 : decode cX4_keen 19 = .ok (.invokestatic 58, 3) := by decide +kernel
theorem dX4_keen_22 : decode cX4_keen 22 = .ok (.ifCond .ne 6, 3) := by decide +kernel
theorem dX4_keen_25 : decode cX4_keen 25 = .ok (.ldc 68, 2) := by decide +kernel
theorem dX4_keen_27 : decode cX4_keen 27 = .ok (.ireturn, 1) := by decide +kernel
theorem dX4_keen_28 : decode cX4_keen 28 = .ok (.ldc 91, 2) := by decide +kernel
theorem dX4_keen_30 : decode cX4_keen 30 = .ok (.istore_n 2, 1) := by decide +kernel
theorem dX4_keen_31 : decode cX4_keen 31 = .ok (.ldc 91, 2) := by decide +kernel
theorem dX4_keen_33 : decode cX4_keen 33 = .ok (.istore_n 3, 1) := by decide +kernel
theorem dX4_keen_34 : decode cX4_keen 34 = .ok (.iconst 0, 1) := by decide +kernel
theorem dX4_keen_35 : decode cX4_keen 35 = .ok (.istore 4, 2) := by decide +kernel
theorem dX4_keen_37 : decode cX4_keen 37 = .ok (.iload 4, 2) := by decide +kernel
theorem dX4_keen_39 : decode cX4_keen 39 = .ok (.aload_n 0, 1) := by decide +kernel
theorem dX4_keen_40 : decode cX4_keen 40 = .ok (.getfield 19, 3) := by decide +kernel
theorem dX4_keen_43 : decode cX4_keen 43 = .ok (.iconst 2, 1) := by decide +kernel
theorem dX4_keen_44 : decode cX4_keen 44 = .ok (.iaload, 1) := by decide +kernel
theorem dX4_keen_45 : decode cX4_keen 45 = .ok (.if_icmp .ge 126, 3) := by decide +kernel
theorem dX4_keen_48 : decode cX4_keen 48 = .ok (.iconst 0, 1) := by decide +kernel
theorem dX4_keen_49 : decode cX4_keen 49 = .ok (.istore 5, 2) := by decide +kernel
theorem dX4_keen_51 : decode cX4_keen 51 = .ok (.iconst 0, 1) := by decide +kernel
theorem dX4_keen_52 : decode cX4_keen 52 = .ok (.istore 6, 2) := by decide +kernel
theorem dX4_keen_54 : decode cX4_keen 54 = .ok (.iload 6, 2) := by decide +kernel
theorem dX4_keen_56 : decode cX4_keen 56 = .ok (.aload_n 0, 1) := by decide +kernel
theorem dX4_keen_57 : decode cX4_keen 57 = .ok (.getfield 19, 3) := by decide +kernel
theorem dX4_keen_60 : decode cX4_keen 60 = .ok (.iconst 3, 1) := by decide +kernel
theorem dX4_keen_61 : decode cX4_keen 61 = .ok (.iaload, 1) := by decide +kernel
theorem dX4_keen_62 : decode cX4_keen 62 = .ok (.if_icmp .ge 33, 3) := by decide +kernel
theorem dX4_keen_65 : decode cX4_keen 65 = .ok (.iload 5, 2) := by decide +kernel
theorem dX4_keen_67 : decode cX4_keen 67 = .ok (.aload_n 0, 1) := by decide +kernel
theorem dX4_keen_68 : decode cX4_keen 68 = .ok (.getfield 19, 3) := by decide +kernel
theorem dX4_keen_71 : decode cX4_keen 71 = .ok (.iload 6, 2) := by decide +kernel
theorem dX4_keen_73 : decode cX4_keen 73 = .ok (.iload 4, 2) := by decide +kernel
theorem dX4_keen_75 : decode cX4_keen 75 = .ok (.invokestatic 183, 3) := by decide +kernel
theorem dX4_keen_78 : decode cX4_keen 78 = .ok (.ifCond .eq 7, 3) := by decide +kernel
theorem dX4_keen_81 : decode cX4_keen 81 = .ok (.iconst 1, 1) := by decide +kernel
theorem dX4_keen_82 : decode cX4_keen 82 = .ok (.goto 4, 3) := by decide +kernel
theorem dX4_keen_85 : decode cX4_keen 85 = .ok (.iconst (-1), 1) := by decide +kernel
theorem dX4_keen_86 : decode cX4_keen 86 = .ok (.iadd, 1) := by decide +kernel
theorem dX4_keen_87 : decode cX4_keen 87 = .ok (.istore 5, 2) := by decide +kernel
theorem dX4_keen_89 : decode cX4_keen 89 = .ok (.iinc 6 1, 3) := by decide +kernel
theorem dX4_keen_92 : decode cX4_keen 92 = .ok (.goto (-38), 3) := by decide +kernel
theorem dX4_keen_95 : decode cX4_keen 95 = .ok (.iload 5, 2) := by decide +kernel
theorem dX4_keen_97 : decode cX4_keen 97 = .ok (.ifCond .ge 9, 3) := by decide +kernel
theorem dX4_keen_100 : decode cX4_keen 100 = .ok (.iload 5, 2) := by decide +kernel
theorem dX4_keen_102 : decode cX4_keen 102 = .ok (.ineg, 1) := by decide +kernel
theorem dX4_keen_103 : decode cX4_keen 103 = .ok (.goto 5, 3) := by decide +kernel
theorem dX4_keen_106 : decode cX4_keen 106 = .ok (.iload 5, 2) := by decide +kernel
theorem dX4_keen_108 : decode cX4_keen 108 = .ok (.istore 5, 2) := by decide +kernel
theorem dX4_keen_110 : decode cX4_keen 110 = .ok (.aload_n 0, 1) := by decide +kernel
theorem dX4_keen_111 : decode cX4_keen 111 = .ok (.getfield 19, 3) := by decide +kernel
theorem dX4_keen_114 : decode cX4_keen 114 = .ok (.iload 4, 2) := by decide +kernel
theorem dX4_keen_116 : decode cX4_keen 116 = .ok (.invokestatic 168, 3) := by decide +kernel
theorem dX4_keen_119 : decode cX4_keen 119 = .ok (.ifCond .eq 19, 3) := by decide +kernel
theorem dX4_keen_122 : decode cX4_keen 122 = .ok (.iload_n 2, 1) := by decide +kernel
theorem dX4_keen_123 : decode cX4_keen 123 = .ok (.ldc 91, 2) := by decide +kernel
theorem dX4_keen_125 : decode cX4_keen 125 = .ok (.if_icmp .eq 9, 3) := by decide +kernel
theorem dX4_keen_128 : decode cX4_keen 128 = .ok (.iload 5, 2) := by decide +kernel
theorem dX4_keen_130 : decode cX4_keen 130 = .ok (.iload_n 3, 1) := by decide +kernel
theorem dX4_keen_131 : decode cX4_keen 131 = .ok (.if_icmp .ge 7, 3) := by decide +kernel
theorem dX4_keen_134 : decode cX4_keen 134 = .ok (.iconst 1, 1) := by decide +kernel
theorem dX4_keen_135 : decode cX4_keen 135 = .ok (.goto 4, 3) := by decide +kernel
theorem dX4_keen_138 : decode cX4_keen 138 = .ok (.iconst 0, 1) := by decide +kernel
theorem dX4_keen_139 : decode cX4_keen 139 = .ok (.istore 6, 2) := by decide +kernel
theorem dX4_keen_141 : decode cX4_keen 141 = .ok (.iload 6, 2) := by decide +kernel
theorem dX4_keen_143 : decode cX4_keen 143 = .ok (.ifCond .eq 8, 3) := by decide +kernel
theorem dX4_keen_146 : decode cX4_keen 146 = .ok (.iload 4, 2) := by decide +kernel
theorem dX4_keen_148 : decode cX4_keen 148 = .ok (.goto 4, 3) := by decide +kernel
theorem dX4_keen_151 : decode cX4_keen 151 = .ok (.iload_n 2, 1) := by decide +kernel
theorem dX4_keen_152 : decode cX4_keen 152 = .ok (.istore_n 2, 1) := by decide +kernel
theorem dX4_keen_153 : decode cX4_keen 153 = .ok (.iload 6, 2) := by decide +kernel
theorem dX4_keen_155 : decode cX4_keen 155 = .ok (.ifCond .eq 8, 3) := by decide +kernel
theorem dX4_keen_158 : decode cX4_keen 158 = .ok (.iload 5, 2) := by decide +kernel
theorem dX4_keen_160 : decode cX4_keen 160 = .ok (.goto 4, 3) := by decide +kernel
theorem dX4_keen_163 : decode cX4_keen 163 = .ok (.iload_n 3, 1) := by decide +kernel
theorem dX4_keen_164 : decode cX4_keen 164 = .ok (.istore_n 3, 1) := by decide +kernel
theorem dX4_keen_165 : decode cX4_keen 165 = .ok (.iinc 4 1, 3) := by decide +kernel
theorem dX4_keen_168 : decode cX4_keen 168 = .ok (.goto (-131), 3) := by decide +kernel
theorem dX4_keen_171 : decode cX4_keen 171 = .ok (.iload_n 1, 1) := by decide +kernel
theorem dX4_keen_172 : decode cX4_keen 172 = .ok (.ifCond .ne 7, 3) := by decide +kernel
theorem dX4_keen_175 : decode cX4_keen 175 = .ok (.iload_n 2, 1) := by decide +kernel
theorem dX4_keen_176 : decode cX4_keen 176 = .ok (.goto 4, 3) := by decide +kernel
theorem dX4_keen_179 : decode cX4_keen 179 = .ok (.iload_n 3, 1) := by decide +kernel
theorem dX4_keen_180 : decode cX4_keen 180 = .ok (.ireturn, 1) := by decide +kernel
set_option maxRecDepth 20000 in
theorem ggX4_as_X4_isSquare : GoodIn wsX4_as wsX4_isSquare := goodIn_r _ [10, 5, 11, 12, 9, 13, 25, 26, 27, 28, 29, 30, 31, 32, 33, 34, 35, 36, 37, 38, 39, 40, 41, 42, 43, 44, 45, 46, 47, 48] (by decide +kernel) (by decide +kernel)
set_option maxRecDepth 20000 in
theorem gX4_as_X4_isSquare : GoodIn wsX4_as (wsV RX4 207 RX4 yX4_isSquare wsX4_isSquare) := goodIn_app (goodIn_of _ (by decide +kernel)) ggX4_as_X4_isSquare
set_option maxRecDepth 20000 in
theorem ggX4_as_X4_in : GoodIn wsX4_as wsX4_in := goodIn_r _ [13] (by decide +kernel) (by decide +kernel)
set_option maxRecDepth 20000 in
theorem gX4_as_X4_in : GoodIn wsX4_as (va_wsS RX4 58 yX4_in wsX4_in) := goodIn_app (goodIn_of _ (by decide +kernel)) ggX4_as_X4_in
set_option maxRecDepth 20000 in
theorem ggX4_as_X4_of : GoodIn wsX4_as wsX4_of := goodIn_r _ [16] (by decide +kernel) (by decide +kernel)
set_option maxRecDepth 20000 in
theorem gX4_as_X4_of : GoodIn wsX4_as (va_wsS RX4 157 yX4_of wsX4_of) := goodIn_app (goodIn_of _ (by decide +kernel)) ggX4_as_X4_of
set_option maxRecDepth 20000 in
theorem ggX4_as_X4_isOf : GoodIn wsX4_as wsX4_isOf := goodIn_r _ [19] (by decide +kernel) (by decide +kernel)
set_option maxRecDepth 20000 in
theorem gX4_as_X4_isOf : GoodIn wsX4_as (va_wsS RX4 260 yX4_isOf wsX4_isOf) := goodIn_app (goodIn_of _ (by decide +kernel)) ggX4_as_X4_isOf
set_option maxRecDepth 20000 in
theorem ggX4_as_X4_finding : GoodIn wsX4_as wsX4_finding := goodIn_r _ [23, 4, 24, 25, 26, 27, 28, 29, 30, 31, 32, 33, 34, 35, 36, 37, 38, 39, 40, 41, 42, 43, 44, 45, 46, 47, 48] (by decide +kernel) (by decide +kernel)
set_option maxRecDepth 20000 in
theorem gX4_as_X4_finding : GoodIn wsX4_as (wsV RX4 69 RX4 yX4_finding wsX4_finding) := goodIn_app (goodIn_of _ (by decide +kernel)) ggX4_as_X4_finding
theorem dX4_as_0 : decode cX4_as 0 = .ok (.aload_n 0, 1) := by decide +kernel
theorem dX4_as_1 : decode cX4_as 1 = .ok (.iconst 0, 1) := by decide +kernel
theorem dX4_as_2 : decode cX4_as 2 = .ok (.putfield 48, 3) := by decide +kernel
theorem dX4_as_5 : decode cX4_as 5 = .ok (.aload_n 0, 1) := by decide +kernel
theorem dX4_as_6 : decode cX4_as 6 = .ok (.iload_n 1, 1) := by decide +kernel
theorem dX4_as_7 : decode cX4_as 7 = .ok (.invokevirtual 207, 3) := by decide +kernel
theorem dX4_as_10 : decode cX4_as 10 = .ok (.ifCond .eq 15, 3) := by decide +kernel
theorem dX4_as_13 : decode cX4_as 13 = .ok (.iload_n 2, 1) := by decide +kernel
theorem dX4_as_14 : decode cX4_as 14 = .ok (.i2l, 1) := by decide +kernel
theorem dX4_as_15 : decode cX4_as 15 = .ok (.lconst 0, 1) := by decide +kernel
theorem dX4_as_16 : decode cX4_as 16 = .ok (.ldc2_w 258, 3) := by decide +kernel
theorem dX4_as_19 : decode cX4_as 19 = .ok (.invokestatic 58, 3) := by decide +kernel
theorem dX4_as_22 : decode cX4_as 22 = .ok (.ifCond .ne 6, 3) := by decide +kernel
theorem dX4_as_25 : decode cX4_as 25 = .ok (.ldc 68, 2) := by decide +kernel
theorem dX4_as_27 : decode cX4_as 27 = .ok (.ireturn, 1) := by decide +kernel
theorem dX4_as_28 : decode cX4_as 28 = .ok (.aload_n 0, 1) := by decide +kernel
theorem dX4_as_29 : decode cX4_as 29 = .ok (.iconst 0, 1) := by decide +kernel
theorem dX4_as_30 : decode cX4_as 30 = .ok (.putfield 52, 3) := by decide +kernel
theorem dX4_as_33 : decode cX4_as 33 = .ok (.aload_n 0, 1) := by decide +kernel
theorem dX4_as_34 : decode cX4_as 34 = .ok (.getfield 19, 3) := by decide +kernel
theorem dX4_as_37 : decode cX4_as 37 = .ok (.iload_n 1, 1) := by decide +kernel
theorem dX4_as_38 : decode cX4_as 38 = .ok (.iconst 0, 1) := by decide +kernel
theorem dX4_as_39 : decode cX4_as 39 = .ok (.invokestatic 157, 3) := by decide +kernel
theorem dX4_as_42 : decode cX4_as 42 = .ok (.iload_n 2, 1) := by decide +kernel
theorem dX4_as_43 : decode cX4_as 43 = .ok (.invokestatic 260, 3) := by decide +kernel
theorem dX4_as_46 : decode cX4_as 46 = .ok (.ifCond .eq 7, 3) := by decide +kernel
theorem dX4_as_49 : decode cX4_as 49 = .ok (.iload_n 1, 1) := by decide +kernel
theorem dX4_as_50 : decode cX4_as 50 = .ok (.goto 8, 3) := by decide +kernel
theorem dX4_as_53 : decode cX4_as 53 = .ok (.aload_n 0, 1) := by decide +kernel
theorem dX4_as_54 : decode cX4_as 54 = .ok (.iconst 3, 1) := by decide +kernel
theorem dX4_as_55 : decode cX4_as 55 = .ok (.invokevirtual 69, 3) := by decide +kernel
theorem dX4_as_58 : decode cX4_as 58 = .ok (.ireturn, 1) := by decide +kernel
