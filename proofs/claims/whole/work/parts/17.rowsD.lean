set_option maxRecDepth 20000 in
theorem ggX1_clear_J7_fill_53178 : GoodIn wsX1_clear wsJ7_fill_53178 := goodIn_r _ [14] (by decide +kernel) (by decide +kernel)
set_option maxRecDepth 20000 in
theorem gX1_clear_J7_fill_53178 : GoodIn wsX1_clear (va_wsS RX1 55 yJ7_fill_53178 wsJ7_fill_53178) := goodIn_app (goodIn_of _ (by decide +kernel)) ggX1_clear_J7_fill_53178
theorem dX1_clear_0 : decode cX1_clear 0 = .ok (.aload_n 0, 1) := by decide +kernel
theorem dX1_clear_1 : decode cX1_clear 1 = .ok (.iconst 0, 1) := by decide +kernel
theorem dX1_clear_2 : decode cX1_clear 2 = .ok (.putfield 9, 3) := by decide +kernel
theorem dX1_clear_5 : decode cX1_clear 5 = .ok (.aload_n 0, 1) := by decide +kernel
theorem dX1_clear_6 : decode cX1_clear 6 = .ok (.iconst 0, 1) := by decide +kernel
theorem dX1_clear_7 : decode cX1_clear 7 = .ok (.putfield 15, 3) := by decide +kernel
theorem dX1_clear_10 : decode cX1_clear 10 = .ok (.aload_n 0, 1) := by decide +kernel
theorem dX1_clear_11 : decode cX1_clear 11 = .ok (.iconst 0, 1) := by decide +kernel
theorem dX1_clear_12 : decode cX1_clear 12 = .ok (.putfield 18, 3) := by decide +kernel
theorem dX1_clear_15 : decode cX1_clear 15 = .ok (.aload_n 0, 1) := by decide +kernel
theorem dX1_clear_16 : decode cX1_clear 16 = .ok (.iconst 0, 1) := by decide +kernel
theorem dX1_clear_17 : decode cX1_clear 17 = .ok (.putfield 21, 3) := by decide +kernel
theorem dX1_clear_20 : decode cX1_clear 20 = .ok (.aload_n 0, 1) := by decide +kernel
theorem dX1_clear_21 : decode cX1_clear 21 = .ok (.getfield 31, 3) := by decide +kernel
theorem dX1_clear_24 : decode cX1_clear 24 = .ok (.iconst 0, 1) := by decide +kernel
theorem dX1_clear_25 : decode cX1_clear 25 = .ok (.invokestatic 55, 3) := by decide +kernel
theorem dX1_clear_28 : decode cX1_clear 28 = .ok (.aload_n 0, 1) := by decide +kernel
theorem dX1_clear_29 : decode cX1_clear 29 = .ok (.getfield 34, 3) := by decide +kernel
theorem dX1_clear_32 : decode cX1_clear 32 = .ok (.iconst 0, 1) := by decide +kernel
theorem dX1_clear_33 : decode cX1_clear 33 = .ok (.invokestatic 55, 3) := by decide +kernel
theorem dX1_clear_36 : decode cX1_clear 36 = .ok (.aload_n 0, 1) := by decide +kernel
theorem dX1_clear_37 : decode cX1_clear 37 = .ok (.getfield 37, 3) := by decide +kernel
theorem dX1_clear_40 : decode cX1_clear 40 = .ok (.ldc 61, 2) := by decide +kernel
theorem dX1_clear_42 : decode cX1_clear 42 = .ok (.invokestatic 55, 3) := by decide +kernel
theorem dX1_clear_45 : decode cX1_clear 45 = .ok (.aload_n 0, 1) := by decide +kernel
theorem dX1_clear_46 : decode cX1_clear 46 = .ok (.getfield 46, 3) := by decide +kernel
theorem dX1_clear_49 : decode cX1_clear 49 = .ok (.iconst 0, 1) := by decide +kernel
theorem dX1_clear_50 : decode cX1_clear 50 = .ok (.invokestatic 55, 3) := by decide +kernel
theorem dX1_clear_53 : decode cX1_clear 53 = .ok (.aload_n 0, 1) := by decide +kernel
theorem dX1_clear_54 : decode cX1_clear 54 = .ok (.getfield 49, 3) := by decide +kernel
theorem dX1_clear_57 : decode cX1_clear 57 = .ok (.iconst 0, 1) := by decide +kernel
theorem dX1_clear_58 : decode cX1_clear 58 = .ok (.invokestatic 55, 3) := by decide +kernel
theorem dX1_clear_61 : decode cX1_clear 61 = .ok (.return_, 1) := by decide +kernel
theorem dX1_takeFrom_0 : decode cX1_takeFrom 0 = .ok (.aload_n 0, 1) := by decide +kernel
theorem dX1_takeFrom_1 : decode cX1_takeFrom 1 = .ok (.aload_n 1, 1) := by decide +kernel
theorem dX1_takeFrom_2 : decode cX1_takeFrom 2 = .ok (.getfield 9, 3) := by decide +kernel
theorem dX1_takeFrom_5 : decode cX1_takeFrom 5 = .ok (.putfield 9, 3) := by decide +kernel
theorem dX1_takeFrom_8 : decode cX1_takeFrom 8 = .ok (.aload_n 0, 1) := by decide +kernel
theorem dX1_takeFrom_9 : decode cX1_takeFrom 9 = .ok (.aload_n 1, 1) := by decide +kernel
theorem dX1_takeFrom_10 : decode cX1_takeFrom 10 = .ok (.getfield 15, 3) := by decide +kernel
theorem dX1_takeFrom_13 : decode cX1_takeFrom 13 = .ok (.putfield 15, 3) := by decide +kernel
theorem dX1_takeFrom_16 : decode cX1_takeFrom 16 = .ok (.aload_n 0, 1) := by decide +kernel
theorem dX1_takeFrom_17 : decode cX1_takeFrom 17 = .ok (.aload_n 1, 1) := by decide +kernel
theorem dX1_takeFrom_18 : decode cX1_takeFrom 18 = .ok (.getfield 18, 3) := by decide +kernel
theorem dX1_takeFrom_21 : decode cX1_takeFrom 21 = .ok (.putfield 18, 3) := by decide +kernel
theorem dX1_takeFrom_24 : decode cX1_takeFrom 24 = .ok (.aload_n 0, 1) := by decide +kernel
theorem dX1_takeFrom_25 : decode cX1_takeFrom 25 = .ok (.aload_n 1, 1) := by decide +kernel
theorem dX1_takeFrom_26 : decode cX1_takeFrom 26 = .ok (.getfield 21, 3) := by decide +kernel
theorem dX1_takeFrom_29 : decode cX1_takeFrom 29 = .ok (.putfield 21, 3) := by decide +kernel
theorem dX1_takeFrom_32 : decode cX1_takeFrom 32 = .ok (.aload_n 1, 1) := by decide +kernel
theorem dX1_takeFrom_33 : decode cX1_takeFrom 33 = .ok (.getfield 24, 3) := by decide +kernel
theorem dX1_takeFrom_36 : decode cX1_takeFrom 36 = .ok (.iconst 0, 1) := by decide +kernel
theorem dX1_takeFrom_37 : decode cX1_takeFrom 37 = .ok (.aload_n 0, 1) := by decide +kernel
theorem dX1_takeFrom_38 : decode cX1_takeFrom 38 = .ok (.getfield 24, 3) := by decide +kernel
theorem dX1_takeFrom_41 : decode cX1_takeFrom 41 = .ok (.iconst 0, 1) := by decide +kernel
theorem dX1_takeFrom_42 : decode cX1_takeFrom 42 = .ok (.bipush 8, 2) := by decide +kernel
theorem dX1_takeFrom_44 : decode cX1_takeFrom 44 = .ok (.invokestatic 62, 3) := by decide +kernel
theorem dX1_takeFrom_47 : decode cX1_takeFrom 47 = .ok (.aload_n 1, 1) := by decide +kernel
theorem dX1_takeFrom_48 : decode cX1_takeFrom 48 = .ok (.getfield 28, 3) := by decide +kernel
theorem dX1_takeFrom_51 : decode cX1_takeFrom 51 = .ok (.iconst 0, 1) := by decide +kernel
theorem dX1_takeFrom_52 : decode cX1_takeFrom 52 = .ok (.aload_n 0, 1) := by decide +kernel
theorem dX1_takeFrom_53 : decode cX1_takeFrom 53 = .ok (.getfield 28, 3) := by decide +kernel
theorem dX1_takeFrom_56 : decode cX1_takeFrom 56 = .ok (.iconst 0, 1) := by decide +kernel
theorem dX1_takeFrom_57 : decode cX1_takeFrom 57 = .ok (.bipush 8, 2) := by decide +kernel
theorem dX1_takeFrom_59 : decode cX1_takeFrom 59 = .ok (.invokestatic 62, 3) := by decide +kernel
theorem dX1_takeFrom_62 : decode cX1_takeFrom 62 = .ok (.aload_n 1, 1) := by decide +kernel
theorem dX1_takeFrom_63 : decode cX1_takeFrom 63 = .ok (.getfield 31, 3) := by decide +kernel
theorem dX1_takeFrom_66 : decode cX1_takeFrom 66 = .ok (.iconst 0, 1) := by decide +kernel
theorem dX1_takeFrom_67 : decode cX1_takeFrom 67 = .ok (.aload_n 0, 1) := by decide +kernel
theorem dX1_takeFrom_68 : decode cX1_takeFrom 68 = .ok (.getfield 31, 3) := by decide +kernel
theorem dX1_takeFrom_71 : decode cX1_takeFrom 71 = .ok (.iconst 0, 1) := by decide +kernel
theorem dX1_takeFrom_72 : decode cX1_takeFrom 72 = .ok (.bipush 8, 2) := by decide +kernel
theorem dX1_takeFrom_74 : decode cX1_takeFrom 74 = .ok (.invokestatic 62, 3) := by decide +kernel
theorem dX1_takeFrom_77 : decode cX1_takeFrom 77 = .ok (.aload_n 1, 1) := by decide +kernel
theorem dX1_takeFrom_78 : decode cX1_takeFrom 78 = .ok (.getfield 34, 3) := by decide +kernel
theorem dX1_takeFrom_81 : decode cX1_takeFrom 81 = .ok (.iconst 0, 1) := by decide +kernel
theorem dX1_takeFrom_82 : decode cX1_takeFrom 82 = .ok (.aload_n 0, 1) := by decide +kernel
theorem dX1_takeFrom_83 : decode cX1_takeFrom 83 = .ok (.getfield 34, 3) := by decide +kernel
theorem dX1_takeFrom_86 : decode cX1_takeFrom 86 = .ok (.iconst 0, 1) := by decide +kernel
theorem dX1_takeFrom_87 : decode cX1_takeFrom 87 = .ok (.bipush 8, 2) := by decide +kernel
theorem dX1_takeFrom_89 : decode cX1_takeFrom 89 = .ok (.invokestatic 62, 3) := by decide +kernel
theorem dX1_takeFrom_92 : decode cX1_takeFrom 92 = .ok (.aload_n 1, 1) := by decide +kernel
theorem dX1_takeFrom_93 : decode cX1_takeFrom 93 = .ok (.getfield 37, 3) := by decide +kernel
theorem dX1_takeFrom_96 : decode cX1_takeFrom 96 = .ok (.iconst 0, 1) := by decide +kernel
theorem dX1_takeFrom_97 : decode cX1_takeFrom 97 = .ok (.aload_n 0, 1) := by decide +kernel
theorem dX1_takeFrom_98 : decode cX1_takeFrom 98 = .ok (.getfield 37, 3) := by decide +kernel
theorem dX1_takeFrom_101 : decode cX1_takeFrom 101 = .ok (.iconst 0, 1) := by decide +kernel
theorem dX1_takeFrom_102 : decode cX1_takeFrom 102 = .ok (.bipush 8, 2) := by decide +kernel
theorem dX1_takeFrom_104 : decode cX1_takeFrom 104 = .ok (.invokestatic 62, 3) := by decide +kernel
theorem dX1_takeFrom_107 : decode cX1_takeFrom 107 = .ok (.aload_n 1, 1) := by decide +kernel
theorem dX1_takeFrom_108 : decode cX1_takeFrom 108 = .ok (.getfield 40, 3) := by decide +kernel
theorem dX1_takeFrom_111 : decode cX1_takeFrom 111 = .ok (.iconst 0, 1) := by decide +kernel
theorem dX1_takeFrom_112 : decode cX1_takeFrom 112 = .ok (.aload_n 0, 1) := by decide +kernel
theorem dX1_takeFrom_113 : decode cX1_takeFrom 113 = .ok (.getfield 40, 3) := by decide +kernel
theorem dX1_takeFrom_116 : decode cX1_takeFrom 116 = .ok (.iconst 0, 1) := by decide +kernel
theorem dX1_takeFrom_117 : decode cX1_takeFrom 117 = .ok (.iconst 5, 1) := by decide +kernel
theorem dX1_takeFrom_118 : decode cX1_takeFrom 118 = .ok (.invokestatic 62, 3) := by decide +kernel
theorem dX1_takeFrom_121 : decode cX1_takeFrom 121 = .ok (.aload_n 1, 1) := by decide +kernel
theorem dX1_takeFrom_122 : decode cX1_takeFrom 122 = .ok (.getfield 43, 3) := by decide +kernel
theorem dX1_takeFrom_125 : decode cX1_takeFrom 125 = .ok (.iconst 0, 1) := by decide +kernel
theorem dX1_takeFrom_126 : decode cX1_takeFrom 126 = .ok (.aload_n 0, 1) := by decide +kernel
theorem dX1_takeFrom_127 : decode cX1_takeFrom 127 = .ok (.getfield 43, 3) := by decide +kernel
theorem dX1_takeFrom_130 : decode cX1_takeFrom 130 = .ok (.iconst 0, 1) := by decide +kernel
theorem dX1_takeFrom_131 : decode cX1_takeFrom 131 = .ok (.iconst 5, 1) := by decide +kernel
theorem dX1_takeFrom_132 : decode cX1_takeFrom 132 = .ok (.invokestatic 62, 3) := by decide +kernel
theorem dX1_takeFrom_135 : decode cX1_takeFrom 135 = .ok (.aload_n 1, 1) := by decide +kernel
theorem dX1_takeFrom_136 : decode cX1_takeFrom 136 = .ok (.getfield 46, 3) := by decide +kernel
theorem dX1_takeFrom_139 : decode cX1_takeFrom 139 = .ok (.iconst 0, 1) := by decide +kernel
theorem dX1_takeFrom_140 : decode cX1_takeFrom 140 = .ok (.aload_n 0, 1) := by decide +kernel
theorem dX1_takeFrom_141 : decode cX1_takeFrom 141 = .ok (.getfield 46, 3) := by decide +kernel
theorem dX1_takeFrom_144 : decode cX1_takeFrom 144 = .ok (.iconst 0, 1) := by decide +kernel
theorem dX1_takeFrom_145 : decode cX1_takeFrom 145 = .ok (.iconst 5, 1) := by decide +kernel
theorem dX1_takeFrom_146 : decode cX1_takeFrom 146 = .ok (.invokestatic 62, 3) := by decide +kernel
theorem dX1_takeFrom_149 : decode cX1_takeFrom 149 = .ok (.aload_n 1, 1) := by decide +kernel
theorem dX1_takeFrom_150 : decode cX1_takeFrom 150 = .ok (.getfield 49, 3) := by decide +kernel
theorem dX1_takeFrom_153 : decode cX1_takeFrom 153 = .ok (.iconst 0, 1) := by decide +kernel
theorem dX1_takeFrom_154 : decode cX1_takeFrom 154 = .ok (.aload_n 0, 1) := by decide +kernel
theorem dX1_takeFrom_155 : decode cX1_takeFrom 155 = .ok (.getfield 49, 3) := by decide +kernel
theorem dX1_takeFrom_158 : decode cX1_takeFrom 158 = .ok (.iconst 0, 1) := by decide +kernel
theorem dX1_takeFrom_159 : decode cX1_takeFrom 159 = .ok (.iconst 5, 1) := by decide +kernel
theorem dX1_takeFrom_160 : decode cX1_takeFrom 160 = .ok (.invokestatic 62, 3) := by decide +kernel
theorem dX1_takeFrom_163 : decode cX1_takeFrom 163 = .ok (.return_, 1) := by decide +kernel
theorem dX1_addSquare_0 : decode cX1_addSquare 0 = .ok (.aload_n 0, 1) := by decide +kernel
theorem dX1_addSquare_1 : decode cX1_addSquare 1 = .ok (.getfield 18, 3) := by decide +kernel
theorem dX1_addSquare_4 : decode cX1_addSquare 4 = .ok (.bipush 8, 2) := by decide +kernel
theorem dX1_addSquare_6 : decode cX1_addSquare 6 = .ok (.if_icmp .ge 33, 3) := by decide +kernel
theorem dX1_addSquare_9 : decode cX1_addSquare 9 = .ok (.aload_n 0, 1) := by decide +kernel
theorem dX1_addSquare_10 : decode cX1_addSquare 10 = .ok (.getfield 24, 3) := by decide +kernel
theorem dX1_addSquare_13 : decode cX1_addSquare 13 = .ok (.aload_n 0, 1) := by decide +kernel
theorem dX1_addSquare_14 : decode cX1_addSquare 14 = .ok (.getfield 18, 3) := by decide +kernel
theorem dX1_addSquare_17 : decode cX1_addSquare 17 = .ok (.iload_n 1, 1) := by decide +kernel
theorem dX1_addSquare_18 : decode cX1_addSquare 18 = .ok (.iastore, 1) := by decide +kernel
theorem dX1_addSquare_19 : decode cX1_addSquare 19 = .ok (.aload_n 0, 1) := by decide +kernel
theorem dX1_addSquare_20 : decode cX1_addSquare 20 = .ok (.getfield 28, 3) := by decide +kernel
theorem dX1_addSquare_23 : decode cX1_addSquare 23 = .ok (.aload_n 0, 1) := by decide +kernel
theorem dX1_addSquare_24 : decode cX1_addSquare 24 = .ok (.getfield 18, 3) := by decide +kernel
theorem dX1_addSquare_27 : decode cX1_addSquare 27 = .ok (.iload_n 2, 1) := by decide +kernel
theorem dX1_addSquare_28 : decode cX1_addSquare 28 = .ok (.iastore, 1) := by decide +kernel
theorem dX1_addSquare_29 : decode cX1_addSquare 29 = .ok (.aload_n 0, 1) := by decide +kernel
theorem dX1_addSquare_30 : decode cX1_addSquare 30 = .ok (.dup, 1) := by decide +kernel
theorem dX1_addSquare_31 : decode cX1_addSquare 31 = .ok (.getfield 18, 3) := by decide +kernel
theorem dX1_addSquare_34 : decode cX1_addSquare 34 = .ok (.iconst 1, 1) := by decide +kernel
theorem dX1_addSquare_35 : decode cX1_addSquare 35 = .ok (.iadd, 1) := by decide +kernel
theorem dX1_addSquare_36 : decode cX1_addSquare 36 = .ok (.putfield 18, 3) := by decide +kernel
theorem dX1_addSquare_39 : decode cX1_addSquare 39 = .ok (.return_, 1) := by decide +kernel
theorem dX1_addVisitor_0 : decode cX1_addVisitor 0 = .ok (.aload_n 0, 1) := by decide +kernel
theorem dX1_addVisitor_1 : decode cX1_addVisitor 1 = .ok (.getfield 21, 3) := by decide +kernel
theorem dX1_addVisitor_4 : decode cX1_addVisitor 4 = .ok (.iconst 5, 1) := by decide +kernel
theorem dX1_addVisitor_5 : decode cX1_addVisitor 5 = .ok (.if_icmp .ge 33, 3) := by decide +kernel
theorem dX1_addVisitor_8 : decode cX1_addVisitor 8 = .ok (.aload_n 0, 1) := by decide +kernel
theorem dX1_addVisitor_9 : decode cX1_addVisitor 9 = .ok (.getfield 40, 3) := by decide +kernel
theorem dX1_addVisitor_12 : decode cX1_addVisitor 12 = .ok (.aload_n 0, 1) := by decide +kernel
theorem dX1_addVisitor_13 : decode cX1_addVisitor 13 = .ok (.getfield 21, 3) := by decide +kernel
theorem dX1_addVisitor_16 : decode cX1_addVisitor 16 = .ok (.iload_n 1, 1) := by decide +kernel
theorem dX1_addVisitor_17 : decode cX1_addVisitor 17 = .ok (.iastore, 1) := by decide +kernel
theorem dX1_addVisitor_18 : decode cX1_addVisitor 18 = .ok (.aload_n 0, 1) := by decide +kernel
theorem dX1_addVisitor_19 : decode cX1_addVisitor 19 = .ok (.getfield 43, 3) := by decide +kernel
theorem dX1_addVisitor_22 : decode cX1_addVisitor 22 = .ok (.aload_n 0, 1) := by decide +kernel
theorem dX1_addVisitor_23 : decode cX1_addVisitor 23 = .ok (.getfield 21, 3) := by decide +kernel
theorem dX1_addVisitor_26 : decode cX1_addVisitor 26 = .ok (.iload_n 2, 1) := by decide +kernel
theorem dX1_addVisitor_27 : decode cX1_addVisitor 27 = .ok (.iastore, 1) := by decide +kernel
theorem dX1_addVisitor_28 : decode cX1_addVisitor 28 = .ok (.aload_n 0, 1) := by decide +kernel
theorem dX1_addVisitor_29 : decode cX1_addVisitor 29 = .ok (.dup, 1) := by decide +kernel
theorem dX1_addVisitor_30 : decode cX1_addVisitor 30 = .ok (.getfield 21, 3) := by decide +kernel
theorem dX1_addVisitor_33 : decode cX1_addVisitor 33 = .ok (.iconst 1, 1) := by decide +kernel
theorem dX1_addVisitor_34 : decode cX1_addVisitor 34 = .ok (.iadd, 1) := by decide +kernel
theorem dX1_addVisitor_35 : decode cX1_addVisitor 35 = .ok (.putfield 21, 3) := by decide +kernel
theorem dX1_addVisitor_38 : decode cX1_addVisitor 38 = .ok (.return_, 1) := by decide +kernel
theorem dX1_vote_0 : decode cX1_vote 0 = .ok (.iconst 0, 1) := by decide +kernel
theorem dX1_vote_1 : decode cX1_vote 1 = .ok (.istore_n 3, 1) := by decide +kernel
theorem dX1_vote_2 : decode cX1_vote 2 = .ok (.iload_n 3, 1) := by decide +kernel
theorem dX1_vote_3 : decode cX1_vote 3 = .ok (.aload_n 0, 1) := by decide +kernel
theorem dX1_vote_4 : decode cX1_vote 4 = .ok (.getfield 18, 3) := by decide +kernel
theorem dX1_vote_7 : decode cX1_vote 7 = .ok (.if_icmp .ge 55, 3) := by decide +kernel
theorem dX1_vote_10 : decode cX1_vote 10 = .ok (.iload_n 1, 1) := by decide +kernel
theorem dX1_vote_11 : decode cX1_vote 11 = .ok (.iload_n 3, 1) := by decide +kernel
theorem dX1_vote_12 : decode cX1_vote 12 = .ok (.ishr, 1) := by decide +kernel
theorem dX1_vote_13 : decode cX1_vote 13 = .ok (.iconst 1, 1) := by decide +kernel
theorem dX1_vote_14 : decode cX1_vote 14 = .ok (.iand, 1) := by decide +kernel
theorem dX1_vote_15 : decode cX1_vote 15 = .ok (.iconst 1, 1) := by decide +kernel
theorem dX1_vote_16 : decode cX1_vote 16 = .ok (.if_icmp .ne 40, 3) := by decide +kernel
theorem dX1_vote_19 : decode cX1_vote 19 = .ok (.iload_n 2, 1) := by decide +kernel
theorem dX1_vote_20 : decode cX1_vote 20 = .ok (.iload_n 3, 1) := by decide +kernel
theorem dX1_vote_21 : decode cX1_vote 21 = .ok (.ishr, 1) := by decide +kernel
theorem dX1_vote_22 : decode cX1_vote 22 = .ok (.iconst 1, 1) := by decide +kernel
theorem dX1_vote_23 : decode cX1_vote 23 = .ok (.iand, 1) := by decide +kernel
theorem dX1_vote_24 : decode cX1_vote 24 = .ok (.iconst 1, 1) := by decide +kernel
theorem dX1_vote_25 : decode cX1_vote 25 = .ok (.if_icmp .ne 10, 3) := by decide +kernel
theorem dX1_vote_28 : decode cX1_vote 28 = .ok (.aload_n 0, 1) := by decide +kernel
theorem dX1_vote_29 : decode cX1_vote 29 = .ok (.getfield 31, 3) := by decide +kernel
theorem dX1_vote_32 : decode cX1_vote 32 = .ok (.goto 7, 3) := by decide +kernel
theorem dX1_vote_35 : decode cX1_vote 35 = .ok (.aload_n 0, 1) := by decide +kernel
theorem dX1_vote_36 : decode cX1_vote 36 = .ok (.getfield 34, 3) := by decide +kernel
theorem dX1_vote_39 : decode cX1_vote 39 = .ok (.astore 4, 2) := by decide +kernel
theorem dX1_vote_41 : decode cX1_vote 41 = .ok (.aload 4, 2) := by decide +kernel
theorem dX1_vote_43 : decode cX1_vote 43 = .ok (.iload_n 3, 1) := by decide +kernel
theorem dX1_vote_44 : decode cX1_vote 44 = .ok (.aload 4, 2) := by decide +kernel
theorem dX1_vote_46 : decode cX1_vote 46 = .ok (.iload_n 3, 1) := by decide +kernel
theorem dX1_vote_47 : decode cX1_vote 47 = .ok (.iaload, 1) := by decide +kernel
theorem dX1_vote_48 : decode cX1_vote 48 = .ok (.iconst 1, 1) := by decide +kernel
theorem dX1_vote_49 : decode cX1_vote 49 = .ok (.iadd, 1) := by decide +kernel
theorem dX1_vote_50 : decode cX1_vote 50 = .ok (.bipush 99, 2) := by decide +kernel
theorem dX1_vote_52 : decode cX1_vote 52 = .ok (.invokestatic 114, 3) := by decide +kernel
theorem dX1_vote_55 : decode cX1_vote 55 = .ok (.iastore, 1) := by decide +kernel
theorem dX1_vote_56 : decode cX1_vote 56 = .ok (.iinc 3 1, 3) := by decide +kernel
theorem dX1_vote_59 : decode cX1_vote 59 = .ok (.goto (-57), 3) := by decide +kernel
theorem dX1_vote_62 : decode cX1_vote 62 = .ok (.return_, 1) := by decide +kernel
set_option maxRecDepth 20000 in
theorem ggX1_noteWrong_X1_wrongBits : GoodIn wsX1_noteWrong wsX1_wrongBits := goodIn_r _ [7, 8, 9, 10, 6, 11, 12, 13, 14, 15, 16, 17, 18, 19, 20, 21, 22, 23, 24, 25, 26, 27, 28, 29, 30, 31, 32, 33, 34, 35, 36, 37, 38, 39, 40, 41, 42, 43, 44, 45, 46, 47, 48, 49, 50, 51, 52, 53] (by decide +kernel) (by decide +kernel)
set_option maxRecDepth 20000 in
theorem gX1_noteWrong_X1_wrongBits : GoodIn wsX1_noteWrong (wsV RX1 98 RX1 yX1_wrongBits wsX1_wrongBits) := goodIn_app (goodIn_of _ (by decide +kernel)) ggX1_noteWrong_X1_wrongBits
theorem dX1_noteWrong_0 : decode cX1_noteWrong 0 = .ok (.iconst 0, 1) := by decide +kernel
theorem dX1_noteWrong_1 : decode cX1_noteWrong 1 = .ok (.istore_n 1, 1) := by decide +kernel
theorem dX1_noteWrong_2 : decode cX1_noteWrong 2 = .ok (.iload_n 1, 1) := by decide +kernel
theorem dX1_noteWrong_3 : decode cX1_noteWrong 3 = .ok (.aload_n 0, 1) := by decide +kernel
theorem dX1_noteWrong_4 : decode cX1_noteWrong 4 = .ok (.getfield 21, 3) := by decide +kernel
theorem dX1_noteWrong_7 : decode cX1_noteWrong 7 = .ok (.if_icmp .ge 20, 3) := by decide +kernel
theorem dX1_noteWrong_10 : decode cX1_noteWrong 10 = .ok (.aload_n 0, 1) := by decide +kernel
theorem dX1_noteWrong_11 : decode cX1_noteWrong 11 = .ok (.getfield 52, 3) := by decide +kernel
theorem dX1_noteWrong_14 : decode cX1_noteWrong 14 = .ok (.iload_n 1, 1) := by decide +kernel
theorem dX1_noteWrong_15 : decode cX1_noteWrong 15 = .ok (.aload_n 0, 1) := by decide +kernel
theorem dX1_noteWrong_16 : decode cX1_noteWrong 16 = .ok (.iload_n 1, 1) := by decide +kernel
theorem dX1_noteWrong_17 : decode cX1_noteWrong 17 = .ok (.invokevirtual 98, 3) := by decide +kernel
theorem dX1_noteWrong_20 : decode cX1_noteWrong 20 = .ok (.iastore, 1) := by decide +kernel
theorem dX1_noteWrong_21 : decode cX1_noteWrong 21 = .ok (.iinc 1 1, 3) := by decide +kernel
theorem dX1_noteWrong_24 : decode cX1_noteWrong 24 = .ok (.goto (-22), 3) := by decide +kernel
theorem dX1_noteWrong_27 : decode cX1_noteWrong 27 = .ok (.return_, 1) := by decide +kernel
set_option maxRecDepth 20000 in
theorem ggX1_guestBits_X1_noteWrong : GoodIn wsX1_guestBits wsX1_noteWrong := goodIn_r _ [5, 6, 7, 8, 9, 10, 4, 11, 12, 13, 14, 15, 16, 17, 18, 19, 20, 21, 22, 23, 24, 25, 26, 27, 28, 29, 30, 31, 32, 33, 34, 35, 36, 37, 38, 39, 40, 41, 42, 43, 56, 57, 58, 59, 60, 61, 62, 63, 64, 65, 66, 67, 68, 69] (by decide +kernel) (by decide +kernel)
set_option maxRecDepth 20000 in
theorem gX1_guestBits_X1_noteWrong : GoodIn wsX1_guestBits (wsV RX1 119 RX1 yX1_noteWrong wsX1_noteWrong) := goodIn_app (goodIn_of _ (by decide +kernel)) ggX1_guestBits_X1_noteWrong
set_option maxRecDepth 20000 in
theorem ggX1_guestBits_X1_notedGuests : GoodIn wsX1_guestBits wsX1_notedGuests := goodIn_r _ [47, 6, 7, 48, 49, 50, 51, 52, 53, 54, 55, 56, 57, 58, 59, 60, 61, 62, 63, 64, 65, 66, 67, 68, 69] (by decide +kernel) (by decide +kernel)
set_option maxRecDepth 20000 in
theorem gX1_guestBits_X1_notedGuests : GoodIn wsX1_guestBits (wsV RX1 122 RX1 yX1_notedGuests wsX1_notedGuests) := goodIn_app (goodIn_of _ (by decide +kernel)) ggX1_guestBits_X1_notedGuests
theorem dX1_guestBits_0 : decode cX1_guestBits 0 = .ok (.aload_n 0, 1) := by decide +kernel
theorem dX1_guestBits_1 : decode cX1_guestBits 1 = .ok (.invokevirtual 119, 3) := by decide +kernel
theorem dX1_guestBits_4 : decode cX1_guestBits 4 = .ok (.aload_n 0, 1) := by decide +kernel
theorem dX1_guestBits_5 : decode cX1_guestBits 5 = .ok (.iload_n 1, 1) := by decide +kernel
theorem dX1_guestBits_6 : decode cX1_guestBits 6 = .ok (.invokevirtual 122, 3) := by decide +kernel
theorem dX1_guestBits_9 : decode cX1_guestBits 9 = .ok (.ireturn, 1) := by decide +kernel
theorem dX3_found_0 : decode cX3_found 0 = .ok (.aload_n 0, 1) := by decide +kernel
theorem dX3_found_1 : decode cX3_found 1 = .ok (.iload_n 1, 1) := by decide +kernel
theorem dX3_found_2 : decode cX3_found 2 = .ok (.putfield 21, 3) := by decide +kernel
theorem dX3_found_5 : decode cX3_found 5 = .ok (.ldc_w 307, 3) := by decide +kernel
theorem dX3_found_8 : decode cX3_found 8 = .ok (.iload_n 1, 1) := by decide +kernel
theorem dX3_found_9 : decode cX3_found 9 = .ok (.isub, 1) := by decide +kernel
theorem dX3_found_10 : decode cX3_found 10 = .ok (.ireturn, 1) := by decide +kernel
theorem dX3_begin_0 : decode cX3_begin 0 = .ok (.aload_n 0, 1) := by decide +kernel
theorem dX3_begin_1 : decode cX3_begin 1 = .ok (.getfield 59, 3) := by decide +kernel
theorem dX3_begin_4 : decode cX3_begin 4 = .ok (.bipush 16, 2) := by decide +kernel
theorem dX3_begin_6 : decode cX3_begin 6 = .ok (.if_icmp .ge 23, 3) := by decide +kernel
theorem dX3_begin_9 : decode cX3_begin 9 = .ok (.aload_n 0, 1) := by decide +kernel
theorem dX3_begin_10 : decode cX3_begin 10 = .ok (.getfield 56, 3) := by decide +kernel
theorem dX3_begin_13 : decode cX3_begin 13 = .ok (.aload_n 0, 1) := by decide +kernel
theorem dX3_begin_14 : decode cX3_begin 14 = .ok (.getfield 59, 3) := by decide +kernel
theorem dX3_begin_17 : decode cX3_begin 17 = .ok (.iload_n 1, 1) := by decide +kernel
theorem dX3_begin_18 : decode cX3_begin 18 = .ok (.iastore, 1) := by decide +kernel
theorem dX3_begin_19 : decode cX3_begin 19 = .ok (.aload_n 0, 1) := by decide +kernel
theorem dX3_begin_20 : decode cX3_begin 20 = .ok (.dup, 1) := by decide +kernel
theorem dX3_begin_21 : decode cX3_begin 21 = .ok (.getfield 59, 3) := by decide +kernel
theorem dX3_begin_24 : decode cX3_begin 24 = .ok (.iconst 1, 1) := by decide +kernel
theorem dX3_begin_25 : decode cX3_begin 25 = .ok (.iadd, 1) := by decide +kernel
theorem dX3_begin_26 : decode cX3_begin 26 = .ok (.putfield 59, 3) := by decide +kernel
theorem dX3_begin_29 : decode cX3_begin 29 = .ok (.return_, 1) := by decide +kernel
theorem dX4_finding_0 : decode cX4_finding 0 = .ok (.aload_n 0, 1) := by decide +kernel
theorem dX4_finding_1 : decode cX4_finding 1 = .ok (.iload_n 1, 1) := by decide +kernel
theorem dX4_finding_2 : decode cX4_finding 2 = .ok (.putfield 52, 3) := by decide +kernel
theorem dX4_finding_5 : decode cX4_finding 5 = .ok (.ldc 55, 2) := by decide +kernel
theorem dX4_finding_7 : decode cX4_finding 7 = .ok (.iload_n 1, 1) := by decide +kernel
theorem dX4_finding_8 : decode cX4_finding 8 = .ok (.isub, 1) := by decide +kernel
theorem dX4_finding_9 : decode cX4_finding 9 = .ok (.ireturn, 1) := by decide +kernel
theorem dX4_began_0 : decode cX4_began 0 = .ok (.aload_n 0, 1) := by decide +kernel
theorem dX4_began_1 : decode cX4_began 1 = .ok (.getfield 263, 3) := by decide +kernel
theorem dX4_began_4 : decode cX4_began 4 = .ok (.bipush 16, 2) := by decide +kernel
theorem dX4_began_6 : decode cX4_began 6 = .ok (.if_icmp .ge 23, 3) := by decide +kernel
theorem dX4_began_9 : decode cX4_began 9 = .ok (.aload_n 0, 1) := by decide +kernel
theorem dX4_began_10 : decode cX4_began 10 = .ok (.getfield 45, 3) := by decide +kernel
theorem dX4_began_13 : decode cX4_began 13 = .ok (.aload_n 0, 1) := by decide +kernel
theorem dX4_began_14 : decode cX4_began 14 = .ok (.getfield 263, 3) := by decide +kernel
theorem dX4_began_17 : decode cX4_began 17 = .ok (.iload_n 1, 1) := by decide +kernel
theorem dX4_began_18 : decode cX4_began 18 = .ok (.iastore, 1) := by decide +kernel
theorem dX4_began_19 : decode cX4_began 19 = .ok (.aload_n 0, 1) := by decide +kernel
theorem dX4_began_20 : decode cX4_began 20 = .ok (.dup, 1) := by decide +kernel
theorem dX4_began_21 : decode cX4_began 21 = .ok (.getfield 263, 3) := by decide +kernel
theorem dX4_began_24 : decode cX4_began 24 = .ok (.iconst 1, 1) := by decide +kernel
theorem dX4_began_25 : decode cX4_began 25 = .ok (.iadd, 1) := by decide +kernel
theorem dX4_began_26 : decode cX4_began 26 = .ok (.putfield 263, 3) := by decide +kernel
theorem dX4_began_29 : decode cX4_began 29 = .ok (.return_, 1) := by decide +kernel
theorem dJ7_fill_53178_0 : decode cJ7_fill_53178 0 = .ok (.iconst 0, 1) := by decide +kernel
theorem dJ7_fill_53178_1 : decode cJ7_fill_53178 1 = .ok (.istore_n 2, 1) := by decide +kernel
theorem dJ7_fill_53178_2 : decode cJ7_fill_53178 2 = .ok (.aload_n 0, 1) := by decide +kernel
theorem dJ7_fill_53178_3 : decode cJ7_fill_53178 3 = .ok (.arraylength, 1) := by decide +kernel
theorem dJ7_fill_53178_4 : decode cJ7_fill_53178 4 = .ok (.istore_n 3, 1) := by decide +kernel
theorem dJ7_fill_53178_5 : decode cJ7_fill_53178 5 = .ok (.iload_n 2, 1) := by decide +kernel
theorem dJ7_fill_53178_6 : decode cJ7_fill_53178 6 = .ok (.iload_n 3, 1) := by decide +kernel
theorem dJ7_fill_53178_7 : decode cJ7_fill_53178 7 = .ok (.if_icmp .ge 13, 3) := by decide +kernel
theorem dJ7_fill_53178_10 : decode cJ7_fill_53178 10 = .ok (.aload_n 0, 1) := by decide +kernel
theorem dJ7_fill_53178_11 : decode cJ7_fill_53178 11 = .ok (.iload_n 2, 1) := by decide +kernel
theorem dJ7_fill_53178_12 : decode cJ7_fill_53178 12 = .ok (.iload_n 1, 1) := by decide +kernel
theorem dJ7_fill_53178_13 : decode cJ7_fill_53178 13 = .ok (.iastore, 1) := by decide +kernel
theorem dJ7_fill_53178_14 : decode cJ7_fill_53178 14 = .ok (.iinc 2 1, 3) := by decide +kernel
theorem dJ7_fill_53178_17 : decode cJ7_fill_53178 17 = .ok (.goto (-12), 3) := by decide +kernel
theorem dJ7_fill_53178_20 : decode cJ7_fill_53178 20 = .ok (.return_, 1) := by decide +kernel
