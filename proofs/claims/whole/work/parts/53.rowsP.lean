theorem dX4_bad_0 : decode cX4_bad 0 = .ok (.aload_n 0, 1) := by decide +kernel
theorem dX4_bad_1 : decode cX4_bad 1 = .ok (.getfield 79, 3) := by decide +kernel
theorem dX4_bad_4 : decode cX4_bad 4 = .ok (.ifCond .ne 16, 3) := by decide +kernel
theorem dX4_bad_7 : decode cX4_bad 7 = .ok (.aload_n 0, 1) := by decide +kernel
theorem dX4_bad_8 : decode cX4_bad 8 = .ok (.iload_n 1, 1) := by decide +kernel
theorem dX4_bad_9 : decode cX4_bad 9 = .ok (.putfield 79, 3) := by decide +kernel
theorem dX4_bad_12 : decode cX4_bad 12 = .ok (.aload_n 0, 1) := by decide +kernel
theorem dX4_bad_13 : decode cX4_bad 13 = .ok (.aload_n 0, 1) := by decide +kernel
theorem dX4_bad_14 : decode cX4_bad 14 = .ok (.getfield 82, 3) := by decide +kernel
theorem dX4_bad_17 : decode cX4_bad 17 = .ok (.putfield 85, 3) := by decide +kernel
theorem dX4_bad_20 : decode cX4_bad 20 = .ok (.return_, 1) := by decide +kernel
theorem dX4_isLetter_0 : decode cX4_isLetter 0 = .ok (.aload_n 0, 1) := by decide +kernel
theorem dX4_isLetter_1 : decode cX4_isLetter 1 = .ok (.getfield 79, 3) := by decide +kernel
theorem dX4_isLetter_4 : decode cX4_isLetter 4 = .ok (.ifCond .ne 23, 3) := by decide +kernel
theorem dX4_isLetter_7 : decode cX4_isLetter 7 = .ok (.aload_n 0, 1) := by decide +kernel
theorem dX4_isLetter_8 : decode cX4_isLetter 8 = .ok (.getfield 103, 3) := by decide +kernel
theorem dX4_isLetter_11 : decode cX4_isLetter 11 = .ok (.iconst 2, 1) := by decide +kernel
theorem dX4_isLetter_12 : decode cX4_isLetter 12 = .ok (.if_icmp .ne 15, 3) := by decide +kernel
theorem dX4_isLetter_15 : decode cX4_isLetter 15 = .ok (.aload_n 0, 1) := by decide +kernel
theorem dX4_isLetter_16 : decode cX4_isLetter 16 = .ok (.getfield 92, 3) := by decide +kernel
theorem dX4_isLetter_19 : decode cX4_isLetter 19 = .ok (.iload_n 1, 1) := by decide +kernel
theorem dX4_isLetter_20 : decode cX4_isLetter 20 = .ok (.if_icmp .ne 7, 3) := by decide +kernel
theorem dX4_isLetter_23 : decode cX4_isLetter 23 = .ok (.iconst 1, 1) := by decide +kernel
theorem dX4_isLetter_24 : decode cX4_isLetter 24 = .ok (.goto 4, 3) := by decide +kernel
theorem dX4_isLetter_27 : decode cX4_isLetter 27 = .ok (.iconst 0, 1) := by decide +kernel
theorem dX4_isLetter_28 : decode cX4_isLetter 28 = .ok (.ireturn, 1) := by decide +kernel
set_option maxRecDepth 20000 in
theorem ggX4_isSort_X4_kindBy : GoodIn wsX4_isSort wsX4_kindBy := goodIn_r _ [8, 4] (by decide +kernel) (by decide +kernel)
set_option maxRecDepth 20000 in
theorem gX4_isSort_X4_kindBy : GoodIn wsX4_isSort (va_wsS RX4 120 yX4_kindBy wsX4_kindBy) := goodIn_app (goodIn_of _ (by decide +kernel)) ggX4_isSort_X4_kindBy
theorem dX4_isSort_0 : decode cX4_isSort 0 = .ok (.aload_n 0, 1) := by decide +kernel
theorem dX4_isSort_1 : decode cX4_isSort 1 = .ok (.getfield 79, 3) := by decide +kernel
theorem dX4_isSort_4 : decode cX4_isSort 4 = .ok (.ifCond .ne 27, 3) := by decide +kernel
theorem dX4_isSort_7 : decode cX4_isSort 7 = .ok (.aload_n 0, 1) := by decide +kernel
theorem dX4_isSort_8 : decode cX4_isSort 8 = .ok (.getfield 103, 3) := by decide +kernel
theorem dX4_isSort_11 : decode cX4_isSort 11 = .ok (.iconst 2, 1) := by decide +kernel
theorem dX4_isSort_12 : decode cX4_isSort 12 = .ok (.if_icmp .ne 19, 3) := by decide +kernel
theorem dX4_isSort_15 : decode cX4_isSort 15 = .ok (.aload_n 0, 1) := by decide +kernel
theorem dX4_isSort_16 : decode cX4_isSort 16 = .ok (.getfield 92, 3) := by decide +kernel
theorem dX4_isSort_19 : decode cX4_isSort 19 = .ok (.invokestatic 120, 3) := by decide +kernel
theorem dX4_isSort_22 : decode cX4_isSort 22 = .ok (.ldc 91, 2) := by decide +kernel
theorem dX4_isSort_24 : decode cX4_isSort 24 = .ok (.if_icmp .eq 7, 3) := by decide +kernel
theorem dX4_isSort_27 : decode cX4_isSort 27 = .ok (.iconst 1, 1) := by decide +kernel
theorem dX4_isSort_28 : decode cX4_isSort 28 = .ok (.goto 4, 3) := by decide +kernel
theorem dX4_isSort_31 : decode cX4_isSort 31 = .ok (.iconst 0, 1) := by decide +kernel
theorem dX4_isSort_32 : decode cX4_isSort 32 = .ok (.ireturn, 1) := by decide +kernel
