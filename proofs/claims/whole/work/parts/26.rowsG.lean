set_option maxRecDepth 20000 in
theorem ggX0_keep_X1_takeFrom : GoodIn wsX0_keep wsX1_takeFrom := goodIn_r _ [12, 13, 14, 15, 16, 17, 18, 19, 20, 21, 22, 23, 24, 25, 26, 27, 28, 29, 33, 34, 35, 36, 37, 38, 39, 40, 41, 42, 43, 44, 45, 46] (by decide +kernel) (by decide +kernel)
set_option maxRecDepth 20000 in
theorem gX0_keep_X1_takeFrom : GoodIn wsX0_keep (wsV RX0 25 RX1 yX1_takeFrom wsX1_takeFrom) := goodIn_app (goodIn_of _ (by decide +kernel)) ggX0_keep_X1_takeFrom
theorem dX0_keep_0 : decode cX0_keep 0 = .ok (.aload_n 0, 1) := by decide +kernel
theorem dX0_keep_1 : decode cX0_keep 1 = .ok (.getfield 11, 3) := by decide +kernel
theorem dX0_keep_4 : decode cX0_keep 4 = .ok (.aload_n 0, 1) := by decide +kernel
theorem dX0_keep_5 : decode cX0_keep 5 = .ok (.getfield 17, 3) := by decide +kernel
theorem dX0_keep_8 : decode cX0_keep 8 = .ok (.aaload, 1) := by decide +kernel
theorem dX0_keep_9 : decode cX0_keep 9 = .ok (.aload_n 1, 1) := by decide +kernel
theorem dX0_keep_10 : decode cX0_keep 10 = .ok (.invokevirtual 25, 3) := by decide +kernel
theorem dX0_keep_13 : decode cX0_keep 13 = .ok (.aload_n 0, 1) := by decide +kernel
theorem dX0_keep_14 : decode cX0_keep 14 = .ok (.aload_n 0, 1) := by decide +kernel
theorem dX0_keep_15 : decode cX0_keep 15 = .ok (.getfield 17, 3) := by decide +kernel
theorem dX0_keep_18 : decode cX0_keep 18 = .ok (.iconst 1, 1) := by decide +kernel
theorem dX0_keep_19 : decode cX0_keep 19 = .ok (.iadd, 1) := by decide +kernel
theorem dX0_keep_20 : decode cX0_keep 20 = .ok (.bipush 24, 2) := by decide +kernel
theorem dX0_keep_22 : decode cX0_keep 22 = .ok (.irem, 1) := by decide +kernel
theorem dX0_keep_23 : decode cX0_keep 23 = .ok (.putfield 17, 3) := by decide +kernel
theorem dX0_keep_26 : decode cX0_keep 26 = .ok (.aload_n 0, 1) := by decide +kernel
theorem dX0_keep_27 : decode cX0_keep 27 = .ok (.aload_n 0, 1) := by decide +kernel
theorem dX0_keep_28 : decode cX0_keep 28 = .ok (.getfield 21, 3) := by decide +kernel
theorem dX0_keep_31 : decode cX0_keep 31 = .ok (.iconst 1, 1) := by decide +kernel
theorem dX0_keep_32 : decode cX0_keep 32 = .ok (.iadd, 1) := by decide +kernel
theorem dX0_keep_33 : decode cX0_keep 33 = .ok (.bipush 24, 2) := by decide +kernel
theorem dX0_keep_35 : decode cX0_keep 35 = .ok (.invokestatic 29, 3) := by decide +kernel
theorem dX0_keep_38 : decode cX0_keep 38 = .ok (.putfield 21, 3) := by decide +kernel
theorem dX0_keep_41 : decode cX0_keep 41 = .ok (.return_, 1) := by decide +kernel
set_option maxRecDepth 20000 in
theorem ggX0_takeBackInto_X1_takeFrom : GoodIn wsX0_takeBackInto wsX1_takeFrom := goodIn_r _ [8, 9, 10, 11, 12, 13, 14, 15, 16, 17, 18, 19, 20, 21, 22, 23, 24, 25, 29, 30, 31, 32, 33, 34, 35, 36, 37, 38, 39, 40, 41, 42] (by decide +kernel) (by decide +kernel)
set_option maxRecDepth 20000 in
theorem gX0_takeBackInto_X1_takeFrom : GoodIn wsX0_takeBackInto (wsV RX0 25 RX1 yX1_takeFrom wsX1_takeFrom) := goodIn_app (goodIn_of _ (by decide +kernel)) ggX0_takeBackInto_X1_takeFrom
theorem dX0_takeBackInto_0 : decode cX0_takeBackInto 0 = .ok (.aload_n 0, 1) := by decide +kernel
theorem dX0_takeBackInto_1 : decode cX0_takeBackInto 1 = .ok (.aload_n 0, 1) := by decide +kernel
theorem dX0_takeBackInto_2 : decode cX0_takeBackInto 2 = .ok (.getfield 17, 3) := by decide +kernel
theorem dX0_takeBackInto_5 : decode cX0_takeBackInto 5 = .ok (.bipush 24, 2) := by decide +kernel
theorem dX0_takeBackInto_7 : decode cX0_takeBackInto 7 = .ok (.iadd, 1) := by decide +kernel
theorem dX0_takeBackInto_8 : decode cX0_takeBackInto 8 = .ok (.iconst 1, 1) := by decide +kernel
theorem dX0_takeBackInto_9 : decode cX0_takeBackInto 9 = .ok (.isub, 1) := by decide +kernel
theorem dX0_takeBackInto_10 : decode cX0_takeBackInto 10 = .ok (.bipush 24, 2) := by decide +kernel
theorem dX0_takeBackInto_12 : decode cX0_takeBackInto 12 = .ok (.irem, 1) := by decide +kernel
theorem dX0_takeBackInto_13 : decode cX0_takeBackInto 13 = .ok (.putfield 17, 3) := by decide +kernel
theorem dX0_takeBackInto_16 : decode cX0_takeBackInto 16 = .ok (.aload_n 1, 1) := by decide +kernel
theorem dX0_takeBackInto_17 : decode cX0_takeBackInto 17 = .ok (.aload_n 0, 1) := by decide +kernel
theorem dX0_takeBackInto_18 : decode cX0_takeBackInto 18 = .ok (.getfield 11, 3) := by decide +kernel
theorem dX0_takeBackInto_21 : decode cX0_takeBackInto 21 = .ok (.aload_n 0, 1) := by decide +kernel
theorem dX0_takeBackInto_22 : decode cX0_takeBackInto 22 = .ok (.getfield 17, 3) := by decide +kernel
theorem dX0_takeBackInto_25 : decode cX0_takeBackInto 25 = .ok (.aaload, 1) := by decide +kernel
theorem dX0_takeBackInto_26 : decode cX0_takeBackInto 26 = .ok (.invokevirtual 25, 3) := by decide +kernel
theorem dX0_takeBackInto_29 : decode cX0_takeBackInto 29 = .ok (.aload_n 0, 1) := by decide +kernel
theorem dX0_takeBackInto_30 : decode cX0_takeBackInto 30 = .ok (.dup, 1) := by decide +kernel
theorem dX0_takeBackInto_31 : decode cX0_takeBackInto 31 = .ok (.getfield 21, 3) := by decide +kernel
theorem dX0_takeBackInto_34 : decode cX0_takeBackInto 34 = .ok (.iconst 1, 1) := by decide +kernel
theorem dX0_takeBackInto_35 : decode cX0_takeBackInto 35 = .ok (.isub, 1) := by decide +kernel
theorem dX0_takeBackInto_36 : decode cX0_takeBackInto 36 = .ok (.putfield 21, 3) := by decide +kernel
theorem dX0_takeBackInto_39 : decode cX0_takeBackInto 39 = .ok (.return_, 1) := by decide +kernel
theorem dX0_forgetAll_0 : decode cX0_forgetAll 0 = .ok (.aload_n 0, 1) := by decide +kernel
theorem dX0_forgetAll_1 : decode cX0_forgetAll 1 = .ok (.iconst 0, 1) := by decide +kernel
theorem dX0_forgetAll_2 : decode cX0_forgetAll 2 = .ok (.putfield 21, 3) := by decide +kernel
theorem dX0_forgetAll_5 : decode cX0_forgetAll 5 = .ok (.return_, 1) := by decide +kernel
