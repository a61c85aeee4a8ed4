set_option maxRecDepth 20000 in
theorem ggX4_must_X4_bad : GoodIn wsX4_must wsX4_bad := goodIn_r _ [6, 1, 7, 8, 26, 27, 28, 29, 30, 31, 32, 33, 34, 35, 36, 37, 38, 39, 40, 41, 42, 43, 44, 45, 46, 47, 48, 49] (by decide +kernel) (by decide +kernel)
set_option maxRecDepth 20000 in
theorem gX4_must_X4_bad : GoodIn wsX4_must (wsV RX4 106 RX4 yX4_bad wsX4_bad) := goodIn_app (goodIn_of _ (by decide +kernel)) ggX4_must_X4_bad
set_option maxRecDepth 20000 in
theorem ggX4_must_X4_nextToken : GoodIn wsX4_must wsX4_nextToken := goodIn_r _ [12, 13, 7, 14, 15, 16, 17, 18, 19, 20, 21, 22, 23, 24, 5, 25, 26, 27, 28, 29, 30, 31, 32, 33, 34, 35, 36, 37, 38, 39, 40, 41, 42, 43, 44, 45, 46, 47, 48, 49] (by decide +kernel) (by decide +kernel)
set_option maxRecDepth 20000 in
theorem gX4_must_X4_nextToken : GoodIn wsX4_must (wsV RX4 110 RX4 yX4_nextToken wsX4_nextToken) := goodIn_app (goodIn_of _ (by decide +kernel)) ggX4_must_X4_nextToken
theorem dX4_must_0 : decode cX4_must 0 = .ok (.iload_n 1, 1) := by decide +kernel
theorem dX4_must_1 : decode cX4_must 1 = .ok (.ifCond .ne 8, 3) := by decide +kernel
theorem dX4_must_4 : decode cX4_must 4 = .ok (.aload_n 0, 1) := by decide +kernel
theorem dX4_must_5 : decode cX4_must 5 = .ok (.iconst 1, 1) := by decide +kernel
theorem dX4_must_6 : decode cX4_must 6 = .ok (.invokevirtual 106, 3) := by decide +kernel
theorem dX4_must_9 : decode cX4_must 9 = .ok (.aload_n 0, 1) := by decide +kernel
theorem dX4_must_10 : decode cX4_must 10 = .ok (.getfield 79, 3) := by decide +kernel
theorem dX4_must_13 : decode cX4_must 13 = .ok (.ifCond .ne 7, 3) := by decide +kernel
theorem dX4_must_16 : decode cX4_must 16 = .ok (.aload_n 0, 1) := by decide +kernel
theorem dX4_must_17 : decode cX4_must 17 = .ok (.invokevirtual 110, 3) := by decide +kernel
theorem dX4_must_20 : decode cX4_must 20 = .ok (.return_, 1) := by decide +kernel
set_option maxRecDepth 20000 in
theorem ggX4_number_X4_bad : GoodIn wsX4_number wsX4_bad := goodIn_r _ [8, 1, 9, 10, 30, 31, 32, 33, 34, 35, 36, 37, 38, 39, 40, 41, 42, 43, 44, 45, 46, 47, 48, 49, 50, 51, 52, 53] (by decide +kernel) (by decide +kernel)
set_option maxRecDepth 20000 in
theorem gX4_number_X4_bad : GoodIn wsX4_number (wsV RX4 106 RX4 yX4_bad wsX4_bad) := goodIn_app (goodIn_of _ (by decide +kernel)) ggX4_number_X4_bad
set_option maxRecDepth 20000 in
theorem ggX4_number_X4_in : GoodIn wsX4_number wsX4_in := goodIn_r _ [13] (by decide +kernel) (by decide +kernel)
set_option maxRecDepth 20000 in
theorem gX4_number_X4_in : GoodIn wsX4_number (va_wsS RX4 58 yX4_in wsX4_in) := goodIn_app (goodIn_of _ (by decide +kernel)) ggX4_number_X4_in
set_option maxRecDepth 20000 in
theorem ggX4_number_X4_must : GoodIn wsX4_number wsX4_must := goodIn_r _ [17, 1, 4, 5, 6, 7, 8, 9, 10, 18, 19, 20, 21, 22, 23, 24, 25, 3, 26, 27, 28, 29, 2, 11, 12, 13, 30, 31, 32, 33, 34, 35, 36, 37, 38, 39, 40, 41, 42, 43, 44, 45, 46, 47, 48, 49, 50, 51, 52, 53] (by decide +kernel) (by decide +kernel)
set_option maxRecDepth 20000 in
theorem gX4_number_X4_must : GoodIn wsX4_number (wsV RX4 113 RX4 yX4_must wsX4_must) := goodIn_app (goodIn_of _ (by decide +kernel)) ggX4_number_X4_must
theorem dX4_number_0 : decode cX4_number 0 = .ok (.aload_n 0, 1) := by decide +kernel
theorem dX4_number_1 : decode cX4_number 1 = .ok (.getfield 79, 3) := by decide +kernel
theorem dX4_number_4 : decode cX4_number 4 = .ok (.ifCond .ne 16, 3) := by decide +kernel
theorem dX4_number_7 : decode cX4_number 7 = .ok (.aload_n 0, 1) := by decide +kernel
theorem dX4_number_8 : decode cX4_number 8 = .ok (.getfield 103, 3) := by decide +kernel
theorem dX4_number_11 : decode cX4_number 11 = .ok (.iconst 3, 1) := by decide +kernel
theorem dX4_number_12 : decode cX4_number 12 = .ok (.if_icmp .eq 8, 3) := by decide +kernel
theorem dX4_number_15 : decode cX4_number 15 = .ok (.aload_n 0, 1) := by decide +kernel
theorem dX4_number_16 : decode cX4_number 16 = .ok (.iconst 1, 1) := by decide +kernel
theorem dX4_number_17 : decode cX4_number 17 = .ok (.invokevirtual 106, 3) := by decide +kernel
theorem dX4_number_20 : decode cX4_number 20 = .ok (.aload_n 0, 1) := by decide +kernel
theorem dX4_number_21 : decode cX4_number 21 = .ok (.getfield 79, 3) := by decide +kernel
theorem dX4_number_24 : decode cX4_number 24 = .ok (.ifCond .ne 23, 3) := by decide +kernel
theorem dX4_number_27 : decode cX4_number 27 = .ok (.aload_n 0, 1) := by decide +kernel
theorem dX4_number_28 : decode cX4_number 28 = .ok (.getfield 92, 3) := by decide +kernel
theorem dX4_number_31 : decode cX4_number 31 = .ok (.i2l, 1) := by decide +kernel
theorem dX4_number_32 : decode cX4_number 32 = .ok (.iload_n 1, 1) := by decide +kernel
theorem dX4_number_33 : decode cX4_number 33 = .ok (.i2l, 1) := by decide +kernel
theorem dX4_number_34 : decode cX4_number 34 = .ok (.iload_n 2, 1) := by decide +kernel
theorem dX4_number_35 : decode cX4_number 35 = .ok (.i2l, 1) := by decide +kernel
theorem dX4_number_36 : decode cX4_number 36 = .ok (.invokestatic 58, 3) := by decide +kernel
theorem dX4_number_39 : decode cX4_number 39 = .ok (.ifCond .ne 8, 3) := by decide +kernel
theorem dX4_number_42 : decode cX4_number 42 = .ok (.aload_n 0, 1) := by decide +kernel
theorem dX4_number_43 : decode cX4_number 43 = .ok (.iconst 2, 1) := by decide +kernel
theorem dX4_number_44 : decode cX4_number 44 = .ok (.invokevirtual 106, 3) := by decide +kernel
theorem dX4_number_47 : decode cX4_number 47 = .ok (.aload_n 0, 1) := by decide +kernel
theorem dX4_number_48 : decode cX4_number 48 = .ok (.getfield 79, 3) := by decide +kernel
theorem dX4_number_51 : decode cX4_number 51 = .ok (.ifCond .ne 10, 3) := by decide +kernel
theorem dX4_number_54 : decode cX4_number 54 = .ok (.aload_n 0, 1) := by decide +kernel
theorem dX4_number_55 : decode cX4_number 55 = .ok (.getfield 92, 3) := by decide +kernel
theorem dX4_number_58 : decode cX4_number 58 = .ok (.goto 4, 3) := by decide +kernel
theorem dX4_number_61 : decode cX4_number 61 = .ok (.iload_n 1, 1) := by decide +kernel
theorem dX4_number_62 : decode cX4_number 62 = .ok (.istore_n 3, 1) := by decide +kernel
theorem dX4_number_63 : decode cX4_number 63 = .ok (.aload_n 0, 1) := by decide +kernel
theorem dX4_number_64 : decode cX4_number 64 = .ok (.iconst 1, 1) := by decide +kernel
theorem dX4_number_65 : decode cX4_number 65 = .ok (.invokevirtual 113, 3) := by decide +kernel
theorem dX4_number_68 : decode cX4_number 68 = .ok (.iload_n 3, 1) := by decide +kernel
theorem dX4_number_69 : decode cX4_number 69 = .ok (.ireturn, 1) := by decide +kernel
set_option maxRecDepth 20000 in
theorem ggX4_mustSign_X4_must : GoodIn wsX4_mustSign wsX4_must := goodIn_r _ [7, 8, 9, 10, 11, 6, 12, 13, 14, 15, 16, 17, 18, 19, 20, 21, 22, 2, 23, 24, 25, 26, 1, 27, 28, 29, 30, 31, 32, 33, 34, 35, 36, 37, 38, 39, 40, 41, 42, 43, 44, 45, 46, 47, 48, 49, 50, 51, 52, 53] (by decide +kernel) (by decide +kernel)
set_option maxRecDepth 20000 in
theorem gX4_mustSign_X4_must : GoodIn wsX4_mustSign (wsV RX4 113 RX4 yX4_must wsX4_must) := goodIn_app (goodIn_of _ (by decide +kernel)) ggX4_mustSign_X4_must
theorem dX4_mustSign_0 : decode cX4_mustSign 0 = .ok (.aload_n 0, 1) := by decide +kernel
theorem dX4_mustSign_1 : decode cX4_mustSign 1 = .ok (.aload_n 0, 1) := by decide +kernel
theorem dX4_mustSign_2 : decode cX4_mustSign 2 = .ok (.getfield 103, 3) := by decide +kernel
theorem dX4_mustSign_5 : decode cX4_mustSign 5 = .ok (.iconst 4, 1) := by decide +kernel
theorem dX4_mustSign_6 : decode cX4_mustSign 6 = .ok (.if_icmp .ne 15, 3) := by decide +kernel
theorem dX4_mustSign_9 : decode cX4_mustSign 9 = .ok (.aload_n 0, 1) := by decide +kernel
theorem dX4_mustSign_10 : decode cX4_mustSign 10 = .ok (.getfield 92, 3) := by decide +kernel
theorem dX4_mustSign_13 : decode cX4_mustSign 13 = .ok (.iload_n 1, 1) := by decide +kernel
theorem dX4_mustSign_14 : decode cX4_mustSign 14 = .ok (.if_icmp .ne 7, 3) := by decide +kernel
theorem dX4_mustSign_17 : decode cX4_mustSign 17 = .ok (.iconst 1, 1) := by decide +kernel
theorem dX4_mustSign_18 : decode cX4_mustSign 18 = .ok (.goto 4, 3) := by decide +kernel
theorem dX4_mustSign_21 : decode cX4_mustSign 21 = .ok (.iconst 0, 1) := by decide +kernel
theorem dX4_mustSign_22 : decode cX4_mustSign 22 = .ok (.invokevirtual 113, 3) := by decide +kernel
theorem dX4_mustSign_25 : decode cX4_mustSign 25 = .ok (.return_, 1) := by decide +kernel
set_option maxRecDepth 20000 in
theorem ggX4_begin_X4_nextToken : GoodIn wsX4_begin wsX4_nextToken := goodIn_r _ [7, 1, 8, 9, 10, 11, 12, 13, 14, 15, 16, 17, 18, 19, 6, 20, 21, 22, 23, 24, 25, 26, 27, 28, 29, 30, 31, 32, 33, 34, 35, 36, 37, 38, 39, 40, 41, 42, 43, 44] (by decide +kernel) (by decide +kernel)
set_option maxRecDepth 20000 in
theorem gX4_begin_X4_nextToken : GoodIn wsX4_begin (wsV RX4 110 RX4 yX4_nextToken wsX4_nextToken) := goodIn_app (goodIn_of _ (by decide +kernel)) ggX4_begin_X4_nextToken
theorem dX4_begin_0 : decode cX4_begin 0 = .ok (.aload_n 0, 1) := by decide +kernel
theorem dX4_begin_1 : decode cX4_begin 1 = .ok (.iconst 0, 1) := by decide +kernel
theorem dX4_begin_2 : decode cX4_begin 2 = .ok (.putfield 88, 3) := by decide +kernel
theorem dX4_begin_5 : decode cX4_begin 5 = .ok (.aload_n 0, 1) := by decide +kernel
theorem dX4_begin_6 : decode cX4_begin 6 = .ok (.iconst 0, 1) := by decide +kernel
theorem dX4_begin_7 : decode cX4_begin 7 = .ok (.putfield 79, 3) := by decide +kernel
theorem dX4_begin_10 : decode cX4_begin 10 = .ok (.aload_n 0, 1) := by decide +kernel
theorem dX4_begin_11 : decode cX4_begin 11 = .ok (.invokevirtual 110, 3) := by decide +kernel
theorem dX4_begin_14 : decode cX4_begin 14 = .ok (.return_, 1) := by decide +kernel
set_option maxRecDepth 20000 in
theorem ggX4_failed_X4_bad : GoodIn wsX4_failed wsX4_bad := goodIn_r _ [9, 1, 10, 11, 12, 13, 14, 15, 16, 17, 18, 19, 20, 21, 22, 23, 24, 25, 26, 27, 28, 29, 30, 31, 32, 33, 34, 35] (by decide +kernel) (by decide +kernel)
set_option maxRecDepth 20000 in
theorem gX4_failed_X4_bad : GoodIn wsX4_failed (wsV RX4 106 RX4 yX4_bad wsX4_bad) := goodIn_app (goodIn_of _ (by decide +kernel)) ggX4_failed_X4_bad
theorem dX4_failed_0 : decode cX4_failed 0 = .ok (.aload_n 0, 1) := by decide +kernel
theorem dX4_failed_1 : decode cX4_failed 1 = .ok (.getfield 79, 3) := by decide +kernel
theorem dX4_failed_4 : decode cX4_failed 4 = .ok (.ifCond .ne 16, 3) := by decide +kernel
theorem dX4_failed_7 : decode cX4_failed 7 = .ok (.aload_n 0, 1) := by decide +kernel
theorem dX4_failed_8 : decode cX4_failed 8 = .ok (.getfield 103, 3) := by decide +kernel
theorem dX4_failed_11 : decode cX4_failed 11 = .ok (.iconst 1, 1) := by decide +kernel
theorem dX4_failed_12 : decode cX4_failed 12 = .ok (.if_icmp .eq 8, 3) := by decide +kernel
theorem dX4_failed_15 : decode cX4_failed 15 = .ok (.aload_n 0, 1) := by decide +kernel
theorem dX4_failed_16 : decode cX4_failed 16 = .ok (.iconst 1, 1) := by decide +kernel
theorem dX4_failed_17 : decode cX4_failed 17 = .ok (.invokevirtual 106, 3) := by decide +kernel
theorem dX4_failed_20 : decode cX4_failed 20 = .ok (.aload_n 0, 1) := by decide +kernel
theorem dX4_failed_21 : decode cX4_failed 21 = .ok (.iconst 0, 1) := by decide +kernel
theorem dX4_failed_22 : decode cX4_failed 22 = .ok (.putfield 75, 3) := by decide +kernel
theorem dX4_failed_25 : decode cX4_failed 25 = .ok (.aload_n 0, 1) := by decide +kernel
theorem dX4_failed_26 : decode cX4_failed 26 = .ok (.aload_n 0, 1) := by decide +kernel
theorem dX4_failed_27 : decode cX4_failed 27 = .ok (.getfield 79, 3) := by decide +kernel
theorem dX4_failed_30 : decode cX4_failed 30 = .ok (.ifCond .le 10, 3) := by decide +kernel
theorem dX4_failed_33 : decode cX4_failed 33 = .ok (.aload_n 0, 1) := by decide +kernel
theorem dX4_failed_34 : decode cX4_failed 34 = .ok (.getfield 79, 3) := by decide +kernel
theorem dX4_failed_37 : decode cX4_failed 37 = .ok (.goto 7, 3) := by decide +kernel
theorem dX4_failed_40 : decode cX4_failed 40 = .ok (.aload_n 0, 1) := by decide +kernel
theorem dX4_failed_41 : decode cX4_failed 41 = .ok (.getfield 117, 3) := by decide +kernel
theorem dX4_failed_44 : decode cX4_failed 44 = .ok (.putfield 117, 3) := by decide +kernel
theorem dX4_failed_47 : decode cX4_failed 47 = .ok (.aload_n 0, 1) := by decide +kernel
theorem dX4_failed_48 : decode cX4_failed 48 = .ok (.getfield 79, 3) := by decide +kernel
theorem dX4_failed_51 : decode cX4_failed 51 = .ok (.ifCond .le 7, 3) := by decide +kernel
theorem dX4_failed_54 : decode cX4_failed 54 = .ok (.iconst 1, 1) := by decide +kernel
theorem dX4_failed_55 : decode cX4_failed 55 = .ok (.goto 4, 3) := by decide +kernel
theorem dX4_failed_58 : decode cX4_failed 58 = .ok (.iconst 0, 1) := by decide +kernel
theorem dX4_failed_59 : decode cX4_failed 59 = .ok (.ireturn, 1) := by decide +kernel
set_option maxRecDepth 20000 in
theorem ggX4_readSquare_X4_kindBy : GoodIn wsX4_readSquare wsX4_kindBy := goodIn_r _ [7, 8] (by decide +kernel) (by decide +kernel)
set_option maxRecDepth 20000 in
theorem gX4_readSquare_X4_kindBy : GoodIn wsX4_readSquare (va_wsS RX4 120 yX4_kindBy wsX4_kindBy) := goodIn_app (goodIn_of _ (by decide +kernel)) ggX4_readSquare_X4_kindBy
set_option maxRecDepth 20000 in
theorem ggX4_readSquare_X4_bad : GoodIn wsX4_readSquare wsX4_bad := goodIn_r _ [12, 3, 13, 14, 42, 43, 44, 45, 46, 47, 48, 49, 50, 51, 52, 53, 54, 55, 56, 57, 58, 59, 60, 61, 62, 63, 64, 65] (by decide +kernel) (by decide +kernel)
set_option maxRecDepth 20000 in
theorem gX4_readSquare_X4_bad : GoodIn wsX4_readSquare (wsV RX4 106 RX4 yX4_bad wsX4_bad) := goodIn_app (goodIn_of _ (by decide +kernel)) ggX4_readSquare_X4_bad
set_option maxRecDepth 20000 in
theorem ggX4_readSquare_X4_must : GoodIn wsX4_readSquare wsX4_must := goodIn_r _ [18, 3, 9, 10, 11, 6, 12, 13, 14, 19, 20, 21, 22, 23, 24, 25, 8, 1, 26, 27, 28, 29, 30, 31, 32, 33, 42, 43, 44, 45, 46, 47, 48, 49, 50, 51, 52, 53, 54, 55, 56, 57, 58, 59, 60, 61, 62, 63, 64, 65] (by decide +kernel) (by decide +kernel)
set_option maxRecDepth 20000 in
theorem gX4_readSquare_X4_must : GoodIn wsX4_readSquare (wsV RX4 113 RX4 yX4_must wsX4_must) := goodIn_app (goodIn_of _ (by decide +kernel)) ggX4_readSquare_X4_must
set_option maxRecDepth 20000 in
theorem ggX4_readSquare_X4_number : GoodIn wsX4_readSquare wsX4_number := goodIn_r _ [37, 3, 30, 1, 9, 10, 11, 6, 12, 13, 14, 31, 32, 33, 15, 16, 17, 18, 19, 20, 21, 22, 23, 24, 25, 8, 26, 27, 28, 29, 42, 43, 44, 45, 46, 47, 48, 49, 50, 51, 52, 53, 54, 55, 56, 57, 58, 59, 60, 61, 62, 63, 64, 65] (by decide +kernel) (by decide +kernel)
set_option maxRecDepth 20000 in
theorem gX4_readSquare_X4_number : GoodIn wsX4_readSquare (wsV RX4 123 RX4 yX4_number wsX4_number) := goodIn_app (goodIn_of _ (by decide +kernel)) ggX4_readSquare_X4_number
set_option maxRecDepth 20000 in
theorem ggX4_readSquare_X4_mustSign : GoodIn wsX4_readSquare wsX4_mustSign := goodIn_r _ [41, 30, 1, 15, 16, 17, 6, 18, 3, 9, 10, 11, 12, 13, 14, 19, 20, 21, 22, 23, 24, 25, 8, 26, 27, 28, 29, 31, 32, 33, 42, 43, 44, 45, 46, 47, 48, 49, 50, 51, 52, 53, 54, 55, 56, 57, 58, 59, 60, 61, 62, 63, 64, 65] (by decide +kernel) (by decide +kernel)
set_option maxRecDepth 20000 in
theorem gX4_readSquare_X4_mustSign : GoodIn wsX4_readSquare (wsV RX4 127 RX4 yX4_mustSign wsX4_mustSign) := goodIn_app (goodIn_of _ (by decide +kernel)) ggX4_readSquare_X4_mustSign
theorem dX4_readSquare_0 : decode cX4_readSquare 0 = .ok (.aload_n 0, 1) := by decide +kernel
theorem dX4_readSquare_1 : decode cX4_readSquare 1 = .ok (.getfield 92, 3) := by decide +kernel
theorem dX4_readSquare_4 : decode cX4_readSquare 4 = .ok (.invokestatic 120, 3) := by decide +kernel
theorem dX4_readSquare_7 : decode cX4_readSquare 7 = .ok (.istore_n 1, 1) := by decide +kernel
theorem dX4_readSquare_8 : decode cX4_readSquare 8 = .ok (.aload_n 0, 1) := by decide +kernel
theorem dX4_readSquare_9 : decode cX4_readSquare 9 = .ok (.getfield 22, 3) := by decide +kernel
theorem dX4_readSquare_12 : decode cX4_readSquare 12 = .ok (.iconst 2, 1) := by decide +kernel
theorem dX4_readSquare_13 : decode cX4_readSquare 13 = .ok (.iaload, 1) := by decide +kernel
theorem dX4_readSquare_14 : decode cX4_readSquare 14 = .ok (.bipush 8, 2) := by decide +kernel
theorem dX4_readSquare_16 : decode cX4_readSquare 16 = .ok (.if_icmp .ne 8, 3) := by decide +kernel
theorem dX4_readSquare_19 : decode cX4_readSquare 19 = .ok (.aload_n 0, 1) := by decide +kernel
theorem dX4_readSquare_20 : decode cX4_readSquare 20 = .ok (.iconst 3, 1) := by decide +kernel
theorem dX4_readSquare_21 : decode cX4_readSquare 21 = .ok (.invokevirtual 106, 3) := by decide +kernel
theorem dX4_readSquare_24 : decode cX4_readSquare 24 = .ok (.aload_n 0, 1) := by decide +kernel
theorem dX4_readSquare_25 : decode cX4_readSquare 25 = .ok (.iconst 1, 1) := by decide +kernel
theorem dX4_readSquare_26 : decode cX4_readSquare 26 = .ok (.invokevirtual 113, 3) := by decide +kernel
theorem dX4_readSquare_29 : decode cX4_readSquare 29 = .ok (.aload_n 0, 1) := by decide +kernel
theorem dX4_readSquare_30 : decode cX4_readSquare 30 = .ok (.iconst 0, 1) := by decide +kernel
theorem dX4_readSquare_31 : decode cX4_readSquare 31 = .ok (.bipush 9, 2) := by decide +kernel
theorem dX4_readSquare_33 : decode cX4_readSquare 33 = .ok (.invokevirtual 123, 3) := by decide +kernel
theorem dX4_readSquare_36 : decode cX4_readSquare 36 = .ok (.istore_n 2, 1) := by decide +kernel
theorem dX4_readSquare_37 : decode cX4_readSquare 37 = .ok (.aload_n 0, 1) := by decide +kernel
theorem dX4_readSquare_38 : decode cX4_readSquare 38 = .ok (.bipush 59, 2) := by decide +kernel
theorem dX4_readSquare_40 : decode cX4_readSquare 40 = .ok (.invokevirtual 127, 3) := by decide +kernel
theorem dX4_readSquare_43 : decode cX4_readSquare 43 = .ok (.aload_n 0, 1) := by decide +kernel
theorem dX4_readSquare_44 : decode cX4_readSquare 44 = .ok (.getfield 79, 3) := by decide +kernel
theorem dX4_readSquare_47 : decode cX4_readSquare 47 = .ok (.ifCond .ne 47, 3) := by decide +kernel
theorem dX4_readSquare_50 : decode cX4_readSquare 50 = .ok (.aload_n 0, 1) := by decide +kernel
theorem dX4_readSquare_51 : decode cX4_readSquare 51 = .ok (.getfield 22, 3) := by decide +kernel
theorem dX4_readSquare_54 : decode cX4_readSquare 54 = .ok (.iconst 4, 1) := by decide +kernel
theorem dX4_readSquare_55 : decode cX4_readSquare 55 = .ok (.iconst 5, 1) := by decide +kernel
theorem dX4_readSquare_56 : decode cX4_readSquare 56 = .ok (.aload_n 0, 1) := by decide +kernel
theorem dX4_readSquare_57 : decode cX4_readSquare 57 = .ok (.getfield 22, 3) := by decide +kernel
theorem dX4_readSquare_60 : decode cX4_readSquare 60 = .ok (.iconst 2, 1) := by decide +kernel
theorem dX4_readSquare_61 : decode cX4_readSquare 61 = .ok (.iaload, 1) := by decide +kernel
theorem dX4_readSquare_62 : decode cX4_readSquare 62 = .ok (.imul, 1) := by decide +kernel
theorem dX4_readSquare_63 : decode cX4_readSquare 63 = .ok (.iadd, 1) := by decide +kernel
theorem dX4_readSquare_64 : decode cX4_readSquare 64 = .ok (.iload_n 1, 1) := by decide +kernel
theorem dX4_readSquare_65 : decode cX4_readSquare 65 = .ok (.iastore, 1) := by decide +kernel
theorem dX4_readSquare_66 : decode cX4_readSquare 66 = .ok (.aload_n 0, 1) := by decide +kernel
theorem dX4_readSquare_67 : decode cX4_readSquare 67 = .ok (.getfield 22, 3) := by decide +kernel
theorem dX4_readSquare_70 : decode cX4_readSquare 70 = .ok (.iconst 4, 1) := by decide +kernel
theorem dX4_readSquare_71 : decode cX4_readSquare 71 = .ok (.iconst 5, 1) := by decide +kernel
theorem dX4_readSquare_72 : decode cX4_readSquare 72 = .ok (.aload_n 0, 1) := by decide +kernel
theorem dX4_readSquare_73 : decode cX4_readSquare 73 = .ok (.getfield 22, 3) := by decide +kernel
theorem dX4_readSquare_76 : decode cX4_readSquare 76 = .ok (.iconst 2, 1) := by decide +kernel
theorem dX4_readSquare_77 : decode cX4_readSquare 77 = .ok (.iaload, 1) := by decide +kernel
theorem dX4_readSquare_78 : decode cX4_readSquare 78 = .ok (.imul, 1) := by decide +kernel
theorem dX4_readSquare_79 : decode cX4_readSquare 79 = .ok (.iadd, 1) := by decide +kernel
theorem dX4_readSquare_80 : decode cX4_readSquare 80 = .ok (.iconst 1, 1) := by decide +kernel
theorem dX4_readSquare_81 : decode cX4_readSquare 81 = .ok (.iadd, 1) := by decide +kernel
theorem dX4_readSquare_82 : decode cX4_readSquare 82 = .ok (.iload_n 2, 1) := by decide +kernel
theorem dX4_readSquare_83 : decode cX4_readSquare 83 = .ok (.iastore, 1) := by decide +kernel
theorem dX4_readSquare_84 : decode cX4_readSquare 84 = .ok (.aload_n 0, 1) := by decide +kernel
theorem dX4_readSquare_85 : decode cX4_readSquare 85 = .ok (.getfield 22, 3) := by decide +kernel
theorem dX4_readSquare_88 : decode cX4_readSquare 88 = .ok (.iconst 2, 1) := by decide +kernel
theorem dX4_readSquare_89 : decode cX4_readSquare 89 = .ok (.dup2, 1) := by decide +kernel
theorem dX4_readSquare_90 : decode cX4_readSquare 90 = .ok (.iaload, 1) := by decide +kernel
theorem dX4_readSquare_91 : decode cX4_readSquare 91 = .ok (.iconst 1, 1) := by decide +kernel
theorem dX4_readSquare_92 : decode cX4_readSquare 92 = .ok (.iadd, 1) := by decide +kernel
theorem dX4_readSquare_93 : decode cX4_readSquare 93 = .ok (.iastore, 1) := by decide +kernel
theorem dX4_readSquare_94 : decode cX4_readSquare 94 = .ok (.return_, 1) := by decide +kernel
set_option maxRecDepth 20000 in
theorem ggX4_readVisitor_X4_bad : GoodIn wsX4_readVisitor wsX4_bad := goodIn_r _ [7, 2, 8, 9, 43, 44, 45, 46, 47, 48, 49, 50, 51, 52, 53, 54, 55, 56, 57, 58, 59, 60, 61, 62, 63, 64, 65, 66] (by decide +kernel) (by decide +kernel)
set_option maxRecDepth 20000 in
theorem gX4_readVisitor_X4_bad : GoodIn wsX4_readVisitor (wsV RX4 106 RX4 yX4_bad wsX4_bad) := goodIn_app (goodIn_of _ (by decide +kernel)) ggX4_readVisitor_X4_bad
set_option maxRecDepth 20000 in
theorem ggX4_readVisitor_X4_isLetter : GoodIn wsX4_readVisitor wsX4_isLetter := goodIn_r _ [13, 2, 14, 15, 43, 44, 45, 46, 47, 48, 49, 50, 51, 52, 53, 54, 55, 56, 57, 58, 59, 60, 61, 62, 63, 64, 65, 66] (by decide +kernel) (by decide +kernel)
set_option maxRecDepth 20000 in
theorem gX4_readVisitor_X4_isLetter : GoodIn wsX4_readVisitor (wsV RX4 130 RX4 yX4_isLetter wsX4_isLetter) := goodIn_app (goodIn_of _ (by decide +kernel)) ggX4_readVisitor_X4_isLetter
set_option maxRecDepth 20000 in
theorem ggX4_readVisitor_X4_must : GoodIn wsX4_readVisitor wsX4_must := goodIn_r _ [19, 2, 3, 4, 5, 6, 7, 8, 9, 20, 21, 22, 23, 24, 25, 26, 27, 15, 28, 29, 30, 31, 14, 32, 33, 34, 43, 44, 45, 46, 47, 48, 49, 50, 51, 52, 53, 54, 55, 56, 57, 58, 59, 60, 61, 62, 63, 64, 65, 66] (by decide +kernel) (by decide +kernel)
set_option maxRecDepth 20000 in
theorem gX4_readVisitor_X4_must : GoodIn wsX4_readVisitor (wsV RX4 113 RX4 yX4_must wsX4_must) := goodIn_app (goodIn_of _ (by decide +kernel)) ggX4_readVisitor_X4_must
set_option maxRecDepth 20000 in
theorem ggX4_readVisitor_X4_number : GoodIn wsX4_readVisitor wsX4_number := goodIn_r _ [38, 2, 14, 15, 3, 4, 5, 6, 7, 8, 9, 32, 33, 34, 16, 17, 18, 19, 20, 21, 22, 23, 24, 25, 26, 27, 28, 29, 30, 31, 43, 44, 45, 46, 47, 48, 49, 50, 51, 52, 53, 54, 55, 56, 57, 58, 59, 60, 61, 62, 63, 64, 65, 66] (by decide +kernel) (by decide +kernel)
set_option maxRecDepth 20000 in
theorem gX4_readVisitor_X4_number : GoodIn wsX4_readVisitor (wsV RX4 123 RX4 yX4_number wsX4_number) := goodIn_app (goodIn_of _ (by decide +kernel)) ggX4_readVisitor_X4_number
set_option maxRecDepth 20000 in
theorem ggX4_readVisitor_X4_mustSign : GoodIn wsX4_readVisitor wsX4_mustSign := goodIn_r _ [42, 14, 15, 16, 17, 18, 6, 19, 2, 3, 4, 5, 7, 8, 9, 20, 21, 22, 23, 24, 25, 26, 27, 28, 29, 30, 31, 32, 33, 34, 43, 44, 45, 46, 47, 48, 49, 50, 51, 52, 53, 54, 55, 56, 57, 58, 59, 60, 61, 62, 63, 64, 65, 66] (by decide +kernel) (by decide +kernel)
set_option maxRecDepth 20000 in
theorem gX4_readVisitor_X4_mustSign : GoodIn wsX4_readVisitor (wsV RX4 127 RX4 yX4_mustSign wsX4_mustSign) := goodIn_app (goodIn_of _ (by decide +kernel)) ggX4_readVisitor_X4_mustSign
theorem dX4_readVisitor_0 : decode cX4_readVisitor 0 = .ok (.aload_n 0, 1) := by decide +kernel
theorem dX4_readVisitor_1 : decode cX4_readVisitor 1 = .ok (.getfield 22, 3) := by decide +kernel
theorem dX4_readVisitor_4 : decode cX4_readVisitor 4 = .ok (.iconst 3, 1) := by decide +kernel
theorem dX4_readVisitor_5 : decode cX4_readVisitor 5 = .ok (.iaload, 1) := by decide +kernel
theorem dX4_readVisitor_6 : decode cX4_readVisitor 6 = .ok (.iconst 5, 1) := by decide +kernel
theorem dX4_readVisitor_7 : decode cX4_readVisitor 7 = .ok (.if_icmp .ne 8, 3) := by decide +kernel
theorem dX4_readVisitor_10 : decode cX4_readVisitor 10 = .ok (.aload_n 0, 1) := by decide +kernel
theorem dX4_readVisitor_11 : decode cX4_readVisitor 11 = .ok (.iconst 3, 1) := by decide +kernel
theorem dX4_readVisitor_12 : decode cX4_readVisitor 12 = .ok (.invokevirtual 106, 3) := by decide +kernel
theorem dX4_readVisitor_15 : decode cX4_readVisitor 15 = .ok (.aload_n 0, 1) := by decide +kernel
theorem dX4_readVisitor_16 : decode cX4_readVisitor 16 = .ok (.aload_n 0, 1) := by decide +kernel
theorem dX4_readVisitor_17 : decode cX4_readVisitor 17 = .ok (.bipush 118, 2) := by decide +kernel
theorem dX4_readVisitor_19 : decode cX4_readVisitor 19 = .ok (.invokevirtual 130, 3) := by decide +kernel
theorem dX4_readVisitor_22 : decode cX4_readVisitor 22 = .ok (.invokevirtual 113, 3) := by decide +kernel
theorem dX4_readVisitor_25 : decode cX4_readVisitor 25 = .ok (.aload_n 0, 1) := by decide +kernel
theorem dX4_readVisitor_26 : decode cX4_readVisitor 26 = .ok (.iconst 0, 1) := by decide +kernel
theorem dX4_readVisitor_27 : decode cX4_readVisitor 27 = .ok (.bipush 9, 2) := by decide +kernel
theorem dX4_readVisitor_29 : decode cX4_readVisitor 29 = .ok (.invokevirtual 123, 3) := by decide +kernel
theorem dX4_readVisitor_32 : decode cX4_readVisitor 32 = .ok (.istore_n 1, 1) := by decide +kernel
theorem dX4_readVisitor_33 : decode cX4_readVisitor 33 = .ok (.aload_n 0, 1) := by decide +kernel
theorem dX4_readVisitor_34 : decode cX4_readVisitor 34 = .ok (.bipush 44, 2) := by decide +kernel
theorem dX4_readVisitor_36 : decode cX4_readVisitor 36 = .ok (.invokevirtual 127, 3) := by decide +kernel
theorem dX4_readVisitor_39 : decode cX4_readVisitor 39 = .ok (.aload_n 0, 1) := by decide +kernel
theorem dX4_readVisitor_40 : decode cX4_readVisitor 40 = .ok (.iconst 0, 1) := by decide +kernel
theorem dX4_readVisitor_41 : decode cX4_readVisitor 41 = .ok (.bipush 9, 2) := by decide +kernel
theorem dX4_readVisitor_43 : decode cX4_readVisitor 43 = .ok (.invokevirtual 123, 3) := by decide +kernel
theorem dX4_readVisitor_46 : decode cX4_readVisitor 46 = .ok (.istore_n 2, 1) := by decide +kernel
theorem dX4_readVisitor_47 : decode cX4_readVisitor 47 = .ok (.aload_n 0, 1) := by decide +kernel
theorem dX4_readVisitor_48 : decode cX4_readVisitor 48 = .ok (.bipush 59, 2) := by decide +kernel
theorem dX4_readVisitor_50 : decode cX4_readVisitor 50 = .ok (.invokevirtual 127, 3) := by decide +kernel
theorem dX4_readVisitor_53 : decode cX4_readVisitor 53 = .ok (.aload_n 0, 1) := by decide +kernel
theorem dX4_readVisitor_54 : decode cX4_readVisitor 54 = .ok (.getfield 79, 3) := by decide +kernel
theorem dX4_readVisitor_57 : decode cX4_readVisitor 57 = .ok (.ifCond .ne 49, 3) := by decide +kernel
theorem dX4_readVisitor_60 : decode cX4_readVisitor 60 = .ok (.aload_n 0, 1) := by decide +kernel
theorem dX4_readVisitor_61 : decode cX4_readVisitor 61 = .ok (.getfield 22, 3) := by decide +kernel
theorem dX4_readVisitor_64 : decode cX4_readVisitor 64 = .ok (.bipush 44, 2) := by decide +kernel
theorem dX4_readVisitor_66 : decode cX4_readVisitor 66 = .ok (.iconst 4, 1) := by decide +kernel
theorem dX4_readVisitor_67 : decode cX4_readVisitor 67 = .ok (.aload_n 0, 1) := by decide +kernel
theorem dX4_readVisitor_68 : decode cX4_readVisitor 68 = .ok (.getfield 22, 3) := by decide +kernel
theorem dX4_readVisitor_71 : decode cX4_readVisitor 71 = .ok (.iconst 3, 1) := by decide +kernel
theorem dX4_readVisitor_72 : decode cX4_readVisitor 72 = .ok (.iaload, 1) := by decide +kernel
theorem dX4_readVisitor_73 : decode cX4_readVisitor 73 = .ok (.imul, 1) := by decide +kernel
theorem dX4_readVisitor_74 : decode cX4_readVisitor 74 = .ok (.iadd, 1) := by decide +kernel
theorem dX4_readVisitor_75 : decode cX4_readVisitor 75 = .ok (.iload_n 1, 1) := by decide +kernel
theorem dX4_readVisitor_76 : decode cX4_readVisitor 76 = .ok (.iastore, 1) := by decide +kernel
theorem dX4_readVisitor_77 : decode cX4_readVisitor 77 = .ok (.aload_n 0, 1) := by decide +kernel
theorem dX4_readVisitor_78 : decode cX4_readVisitor 78 = .ok (.getfield 22, 3) := by decide +kernel
theorem dX4_readVisitor_81 : decode cX4_readVisitor 81 = .ok (.bipush 44, 2) := by decide +kernel
theorem dX4_readVisitor_83 : decode cX4_readVisitor 83 = .ok (.iconst 4, 1) := by decide +kernel
theorem dX4_readVisitor_84 : decode cX4_readVisitor 84 = .ok (.aload_n 0, 1) := by decide +kernel
theorem dX4_readVisitor_85 : decode cX4_readVisitor 85 = .ok (.getfield 22, 3) := by decide +kernel
theorem dX4_readVisitor_88 : decode cX4_readVisitor 88 = .ok (.iconst 3, 1) := by decide +kernel
theorem dX4_readVisitor_89 : decode cX4_readVisitor 89 = .ok (.iaload, 1) := by decide +kernel
theorem dX4_readVisitor_90 : decode cX4_readVisitor 90 = .ok (.imul, 1) := by decide +kernel
theorem dX4_readVisitor_91 : decode cX4_readVisitor 91 = .ok (.iadd, 1) := by decide +kernel
theorem dX4_readVisitor_92 : decode cX4_readVisitor 92 = .ok (.iconst 1, 1) := by decide +kernel
theorem dX4_readVisitor_93 : decode cX4_readVisitor 93 = .ok (.iadd, 1) := by decide +kernel
theorem dX4_readVisitor_94 : decode cX4_readVisitor 94 = .ok (.iload_n 2, 1) := by decide +kernel
theorem dX4_readVisitor_95 : decode cX4_readVisitor 95 = .ok (.iastore, 1) := by decide +kernel
theorem dX4_readVisitor_96 : decode cX4_readVisitor 96 = .ok (.aload_n 0, 1) := by decide +kernel
theorem dX4_readVisitor_97 : decode cX4_readVisitor 97 = .ok (.getfield 22, 3) := by decide +kernel
theorem dX4_readVisitor_100 : decode cX4_readVisitor 100 = .ok (.iconst 3, 1) := by decide +kernel
theorem dX4_readVisitor_101 : decode cX4_readVisitor 101 = .ok (.dup2, 1) := by decide +kernel
theorem dX4_readVisitor_102 : decode cX4_readVisitor 102 = .ok (.iaload, 1) := by decide +kernel
theorem dX4_readVisitor_103 : decode cX4_readVisitor 103 = .ok (.iconst 1, 1) := by decide +kernel
theorem dX4_readVisitor_104 : decode cX4_readVisitor 104 = .ok (.iadd, 1) := by decide +kernel
theorem dX4_readVisitor_105 : decode cX4_readVisitor 105 = .ok (.iastore, 1) := by decide +kernel
theorem dX4_readVisitor_106 : decode cX4_readVisitor 106 = .ok (.return_, 1) := by decide +kernel
