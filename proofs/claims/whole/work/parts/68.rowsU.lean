set_option maxRecDepth 20000 in
theorem ggX3_row_X3_isRow : GoodIn wsX3_row wsX3_isRow := goodIn_r _ [9, 10, 11, 8, 12] (by decide +kernel) (by decide +kernel)
set_option maxRecDepth 20000 in
theorem gX3_row_X3_isRow : GoodIn wsX3_row (va_wsS RX3 73 yX3_isRow wsX3_isRow) := goodIn_app (goodIn_of _ (by decide +kernel)) ggX3_row_X3_isRow
set_option maxRecDepth 20000 in
theorem ggX3_row_X3_isIn : GoodIn wsX3_row wsX3_isIn := goodIn_r _ [12] (by decide +kernel) (by decide +kernel)
set_option maxRecDepth 20000 in
theorem gX3_row_X3_isIn : GoodIn wsX3_row (va_wsS RX3 77 yX3_isIn wsX3_isIn) := goodIn_app (goodIn_of _ (by decide +kernel)) ggX3_row_X3_isIn
set_option maxRecDepth 20000 in
theorem ggX3_row_X3_found : GoodIn wsX3_row wsX3_found := goodIn_r _ [16, 2, 17, 22, 23, 24, 25, 26, 27, 28, 29, 30, 31, 32, 33, 34] (by decide +kernel) (by decide +kernel)
set_option maxRecDepth 20000 in
theorem gX3_row_X3_found : GoodIn wsX3_row (wsV RX3 82 RX3 yX3_found wsX3_found) := goodIn_app (goodIn_of _ (by decide +kernel)) ggX3_row_X3_found
set_option maxRecDepth 20000 in
theorem ggX3_row_J7_fill_53178 : GoodIn wsX3_row wsJ7_fill_53178 := goodIn_r _ [21] (by decide +kernel) (by decide +kernel)
set_option maxRecDepth 20000 in
theorem gX3_row_J7_fill_53178 : GoodIn wsX3_row (va_wsS RX3 67 yJ7_fill_53178 wsJ7_fill_53178) := goodIn_app (goodIn_of _ (by decide +kernel)) ggX3_row_J7_fill_53178
theorem dX3_row_0 : decode cX3_row 0 = .ok (.iload_n 1, 1) := by decide +kernel
theorem dX3_row_1 : decode cX3_row 1 = .ok (.invokestatic 73, 3) := by decide +kernel
theorem dX3_row_4 : decode cX3_row 4 = .ok (.ifCond .eq 18, 3) := by decide +kernel
theorem dX3_row_7 : decode cX3_row 7 = .ok (.iload_n 2, 1) := by decide +kernel
theorem dX3_row_8 : decode cX3_row 8 = .ok (.iconst 0, 1) := by decide +kernel
theorem dX3_row_9 : decode cX3_row 9 = .ok (.iconst 2, 1) := by decide +kernel
theorem dX3_row_10 : decode cX3_row 10 = .ok (.invokestatic 77, 3) := by decide +kernel
theorem dX3_row_13 : decode cX3_row 13 = .ok (.ifCond .eq 9, 3) := by decide +kernel
theorem dX3_row_16 : decode cX3_row 16 = .ok (.iload_n 3, 1) := by decide +kernel
theorem dX3_row_17 : decode cX3_row 17 = .ok (.bipush 40, 2) := by decide +kernel
theorem dX3_row_19 : decode cX3_row 19 = .ok (.if_icmp .le 6, 3) := by decide +kernel
theorem dX3_row_22 : decode cX3_row 22 = .ok (.ldc 81, 2) := by decide +kernel
theorem dX3_row_24 : decode cX3_row 24 = .ok (.ireturn, 1) := by decide +kernel
theorem dX3_row_25 : decode cX3_row 25 = .ok (.iload_n 3, 1) := by decide +kernel
theorem dX3_row_26 : decode cX3_row 26 = .ok (.ifCond .ge 9, 3) := by decide +kernel
theorem dX3_row_29 : decode cX3_row 29 = .ok (.aload_n 0, 1) := by decide +kernel
theorem dX3_row_30 : decode cX3_row 30 = .ok (.iconst 4, 1) := by decide +kernel
theorem dX3_row_31 : decode cX3_row 31 = .ok (.invokevirtual 82, 3) := by decide +kernel
theorem dX3_row_34 : decode cX3_row 34 = .ok (.ireturn, 1) := by decide +kernel
theorem dX3_row_35 : decode cX3_row 35 = .ok (.aload_n 0, 1) := by decide +kernel
theorem dX3_row_36 : decode cX3_row 36 = .ok (.iconst 0, 1) := by decide +kernel
theorem dX3_row_37 : decode cX3_row 37 = .ok (.putfield 21, 3) := by decide +kernel
theorem dX3_row_40 : decode cX3_row 40 = .ok (.aload_n 0, 1) := by decide +kernel
theorem dX3_row_41 : decode cX3_row 41 = .ok (.getfield 14, 3) := by decide +kernel
theorem dX3_row_44 : decode cX3_row 44 = .ok (.iload_n 1, 1) := by decide +kernel
theorem dX3_row_45 : decode cX3_row 45 = .ok (.iload_n 2, 1) := by decide +kernel
theorem dX3_row_46 : decode cX3_row 46 = .ok (.iastore, 1) := by decide +kernel
theorem dX3_row_47 : decode cX3_row 47 = .ok (.aload_n 0, 1) := by decide +kernel
theorem dX3_row_48 : decode cX3_row 48 = .ok (.getfield 18, 3) := by decide +kernel
theorem dX3_row_51 : decode cX3_row 51 = .ok (.iload_n 1, 1) := by decide +kernel
theorem dX3_row_52 : decode cX3_row 52 = .ok (.iload_n 3, 1) := by decide +kernel
theorem dX3_row_53 : decode cX3_row 53 = .ok (.iastore, 1) := by decide +kernel
theorem dX3_row_54 : decode cX3_row 54 = .ok (.aload_n 0, 1) := by decide +kernel
theorem dX3_row_55 : decode cX3_row 55 = .ok (.getfield 11, 3) := by decide +kernel
theorem dX3_row_58 : decode cX3_row 58 = .ok (.iload_n 1, 1) := by decide +kernel
theorem dX3_row_59 : decode cX3_row 59 = .ok (.aaload, 1) := by decide +kernel
theorem dX3_row_60 : decode cX3_row 60 = .ok (.iconst 0, 1) := by decide +kernel
theorem dX3_row_61 : decode cX3_row 61 = .ok (.invokestatic 67, 3) := by decide +kernel
theorem dX3_row_64 : decode cX3_row 64 = .ok (.iload_n 3, 1) := by decide +kernel
theorem dX3_row_65 : decode cX3_row 65 = .ok (.ireturn, 1) := by decide +kernel
set_option maxRecDepth 20000 in
theorem ggX3_set_X3_isRow : GoodIn wsX3_set wsX3_isRow := goodIn_r _ [7, 8, 9, 6, 10] (by decide +kernel) (by decide +kernel)
set_option maxRecDepth 20000 in
theorem gX3_set_X3_isRow : GoodIn wsX3_set (va_wsS RX3 73 yX3_isRow wsX3_isRow) := goodIn_app (goodIn_of _ (by decide +kernel)) ggX3_set_X3_isRow
set_option maxRecDepth 20000 in
theorem ggX3_set_X3_lookAt : GoodIn wsX3_set wsX3_lookAt := goodIn_r _ [14, 15, 16, 17, 18, 6, 19, 20, 21, 22, 23, 24, 25, 26, 27, 28, 29, 30, 34, 35, 36, 37, 38, 39, 40, 41, 42, 43, 44, 45, 46] (by decide +kernel) (by decide +kernel)
set_option maxRecDepth 20000 in
theorem gX3_set_X3_lookAt : GoodIn wsX3_set (wsV RX3 86 RX3 yX3_lookAt wsX3_lookAt) := goodIn_app (goodIn_of _ (by decide +kernel)) ggX3_set_X3_lookAt
set_option maxRecDepth 20000 in
theorem ggX3_set_X3_lowestBits : GoodIn wsX3_set wsX3_lowestBits := goodIn_r _ [33] (by decide +kernel) (by decide +kernel)
set_option maxRecDepth 20000 in
theorem gX3_set_X3_lowestBits : GoodIn wsX3_set (va_wsS RX3 90 yX3_lowestBits wsX3_lowestBits) := goodIn_app (goodIn_of _ (by decide +kernel)) ggX3_set_X3_lowestBits
theorem dX3_set_0 : decode cX3_set 0 = .ok (.iload_n 1, 1) := by decide +kernel
theorem dX3_set_1 : decode cX3_set 1 = .ok (.invokestatic 73, 3) := by decide +kernel
theorem dX3_set_4 : decode cX3_set 4 = .ok (.ifCond .ne 6, 3) := by decide +kernel
theorem dX3_set_7 : decode cX3_set 7 = .ok (.ldc 81, 2) := by decide +kernel
theorem dX3_set_9 : decode cX3_set 9 = .ok (.ireturn, 1) := by decide +kernel
theorem dX3_set_10 : decode cX3_set 10 = .ok (.aload_n 0, 1) := by decide +kernel
theorem dX3_set_11 : decode cX3_set 11 = .ok (.iload_n 1, 1) := by decide +kernel
theorem dX3_set_12 : decode cX3_set 12 = .ok (.iload_n 2, 1) := by decide +kernel
theorem dX3_set_13 : decode cX3_set 13 = .ok (.iconst 1, 1) := by decide +kernel
theorem dX3_set_14 : decode cX3_set 14 = .ok (.invokevirtual 86, 3) := by decide +kernel
theorem dX3_set_17 : decode cX3_set 17 = .ok (.istore 4, 2) := by decide +kernel
theorem dX3_set_19 : decode cX3_set 19 = .ok (.iload 4, 2) := by decide +kernel
theorem dX3_set_21 : decode cX3_set 21 = .ok (.ifCond .eq 6, 3) := by decide +kernel
theorem dX3_set_24 : decode cX3_set 24 = .ok (.iload 4, 2) := by decide +kernel
theorem dX3_set_26 : decode cX3_set 26 = .ok (.ireturn, 1) := by decide +kernel
theorem dX3_set_27 : decode cX3_set 27 = .ok (.iload_n 3, 1) := by decide +kernel
theorem dX3_set_28 : decode cX3_set 28 = .ok (.aload_n 0, 1) := by decide +kernel
theorem dX3_set_29 : decode cX3_set 29 = .ok (.getfield 14, 3) := by decide +kernel
theorem dX3_set_32 : decode cX3_set 32 = .ok (.iload_n 1, 1) := by decide +kernel
theorem dX3_set_33 : decode cX3_set 33 = .ok (.iaload, 1) := by decide +kernel
theorem dX3_set_34 : decode cX3_set 34 = .ok (.invokestatic 90, 3) := by decide +kernel
theorem dX3_set_37 : decode cX3_set 37 = .ok (.istore 5, 2) := by decide +kernel
theorem dX3_set_39 : decode cX3_set 39 = .ok (.aload_n 0, 1) := by decide +kernel
theorem dX3_set_40 : decode cX3_set 40 = .ok (.getfield 11, 3) := by decide +kernel
theorem dX3_set_43 : decode cX3_set 43 = .ok (.iload_n 1, 1) := by decide +kernel
theorem dX3_set_44 : decode cX3_set 44 = .ok (.aaload, 1) := by decide +kernel
theorem dX3_set_45 : decode cX3_set 45 = .ok (.iload_n 2, 1) := by decide +kernel
theorem dX3_set_46 : decode cX3_set 46 = .ok (.iload 5, 2) := by decide +kernel
theorem dX3_set_48 : decode cX3_set 48 = .ok (.iastore, 1) := by decide +kernel
theorem dX3_set_49 : decode cX3_set 49 = .ok (.iload 5, 2) := by decide +kernel
theorem dX3_set_51 : decode cX3_set 51 = .ok (.ireturn, 1) := by decide +kernel
set_option maxRecDepth 20000 in
theorem ggX3_door_X1_clear : GoodIn wsX3_door wsX1_clear := goodIn_r _ [14, 15, 16, 17, 18, 19, 20, 21, 22, 23, 24, 25, 26, 27, 28, 218, 219, 220, 221, 222, 223, 224, 225, 226, 227, 228, 229, 230, 231] (by decide +kernel) (by decide +kernel)
set_option maxRecDepth 20000 in
theorem gX3_door_X1_clear : GoodIn wsX3_door (wsV RX3 113 RX1 yX1_clear wsX1_clear) := goodIn_app (goodIn_of _ (by decide +kernel)) ggX3_door_X1_clear
set_option maxRecDepth 20000 in
theorem ggX3_door_X2_readInto : GoodIn wsX3_door wsX2_readInto := goodIn_r _ [33, 34, 35, 36, 37, 38, 39, 32, 40, 41, 42, 43, 44, 45, 46, 47, 48, 49, 50, 51, 52, 53, 54, 55, 56, 57, 58, 59, 60, 61, 62, 63, 64, 65, 66, 67, 68, 69, 70, 71, 72, 73, 74, 75, 76, 77, 78, 79, 80, 81, 82, 83, 84, 85, 86, 87, 88, 89, 90, 91, 92, 93, 94, 95, 96, 97, 98, 99, 100, 101, 102, 103, 104, 105, 106, 107, 108, 109, 110, 111, 112, 113, 114, 115, 116, 117, 118, 119, 120, 121, 122, 123, 124, 125, 126, 127, 128, 129, 130, 131, 132, 133, 134, 135, 136, 137, 138, 139, 140, 141, 142, 143, 144, 145, 146, 147, 148, 149, 150, 151, 152, 153, 154, 155, 156, 157, 158, 159, 160, 161, 162, 163, 164, 165, 166, 167, 168, 169, 170, 171, 172, 13, 173, 17, 174, 175, 176, 177, 178, 179, 180, 181, 182, 183, 184, 18, 185, 186, 214, 215, 216, 217, 218, 219, 220, 221, 222, 223, 224, 225, 226, 227, 228, 229, 230, 231] (by decide +kernel) (by decide +kernel)
set_option maxRecDepth 20000 in
theorem gX3_door_X2_readInto : GoodIn wsX3_door (wsV RX3 116 RX2 yX2_readInto wsX2_readInto) := goodIn_app (goodIn_of _ (by decide +kernel)) ggX3_door_X2_readInto
set_option maxRecDepth 20000 in
theorem ggX3_door_X1_takeFrom : GoodIn wsX3_door wsX1_takeFrom := goodIn_r _ [190, 15, 16, 17, 18, 174, 191, 192, 193, 194, 175, 19, 20, 21, 185, 186, 23, 24, 218, 219, 220, 221, 222, 223, 224, 225, 226, 227, 228, 229, 230, 231] (by decide +kernel) (by decide +kernel)
set_option maxRecDepth 20000 in
theorem gX3_door_X1_takeFrom : GoodIn wsX3_door (wsV RX3 124 RX1 yX1_takeFrom wsX1_takeFrom) := goodIn_app (goodIn_of _ (by decide +kernel)) ggX3_door_X1_takeFrom
set_option maxRecDepth 20000 in
theorem ggX3_door_X0_forgetAll : GoodIn wsX3_door wsX0_forgetAll := goodIn_r _ [199, 200, 232, 233, 234] (by decide +kernel) (by decide +kernel)
set_option maxRecDepth 20000 in
theorem gX3_door_X0_forgetAll : GoodIn wsX3_door (wsV RX3 128 RX0 yX0_forgetAll wsX0_forgetAll) := goodIn_app (goodIn_of _ (by decide +kernel)) ggX3_door_X0_forgetAll
theorem dX3_door_0 : decode cX3_door 0 = .ok (.aload_n 0, 1) := by decide +kernel
theorem dX3_door_1 : decode cX3_door 1 = .ok (.getfield 42, 3) := by decide +kernel
theorem dX3_door_4 : decode cX3_door 4 = .ok (.invokevirtual 113, 3) := by decide +kernel
theorem dX3_door_7 : decode cX3_door 7 = .ok (.aload_n 0, 1) := by decide +kernel
theorem dX3_door_8 : decode cX3_door 8 = .ok (.getfield 28, 3) := by decide +kernel
theorem dX3_door_11 : decode cX3_door 11 = .ok (.aload_n 0, 1) := by decide +kernel
theorem dX3_door_12 : decode cX3_door 12 = .ok (.getfield 42, 3) := by decide +kernel
theorem dX3_door_15 : decode cX3_door 15 = .ok (.invokevirtual 116, 3) := by decide +kernel
theorem dX3_door_18 : decode cX3_door 18 = .ok (.istore_n 1, 1) := by decide +kernel
theorem dX3_door_19 : decode cX3_door 19 = .ok (.aload_n 0, 1) := by decide +kernel
theorem dX3_door_20 : decode cX3_door 20 = .ok (.getfield 28, 3) := by decide +kernel
theorem dX3_door_23 : decode cX3_door 23 = .ok (.iconst 0, 1) := by decide +kernel
theorem dX3_door_24 : decode cX3_door 24 = .ok (.putfield 109, 3) := by decide +kernel
theorem dX3_door_27 : decode cX3_door 27 = .ok (.iload_n 1, 1) := by decide +kernel
theorem dX3_door_28 : decode cX3_door 28 = .ok (.ifCond .eq 19, 3) := by decide +kernel
theorem dX3_door_31 : decode cX3_door 31 = .ok (.aload_n 0, 1) := by decide +kernel
theorem dX3_door_32 : decode cX3_door 32 = .ok (.iload_n 1, 1) := by decide +kernel
theorem dX3_door_33 : decode cX3_door 33 = .ok (.putfield 32, 3) := by decide +kernel
theorem dX3_door_36 : decode cX3_door 36 = .ok (.ldc 120, 2) := by decide +kernel
theorem dX3_door_38 : decode cX3_door 38 = .ok (.aload_n 0, 1) := by decide +kernel
theorem dX3_door_39 : decode cX3_door 39 = .ok (.getfield 28, 3) := by decide +kernel
theorem dX3_door_42 : decode cX3_door 42 = .ok (.getfield 121, 3) := by decide +kernel
theorem dX3_door_45 : decode cX3_door 45 = .ok (.isub, 1) := by decide +kernel
theorem dX3_door_46 : decode cX3_door 46 = .ok (.ireturn, 1) := by decide +kernel
theorem dX3_door_47 : decode cX3_door 47 = .ok (.aload_n 0, 1) := by decide +kernel
theorem dX3_door_48 : decode cX3_door 48 = .ok (.getfield 38, 3) := by decide +kernel
theorem dX3_door_51 : decode cX3_door 51 = .ok (.aload_n 0, 1) := by decide +kernel
theorem dX3_door_52 : decode cX3_door 52 = .ok (.getfield 42, 3) := by decide +kernel
theorem dX3_door_55 : decode cX3_door 55 = .ok (.invokevirtual 124, 3) := by decide +kernel
theorem dX3_door_58 : decode cX3_door 58 = .ok (.aload_n 0, 1) := by decide +kernel
theorem dX3_door_59 : decode cX3_door 59 = .ok (.getfield 48, 3) := by decide +kernel
theorem dX3_door_62 : decode cX3_door 62 = .ok (.invokevirtual 128, 3) := by decide +kernel
theorem dX3_door_65 : decode cX3_door 65 = .ok (.aload_n 0, 1) := by decide +kernel
theorem dX3_door_66 : decode cX3_door 66 = .ok (.getfield 38, 3) := by decide +kernel
theorem dX3_door_69 : decode cX3_door 69 = .ok (.getfield 131, 3) := by decide +kernel
theorem dX3_door_72 : decode cX3_door 72 = .ok (.ireturn, 1) := by decide +kernel
set_option maxRecDepth 20000 in
theorem ggX3_save_X1_isRead : GoodIn wsX3_save wsX1_isRead := goodIn_r _ [8, 9, 10, 100, 101, 102, 103, 104, 105, 106, 107, 108, 109, 110, 111, 112, 113] (by decide +kernel) (by decide +kernel)
set_option maxRecDepth 20000 in
theorem gX3_save_X1_isRead : GoodIn wsX3_save (wsV RX3 154 RX1 yX1_isRead wsX1_isRead) := goodIn_app (goodIn_of _ (by decide +kernel)) ggX3_save_X1_isRead
set_option maxRecDepth 20000 in
theorem ggX3_save_X1_areSquares : GoodIn wsX3_save wsX1_areSquares := goodIn_r _ [14, 15, 16, 17, 7, 18, 9, 19, 20, 21, 100, 101, 102, 103, 104, 105, 106, 107, 108, 109, 110, 111, 112, 113] (by decide +kernel) (by decide +kernel)
set_option maxRecDepth 20000 in
theorem gX3_save_X1_areSquares : GoodIn wsX3_save (wsV RX3 144 RX1 yX1_areSquares wsX1_areSquares) := goodIn_app (goodIn_of _ (by decide +kernel)) ggX3_save_X1_areSquares
set_option maxRecDepth 20000 in
theorem ggX3_save_X3_isIn : GoodIn wsX3_save wsX3_isIn := goodIn_r _ [21] (by decide +kernel) (by decide +kernel)
set_option maxRecDepth 20000 in
theorem gX3_save_X3_isIn : GoodIn wsX3_save (va_wsS RX3 77 yX3_isIn wsX3_isIn) := goodIn_app (goodIn_of _ (by decide +kernel)) ggX3_save_X3_isIn
set_option maxRecDepth 20000 in
theorem ggX3_save_X1_guestBits : GoodIn wsX3_save wsX1_guestBits := goodIn_r _ [26, 27, 28, 29, 7, 30, 10, 31, 32, 33, 34, 35, 36, 37, 38, 39, 9, 40, 41, 42, 43, 44, 20, 45, 46, 47, 48, 49, 50, 51, 52, 53, 54, 55, 56, 57, 58, 59, 60, 61, 62, 63, 64, 65, 66, 67, 68, 69, 70, 71, 72, 73, 74, 75, 76, 77, 100, 101, 102, 103, 104, 105, 106, 107, 108, 109, 110, 111, 112, 113] (by decide +kernel) (by decide +kernel)
set_option maxRecDepth 20000 in
theorem gX3_save_X1_guestBits : GoodIn wsX3_save (wsV RX3 210 RX1 yX1_guestBits wsX1_guestBits) := goodIn_app (goodIn_of _ (by decide +kernel)) ggX3_save_X1_guestBits
set_option maxRecDepth 20000 in
theorem ggX3_save_X1_fewestWithin : GoodIn wsX3_save wsX1_fewestWithin := goodIn_r _ [81, 54, 27, 28, 29, 7, 30, 10, 31, 32, 33, 34, 35, 36, 37, 38, 39, 9, 40, 41, 42, 43, 44, 20, 45, 46, 47, 48, 49, 50, 51, 52, 53, 55, 56, 57, 58, 59, 60, 61, 62, 63, 64, 65, 71, 72, 73, 74, 75, 76, 77, 66, 67, 68, 69, 70, 100, 101, 102, 103, 104, 105, 106, 107, 108, 109, 110, 111, 112, 113] (by decide +kernel) (by decide +kernel)
set_option maxRecDepth 20000 in
theorem gX3_save_X1_fewestWithin : GoodIn wsX3_save (wsV RX3 220 RX1 yX1_fewestWithin wsX1_fewestWithin) := goodIn_app (goodIn_of _ (by decide +kernel)) ggX3_save_X1_fewestWithin
set_option maxRecDepth 20000 in
theorem ggX3_save_X3_sizeOrBits : GoodIn wsX3_save wsX3_sizeOrBits := goodIn_r _ [84, 85, 86, 72, 73, 74, 75, 76, 77] (by decide +kernel) (by decide +kernel)
set_option maxRecDepth 20000 in
theorem gX3_save_X3_sizeOrBits : GoodIn wsX3_save (va_wsS RX3 223 yX3_sizeOrBits wsX3_sizeOrBits) := goodIn_app (goodIn_of _ (by decide +kernel)) ggX3_save_X3_sizeOrBits
theorem dX3_save_0 : decode cX3_save 0 = .ok (.aload_n 0, 1) := by decide +kernel
theorem dX3_save_1 : decode cX3_save 1 = .ok (.getfield 38, 3) := by decide +kernel
theorem dX3_save_4 : decode cX3_save 4 = .ok (.invokevirtual 154, 3) := by decide +kernel
theorem dX3_save_7 : decode cX3_save 7 = .ok (.ifCond .ne 6, 3) := by decide +kernel
theorem dX3_save_10 : decode cX3_save 10 = .ok (.ldc 137, 2) := by decide +kernel
theorem dX3_save_12 : decode cX3_save 12 = .ok (.ireturn, 1) := by decide +kernel
theorem dX3_save_13 : decode cX3_save 13 = .ok (.aload_n 0, 1) := by decide +kernel
theorem dX3_save_14 : decode cX3_save 14 = .ok (.getfield 38, 3) := by decide +kernel
theorem dX3_save_17 : decode cX3_save 17 = .ok (.iload_n 1, 1) := by decide +kernel
theorem dX3_save_18 : decode cX3_save 18 = .ok (.invokevirtual 144, 3) := by decide +kernel
theorem dX3_save_21 : decode cX3_save 21 = .ok (.ifCond .eq 12, 3) := by decide +kernel
theorem dX3_save_24 : decode cX3_save 24 = .ok (.iload_n 2, 1) := by decide +kernel
theorem dX3_save_25 : decode cX3_save 25 = .ok (.iconst 0, 1) := by decide +kernel
theorem dX3_save_26 : decode cX3_save 26 = .ok (.iconst 1, 1) := by decide +kernel
theorem dX3_save_27 : decode cX3_save 27 = .ok (.invokestatic 77, 3) := by decide +kernel
theorem dX3_save_30 : decode cX3_save 30 = .ok (.ifCond .ne 6, 3) := by decide +kernel
theorem dX3_save_33 : decode cX3_save 33 = .ok (.ldc 81, 2) := by decide +kernel
theorem dX3_save_35 : decode cX3_save 35 = .ok (.ireturn, 1) := by decide +kernel
theorem dX3_save_36 : decode cX3_save 36 = .ok (.aload_n 0, 1) := by decide +kernel
theorem dX3_save_37 : decode cX3_save 37 = .ok (.getfield 38, 3) := by decide +kernel
theorem dX3_save_40 : decode cX3_save 40 = .ok (.iload_n 1, 1) := by decide +kernel
theorem dX3_save_41 : decode cX3_save 41 = .ok (.aload_n 0, 1) := by decide +kernel
theorem dX3_save_42 : decode cX3_save 42 = .ok (.getfield 38, 3) := by decide +kernel
theorem dX3_save_45 : decode cX3_save 45 = .ok (.iload_n 1, 1) := by decide +kernel
theorem dX3_save_46 : decode cX3_save 46 = .ok (.invokevirtual 210, 3) := by decide +kernel
theorem dX3_save_49 : decode cX3_save 49 = .ok (.invokevirtual 220, 3) := by decide +kernel
theorem dX3_save_52 : decode cX3_save 52 = .ok (.iload_n 2, 1) := by decide +kernel
theorem dX3_save_53 : decode cX3_save 53 = .ok (.invokestatic 223, 3) := by decide +kernel
theorem dX3_save_56 : decode cX3_save 56 = .ok (.ireturn, 1) := by decide +kernel
set_option maxRecDepth 20000 in
theorem ggX3_ask_X1_isSquare : GoodIn wsX3_ask wsX1_isSquare := goodIn_r _ [9, 10, 11, 12, 13, 79, 80, 81, 82, 83, 84, 85, 86, 87, 88, 89, 90, 91, 92] (by decide +kernel) (by decide +kernel)
set_option maxRecDepth 20000 in
theorem gX3_ask_X1_isSquare : GoodIn wsX3_ask (wsV RX3 161 RX1 yX1_isSquare wsX1_isSquare) := goodIn_app (goodIn_of _ (by decide +kernel)) ggX3_ask_X1_isSquare
set_option maxRecDepth 20000 in
theorem ggX3_ask_X3_isIn : GoodIn wsX3_ask wsX3_isIn := goodIn_r _ [13] (by decide +kernel) (by decide +kernel)
set_option maxRecDepth 20000 in
theorem gX3_ask_X3_isIn : GoodIn wsX3_ask (va_wsS RX3 77 yX3_isIn wsX3_isIn) := goodIn_app (goodIn_of _ (by decide +kernel)) ggX3_ask_X3_isIn
set_option maxRecDepth 20000 in
theorem ggX3_ask_X3_isOfKind : GoodIn wsX3_ask wsX3_isOfKind := goodIn_r _ [17] (by decide +kernel) (by decide +kernel)
set_option maxRecDepth 20000 in
theorem gX3_ask_X3_isOfKind : GoodIn wsX3_ask (va_wsS RX3 289 yX3_isOfKind wsX3_isOfKind) := goodIn_app (goodIn_of _ (by decide +kernel)) ggX3_ask_X3_isOfKind
set_option maxRecDepth 20000 in
theorem ggX3_ask_X3_knownSize : GoodIn wsX3_ask wsX3_knownSize := goodIn_r _ [21, 1, 4, 22, 23, 24, 12, 25, 3, 26, 27, 28, 29, 30, 31, 32, 33, 34, 35, 36, 37, 38, 39, 40, 41, 42, 8, 43, 44, 45, 46, 47, 48, 10, 49, 50, 51, 52, 53, 54, 55, 56, 57, 66, 67, 68, 69, 70, 71, 72, 73, 74, 75, 76, 77, 78, 79, 80, 81, 82, 83, 84, 85, 86, 87, 88, 89, 90, 91, 92] (by decide +kernel) (by decide +kernel)
set_option maxRecDepth 20000 in
theorem gX3_ask_X3_knownSize : GoodIn wsX3_ask (wsV RX3 292 RX3 yX3_knownSize wsX3_knownSize) := goodIn_app (goodIn_of _ (by decide +kernel)) ggX3_ask_X3_knownSize
set_option maxRecDepth 20000 in
theorem ggX3_ask_X3_knownMark : GoodIn wsX3_ask wsX3_knownMark := goodIn_r _ [35, 1, 4, 22, 23, 24, 12, 25, 3, 26, 36, 37, 38, 39, 40, 41, 42, 8, 43, 44, 45, 46, 47, 48, 10, 49, 50, 51, 52, 53, 54, 55, 56, 57, 66, 67, 68, 69, 70, 71, 72, 73, 74, 75, 76, 77, 78, 79, 80, 81, 82, 83, 84, 85, 86, 87, 88, 89, 90, 91, 92] (by decide +kernel) (by decide +kernel)
set_option maxRecDepth 20000 in
theorem gX3_ask_X3_knownMark : GoodIn wsX3_ask (wsV RX3 295 RX3 yX3_knownMark wsX3_knownMark) := goodIn_app (goodIn_of _ (by decide +kernel)) ggX3_ask_X3_knownMark
set_option maxRecDepth 20000 in
theorem ggX3_ask_X3_unknownSize : GoodIn wsX3_ask wsX3_unknownSize := goodIn_r _ [61, 1, 4, 22, 23, 24, 12, 25, 3, 26, 27, 28, 29, 30, 31, 66, 67, 68, 69, 70, 71, 72, 73, 74, 75, 76, 77, 78, 79, 80, 81, 82, 83, 84, 85, 86, 87, 88, 89, 90, 91, 92] (by decide +kernel) (by decide +kernel)
set_option maxRecDepth 20000 in
theorem gX3_ask_X3_unknownSize : GoodIn wsX3_ask (wsV RX3 298 RX3 yX3_unknownSize wsX3_unknownSize) := goodIn_app (goodIn_of _ (by decide +kernel)) ggX3_ask_X3_unknownSize
set_option maxRecDepth 20000 in
theorem ggX3_ask_X3_unknownMark : GoodIn wsX3_ask wsX3_unknownMark := goodIn_r _ [65, 22, 23, 24, 12, 25, 3, 26, 36, 37, 38, 39, 58, 59, 60, 61, 1, 4, 27, 28, 29, 30, 31, 66, 67, 68, 69, 70, 71, 72, 73, 74, 75, 76, 77, 78, 79, 80, 81, 82, 83, 84, 85, 86, 87, 88, 89, 90, 91, 92] (by decide +kernel) (by decide +kernel)
set_option maxRecDepth 20000 in
theorem gX3_ask_X3_unknownMark : GoodIn wsX3_ask (wsV RX3 301 RX3 yX3_unknownMark wsX3_unknownMark) := goodIn_app (goodIn_of _ (by decide +kernel)) ggX3_ask_X3_unknownMark
theorem dX3_ask_0 : decode cX3_ask 0 = .ok (.aload_n 0, 1) := by decide +kernel
theorem dX3_ask_1 : decode cX3_ask 1 = .ok (.getfield 38, 3) := by decide +kernel
theorem dX3_ask_4 : decode cX3_ask 4 = .ok (.iload_n 1, 1) := by decide +kernel
theorem dX3_ask_5 : decode cX3_ask 5 = .ok (.invokevirtual 161, 3) := by decide +kernel
theorem dX3_ask_8 : decode cX3_ask 8 = .ok (.ifCond .eq 12, 3) := by decide +kernel
theorem dX3_ask_11 : decode cX3_ask 11 = .ok (.iload_n 2, 1) := by decide +kernel
theorem dX3_ask_12 : decode cX3_ask 12 = .ok (.iconst 0, 1) := by decide +kernel
theorem dX3_ask_13 : decode cX3_ask 13 = .ok (.iconst 1, 1) := by decide +kernel
theorem dX3_ask_14 : decode cX3_ask 14 = .ok (.invokestatic 77, 3) := by decide +kernel
theorem dX3_ask_17 : decode cX3_ask 17 = .ok (.ifCond .ne 6, 3) := by decide +kernel
theorem dX3_ask_20 : decode cX3_ask 20 = .ok (.ldc 81, 2) := by decide +kernel
theorem dX3_ask_22 : decode cX3_ask 22 = .ok (.ireturn, 1) := by decide +kernel
theorem dX3_ask_23 : decode cX3_ask 23 = .ok (.aload_n 0, 1) := by decide +kernel
theorem dX3_ask_24 : decode cX3_ask 24 = .ok (.iconst 0, 1) := by decide +kernel
theorem dX3_ask_25 : decode cX3_ask 25 = .ok (.putfield 59, 3) := by decide +kernel
theorem dX3_ask_28 : decode cX3_ask 28 = .ok (.aload_n 0, 1) := by decide +kernel
theorem dX3_ask_29 : decode cX3_ask 29 = .ok (.getfield 38, 3) := by decide +kernel
theorem dX3_ask_32 : decode cX3_ask 32 = .ok (.getfield 197, 3) := by decide +kernel
theorem dX3_ask_35 : decode cX3_ask 35 = .ok (.iload_n 1, 1) := by decide +kernel
theorem dX3_ask_36 : decode cX3_ask 36 = .ok (.iaload, 1) := by decide +kernel
theorem dX3_ask_37 : decode cX3_ask 37 = .ok (.iconst 1, 1) := by decide +kernel
theorem dX3_ask_38 : decode cX3_ask 38 = .ok (.invokestatic 289, 3) := by decide +kernel
theorem dX3_ask_41 : decode cX3_ask 41 = .ok (.ifCond .eq 21, 3) := by decide +kernel
theorem dX3_ask_44 : decode cX3_ask 44 = .ok (.iload_n 2, 1) := by decide +kernel
theorem dX3_ask_45 : decode cX3_ask 45 = .ok (.ifCond .ne 11, 3) := by decide +kernel
theorem dX3_ask_48 : decode cX3_ask 48 = .ok (.aload_n 0, 1) := by decide +kernel
theorem dX3_ask_49 : decode cX3_ask 49 = .ok (.iload_n 1, 1) := by decide +kernel
theorem dX3_ask_50 : decode cX3_ask 50 = .ok (.invokevirtual 292, 3) := by decide +kernel
theorem dX3_ask_53 : decode cX3_ask 53 = .ok (.goto 8, 3) := by decide +kernel
theorem dX3_ask_56 : decode cX3_ask 56 = .ok (.aload_n 0, 1) := by decide +kernel
theorem dX3_ask_57 : decode cX3_ask 57 = .ok (.iload_n 1, 1) := by decide +kernel
theorem dX3_ask_58 : decode cX3_ask 58 = .ok (.invokevirtual 295, 3) := by decide +kernel
theorem dX3_ask_61 : decode cX3_ask 61 = .ok (.ireturn, 1) := by decide +kernel
theorem dX3_ask_62 : decode cX3_ask 62 = .ok (.iload_n 2, 1) := by decide +kernel
theorem dX3_ask_63 : decode cX3_ask 63 = .ok (.ifCond .ne 11, 3) := by decide +kernel
theorem dX3_ask_66 : decode cX3_ask 66 = .ok (.aload_n 0, 1) := by decide +kernel
theorem dX3_ask_67 : decode cX3_ask 67 = .ok (.iload_n 1, 1) := by decide +kernel
theorem dX3_ask_68 : decode cX3_ask 68 = .ok (.invokevirtual 298, 3) := by decide +kernel
theorem dX3_ask_71 : decode cX3_ask 71 = .ok (.goto 8, 3) := by decide +kernel
theorem dX3_ask_74 : decode cX3_ask 74 = .ok (.aload_n 0, 1) := by decide +kernel
theorem dX3_ask_75 : decode cX3_ask 75 = .ok (.iload_n 1, 1) := by decide +kernel
theorem dX3_ask_76 : decode cX3_ask 76 = .ok (.invokevirtual 301, 3) := by decide +kernel
theorem dX3_ask_79 : decode cX3_ask 79 = .ok (.ireturn, 1) := by decide +kernel
set_option maxRecDepth 20000 in
theorem ggX3_count_X3_rowsThere : GoodIn wsX3_count wsX3_rowsThere := goodIn_r _ [14, 15, 16, 17, 13, 18, 19, 20, 42, 43, 44, 45, 46, 47, 48, 49, 50, 51, 52, 53, 54] (by decide +kernel) (by decide +kernel)
set_option maxRecDepth 20000 in
theorem gX3_count_X3_rowsThere : GoodIn wsX3_count (wsV RX3 304 RX3 yX3_rowsThere wsX3_rowsThere) := goodIn_app (goodIn_of _ (by decide +kernel)) ggX3_count_X3_rowsThere
set_option maxRecDepth 20000 in
theorem ggX3_count_X1_countedBits : GoodIn wsX3_count wsX1_countedBits := goodIn_r _ [25, 26, 27, 28, 29, 24, 30, 31, 32, 33, 34, 13, 35, 55, 56, 57, 58, 59, 60, 61, 62, 63, 64, 65, 66, 67, 68] (by decide +kernel) (by decide +kernel)
set_option maxRecDepth 20000 in
theorem gX3_count_X1_countedBits : GoodIn wsX3_count (wsV RX3 258 RX1 yX1_countedBits wsX1_countedBits) := goodIn_app (goodIn_of _ (by decide +kernel)) ggX3_count_X1_countedBits
set_option maxRecDepth 20000 in
theorem ggX3_count_X1_allVotes : GoodIn wsX3_count wsX1_allVotes := goodIn_r _ [39, 26, 40, 41, 55, 56, 57, 58, 59, 60, 61, 62, 63, 64, 65, 66, 67, 68] (by decide +kernel) (by decide +kernel)
set_option maxRecDepth 20000 in
theorem gX3_count_X1_allVotes : GoodIn wsX3_count (wsV RX3 286 RX1 yX1_allVotes wsX1_allVotes) := goodIn_app (goodIn_of _ (by decide +kernel)) ggX3_count_X1_allVotes
theorem dX3_count_0 : decode cX3_count 0 = .ok (.iload_n 1, 1) := by decide +kernel
theorem dX3_count_1 : decode cX3_count 1 = .ok (.tableswitch 108 0 7 #[47, 52, 60, 68, 76, 84, 92, 100], 47) := by decide +kernel
theorem dX3_count_48 : decode cX3_count 48 = .ok (.aload_n 0, 1) := by decide +kernel
theorem dX3_count_49 : decode cX3_count 49 = .ok (.invokevirtual 304, 3) := by decide +kernel
theorem dX3_count_52 : decode cX3_count 52 = .ok (.ireturn, 1) := by decide +kernel
theorem dX3_count_53 : decode cX3_count 53 = .ok (.aload_n 0, 1) := by decide +kernel
theorem dX3_count_54 : decode cX3_count 54 = .ok (.getfield 38, 3) := by decide +kernel
theorem dX3_count_57 : decode cX3_count 57 = .ok (.getfield 131, 3) := by decide +kernel
theorem dX3_count_60 : decode cX3_count 60 = .ok (.ireturn, 1) := by decide +kernel
theorem dX3_count_61 : decode cX3_count 61 = .ok (.aload_n 0, 1) := by decide +kernel
theorem dX3_count_62 : decode cX3_count 62 = .ok (.getfield 38, 3) := by decide +kernel
theorem dX3_count_65 : decode cX3_count 65 = .ok (.getfield 246, 3) := by decide +kernel
theorem dX3_count_68 : decode cX3_count 68 = .ok (.ireturn, 1) := by decide +kernel
theorem dX3_count_69 : decode cX3_count 69 = .ok (.aload_n 0, 1) := by decide +kernel
theorem dX3_count_70 : decode cX3_count 70 = .ok (.getfield 38, 3) := by decide +kernel
theorem dX3_count_73 : decode cX3_count 73 = .ok (.getfield 158, 3) := by decide +kernel
theorem dX3_count_76 : decode cX3_count 76 = .ok (.ireturn, 1) := by decide +kernel
theorem dX3_count_77 : decode cX3_count 77 = .ok (.aload_n 0, 1) := by decide +kernel
theorem dX3_count_78 : decode cX3_count 78 = .ok (.getfield 38, 3) := by decide +kernel
theorem dX3_count_81 : decode cX3_count 81 = .ok (.invokevirtual 258, 3) := by decide +kernel
theorem dX3_count_84 : decode cX3_count 84 = .ok (.ireturn, 1) := by decide +kernel
theorem dX3_count_85 : decode cX3_count 85 = .ok (.aload_n 0, 1) := by decide +kernel
theorem dX3_count_86 : decode cX3_count 86 = .ok (.getfield 38, 3) := by decide +kernel
theorem dX3_count_89 : decode cX3_count 89 = .ok (.invokevirtual 286, 3) := by decide +kernel
theorem dX3_count_92 : decode cX3_count 92 = .ok (.ireturn, 1) := by decide +kernel
theorem dX3_count_93 : decode cX3_count 93 = .ok (.aload_n 0, 1) := by decide +kernel
theorem dX3_count_94 : decode cX3_count 94 = .ok (.getfield 48, 3) := by decide +kernel
theorem dX3_count_97 : decode cX3_count 97 = .ok (.getfield 134, 3) := by decide +kernel
theorem dX3_count_100 : decode cX3_count 100 = .ok (.ireturn, 1) := by decide +kernel
theorem dX3_count_101 : decode cX3_count 101 = .ok (.aload_n 0, 1) := by decide +kernel
theorem dX3_count_102 : decode cX3_count 102 = .ok (.getfield 28, 3) := by decide +kernel
theorem dX3_count_105 : decode cX3_count 105 = .ok (.getfield 109, 3) := by decide +kernel
theorem dX3_count_108 : decode cX3_count 108 = .ok (.ireturn, 1) := by decide +kernel
theorem dX3_count_109 : decode cX3_count 109 = .ok (.ldc 81, 2) := by decide +kernel
theorem dX3_count_111 : decode cX3_count 111 = .ok (.ireturn, 1) := by decide +kernel
