set_option maxRecDepth 20000 in
theorem ggX2_readInto_X2_readLaw : GoodIn wsX2_readInto wsX2_readLaw := goodIn_r _ [8, 9, 10, 11, 12, 13, 7, 14, 1, 15, 16, 17, 18, 3, 19, 20, 21, 22, 23, 24, 25, 26, 27, 2, 28, 29, 30, 31, 32, 33, 34, 35, 36, 37, 38, 39, 162, 163, 164, 165, 166, 167, 168, 169, 170, 171, 172, 173, 174, 175, 158, 159, 160, 161] (by decide +kernel) (by decide +kernel)
set_option maxRecDepth 20000 in
theorem gX2_readInto_X2_readLaw : GoodIn wsX2_readInto (wsV RX2 25 RX2 yX2_readLaw wsX2_readLaw) := goodIn_app (goodIn_of _ (by decide +kernel)) ggX2_readInto_X2_readLaw
set_option maxRecDepth 20000 in
theorem ggX2_readInto_X2_readSquare : GoodIn wsX2_readInto wsX2_readSquare := goodIn_r _ [43, 44, 2, 45, 46, 47, 7, 48, 1, 20, 15, 16, 17, 18, 3, 19, 21, 22, 23, 49, 50, 51, 52, 53, 54, 55, 56, 57, 58, 59, 60, 61, 62, 63, 64, 65, 66, 67, 68, 69, 70, 71, 72, 73, 74, 75, 76, 77, 78, 79, 80, 81, 82, 83, 84, 85, 86, 87, 88, 89, 90, 91, 92, 93, 94, 95, 96, 97, 98, 99, 100, 101, 102, 103, 104, 105, 106, 107, 108, 109, 110, 111, 112, 113, 114, 115, 116, 117, 118, 119, 120, 121, 122, 123, 124, 125, 126, 127, 128, 129, 130, 131, 132, 133, 134, 135, 136, 137, 24, 25, 26, 27, 28, 29, 30, 31, 32, 33, 34, 35, 36, 37, 38, 39, 11, 12, 13, 14, 138, 139, 140, 141, 142, 143, 144, 145, 162, 163, 164, 165, 166, 167, 168, 169, 170, 171, 172, 173, 174, 175, 158, 159, 160, 161] (by decide +kernel) (by decide +kernel)
set_option maxRecDepth 20000 in
theorem gX2_readInto_X2_readSquare : GoodIn wsX2_readInto (wsV RX2 29 RX2 yX2_readSquare wsX2_readSquare) := goodIn_app (goodIn_of _ (by decide +kernel)) ggX2_readInto_X2_readSquare
set_option maxRecDepth 20000 in
theorem ggX2_readInto_X2_kindHere : GoodIn wsX2_readInto wsX2_kindHere := goodIn_r _ [48, 1, 20, 15, 16, 17, 7, 18, 3, 19, 21, 22, 23, 49, 50, 51, 52, 53, 54, 55, 56, 57, 58, 59, 60, 61, 62, 63, 64, 65, 66, 67, 68, 69, 70, 71, 72, 73, 74, 75, 76, 77, 78, 79, 80, 81, 82, 83, 84, 85, 86, 87, 88, 89, 90, 91, 92, 93, 94, 95, 96, 97, 98, 99, 100, 101, 102, 103, 104, 105, 106, 107, 108, 109, 110, 111, 112, 113, 114, 115, 116, 117, 118, 119, 120, 121, 122, 123, 124, 125, 126, 127, 128, 129, 130, 131, 132, 133, 134, 135, 136, 137, 158, 159, 160, 161] (by decide +kernel) (by decide +kernel)
set_option maxRecDepth 20000 in
theorem gX2_readInto_X2_kindHere : GoodIn wsX2_readInto (wsV RX2 32 RX2 yX2_kindHere wsX2_kindHere) := goodIn_app (goodIn_of _ (by decide +kernel)) ggX2_readInto_X2_kindHere
set_option maxRecDepth 20000 in
theorem ggX2_readInto_X2_readVisitor : GoodIn wsX2_readInto wsX2_readVisitor := goodIn_r _ [149, 1, 150, 2, 15, 16, 17, 7, 18, 3, 19, 20, 21, 22, 23, 24, 25, 26, 27, 28, 29, 30, 31, 32, 33, 34, 35, 36, 37, 38, 39, 11, 12, 13, 14, 151, 152, 153, 141, 154, 155, 156, 157, 158, 159, 160, 161, 162, 163, 164, 165, 166, 167, 168, 169, 170, 171, 172, 173, 174, 175] (by decide +kernel) (by decide +kernel)
set_option maxRecDepth 20000 in
theorem gX2_readInto_X2_readVisitor : GoodIn wsX2_readInto (wsV RX2 36 RX2 yX2_readVisitor wsX2_readVisitor) := goodIn_app (goodIn_of _ (by decide +kernel)) ggX2_readInto_X2_readVisitor
theorem dX2_readInto_0 : decode cX2_readInto 0 = .ok (.aload_n 0, 1) := by decide +kernel
theorem dX2_readInto_1 : decode cX2_readInto 1 = .ok (.iconst 0, 1) := by decide +kernel
theorem dX2_readInto_2 : decode cX2_readInto 2 = .ok (.putfield 19, 3) := by decide +kernel
theorem dX2_readInto_5 : decode cX2_readInto 5 = .ok (.aload_n 0, 1) := by decide +kernel
theorem dX2_readInto_6 : decode cX2_readInto 6 = .ok (.iconst 0, 1) := by decide +kernel
theorem dX2_readInto_7 : decode cX2_readInto 7 = .ok (.putfield 22, 3) := by decide +kernel
theorem dX2_readInto_10 : decode cX2_readInto 10 = .ok (.aload_n 0, 1) := by decide +kernel
theorem dX2_readInto_11 : decode cX2_readInto 11 = .ok (.aload_n 1, 1) := by decide +kernel
theorem dX2_readInto_12 : decode cX2_readInto 12 = .ok (.invokevirtual 25, 3) := by decide +kernel
theorem dX2_readInto_15 : decode cX2_readInto 15 = .ok (.aload_n 0, 1) := by decide +kernel
theorem dX2_readInto_16 : decode cX2_readInto 16 = .ok (.aload_n 1, 1) := by decide +kernel
theorem dX2_readInto_17 : decode cX2_readInto 17 = .ok (.invokevirtual 29, 3) := by decide +kernel
theorem dX2_readInto_20 : decode cX2_readInto 20 = .ok (.iconst 0, 1) := by decide +kernel
theorem dX2_readInto_21 : decode cX2_readInto 21 = .ok (.istore_n 2, 1) := by decide +kernel
theorem dX2_readInto_22 : decode cX2_readInto 22 = .ok (.iload_n 2, 1) := by decide +kernel
theorem dX2_readInto_23 : decode cX2_readInto 23 = .ok (.bipush 8, 2) := by decide +kernel
theorem dX2_readInto_25 : decode cX2_readInto 25 = .ok (.if_icmp .ge 28, 3) := by decide +kernel
theorem dX2_readInto_28 : decode cX2_readInto 28 = .ok (.aload_n 0, 1) := by decide +kernel
theorem dX2_readInto_29 : decode cX2_readInto 29 = .ok (.getfield 22, 3) := by decide +kernel
theorem dX2_readInto_32 : decode cX2_readInto 32 = .ok (.ifCond .ne 21, 3) := by decide +kernel
theorem dX2_readInto_35 : decode cX2_readInto 35 = .ok (.aload_n 0, 1) := by decide +kernel
theorem dX2_readInto_36 : decode cX2_readInto 36 = .ok (.invokevirtual 32, 3) := by decide +kernel
theorem dX2_readInto_39 : decode cX2_readInto 39 = .ok (.ifCond .eq 14, 3) := by decide +kernel
theorem dX2_readInto_42 : decode cX2_readInto 42 = .ok (.aload_n 0, 1) := by decide +kernel
theorem dX2_readInto_43 : decode cX2_readInto 43 = .ok (.aload_n 1, 1) := by decide +kernel
theorem dX2_readInto_44 : decode cX2_readInto 44 = .ok (.invokevirtual 29, 3) := by decide +kernel
theorem dX2_readInto_47 : decode cX2_readInto 47 = .ok (.iinc 2 1, 3) := by decide +kernel
theorem dX2_readInto_50 : decode cX2_readInto 50 = .ok (.goto (-28), 3) := by decide +kernel
theorem dX2_readInto_53 : decode cX2_readInto 53 = .ok (.aload_n 0, 1) := by decide +kernel
theorem dX2_readInto_54 : decode cX2_readInto 54 = .ok (.aload_n 1, 1) := by decide +kernel
theorem dX2_readInto_55 : decode cX2_readInto 55 = .ok (.invokevirtual 36, 3) := by decide +kernel
theorem dX2_readInto_58 : decode cX2_readInto 58 = .ok (.iconst 0, 1) := by decide +kernel
theorem dX2_readInto_59 : decode cX2_readInto 59 = .ok (.istore_n 2, 1) := by decide +kernel
theorem dX2_readInto_60 : decode cX2_readInto 60 = .ok (.iload_n 2, 1) := by decide +kernel
theorem dX2_readInto_61 : decode cX2_readInto 61 = .ok (.iconst 5, 1) := by decide +kernel
theorem dX2_readInto_62 : decode cX2_readInto 62 = .ok (.if_icmp .ge 32, 3) := by decide +kernel
theorem dX2_readInto_65 : decode cX2_readInto 65 = .ok (.aload_n 0, 1) := by decide +kernel
theorem dX2_readInto_66 : decode cX2_readInto 66 = .ok (.getfield 22, 3) := by decide +kernel
theorem dX2_readInto_69 : decode cX2_readInto 69 = .ok (.ifCond .ne 25, 3) := by decide +kernel
theorem dX2_readInto_72 : decode cX2_readInto 72 = .ok (.aload_n 0, 1) := by decide +kernel
theorem dX2_readInto_73 : decode cX2_readInto 73 = .ok (.getfield 19, 3) := by decide +kernel
theorem dX2_readInto_76 : decode cX2_readInto 76 = .ok (.aload_n 0, 1) := by decide +kernel
theorem dX2_readInto_77 : decode cX2_readInto 77 = .ok (.getfield 15, 3) := by decide +kernel
theorem dX2_readInto_80 : decode cX2_readInto 80 = .ok (.if_icmp .ge 14, 3) := by decide +kernel
theorem dX2_readInto_83 : decode cX2_readInto 83 = .ok (.aload_n 0, 1) := by decide +kernel
theorem dX2_readInto_84 : decode cX2_readInto 84 = .ok (.aload_n 1, 1) := by decide +kernel
theorem dX2_readInto_85 : decode cX2_readInto 85 = .ok (.invokevirtual 36, 3) := by decide +kernel
theorem dX2_readInto_88 : decode cX2_readInto 88 = .ok (.iinc 2 1, 3) := by decide +kernel
theorem dX2_readInto_91 : decode cX2_readInto 91 = .ok (.goto (-31), 3) := by decide +kernel
theorem dX2_readInto_94 : decode cX2_readInto 94 = .ok (.aload_n 0, 1) := by decide +kernel
theorem dX2_readInto_95 : decode cX2_readInto 95 = .ok (.getfield 22, 3) := by decide +kernel
theorem dX2_readInto_98 : decode cX2_readInto 98 = .ok (.ireturn, 1) := by decide +kernel
set_option maxRecDepth 20000 in
theorem ggX2_readSquare_X2_kindHere : GoodIn wsX2_readSquare wsX2_kindHere := goodIn_r _ [7, 8, 9, 10, 11, 12, 6, 13, 14, 15, 16, 17, 18, 19, 20, 21, 22, 23, 24, 25, 26, 27, 28, 29, 30, 31, 32, 33, 34, 35, 36, 37, 38, 39, 40, 41, 42, 43, 44, 45, 46, 47, 48, 49, 50, 51, 52, 53, 54, 55, 56, 57, 58, 59, 60, 61, 62, 63, 64, 65, 66, 67, 68, 69, 70, 71, 72, 73, 74, 75, 76, 77, 78, 79, 80, 81, 82, 83, 84, 85, 86, 87, 88, 89, 90, 91, 92, 93, 94, 95, 96, 97, 98, 99, 100, 101, 102, 103, 104, 105, 106, 107, 150, 151, 152, 153] (by decide +kernel) (by decide +kernel)
set_option maxRecDepth 20000 in
theorem gX2_readSquare_X2_kindHere : GoodIn wsX2_readSquare (wsV RX2 32 RX2 yX2_kindHere wsX2_kindHere) := goodIn_app (goodIn_of _ (by decide +kernel)) ggX2_readSquare_X2_kindHere
set_option maxRecDepth 20000 in
theorem ggX2_readSquare_X2_readToken : GoodIn wsX2_readSquare wsX2_readToken := goodIn_r _ [111, 2, 8, 112, 113, 114, 6, 115, 150, 151, 152, 153] (by decide +kernel) (by decide +kernel)
set_option maxRecDepth 20000 in
theorem gX2_readSquare_X2_readToken : GoodIn wsX2_readSquare (wsV RX2 58 RX2 yX2_readToken wsX2_readToken) := goodIn_app (goodIn_of _ (by decide +kernel)) ggX2_readSquare_X2_readToken
set_option maxRecDepth 20000 in
theorem ggX2_readSquare_X2_readNumber : GoodIn wsX2_readSquare wsX2_readNumber := goodIn_r _ [119, 8, 2, 120, 121, 122, 6, 123, 14, 10, 11, 12, 13, 15, 9, 16, 17, 18, 112, 113, 114, 115, 150, 151, 152, 153] (by decide +kernel) (by decide +kernel)
set_option maxRecDepth 20000 in
theorem gX2_readSquare_X2_readNumber : GoodIn wsX2_readSquare (wsV RX2 43 RX2 yX2_readNumber wsX2_readNumber) := goodIn_app (goodIn_of _ (by decide +kernel)) ggX2_readSquare_X2_readNumber
set_option maxRecDepth 20000 in
theorem ggX2_readSquare_X2_readSign : GoodIn wsX2_readSquare wsX2_readSign := goodIn_r _ [127, 8, 10, 11, 12, 6, 13, 14, 15, 9, 16, 17, 18, 108, 109, 110, 111, 2, 112, 113, 114, 115, 150, 151, 152, 153] (by decide +kernel) (by decide +kernel)
set_option maxRecDepth 20000 in
theorem gX2_readSquare_X2_readSign : GoodIn wsX2_readSquare (wsV RX2 39 RX2 yX2_readSign wsX2_readSign) := goodIn_app (goodIn_of _ (by decide +kernel)) ggX2_readSquare_X2_readSign
set_option maxRecDepth 20000 in
theorem ggX2_readSquare_X1_addSquare : GoodIn wsX2_readSquare wsX1_addSquare := goodIn_r _ [132, 133, 134, 135, 136, 137, 138, 139, 140, 141, 142, 143, 144, 145, 146, 147, 148, 149] (by decide +kernel) (by decide +kernel)
set_option maxRecDepth 20000 in
theorem gX2_readSquare_X1_addSquare : GoodIn wsX2_readSquare (wsV RX2 62 RX1 yX1_addSquare wsX1_addSquare) := goodIn_app (goodIn_of _ (by decide +kernel)) ggX2_readSquare_X1_addSquare
theorem dX2_readSquare_0 : decode cX2_readSquare 0 = .ok (.aload_n 0, 1) := by decide +kernel
theorem dX2_readSquare_1 : decode cX2_readSquare 1 = .ok (.invokevirtual 32, 3) := by decide +kernel
theorem dX2_readSquare_4 : decode cX2_readSquare 4 = .ok (.istore_n 2, 1) := by decide +kernel
theorem dX2_readSquare_5 : decode cX2_readSquare 5 = .ok (.aload_n 0, 1) := by decide +kernel
theorem dX2_readSquare_6 : decode cX2_readSquare 6 = .ok (.iload_n 2, 1) := by decide +kernel
theorem dX2_readSquare_7 : decode cX2_readSquare 7 = .ok (.ifCond .eq 7, 3) := by decide +kernel
theorem dX2_readSquare_10 : decode cX2_readSquare 10 = .ok (.iconst 1, 1) := by decide +kernel
theorem dX2_readSquare_11 : decode cX2_readSquare 11 = .ok (.goto 4, 3) := by decide +kernel
theorem dX2_readSquare_14 : decode cX2_readSquare 14 = .ok (.iconst 0, 1) := by decide +kernel
theorem dX2_readSquare_15 : decode cX2_readSquare 15 = .ok (.aload_n 1, 1) := by decide +kernel
theorem dX2_readSquare_16 : decode cX2_readSquare 16 = .ok (.getfield 55, 3) := by decide +kernel
theorem dX2_readSquare_19 : decode cX2_readSquare 19 = .ok (.bipush 8, 2) := by decide +kernel
theorem dX2_readSquare_21 : decode cX2_readSquare 21 = .ok (.if_icmp .ge 7, 3) := by decide +kernel
theorem dX2_readSquare_24 : decode cX2_readSquare 24 = .ok (.iconst 1, 1) := by decide +kernel
theorem dX2_readSquare_25 : decode cX2_readSquare 25 = .ok (.goto 4, 3) := by decide +kernel
theorem dX2_readSquare_28 : decode cX2_readSquare 28 = .ok (.iconst 0, 1) := by decide +kernel
theorem dX2_readSquare_29 : decode cX2_readSquare 29 = .ok (.invokevirtual 58, 3) := by decide +kernel
theorem dX2_readSquare_32 : decode cX2_readSquare 32 = .ok (.aload_n 0, 1) := by decide +kernel
theorem dX2_readSquare_33 : decode cX2_readSquare 33 = .ok (.iconst 0, 1) := by decide +kernel
theorem dX2_readSquare_34 : decode cX2_readSquare 34 = .ok (.bipush 9, 2) := by decide +kernel
theorem dX2_readSquare_36 : decode cX2_readSquare 36 = .ok (.invokevirtual 43, 3) := by decide +kernel
theorem dX2_readSquare_39 : decode cX2_readSquare 39 = .ok (.istore_n 3, 1) := by decide +kernel
theorem dX2_readSquare_40 : decode cX2_readSquare 40 = .ok (.aload_n 0, 1) := by decide +kernel
theorem dX2_readSquare_41 : decode cX2_readSquare 41 = .ok (.bipush 59, 2) := by decide +kernel
theorem dX2_readSquare_43 : decode cX2_readSquare 43 = .ok (.invokevirtual 39, 3) := by decide +kernel
theorem dX2_readSquare_46 : decode cX2_readSquare 46 = .ok (.aload_n 0, 1) := by decide +kernel
theorem dX2_readSquare_47 : decode cX2_readSquare 47 = .ok (.getfield 22, 3) := by decide +kernel
theorem dX2_readSquare_50 : decode cX2_readSquare 50 = .ok (.ifCond .ne 9, 3) := by decide +kernel
theorem dX2_readSquare_53 : decode cX2_readSquare 53 = .ok (.aload_n 1, 1) := by decide +kernel
theorem dX2_readSquare_54 : decode cX2_readSquare 54 = .ok (.iload_n 2, 1) := by decide +kernel
theorem dX2_readSquare_55 : decode cX2_readSquare 55 = .ok (.iload_n 3, 1) := by decide +kernel
theorem dX2_readSquare_56 : decode cX2_readSquare 56 = .ok (.invokevirtual 62, 3) := by decide +kernel
theorem dX2_readSquare_59 : decode cX2_readSquare 59 = .ok (.return_, 1) := by decide +kernel
