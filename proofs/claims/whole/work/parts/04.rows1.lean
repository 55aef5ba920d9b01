set_option maxRecDepth 20000 in
theorem ggX1_settleClosedYears_X1_settleGap : GoodIn wsX1_settleClosedYears wsX1_settleGap := goodIn_r _ [33, 4, 1, 34, 35, 36, 37, 38, 39, 21, 22, 23, 24, 25, 26, 27, 28, 29, 40, 41, 42, 43, 2, 44, 45, 46, 8, 47, 10, 48, 49, 50, 51, 52, 53, 54, 55, 56, 57, 58, 59, 60, 68, 69, 70, 71, 72, 73, 74, 75, 76, 77, 78, 79, 80, 81, 82, 83, 84, 85, 86, 87] (by decide +kernel) (by decide +kernel)
set_option maxRecDepth 20000 in
theorem gX1_settleClosedYears_X1_settleGap : GoodIn wsX1_settleClosedYears (wsV RX1 154 RX1 yX1_settleGap wsX1_settleGap) := goodIn_app (goodIn_of _ (by decide +kernel)) ggX1_settleClosedYears_X1_settleGap
set_option maxRecDepth 20000 in
theorem ggX1_settleClosedYears_X1_settleEnough : GoodIn wsX1_settleClosedYears wsX1_settleEnough := goodIn_r _ [64, 4, 1, 39, 65, 66, 50, 67, 26, 2, 34, 35, 36, 37, 38, 21, 22, 23, 24, 25, 27, 28, 29, 44, 45, 46, 8, 47, 10, 48, 49, 51, 56, 57, 58, 59, 60, 52, 53, 54, 55, 68, 69, 70, 71, 72, 73, 74, 75, 76, 77, 78, 79, 80, 81, 82, 83, 84, 85, 86, 87] (by decide +kernel) (by decide +kernel)
set_option maxRecDepth 20000 in
theorem gX1_settleClosedYears_X1_settleEnough : GoodIn wsX1_settleClosedYears (wsV RX1 157 RX1 yX1_settleEnough wsX1_settleEnough) := goodIn_app (goodIn_of _ (by decide +kernel)) ggX1_settleClosedYears_X1_settleEnough
theorem dX1_settleClosedYears_0 : decode cX1_settleClosedYears 0 = .ok (.aload_n 0, 1) := by decide +kernel
theorem dX1_settleClosedYears_1 : decode cX1_settleClosedYears 1 = .ok (.getfield 44, 3) := by decide +kernel
theorem dX1_settleClosedYears_4 : decode cX1_settleClosedYears 4 = .ok (.invokevirtual 148, 3) := by decide +kernel
theorem dX1_settleClosedYears_7 : decode cX1_settleClosedYears 7 = .ok (.aload_n 0, 1) := by decide +kernel
theorem dX1_settleClosedYears_8 : decode cX1_settleClosedYears 8 = .ok (.getfield 48, 3) := by decide +kernel
theorem dX1_settleClosedYears_11 : decode cX1_settleClosedYears 11 = .ok (.invokevirtual 148, 3) := by decide +kernel
theorem dX1_settleClosedYears_14 : decode cX1_settleClosedYears 14 = .ok (.iconst 0, 1) := by decide +kernel
theorem dX1_settleClosedYears_15 : decode cX1_settleClosedYears 15 = .ok (.istore_n 1, 1) := by decide +kernel
theorem dX1_settleClosedYears_16 : decode cX1_settleClosedYears 16 = .ok (.iload_n 1, 1) := by decide +kernel
theorem dX1_settleClosedYears_17 : decode cX1_settleClosedYears 17 = .ok (.aload_n 0, 1) := by decide +kernel
theorem dX1_settleClosedYears_18 : decode cX1_settleClosedYears 18 = .ok (.getfield 103, 3) := by decide +kernel
theorem dX1_settleClosedYears_21 : decode cX1_settleClosedYears 21 = .ok (.if_icmp .ge 52, 3) := by decide +kernel
theorem dX1_settleClosedYears_24 : decode cX1_settleClosedYears 24 = .ok (.aload_n 0, 1) := by decide +kernel
theorem dX1_settleClosedYears_25 : decode cX1_settleClosedYears 25 = .ok (.getfield 44, 3) := by decide +kernel
theorem dX1_settleClosedYears_28 : decode cX1_settleClosedYears 28 = .ok (.iload_n 1, 1) := by decide +kernel
theorem dX1_settleClosedYears_29 : decode cX1_settleClosedYears 29 = .ok (.invokevirtual 151, 3) := by decide +kernel
theorem dX1_settleClosedYears_32 : decode cX1_settleClosedYears 32 = .ok (.aload_n 0, 1) := by decide +kernel
theorem dX1_settleClosedYears_33 : decode cX1_settleClosedYears 33 = .ok (.getfield 48, 3) := by decide +kernel
theorem dX1_settleClosedYears_36 : decode cX1_settleClosedYears 36 = .ok (.iload_n 1, 1) := by decide +kernel
theorem dX1_settleClosedYears_37 : decode cX1_settleClosedYears 37 = .ok (.invokevirtual 151, 3) := by decide +kernel
theorem dX1_settleClosedYears_40 : decode cX1_settleClosedYears 40 = .ok (.aload_n 0, 1) := by decide +kernel
theorem dX1_settleClosedYears_41 : decode cX1_settleClosedYears 41 = .ok (.getfield 36, 3) := by decide +kernel
theorem dX1_settleClosedYears_44 : decode cX1_settleClosedYears 44 = .ok (.iload_n 1, 1) := by decide +kernel
theorem dX1_settleClosedYears_45 : decode cX1_settleClosedYears 45 = .ok (.iaload, 1) := by decide +kernel
theorem dX1_settleClosedYears_46 : decode cX1_settleClosedYears 46 = .ok (.aload_n 0, 1) := by decide +kernel
theorem dX1_settleClosedYears_47 : decode cX1_settleClosedYears 47 = .ok (.iload_n 1, 1) := by decide +kernel
theorem dX1_settleClosedYears_48 : decode cX1_settleClosedYears 48 = .ok (.invokevirtual 114, 3) := by decide +kernel
theorem dX1_settleClosedYears_51 : decode cX1_settleClosedYears 51 = .ok (.if_icmp .ge 11, 3) := by decide +kernel
theorem dX1_settleClosedYears_54 : decode cX1_settleClosedYears 54 = .ok (.aload_n 0, 1) := by decide +kernel
theorem dX1_settleClosedYears_55 : decode cX1_settleClosedYears 55 = .ok (.iload_n 1, 1) := by decide +kernel
theorem dX1_settleClosedYears_56 : decode cX1_settleClosedYears 56 = .ok (.invokevirtual 154, 3) := by decide +kernel
theorem dX1_settleClosedYears_59 : decode cX1_settleClosedYears 59 = .ok (.goto 8, 3) := by decide +kernel
theorem dX1_settleClosedYears_62 : decode cX1_settleClosedYears 62 = .ok (.aload_n 0, 1) := by decide +kernel
theorem dX1_settleClosedYears_63 : decode cX1_settleClosedYears 63 = .ok (.iload_n 1, 1) := by decide +kernel
theorem dX1_settleClosedYears_64 : decode cX1_settleClosedYears 64 = .ok (.invokevirtual 157, 3) := by decide +kernel
theorem dX1_settleClosedYears_67 : decode cX1_settleClosedYears 67 = .ok (.iinc 1 1, 3) := by decide +kernel
theorem dX1_settleClosedYears_70 : decode cX1_settleClosedYears 70 = .ok (.goto (-54), 3) := by decide +kernel
theorem dX1_settleClosedYears_73 : decode cX1_settleClosedYears 73 = .ok (.return_, 1) := by decide +kernel
set_option maxRecDepth 20000 in
theorem ggX1_settleGap_X1_leastQuantity : GoodIn wsX1_settleGap wsX1_leastQuantity := goodIn_r _ [13, 14, 15, 16, 17, 42, 43, 44, 45, 46, 47, 48, 49, 50, 51, 52, 53, 54, 55, 56, 57, 58] (by decide +kernel) (by decide +kernel)
set_option maxRecDepth 20000 in
theorem gX1_settleGap_X1_leastQuantity : GoodIn wsX1_settleGap (wsV RX1 114 RX1 yX1_leastQuantity wsX1_leastQuantity) := goodIn_app (goodIn_of _ (by decide +kernel)) ggX1_settleGap_X1_leastQuantity
set_option maxRecDepth 20000 in
theorem ggX1_settleGap_X1_drawSurplus : GoodIn wsX1_settleGap wsX1_drawSurplus := goodIn_r _ [21, 22, 23, 24, 25, 26, 27, 28, 29, 30, 31, 32, 42, 43, 44, 45, 46, 47, 48, 49, 50, 51, 52, 53, 54, 55, 56, 57, 58, 59, 60, 61] (by decide +kernel) (by decide +kernel)
set_option maxRecDepth 20000 in
theorem gX1_settleGap_X1_drawSurplus : GoodIn wsX1_settleGap (wsV RX1 160 RX1 yX1_drawSurplus wsX1_drawSurplus) := goodIn_app (goodIn_of _ (by decide +kernel)) ggX1_settleGap_X1_drawSurplus
set_option maxRecDepth 20000 in
theorem ggX1_settleGap_X0_put : GoodIn wsX1_settleGap wsX0_put := goodIn_r _ [36, 28, 59, 60, 61] (by decide +kernel) (by decide +kernel)
set_option maxRecDepth 20000 in
theorem gX1_settleGap_X0_put : GoodIn wsX1_settleGap (wsV RX1 164 RX0 yX0_put wsX0_put) := goodIn_app (goodIn_of _ (by decide +kernel)) ggX1_settleGap_X0_put
set_option maxRecDepth 20000 in
theorem ggX1_settleGap_X1_shortfallPrice : GoodIn wsX1_settleGap wsX1_shortfallPrice := goodIn_r _ [40, 8, 41, 42, 43, 44, 45, 46, 47, 48, 49, 50, 51, 52, 53, 54, 55, 56, 57, 58] (by decide +kernel) (by decide +kernel)
set_option maxRecDepth 20000 in
theorem gX1_settleGap_X1_shortfallPrice : GoodIn wsX1_settleGap (wsV RX1 167 RX1 yX1_shortfallPrice wsX1_shortfallPrice) := goodIn_app (goodIn_of _ (by decide +kernel)) ggX1_settleGap_X1_shortfallPrice
theorem dX1_settleGap_0 : decode cX1_settleGap 0 = .ok (.aload_n 0, 1) := by decide +kernel
theorem dX1_settleGap_1 : decode cX1_settleGap 1 = .ok (.iload_n 1, 1) := by decide +kernel
theorem dX1_settleGap_2 : decode cX1_settleGap 2 = .ok (.invokevirtual 114, 3) := by decide +kernel
theorem dX1_settleGap_5 : decode cX1_settleGap 5 = .ok (.aload_n 0, 1) := by decide +kernel
theorem dX1_settleGap_6 : decode cX1_settleGap 6 = .ok (.getfield 36, 3) := by decide +kernel
theorem dX1_settleGap_9 : decode cX1_settleGap 9 = .ok (.iload_n 1, 1) := by decide +kernel
theorem dX1_settleGap_10 : decode cX1_settleGap 10 = .ok (.iaload, 1) := by decide +kernel
theorem dX1_settleGap_11 : decode cX1_settleGap 11 = .ok (.isub, 1) := by decide +kernel
theorem dX1_settleGap_12 : decode cX1_settleGap 12 = .ok (.istore_n 2, 1) := by decide +kernel
theorem dX1_settleGap_13 : decode cX1_settleGap 13 = .ok (.aload_n 0, 1) := by decide +kernel
theorem dX1_settleGap_14 : decode cX1_settleGap 14 = .ok (.iload_n 1, 1) := by decide +kernel
theorem dX1_settleGap_15 : decode cX1_settleGap 15 = .ok (.iload_n 2, 1) := by decide +kernel
theorem dX1_settleGap_16 : decode cX1_settleGap 16 = .ok (.invokevirtual 160, 3) := by decide +kernel
theorem dX1_settleGap_19 : decode cX1_settleGap 19 = .ok (.istore_n 3, 1) := by decide +kernel
theorem dX1_settleGap_20 : decode cX1_settleGap 20 = .ok (.iload_n 2, 1) := by decide +kernel
theorem dX1_settleGap_21 : decode cX1_settleGap 21 = .ok (.iload_n 3, 1) := by decide +kernel
theorem dX1_settleGap_22 : decode cX1_settleGap 22 = .ok (.isub, 1) := by decide +kernel
theorem dX1_settleGap_23 : decode cX1_settleGap 23 = .ok (.istore 4, 2) := by decide +kernel
theorem dX1_settleGap_25 : decode cX1_settleGap 25 = .ok (.aload_n 0, 1) := by decide +kernel
theorem dX1_settleGap_26 : decode cX1_settleGap 26 = .ok (.getfield 44, 3) := by decide +kernel
theorem dX1_settleGap_29 : decode cX1_settleGap 29 = .ok (.iload_n 1, 1) := by decide +kernel
theorem dX1_settleGap_30 : decode cX1_settleGap 30 = .ok (.iload 4, 2) := by decide +kernel
theorem dX1_settleGap_32 : decode cX1_settleGap 32 = .ok (.invokevirtual 164, 3) := by decide +kernel
theorem dX1_settleGap_35 : decode cX1_settleGap 35 = .ok (.aload_n 0, 1) := by decide +kernel
theorem dX1_settleGap_36 : decode cX1_settleGap 36 = .ok (.getfield 57, 3) := by decide +kernel
theorem dX1_settleGap_39 : decode cX1_settleGap 39 = .ok (.iload_n 1, 1) := by decide +kernel
theorem dX1_settleGap_40 : decode cX1_settleGap 40 = .ok (.iload_n 3, 1) := by decide +kernel
theorem dX1_settleGap_41 : decode cX1_settleGap 41 = .ok (.iastore, 1) := by decide +kernel
theorem dX1_settleGap_42 : decode cX1_settleGap 42 = .ok (.aload_n 0, 1) := by decide +kernel
theorem dX1_settleGap_43 : decode cX1_settleGap 43 = .ok (.getfield 51, 3) := by decide +kernel
theorem dX1_settleGap_46 : decode cX1_settleGap 46 = .ok (.iload_n 1, 1) := by decide +kernel
theorem dX1_settleGap_47 : decode cX1_settleGap 47 = .ok (.iload 4, 2) := by decide +kernel
theorem dX1_settleGap_49 : decode cX1_settleGap 49 = .ok (.iastore, 1) := by decide +kernel
theorem dX1_settleGap_50 : decode cX1_settleGap 50 = .ok (.aload_n 0, 1) := by decide +kernel
theorem dX1_settleGap_51 : decode cX1_settleGap 51 = .ok (.getfield 54, 3) := by decide +kernel
theorem dX1_settleGap_54 : decode cX1_settleGap 54 = .ok (.iload_n 1, 1) := by decide +kernel
theorem dX1_settleGap_55 : decode cX1_settleGap 55 = .ok (.iconst 0, 1) := by decide +kernel
theorem dX1_settleGap_56 : decode cX1_settleGap 56 = .ok (.iastore, 1) := by decide +kernel
theorem dX1_settleGap_57 : decode cX1_settleGap 57 = .ok (.aload_n 0, 1) := by decide +kernel
theorem dX1_settleGap_58 : decode cX1_settleGap 58 = .ok (.getfield 60, 3) := by decide +kernel
theorem dX1_settleGap_61 : decode cX1_settleGap 61 = .ok (.iload_n 1, 1) := by decide +kernel
theorem dX1_settleGap_62 : decode cX1_settleGap 62 = .ok (.iconst 0, 1) := by decide +kernel
theorem dX1_settleGap_63 : decode cX1_settleGap 63 = .ok (.iastore, 1) := by decide +kernel
theorem dX1_settleGap_64 : decode cX1_settleGap 64 = .ok (.aload_n 0, 1) := by decide +kernel
theorem dX1_settleGap_65 : decode cX1_settleGap 65 = .ok (.getfield 63, 3) := by decide +kernel
theorem dX1_settleGap_68 : decode cX1_settleGap 68 = .ok (.iload_n 1, 1) := by decide +kernel
theorem dX1_settleGap_69 : decode cX1_settleGap 69 = .ok (.aload_n 0, 1) := by decide +kernel
theorem dX1_settleGap_70 : decode cX1_settleGap 70 = .ok (.getfield 36, 3) := by decide +kernel
theorem dX1_settleGap_73 : decode cX1_settleGap 73 = .ok (.iload_n 1, 1) := by decide +kernel
theorem dX1_settleGap_74 : decode cX1_settleGap 74 = .ok (.iaload, 1) := by decide +kernel
theorem dX1_settleGap_75 : decode cX1_settleGap 75 = .ok (.i2l, 1) := by decide +kernel
theorem dX1_settleGap_76 : decode cX1_settleGap 76 = .ok (.aload_n 0, 1) := by decide +kernel
theorem dX1_settleGap_77 : decode cX1_settleGap 77 = .ok (.getfield 20, 3) := by decide +kernel
theorem dX1_settleGap_80 : decode cX1_settleGap 80 = .ok (.iload_n 1, 1) := by decide +kernel
theorem dX1_settleGap_81 : decode cX1_settleGap 81 = .ok (.iaload, 1) := by decide +kernel
theorem dX1_settleGap_82 : decode cX1_settleGap 82 = .ok (.i2l, 1) := by decide +kernel
theorem dX1_settleGap_83 : decode cX1_settleGap 83 = .ok (.lmul, 1) := by decide +kernel
theorem dX1_settleGap_84 : decode cX1_settleGap 84 = .ok (.iload 4, 2) := by decide +kernel
theorem dX1_settleGap_86 : decode cX1_settleGap 86 = .ok (.i2l, 1) := by decide +kernel
theorem dX1_settleGap_87 : decode cX1_settleGap 87 = .ok (.aload_n 0, 1) := by decide +kernel
theorem dX1_settleGap_88 : decode cX1_settleGap 88 = .ok (.iload_n 1, 1) := by decide +kernel
theorem dX1_settleGap_89 : decode cX1_settleGap 89 = .ok (.invokevirtual 167, 3) := by decide +kernel
theorem dX1_settleGap_92 : decode cX1_settleGap 92 = .ok (.i2l, 1) := by decide +kernel
theorem dX1_settleGap_93 : decode cX1_settleGap 93 = .ok (.lmul, 1) := by decide +kernel
theorem dX1_settleGap_94 : decode cX1_settleGap 94 = .ok (.ladd, 1) := by decide +kernel
theorem dX1_settleGap_95 : decode cX1_settleGap 95 = .ok (.lastore, 1) := by decide +kernel
theorem dX1_settleGap_96 : decode cX1_settleGap 96 = .ok (.return_, 1) := by decide +kernel
set_option maxRecDepth 20000 in
theorem ggX1_drawSurplus_X0_drawFrom : GoodIn wsX1_drawSurplus wsX0_drawFrom := goodIn_r _ [6, 7, 8, 9, 10, 11, 29, 30, 31] (by decide +kernel) (by decide +kernel)
set_option maxRecDepth 20000 in
theorem gX1_drawSurplus_X0_drawFrom : GoodIn wsX1_drawSurplus (wsV RX1 170 RX0 yX0_drawFrom wsX0_drawFrom) := goodIn_app (goodIn_of _ (by decide +kernel)) ggX1_drawSurplus_X0_drawFrom
theorem dX1_drawSurplus_0 : decode cX1_drawSurplus 0 = .ok (.iconst 0, 1) := by decide +kernel
theorem dX1_drawSurplus_1 : decode cX1_drawSurplus 1 = .ok (.istore_n 3, 1) := by decide +kernel
theorem dX1_drawSurplus_2 : decode cX1_drawSurplus 2 = .ok (.iconst 0, 1) := by decide +kernel
theorem dX1_drawSurplus_3 : decode cX1_drawSurplus 3 = .ok (.istore 4, 2) := by decide +kernel
theorem dX1_drawSurplus_5 : decode cX1_drawSurplus 5 = .ok (.iload 4, 2) := by decide +kernel
theorem dX1_drawSurplus_7 : decode cX1_drawSurplus 7 = .ok (.iload_n 1, 1) := by decide +kernel
theorem dX1_drawSurplus_8 : decode cX1_drawSurplus 8 = .ok (.if_icmp .ge 24, 3) := by decide +kernel
theorem dX1_drawSurplus_11 : decode cX1_drawSurplus 11 = .ok (.iload_n 3, 1) := by decide +kernel
theorem dX1_drawSurplus_12 : decode cX1_drawSurplus 12 = .ok (.aload_n 0, 1) := by decide +kernel
theorem dX1_drawSurplus_13 : decode cX1_drawSurplus 13 = .ok (.getfield 48, 3) := by decide +kernel
theorem dX1_drawSurplus_16 : decode cX1_drawSurplus 16 = .ok (.iload 4, 2) := by decide +kernel
theorem dX1_drawSurplus_18 : decode cX1_drawSurplus 18 = .ok (.iload_n 2, 1) := by decide +kernel
theorem dX1_drawSurplus_19 : decode cX1_drawSurplus 19 = .ok (.iload_n 3, 1) := by decide +kernel
theorem dX1_drawSurplus_20 : decode cX1_drawSurplus 20 = .ok (.isub, 1) := by decide +kernel
theorem dX1_drawSurplus_21 : decode cX1_drawSurplus 21 = .ok (.invokevirtual 170, 3) := by decide +kernel
theorem dX1_drawSurplus_24 : decode cX1_drawSurplus 24 = .ok (.iadd, 1) := by decide +kernel
theorem dX1_drawSurplus_25 : decode cX1_drawSurplus 25 = .ok (.istore_n 3, 1) := by decide +kernel
theorem dX1_drawSurplus_26 : decode cX1_drawSurplus 26 = .ok (.iinc 4 1, 3) := by decide +kernel
theorem dX1_drawSurplus_29 : decode cX1_drawSurplus 29 = .ok (.goto (-24), 3) := by decide +kernel
theorem dX1_drawSurplus_32 : decode cX1_drawSurplus 32 = .ok (.iload_n 3, 1) := by decide +kernel
theorem dX1_drawSurplus_33 : decode cX1_drawSurplus 33 = .ok (.ireturn, 1) := by decide +kernel
set_option maxRecDepth 20000 in
theorem ggX1_settleEnough_X1_leastQuantity : GoodIn wsX1_settleEnough wsX1_leastQuantity := goodIn_r _ [19, 8, 20, 21, 22, 41, 42, 43, 44, 45, 46, 47, 48, 49, 50, 51, 52, 53, 54, 55, 56, 57] (by decide +kernel) (by decide +kernel)
set_option maxRecDepth 20000 in
theorem gX1_settleEnough_X1_leastQuantity : GoodIn wsX1_settleEnough (wsV RX1 114 RX1 yX1_leastQuantity wsX1_leastQuantity) := goodIn_app (goodIn_of _ (by decide +kernel)) ggX1_settleEnough_X1_leastQuantity
set_option maxRecDepth 20000 in
theorem ggX1_settleEnough_X0_drawFrom : GoodIn wsX1_settleEnough wsX0_drawFrom := goodIn_r _ [27, 28, 29, 30, 6, 31, 58, 59, 60] (by decide +kernel) (by decide +kernel)
set_option maxRecDepth 20000 in
theorem gX1_settleEnough_X0_drawFrom : GoodIn wsX1_settleEnough (wsV RX1 170 RX0 yX0_drawFrom wsX0_drawFrom) := goodIn_app (goodIn_of _ (by decide +kernel)) ggX1_settleEnough_X0_drawFrom
set_option maxRecDepth 20000 in
theorem ggX1_settleEnough_X1_shortfallPrice : GoodIn wsX1_settleEnough wsX1_shortfallPrice := goodIn_r _ [35, 3, 36, 41, 42, 43, 44, 45, 46, 47, 48, 49, 50, 51, 52, 53, 54, 55, 56, 57] (by decide +kernel) (by decide +kernel)
set_option maxRecDepth 20000 in
theorem gX1_settleEnough_X1_shortfallPrice : GoodIn wsX1_settleEnough (wsV RX1 167 RX1 yX1_shortfallPrice wsX1_shortfallPrice) := goodIn_app (goodIn_of _ (by decide +kernel)) ggX1_settleEnough_X1_shortfallPrice
set_option maxRecDepth 20000 in
theorem ggX1_settleEnough_X0_put : GoodIn wsX1_settleEnough wsX0_put := goodIn_r _ [40, 28, 58, 59, 60] (by decide +kernel) (by decide +kernel)
set_option maxRecDepth 20000 in
theorem gX1_settleEnough_X0_put : GoodIn wsX1_settleEnough (wsV RX1 164 RX0 yX0_put wsX0_put) := goodIn_app (goodIn_of _ (by decide +kernel)) ggX1_settleEnough_X0_put
theorem dX1_settleEnough_0 : decode cX1_settleEnough 0 = .ok (.aload_n 0, 1) := by decide +kernel
theorem dX1_settleEnough_1 : decode cX1_settleEnough 1 = .ok (.getfield 36, 3) := by decide +kernel
theorem dX1_settleEnough_4 : decode cX1_settleEnough 4 = .ok (.iload_n 1, 1) := by decide +kernel
theorem dX1_settleEnough_5 : decode cX1_settleEnough 5 = .ok (.iaload, 1) := by decide +kernel
theorem dX1_settleEnough_6 : decode cX1_settleEnough 6 = .ok (.aload_n 0, 1) := by decide +kernel
theorem dX1_settleEnough_7 : decode cX1_settleEnough 7 = .ok (.iload_n 1, 1) := by decide +kernel
theorem dX1_settleEnough_8 : decode cX1_settleEnough 8 = .ok (.invokevirtual 114, 3) := by decide +kernel
theorem dX1_settleEnough_11 : decode cX1_settleEnough 11 = .ok (.isub, 1) := by decide +kernel
theorem dX1_settleEnough_12 : decode cX1_settleEnough 12 = .ok (.istore_n 2, 1) := by decide +kernel
theorem dX1_settleEnough_13 : decode cX1_settleEnough 13 = .ok (.iconst 0, 1) := by decide +kernel
theorem dX1_settleEnough_14 : decode cX1_settleEnough 14 = .ok (.istore_n 3, 1) := by decide +kernel
theorem dX1_settleEnough_15 : decode cX1_settleEnough 15 = .ok (.lconst 0, 1) := by decide +kernel
theorem dX1_settleEnough_16 : decode cX1_settleEnough 16 = .ok (.lstore 4, 2) := by decide +kernel
theorem dX1_settleEnough_18 : decode cX1_settleEnough 18 = .ok (.iconst 0, 1) := by decide +kernel
theorem dX1_settleEnough_19 : decode cX1_settleEnough 19 = .ok (.istore 6, 2) := by decide +kernel
theorem dX1_settleEnough_21 : decode cX1_settleEnough 21 = .ok (.iload 6, 2) := by decide +kernel
theorem dX1_settleEnough_23 : decode cX1_settleEnough 23 = .ok (.iload_n 1, 1) := by decide +kernel
theorem dX1_settleEnough_24 : decode cX1_settleEnough 24 = .ok (.if_icmp .ge 55, 3) := by decide +kernel
theorem dX1_settleEnough_27 : decode cX1_settleEnough 27 = .ok (.aload_n 0, 1) := by decide +kernel
theorem dX1_settleEnough_28 : decode cX1_settleEnough 28 = .ok (.getfield 44, 3) := by decide +kernel
theorem dX1_settleEnough_31 : decode cX1_settleEnough 31 = .ok (.iload 6, 2) := by decide +kernel
theorem dX1_settleEnough_33 : decode cX1_settleEnough 33 = .ok (.iload_n 2, 1) := by decide +kernel
theorem dX1_settleEnough_34 : decode cX1_settleEnough 34 = .ok (.iload_n 3, 1) := by decide +kernel
theorem dX1_settleEnough_35 : decode cX1_settleEnough 35 = .ok (.isub, 1) := by decide +kernel
theorem dX1_settleEnough_36 : decode cX1_settleEnough 36 = .ok (.invokevirtual 170, 3) := by decide +kernel
theorem dX1_settleEnough_39 : decode cX1_settleEnough 39 = .ok (.istore 7, 2) := by decide +kernel
theorem dX1_settleEnough_41 : decode cX1_settleEnough 41 = .ok (.iload_n 3, 1) := by decide +kernel
theorem dX1_settleEnough_42 : decode cX1_settleEnough 42 = .ok (.iload 7, 2) := by decide +kernel
theorem dX1_settleEnough_44 : decode cX1_settleEnough 44 = .ok (.iadd, 1) := by decide +kernel
theorem dX1_settleEnough_45 : decode cX1_settleEnough 45 = .ok (.istore_n 3, 1) := by decide +kernel
theorem dX1_settleEnough_46 : decode cX1_settleEnough 46 = .ok (.lload 4, 2) := by decide +kernel
theorem dX1_settleEnough_48 : decode cX1_settleEnough 48 = .ok (.iload 7, 2) := by decide +kernel
theorem dX1_settleEnough_50 : decode cX1_settleEnough 50 = .ok (.i2l, 1) := by decide +kernel
theorem dX1_settleEnough_51 : decode cX1_settleEnough 51 = .ok (.iconst 0, 1) := by decide +kernel
theorem dX1_settleEnough_52 : decode cX1_settleEnough 52 = .ok (.aload_n 0, 1) := by decide +kernel
theorem dX1_settleEnough_53 : decode cX1_settleEnough 53 = .ok (.getfield 20, 3) := by decide +kernel
theorem dX1_settleEnough_56 : decode cX1_settleEnough 56 = .ok (.iload_n 1, 1) := by decide +kernel
theorem dX1_settleEnough_57 : decode cX1_settleEnough 57 = .ok (.iaload, 1) := by decide +kernel
theorem dX1_settleEnough_58 : decode cX1_settleEnough 58 = .ok (.aload_n 0, 1) := by decide +kernel
theorem dX1_settleEnough_59 : decode cX1_settleEnough 59 = .ok (.iload 6, 2) := by decide +kernel
theorem dX1_settleEnough_61 : decode cX1_settleEnough 61 = .ok (.invokevirtual 167, 3) := by decide +kernel
theorem dX1_settleEnough_64 : decode cX1_settleEnough 64 = .ok (.isub, 1) := by decide +kernel
theorem dX1_settleEnough_65 : decode cX1_settleEnough 65 = .ok (.invokestatic 173, 3) := by decide +kernel
theorem dX1_settleEnough_68 : decode cX1_settleEnough 68 = .ok (.i2l, 1) := by decide +kernel
theorem dX1_settleEnough_69 : decode cX1_settleEnough 69 = .ok (.lmul, 1) := by decide +kernel
theorem dX1_settleEnough_70 : decode cX1_settleEnough 70 = .ok (.ladd, 1) := by decide +kernel
theorem dX1_settleEnough_71 : decode cX1_settleEnough 71 = .ok (.lstore 4, 2) := by decide +kernel
theorem dX1_settleEnough_73 : decode cX1_settleEnough 73 = .ok (.iinc 6 1, 3) := by decide +kernel
theorem dX1_settleEnough_76 : decode cX1_settleEnough 76 = .ok (.goto (-55), 3) := by decide +kernel
theorem dX1_settleEnough_79 : decode cX1_settleEnough 79 = .ok (.aload_n 0, 1) := by decide +kernel
theorem dX1_settleEnough_80 : decode cX1_settleEnough 80 = .ok (.getfield 36, 3) := by decide +kernel
theorem dX1_settleEnough_83 : decode cX1_settleEnough 83 = .ok (.iload_n 1, 1) := by decide +kernel
theorem dX1_settleEnough_84 : decode cX1_settleEnough 84 = .ok (.iaload, 1) := by decide +kernel
theorem dX1_settleEnough_85 : decode cX1_settleEnough 85 = .ok (.iload_n 3, 1) := by decide +kernel
theorem dX1_settleEnough_86 : decode cX1_settleEnough 86 = .ok (.isub, 1) := by decide +kernel
theorem dX1_settleEnough_87 : decode cX1_settleEnough 87 = .ok (.istore 6, 2) := by decide +kernel
theorem dX1_settleEnough_89 : decode cX1_settleEnough 89 = .ok (.iconst 0, 1) := by decide +kernel
theorem dX1_settleEnough_90 : decode cX1_settleEnough 90 = .ok (.iload 6, 2) := by decide +kernel
theorem dX1_settleEnough_92 : decode cX1_settleEnough 92 = .ok (.aload_n 0, 1) := by decide +kernel
theorem dX1_settleEnough_93 : decode cX1_settleEnough 93 = .ok (.getfield 10, 3) := by decide +kernel
theorem dX1_settleEnough_96 : decode cX1_settleEnough 96 = .ok (.isub, 1) := by decide +kernel
theorem dX1_settleEnough_97 : decode cX1_settleEnough 97 = .ok (.invokestatic 173, 3) := by decide +kernel
theorem dX1_settleEnough_100 : decode cX1_settleEnough 100 = .ok (.istore 7, 2) := by decide +kernel
theorem dX1_settleEnough_102 : decode cX1_settleEnough 102 = .ok (.aload_n 0, 1) := by decide +kernel
theorem dX1_settleEnough_103 : decode cX1_settleEnough 103 = .ok (.getfield 48, 3) := by decide +kernel
theorem dX1_settleEnough_106 : decode cX1_settleEnough 106 = .ok (.iload_n 1, 1) := by decide +kernel
theorem dX1_settleEnough_107 : decode cX1_settleEnough 107 = .ok (.iload 7, 2) := by decide +kernel
theorem dX1_settleEnough_109 : decode cX1_settleEnough 109 = .ok (.invokevirtual 164, 3) := by decide +kernel
theorem dX1_settleEnough_112 : decode cX1_settleEnough 112 = .ok (.aload_n 0, 1) := by decide +kernel
theorem dX1_settleEnough_113 : decode cX1_settleEnough 113 = .ok (.getfield 57, 3) := by decide +kernel
theorem dX1_settleEnough_116 : decode cX1_settleEnough 116 = .ok (.iload_n 1, 1) := by decide +kernel
theorem dX1_settleEnough_117 : decode cX1_settleEnough 117 = .ok (.iconst 0, 1) := by decide +kernel
theorem dX1_settleEnough_118 : decode cX1_settleEnough 118 = .ok (.iastore, 1) := by decide +kernel
theorem dX1_settleEnough_119 : decode cX1_settleEnough 119 = .ok (.aload_n 0, 1) := by decide +kernel
theorem dX1_settleEnough_120 : decode cX1_settleEnough 120 = .ok (.getfield 51, 3) := by decide +kernel
theorem dX1_settleEnough_123 : decode cX1_settleEnough 123 = .ok (.iload_n 1, 1) := by decide +kernel
theorem dX1_settleEnough_124 : decode cX1_settleEnough 124 = .ok (.iconst 0, 1) := by decide +kernel
theorem dX1_settleEnough_125 : decode cX1_settleEnough 125 = .ok (.iastore, 1) := by decide +kernel
theorem dX1_settleEnough_126 : decode cX1_settleEnough 126 = .ok (.aload_n 0, 1) := by decide +kernel
theorem dX1_settleEnough_127 : decode cX1_settleEnough 127 = .ok (.getfield 54, 3) := by decide +kernel
theorem dX1_settleEnough_130 : decode cX1_settleEnough 130 = .ok (.iload_n 1, 1) := by decide +kernel
theorem dX1_settleEnough_131 : decode cX1_settleEnough 131 = .ok (.iload_n 3, 1) := by decide +kernel
theorem dX1_settleEnough_132 : decode cX1_settleEnough 132 = .ok (.iastore, 1) := by decide +kernel
theorem dX1_settleEnough_133 : decode cX1_settleEnough 133 = .ok (.aload_n 0, 1) := by decide +kernel
theorem dX1_settleEnough_134 : decode cX1_settleEnough 134 = .ok (.getfield 60, 3) := by decide +kernel
theorem dX1_settleEnough_137 : decode cX1_settleEnough 137 = .ok (.iload_n 1, 1) := by decide +kernel
theorem dX1_settleEnough_138 : decode cX1_settleEnough 138 = .ok (.iload 7, 2) := by decide +kernel
theorem dX1_settleEnough_140 : decode cX1_settleEnough 140 = .ok (.iastore, 1) := by decide +kernel
theorem dX1_settleEnough_141 : decode cX1_settleEnough 141 = .ok (.aload_n 0, 1) := by decide +kernel
theorem dX1_settleEnough_142 : decode cX1_settleEnough 142 = .ok (.getfield 63, 3) := by decide +kernel
theorem dX1_settleEnough_145 : decode cX1_settleEnough 145 = .ok (.iload_n 1, 1) := by decide +kernel
theorem dX1_settleEnough_146 : decode cX1_settleEnough 146 = .ok (.iload 6, 2) := by decide +kernel
theorem dX1_settleEnough_148 : decode cX1_settleEnough 148 = .ok (.i2l, 1) := by decide +kernel
theorem dX1_settleEnough_149 : decode cX1_settleEnough 149 = .ok (.aload_n 0, 1) := by decide +kernel
theorem dX1_settleEnough_150 : decode cX1_settleEnough 150 = .ok (.getfield 20, 3) := by decide +kernel
theorem dX1_settleEnough_153 : decode cX1_settleEnough 153 = .ok (.iload_n 1, 1) := by decide +kernel
theorem dX1_settleEnough_154 : decode cX1_settleEnough 154 = .ok (.iaload, 1) := by decide +kernel
theorem dX1_settleEnough_155 : decode cX1_settleEnough 155 = .ok (.i2l, 1) := by decide +kernel
theorem dX1_settleEnough_156 : decode cX1_settleEnough 156 = .ok (.lmul, 1) := by decide +kernel
theorem dX1_settleEnough_157 : decode cX1_settleEnough 157 = .ok (.lload 4, 2) := by decide +kernel
theorem dX1_settleEnough_159 : decode cX1_settleEnough 159 = .ok (.ladd, 1) := by decide +kernel
theorem dX1_settleEnough_160 : decode cX1_settleEnough 160 = .ok (.lastore, 1) := by decide +kernel
theorem dX1_settleEnough_161 : decode cX1_settleEnough 161 = .ok (.return_, 1) := by decide +kernel
theorem dX1_dueInAll_0 : decode cX1_dueInAll 0 = .ok (.lconst 0, 1) := by decide +kernel
theorem dX1_dueInAll_1 : decode cX1_dueInAll 1 = .ok (.lstore_n 1, 1) := by decide +kernel
theorem dX1_dueInAll_2 : decode cX1_dueInAll 2 = .ok (.iconst 0, 1) := by decide +kernel
theorem dX1_dueInAll_3 : decode cX1_dueInAll 3 = .ok (.istore_n 3, 1) := by decide +kernel
theorem dX1_dueInAll_4 : decode cX1_dueInAll 4 = .ok (.iload_n 3, 1) := by decide +kernel
theorem dX1_dueInAll_5 : decode cX1_dueInAll 5 = .ok (.aload_n 0, 1) := by decide +kernel
theorem dX1_dueInAll_6 : decode cX1_dueInAll 6 = .ok (.getfield 103, 3) := by decide +kernel
theorem dX1_dueInAll_9 : decode cX1_dueInAll 9 = .ok (.if_icmp .ge 18, 3) := by decide +kernel
theorem dX1_dueInAll_12 : decode cX1_dueInAll 12 = .ok (.lload_n 1, 1) := by decide +kernel
theorem dX1_dueInAll_13 : decode cX1_dueInAll 13 = .ok (.aload_n 0, 1) := by decide +kernel
theorem dX1_dueInAll_14 : decode cX1_dueInAll 14 = .ok (.getfield 63, 3) := by decide +kernel
theorem dX1_dueInAll_17 : decode cX1_dueInAll 17 = .ok (.iload_n 3, 1) := by decide +kernel
theorem dX1_dueInAll_18 : decode cX1_dueInAll 18 = .ok (.laload, 1) := by decide +kernel
theorem dX1_dueInAll_19 : decode cX1_dueInAll 19 = .ok (.ladd, 1) := by decide +kernel
theorem dX1_dueInAll_20 : decode cX1_dueInAll 20 = .ok (.lstore_n 1, 1) := by decide +kernel
theorem dX1_dueInAll_21 : decode cX1_dueInAll 21 = .ok (.iinc 3 1, 3) := by decide +kernel
theorem dX1_dueInAll_24 : decode cX1_dueInAll 24 = .ok (.goto (-20), 3) := by decide +kernel
theorem dX1_dueInAll_27 : decode cX1_dueInAll 27 = .ok (.lload_n 1, 1) := by decide +kernel
theorem dX1_dueInAll_28 : decode cX1_dueInAll 28 = .ok (.lreturn, 1) := by decide +kernel
theorem dX2_init_0 : decode cX2_init 0 = .ok (.aload_n 0, 1) := by decide +kernel
theorem dX2_init_1 : decode cX2_init 1 = .ok (.invokespecial 1, 3) := by decide +kernel
theorem dX2_init_4 : decode cX2_init 4 = .ok (.aload_n 0, 1) := by decide +kernel
theorem dX2_init_5 : decode cX2_init 5 = .ok (.ldc 7, 2) := by decide +kernel
theorem dX2_init_7 : decode cX2_init 7 = .ok (.putfield 8, 3) := by decide +kernel
theorem dX2_init_10 : decode cX2_init 10 = .ok (.aload_n 0, 1) := by decide +kernel
theorem dX2_init_11 : decode cX2_init 11 = .ok (.bipush 80, 2) := by decide +kernel
theorem dX2_init_13 : decode cX2_init 13 = .ok (.putfield 14, 3) := by decide +kernel
theorem dX2_init_16 : decode cX2_init 16 = .ok (.aload_n 0, 1) := by decide +kernel
theorem dX2_init_17 : decode cX2_init 17 = .ok (.bipush 100, 2) := by decide +kernel
theorem dX2_init_19 : decode cX2_init 19 = .ok (.putfield 17, 3) := by decide +kernel
theorem dX2_init_22 : decode cX2_init 22 = .ok (.aload_n 0, 1) := by decide +kernel
theorem dX2_init_23 : decode cX2_init 23 = .ok (.iconst 3, 1) := by decide +kernel
theorem dX2_init_24 : decode cX2_init 24 = .ok (.putfield 20, 3) := by decide +kernel
theorem dX2_init_27 : decode cX2_init 27 = .ok (.aload_n 0, 1) := by decide +kernel
theorem dX2_init_28 : decode cX2_init 28 = .ok (.iconst 2, 1) := by decide +kernel
theorem dX2_init_29 : decode cX2_init 29 = .ok (.putfield 23, 3) := by decide +kernel
theorem dX2_init_32 : decode cX2_init 32 = .ok (.aload_n 0, 1) := by decide +kernel
theorem dX2_init_33 : decode cX2_init 33 = .ok (.bipush 20, 2) := by decide +kernel
theorem dX2_init_35 : decode cX2_init 35 = .ok (.newarray .int, 2) := by decide +kernel
theorem dX2_init_37 : decode cX2_init 37 = .ok (.putfield 26, 3) := by decide +kernel
theorem dX2_init_40 : decode cX2_init 40 = .ok (.aload_n 0, 1) := by decide +kernel
theorem dX2_init_41 : decode cX2_init 41 = .ok (.bipush 20, 2) := by decide +kernel
theorem dX2_init_43 : decode cX2_init 43 = .ok (.newarray .int, 2) := by decide +kernel
theorem dX2_init_45 : decode cX2_init 45 = .ok (.putfield 30, 3) := by decide +kernel
theorem dX2_init_48 : decode cX2_init 48 = .ok (.aload_n 0, 1) := by decide +kernel
theorem dX2_init_49 : decode cX2_init 49 = .ok (.sipush 360, 3) := by decide +kernel
theorem dX2_init_52 : decode cX2_init 52 = .ok (.newarray .int, 2) := by decide +kernel
theorem dX2_init_54 : decode cX2_init 54 = .ok (.putfield 33, 3) := by decide +kernel
theorem dX2_init_57 : decode cX2_init 57 = .ok (.aload_n 0, 1) := by decide +kernel
theorem dX2_init_58 : decode cX2_init 58 = .ok (.bipush 20, 2) := by decide +kernel
theorem dX2_init_60 : decode cX2_init 60 = .ok (.newarray .int, 2) := by decide +kernel
theorem dX2_init_62 : decode cX2_init 62 = .ok (.putfield 36, 3) := by decide +kernel
theorem dX2_init_65 : decode cX2_init 65 = .ok (.aload_n 0, 1) := by decide +kernel
theorem dX2_init_66 : decode cX2_init 66 = .ok (.bipush 20, 2) := by decide +kernel
theorem dX2_init_68 : decode cX2_init 68 = .ok (.newarray .long, 2) := by decide +kernel
theorem dX2_init_70 : decode cX2_init 70 = .ok (.putfield 39, 3) := by decide +kernel
theorem dX2_init_73 : decode cX2_init 73 = .ok (.aload_n 0, 1) := by decide +kernel
theorem dX2_init_74 : decode cX2_init 74 = .ok (.bipush 20, 2) := by decide +kernel
theorem dX2_init_76 : decode cX2_init 76 = .ok (.newarray .int, 2) := by decide +kernel
theorem dX2_init_78 : decode cX2_init 78 = .ok (.putfield 43, 3) := by decide +kernel
theorem dX2_init_81 : decode cX2_init 81 = .ok (.aload_n 0, 1) := by decide +kernel
theorem dX2_init_82 : decode cX2_init 82 = .ok (.bipush 20, 2) := by decide +kernel
theorem dX2_init_84 : decode cX2_init 84 = .ok (.newarray .int, 2) := by decide +kernel
theorem dX2_init_86 : decode cX2_init 86 = .ok (.putfield 46, 3) := by decide +kernel
theorem dX2_init_89 : decode cX2_init 89 = .ok (.aload_n 0, 1) := by decide +kernel
theorem dX2_init_90 : decode cX2_init 90 = .ok (.bipush 20, 2) := by decide +kernel
theorem dX2_init_92 : decode cX2_init 92 = .ok (.newarray .int, 2) := by decide +kernel
theorem dX2_init_94 : decode cX2_init 94 = .ok (.putfield 49, 3) := by decide +kernel
theorem dX2_init_97 : decode cX2_init 97 = .ok (.aload_n 0, 1) := by decide +kernel
theorem dX2_init_98 : decode cX2_init 98 = .ok (.bipush 20, 2) := by decide +kernel
theorem dX2_init_100 : decode cX2_init 100 = .ok (.newarray .int, 2) := by decide +kernel
theorem dX2_init_102 : decode cX2_init 102 = .ok (.putfield 52, 3) := by decide +kernel
theorem dX2_init_105 : decode cX2_init 105 = .ok (.aload_n 0, 1) := by decide +kernel
theorem dX2_init_106 : decode cX2_init 106 = .ok (.bipush 20, 2) := by decide +kernel
theorem dX2_init_108 : decode cX2_init 108 = .ok (.newarray .int, 2) := by decide +kernel
theorem dX2_init_110 : decode cX2_init 110 = .ok (.putfield 55, 3) := by decide +kernel
theorem dX2_init_113 : decode cX2_init 113 = .ok (.aload_n 0, 1) := by decide +kernel
theorem dX2_init_114 : decode cX2_init 114 = .ok (.bipush 20, 2) := by decide +kernel
theorem dX2_init_116 : decode cX2_init 116 = .ok (.newarray .int, 2) := by decide +kernel
theorem dX2_init_118 : decode cX2_init 118 = .ok (.putfield 58, 3) := by decide +kernel
theorem dX2_init_121 : decode cX2_init 121 = .ok (.aload_n 0, 1) := by decide +kernel
theorem dX2_init_122 : decode cX2_init 122 = .ok (.bipush 20, 2) := by decide +kernel
theorem dX2_init_124 : decode cX2_init 124 = .ok (.newarray .long, 2) := by decide +kernel
theorem dX2_init_126 : decode cX2_init 126 = .ok (.putfield 61, 3) := by decide +kernel
theorem dX2_init_129 : decode cX2_init 129 = .ok (.iconst 0, 1) := by decide +kernel
theorem dX2_init_130 : decode cX2_init 130 = .ok (.istore_n 1, 1) := by decide +kernel
theorem dX2_init_131 : decode cX2_init 131 = .ok (.iload_n 1, 1) := by decide +kernel
theorem dX2_init_132 : decode cX2_init 132 = .ok (.bipush 20, 2) := by decide +kernel
theorem dX2_init_134 : decode cX2_init 134 = .ok (.if_icmp .ge 17, 3) := by decide +kernel
theorem dX2_init_137 : decode cX2_init 137 = .ok (.aload_n 0, 1) := by decide +kernel
theorem dX2_init_138 : decode cX2_init 138 = .ok (.getfield 26, 3) := by decide +kernel
theorem dX2_init_141 : decode cX2_init 141 = .ok (.iload_n 1, 1) := by decide +kernel
theorem dX2_init_142 : decode cX2_init 142 = .ok (.bipush 100, 2) := by decide +kernel
theorem dX2_init_144 : decode cX2_init 144 = .ok (.iastore, 1) := by decide +kernel
theorem dX2_init_145 : decode cX2_init 145 = .ok (.iinc 1 1, 3) := by decide +kernel
theorem dX2_init_148 : decode cX2_init 148 = .ok (.goto (-17), 3) := by decide +kernel
theorem dX2_init_151 : decode cX2_init 151 = .ok (.return_, 1) := by decide +kernel
theorem dX2_thrown_0 : decode cX2_thrown 0 = .ok (.aload_n 0, 1) := by decide +kernel
theorem dX2_thrown_1 : decode cX2_thrown 1 = .ok (.getfield 64, 3) := by decide +kernel
theorem dX2_thrown_4 : decode cX2_thrown 4 = .ok (.ireturn, 1) := by decide +kernel
theorem dX2_holds_0 : decode cX2_holds 0 = .ok (.aload_n 0, 1) := by decide +kernel
theorem dX2_holds_1 : decode cX2_holds 1 = .ok (.iload_n 1, 1) := by decide +kernel
theorem dX2_holds_2 : decode cX2_holds 2 = .ok (.putfield 64, 3) := by decide +kernel
theorem dX2_holds_5 : decode cX2_holds 5 = .ok (.iload_n 1, 1) := by decide +kernel
theorem dX2_holds_6 : decode cX2_holds 6 = .ok (.ifCond .ne 7, 3) := by decide +kernel
theorem dX2_holds_9 : decode cX2_holds 9 = .ok (.iconst 1, 1) := by decide +kernel
theorem dX2_holds_10 : decode cX2_holds 10 = .ok (.goto 4, 3) := by decide +kernel
theorem dX2_holds_13 : decode cX2_holds 13 = .ok (.iconst 0, 1) := by decide +kernel
theorem dX2_holds_14 : decode cX2_holds 14 = .ok (.ireturn, 1) := by decide +kernel
theorem dX2_isIn_0 : decode cX2_isIn 0 = .ok (.iload_n 0, 1) := by decide +kernel
theorem dX2_isIn_1 : decode cX2_isIn 1 = .ok (.iload_n 1, 1) := by decide +kernel
theorem dX2_isIn_2 : decode cX2_isIn 2 = .ok (.if_icmp .lt 12, 3) := by decide +kernel
theorem dX2_isIn_5 : decode cX2_isIn 5 = .ok (.iload_n 0, 1) := by decide +kernel
theorem dX2_isIn_6 : decode cX2_isIn 6 = .ok (.iload_n 2, 1) := by decide +kernel
theorem dX2_isIn_7 : decode cX2_isIn 7 = .ok (.if_icmp .gt 7, 3) := by decide +kernel
theorem dX2_isIn_10 : decode cX2_isIn 10 = .ok (.iconst 1, 1) := by decide +kernel
theorem dX2_isIn_11 : decode cX2_isIn 11 = .ok (.goto 4, 3) := by decide +kernel
theorem dX2_isIn_14 : decode cX2_isIn 14 = .ok (.iconst 0, 1) := by decide +kernel
theorem dX2_isIn_15 : decode cX2_isIn 15 = .ok (.ireturn, 1) := by decide +kernel
set_option maxRecDepth 20000 in
theorem ggX2_isYear_X2_isIn : GoodIn wsX2_isYear wsX2_isIn := goodIn_r _ [4] (by decide +kernel) (by decide +kernel)
set_option maxRecDepth 20000 in
theorem gX2_isYear_X2_isIn : GoodIn wsX2_isYear (va_wsS RX2 67 yX2_isIn wsX2_isIn) := goodIn_app (goodIn_of _ (by decide +kernel)) ggX2_isYear_X2_isIn
theorem dX2_isYear_0 : decode cX2_isYear 0 = .ok (.iload_n 0, 1) := by decide +kernel
theorem dX2_isYear_1 : decode cX2_isYear 1 = .ok (.iconst 0, 1) := by decide +kernel
theorem dX2_isYear_2 : decode cX2_isYear 2 = .ok (.bipush 19, 2) := by decide +kernel
theorem dX2_isYear_4 : decode cX2_isYear 4 = .ok (.invokestatic 67, 3) := by decide +kernel
theorem dX2_isYear_7 : decode cX2_isYear 7 = .ok (.ireturn, 1) := by decide +kernel
theorem dX2_leastOf_0 : decode cX2_leastOf 0 = .ok (.aload_n 0, 1) := by decide +kernel
theorem dX2_leastOf_1 : decode cX2_leastOf 1 = .ok (.getfield 8, 3) := by decide +kernel
theorem dX2_leastOf_4 : decode cX2_leastOf 4 = .ok (.i2l, 1) := by decide +kernel
theorem dX2_leastOf_5 : decode cX2_leastOf 5 = .ok (.aload_n 0, 1) := by decide +kernel
theorem dX2_leastOf_6 : decode cX2_leastOf 6 = .ok (.getfield 14, 3) := by decide +kernel
theorem dX2_leastOf_9 : decode cX2_leastOf 9 = .ok (.i2l, 1) := by decide +kernel
theorem dX2_leastOf_10 : decode cX2_leastOf 10 = .ok (.lmul, 1) := by decide +kernel
theorem dX2_leastOf_11 : decode cX2_leastOf 11 = .ok (.sipush 360, 3) := by decide +kernel
theorem dX2_leastOf_14 : decode cX2_leastOf 14 = .ok (.aload_n 0, 1) := by decide +kernel
theorem dX2_leastOf_15 : decode cX2_leastOf 15 = .ok (.getfield 30, 3) := by decide +kernel
theorem dX2_leastOf_18 : decode cX2_leastOf 18 = .ok (.iload_n 1, 1) := by decide +kernel
theorem dX2_leastOf_19 : decode cX2_leastOf 19 = .ok (.iaload, 1) := by decide +kernel
theorem dX2_leastOf_20 : decode cX2_leastOf 20 = .ok (.isub, 1) := by decide +kernel
theorem dX2_leastOf_21 : decode cX2_leastOf 21 = .ok (.i2l, 1) := by decide +kernel
theorem dX2_leastOf_22 : decode cX2_leastOf 22 = .ok (.lmul, 1) := by decide +kernel
theorem dX2_leastOf_23 : decode cX2_leastOf 23 = .ok (.ldc2_w 71, 3) := by decide +kernel
theorem dX2_leastOf_26 : decode cX2_leastOf 26 = .ok (.ldiv, 1) := by decide +kernel
theorem dX2_leastOf_27 : decode cX2_leastOf 27 = .ok (.l2i, 1) := by decide +kernel
theorem dX2_leastOf_28 : decode cX2_leastOf 28 = .ok (.ireturn, 1) := by decide +kernel
theorem dX2_shortfallPrice_0 : decode cX2_shortfallPrice 0 = .ok (.aload_n 0, 1) := by decide +kernel
theorem dX2_shortfallPrice_1 : decode cX2_shortfallPrice 1 = .ok (.getfield 26, 3) := by decide +kernel
theorem dX2_shortfallPrice_4 : decode cX2_shortfallPrice 4 = .ok (.iload_n 1, 1) := by decide +kernel
theorem dX2_shortfallPrice_5 : decode cX2_shortfallPrice 5 = .ok (.iaload, 1) := by decide +kernel
theorem dX2_shortfallPrice_6 : decode cX2_shortfallPrice 6 = .ok (.aload_n 0, 1) := by decide +kernel
theorem dX2_shortfallPrice_7 : decode cX2_shortfallPrice 7 = .ok (.getfield 17, 3) := by decide +kernel
theorem dX2_shortfallPrice_10 : decode cX2_shortfallPrice 10 = .ok (.imul, 1) := by decide +kernel
theorem dX2_shortfallPrice_11 : decode cX2_shortfallPrice 11 = .ok (.bipush 100, 2) := by decide +kernel
theorem dX2_shortfallPrice_13 : decode cX2_shortfallPrice 13 = .ok (.idiv, 1) := by decide +kernel
theorem dX2_shortfallPrice_14 : decode cX2_shortfallPrice 14 = .ok (.ireturn, 1) := by decide +kernel
theorem dX2_lapses_0 : decode cX2_lapses 0 = .ok (.iconst 0, 1) := by decide +kernel
theorem dX2_lapses_1 : decode cX2_lapses 1 = .ok (.istore_n 2, 1) := by decide +kernel
theorem dX2_lapses_2 : decode cX2_lapses 2 = .ok (.iload_n 2, 1) := by decide +kernel
theorem dX2_lapses_3 : decode cX2_lapses 3 = .ok (.iload_n 1, 1) := by decide +kernel
theorem dX2_lapses_4 : decode cX2_lapses 4 = .ok (.if_icmp .ge 58, 3) := by decide +kernel
theorem dX2_lapses_7 : decode cX2_lapses 7 = .ok (.iload_n 1, 1) := by decide +kernel
theorem dX2_lapses_8 : decode cX2_lapses 8 = .ok (.iload_n 2, 1) := by decide +kernel
theorem dX2_lapses_9 : decode cX2_lapses 9 = .ok (.aload_n 0, 1) := by decide +kernel
theorem dX2_lapses_10 : decode cX2_lapses 10 = .ok (.getfield 20, 3) := by decide +kernel
theorem dX2_lapses_13 : decode cX2_lapses 13 = .ok (.iadd, 1) := by decide +kernel
theorem dX2_lapses_14 : decode cX2_lapses 14 = .ok (.if_icmp .le 25, 3) := by decide +kernel
theorem dX2_lapses_17 : decode cX2_lapses 17 = .ok (.aload_n 0, 1) := by decide +kernel
theorem dX2_lapses_18 : decode cX2_lapses 18 = .ok (.dup, 1) := by decide +kernel
theorem dX2_lapses_19 : decode cX2_lapses 19 = .ok (.getfield 73, 3) := by decide +kernel
theorem dX2_lapses_22 : decode cX2_lapses 22 = .ok (.aload_n 0, 1) := by decide +kernel
theorem dX2_lapses_23 : decode cX2_lapses 23 = .ok (.getfield 49, 3) := by decide +kernel
theorem dX2_lapses_26 : decode cX2_lapses 26 = .ok (.iload_n 2, 1) := by decide +kernel
theorem dX2_lapses_27 : decode cX2_lapses 27 = .ok (.iaload, 1) := by decide +kernel
theorem dX2_lapses_28 : decode cX2_lapses 28 = .ok (.iadd, 1) := by decide +kernel
theorem dX2_lapses_29 : decode cX2_lapses 29 = .ok (.putfield 73, 3) := by decide +kernel
theorem dX2_lapses_32 : decode cX2_lapses 32 = .ok (.aload_n 0, 1) := by decide +kernel
theorem dX2_lapses_33 : decode cX2_lapses 33 = .ok (.getfield 49, 3) := by decide +kernel
theorem dX2_lapses_36 : decode cX2_lapses 36 = .ok (.iload_n 2, 1) := by decide +kernel
theorem dX2_lapses_37 : decode cX2_lapses 37 = .ok (.iconst 0, 1) := by decide +kernel
theorem dX2_lapses_38 : decode cX2_lapses 38 = .ok (.iastore, 1) := by decide +kernel
theorem dX2_lapses_39 : decode cX2_lapses 39 = .ok (.iload_n 1, 1) := by decide +kernel
theorem dX2_lapses_40 : decode cX2_lapses 40 = .ok (.iload_n 2, 1) := by decide +kernel
theorem dX2_lapses_41 : decode cX2_lapses 41 = .ok (.aload_n 0, 1) := by decide +kernel
theorem dX2_lapses_42 : decode cX2_lapses 42 = .ok (.getfield 23, 3) := by decide +kernel
theorem dX2_lapses_45 : decode cX2_lapses 45 = .ok (.iadd, 1) := by decide +kernel
theorem dX2_lapses_46 : decode cX2_lapses 46 = .ok (.if_icmp .le 10, 3) := by decide +kernel
theorem dX2_lapses_49 : decode cX2_lapses 49 = .ok (.aload_n 0, 1) := by decide +kernel
theorem dX2_lapses_50 : decode cX2_lapses 50 = .ok (.getfield 52, 3) := by decide +kernel
theorem dX2_lapses_53 : decode cX2_lapses 53 = .ok (.iload_n 2, 1) := by decide +kernel
theorem dX2_lapses_54 : decode cX2_lapses 54 = .ok (.iconst 0, 1) := by decide +kernel
theorem dX2_lapses_55 : decode cX2_lapses 55 = .ok (.iastore, 1) := by decide +kernel
theorem dX2_lapses_56 : decode cX2_lapses 56 = .ok (.iinc 2 1, 3) := by decide +kernel
theorem dX2_lapses_59 : decode cX2_lapses 59 = .ok (.goto (-57), 3) := by decide +kernel
theorem dX2_lapses_62 : decode cX2_lapses 62 = .ok (.return_, 1) := by decide +kernel
set_option maxRecDepth 20000 in
theorem ggX2_covers_X2_shortfallPrice : GoodIn wsX2_covers wsX2_shortfallPrice := goodIn_r _ [12, 7, 13, 14, 15, 16, 17, 18, 19, 20, 21, 22, 23, 24, 25, 26, 27, 28, 29, 30, 31, 32, 33] (by decide +kernel) (by decide +kernel)
set_option maxRecDepth 20000 in
theorem gX2_covers_X2_shortfallPrice : GoodIn wsX2_covers (wsV RX2 76 RX2 yX2_shortfallPrice wsX2_shortfallPrice) := goodIn_app (goodIn_of _ (by decide +kernel)) ggX2_covers_X2_shortfallPrice
theorem dX2_covers_0 : decode cX2_covers 0 = .ok (.iload_n 2, 1) := by decide +kernel
theorem dX2_covers_1 : decode cX2_covers 1 = .ok (.istore_n 3, 1) := by decide +kernel
theorem dX2_covers_2 : decode cX2_covers 2 = .ok (.iconst 0, 1) := by decide +kernel
theorem dX2_covers_3 : decode cX2_covers 3 = .ok (.istore 4, 2) := by decide +kernel
theorem dX2_covers_5 : decode cX2_covers 5 = .ok (.iload 4, 2) := by decide +kernel
theorem dX2_covers_7 : decode cX2_covers 7 = .ok (.iload_n 1, 1) := by decide +kernel
theorem dX2_covers_8 : decode cX2_covers 8 = .ok (.if_icmp .ge 50, 3) := by decide +kernel
theorem dX2_covers_11 : decode cX2_covers 11 = .ok (.aload_n 0, 1) := by decide +kernel
theorem dX2_covers_12 : decode cX2_covers 12 = .ok (.getfield 52, 3) := by decide +kernel
theorem dX2_covers_15 : decode cX2_covers 15 = .ok (.iload 4, 2) := by decide +kernel
theorem dX2_covers_17 : decode cX2_covers 17 = .ok (.iaload, 1) := by decide +kernel
theorem dX2_covers_18 : decode cX2_covers 18 = .ok (.iload_n 3, 1) := by decide +kernel
theorem dX2_covers_19 : decode cX2_covers 19 = .ok (.if_icmp .ge 13, 3) := by decide +kernel
theorem dX2_covers_22 : decode cX2_covers 22 = .ok (.aload_n 0, 1) := by decide +kernel
theorem dX2_covers_23 : decode cX2_covers 23 = .ok (.getfield 52, 3) := by decide +kernel
theorem dX2_covers_26 : decode cX2_covers 26 = .ok (.iload 4, 2) := by decide +kernel
theorem dX2_covers_28 : decode cX2_covers 28 = .ok (.iaload, 1) := by decide +kernel
theorem dX2_covers_29 : decode cX2_covers 29 = .ok (.goto 4, 3) := by decide +kernel
theorem dX2_covers_32 : decode cX2_covers 32 = .ok (.iload_n 3, 1) := by decide +kernel
theorem dX2_covers_33 : decode cX2_covers 33 = .ok (.istore 5, 2) := by decide +kernel
theorem dX2_covers_35 : decode cX2_covers 35 = .ok (.aload_n 0, 1) := by decide +kernel
theorem dX2_covers_36 : decode cX2_covers 36 = .ok (.getfield 52, 3) := by decide +kernel
theorem dX2_covers_39 : decode cX2_covers 39 = .ok (.iload 4, 2) := by decide +kernel
theorem dX2_covers_41 : decode cX2_covers 41 = .ok (.dup2, 1) := by decide +kernel
theorem dX2_covers_42 : decode cX2_covers 42 = .ok (.iaload, 1) := by decide +kernel
theorem dX2_covers_43 : decode cX2_covers 43 = .ok (.iload 5, 2) := by decide +kernel
theorem dX2_covers_45 : decode cX2_covers 45 = .ok (.isub, 1) := by decide +kernel
theorem dX2_covers_46 : decode cX2_covers 46 = .ok (.iastore, 1) := by decide +kernel
theorem dX2_covers_47 : decode cX2_covers 47 = .ok (.iload_n 3, 1) := by decide +kernel
theorem dX2_covers_48 : decode cX2_covers 48 = .ok (.iload 5, 2) := by decide +kernel
theorem dX2_covers_50 : decode cX2_covers 50 = .ok (.isub, 1) := by decide +kernel
theorem dX2_covers_51 : decode cX2_covers 51 = .ok (.istore_n 3, 1) := by decide +kernel
theorem dX2_covers_52 : decode cX2_covers 52 = .ok (.iinc 4 1, 3) := by decide +kernel
theorem dX2_covers_55 : decode cX2_covers 55 = .ok (.goto (-50), 3) := by decide +kernel
theorem dX2_covers_58 : decode cX2_covers 58 = .ok (.aload_n 0, 1) := by decide +kernel
theorem dX2_covers_59 : decode cX2_covers 59 = .ok (.getfield 58, 3) := by decide +kernel
theorem dX2_covers_62 : decode cX2_covers 62 = .ok (.iload_n 1, 1) := by decide +kernel
theorem dX2_covers_63 : decode cX2_covers 63 = .ok (.iload_n 2, 1) := by decide +kernel
theorem dX2_covers_64 : decode cX2_covers 64 = .ok (.iload_n 3, 1) := by decide +kernel
theorem dX2_covers_65 : decode cX2_covers 65 = .ok (.isub, 1) := by decide +kernel
theorem dX2_covers_66 : decode cX2_covers 66 = .ok (.iastore, 1) := by decide +kernel
theorem dX2_covers_67 : decode cX2_covers 67 = .ok (.aload_n 0, 1) := by decide +kernel
theorem dX2_covers_68 : decode cX2_covers 68 = .ok (.getfield 43, 3) := by decide +kernel
theorem dX2_covers_71 : decode cX2_covers 71 = .ok (.iload_n 1, 1) := by decide +kernel
theorem dX2_covers_72 : decode cX2_covers 72 = .ok (.iload_n 3, 1) := by decide +kernel
theorem dX2_covers_73 : decode cX2_covers 73 = .ok (.iastore, 1) := by decide +kernel
theorem dX2_covers_74 : decode cX2_covers 74 = .ok (.aload_n 0, 1) := by decide +kernel
theorem dX2_covers_75 : decode cX2_covers 75 = .ok (.getfield 49, 3) := by decide +kernel
theorem dX2_covers_78 : decode cX2_covers 78 = .ok (.iload_n 1, 1) := by decide +kernel
theorem dX2_covers_79 : decode cX2_covers 79 = .ok (.iload_n 3, 1) := by decide +kernel
theorem dX2_covers_80 : decode cX2_covers 80 = .ok (.iastore, 1) := by decide +kernel
theorem dX2_covers_81 : decode cX2_covers 81 = .ok (.aload_n 0, 1) := by decide +kernel
theorem dX2_covers_82 : decode cX2_covers 82 = .ok (.getfield 61, 3) := by decide +kernel
theorem dX2_covers_85 : decode cX2_covers 85 = .ok (.iload_n 1, 1) := by decide +kernel
theorem dX2_covers_86 : decode cX2_covers 86 = .ok (.aload_n 0, 1) := by decide +kernel
theorem dX2_covers_87 : decode cX2_covers 87 = .ok (.getfield 36, 3) := by decide +kernel
theorem dX2_covers_90 : decode cX2_covers 90 = .ok (.iload_n 1, 1) := by decide +kernel
theorem dX2_covers_91 : decode cX2_covers 91 = .ok (.iaload, 1) := by decide +kernel
theorem dX2_covers_92 : decode cX2_covers 92 = .ok (.i2l, 1) := by decide +kernel
theorem dX2_covers_93 : decode cX2_covers 93 = .ok (.aload_n 0, 1) := by decide +kernel
theorem dX2_covers_94 : decode cX2_covers 94 = .ok (.getfield 26, 3) := by decide +kernel
theorem dX2_covers_97 : decode cX2_covers 97 = .ok (.iload_n 1, 1) := by decide +kernel
theorem dX2_covers_98 : decode cX2_covers 98 = .ok (.iaload, 1) := by decide +kernel
theorem dX2_covers_99 : decode cX2_covers 99 = .ok (.i2l, 1) := by decide +kernel
theorem dX2_covers_100 : decode cX2_covers 100 = .ok (.lmul, 1) := by decide +kernel
theorem dX2_covers_101 : decode cX2_covers 101 = .ok (.iload_n 3, 1) := by decide +kernel
theorem dX2_covers_102 : decode cX2_covers 102 = .ok (.i2l, 1) := by decide +kernel
theorem dX2_covers_103 : decode cX2_covers 103 = .ok (.aload_n 0, 1) := by decide +kernel
theorem dX2_covers_104 : decode cX2_covers 104 = .ok (.iload_n 1, 1) := by decide +kernel
theorem dX2_covers_105 : decode cX2_covers 105 = .ok (.invokevirtual 76, 3) := by decide +kernel
theorem dX2_covers_108 : decode cX2_covers 108 = .ok (.i2l, 1) := by decide +kernel
theorem dX2_covers_109 : decode cX2_covers 109 = .ok (.lmul, 1) := by decide +kernel
theorem dX2_covers_110 : decode cX2_covers 110 = .ok (.ladd, 1) := by decide +kernel
theorem dX2_covers_111 : decode cX2_covers 111 = .ok (.lastore, 1) := by decide +kernel
theorem dX2_covers_112 : decode cX2_covers 112 = .ok (.return_, 1) := by decide +kernel
set_option maxRecDepth 20000 in
theorem ggX2_makesUp_X2_shortfallPrice : GoodIn wsX2_makesUp wsX2_shortfallPrice := goodIn_r _ [13, 2, 14, 15, 16, 17, 18, 19, 20, 21, 22, 23, 24, 25, 26, 27, 28, 29, 30, 31, 32, 33, 34] (by decide +kernel) (by decide +kernel)
set_option maxRecDepth 20000 in
theorem gX2_makesUp_X2_shortfallPrice : GoodIn wsX2_makesUp (wsV RX2 76 RX2 yX2_shortfallPrice wsX2_shortfallPrice) := goodIn_app (goodIn_of _ (by decide +kernel)) ggX2_makesUp_X2_shortfallPrice
theorem dX2_makesUp_0 : decode cX2_makesUp 0 = .ok (.iload_n 2, 1) := by decide +kernel
theorem dX2_makesUp_1 : decode cX2_makesUp 1 = .ok (.istore_n 3, 1) := by decide +kernel
theorem dX2_makesUp_2 : decode cX2_makesUp 2 = .ok (.lconst 0, 1) := by decide +kernel
theorem dX2_makesUp_3 : decode cX2_makesUp 3 = .ok (.lstore 4, 2) := by decide +kernel
theorem dX2_makesUp_5 : decode cX2_makesUp 5 = .ok (.iconst 0, 1) := by decide +kernel
theorem dX2_makesUp_6 : decode cX2_makesUp 6 = .ok (.istore 6, 2) := by decide +kernel
theorem dX2_makesUp_8 : decode cX2_makesUp 8 = .ok (.iload 6, 2) := by decide +kernel
theorem dX2_makesUp_10 : decode cX2_makesUp 10 = .ok (.iload_n 1, 1) := by decide +kernel
theorem dX2_makesUp_11 : decode cX2_makesUp 11 = .ok (.if_icmp .ge 86, 3) := by decide +kernel
theorem dX2_makesUp_14 : decode cX2_makesUp 14 = .ok (.aload_n 0, 1) := by decide +kernel
theorem dX2_makesUp_15 : decode cX2_makesUp 15 = .ok (.getfield 49, 3) := by decide +kernel
theorem dX2_makesUp_18 : decode cX2_makesUp 18 = .ok (.iload 6, 2) := by decide +kernel
theorem dX2_makesUp_20 : decode cX2_makesUp 20 = .ok (.iaload, 1) := by decide +kernel
theorem dX2_makesUp_21 : decode cX2_makesUp 21 = .ok (.iload_n 3, 1) := by decide +kernel
theorem dX2_makesUp_22 : decode cX2_makesUp 22 = .ok (.if_icmp .ge 13, 3) := by decide +kernel
theorem dX2_makesUp_25 : decode cX2_makesUp 25 = .ok (.aload_n 0, 1) := by decide +kernel
theorem dX2_makesUp_26 : decode cX2_makesUp 26 = .ok (.getfield 49, 3) := by decide +kernel
theorem dX2_makesUp_29 : decode cX2_makesUp 29 = .ok (.iload 6, 2) := by decide +kernel
theorem dX2_makesUp_31 : decode cX2_makesUp 31 = .ok (.iaload, 1) := by decide +kernel
theorem dX2_makesUp_32 : decode cX2_makesUp 32 = .ok (.goto 4, 3) := by decide +kernel
theorem dX2_makesUp_35 : decode cX2_makesUp 35 = .ok (.iload_n 3, 1) := by decide +kernel
theorem dX2_makesUp_36 : decode cX2_makesUp 36 = .ok (.istore 7, 2) := by decide +kernel
theorem dX2_makesUp_38 : decode cX2_makesUp 38 = .ok (.aload_n 0, 1) := by decide +kernel
theorem dX2_makesUp_39 : decode cX2_makesUp 39 = .ok (.getfield 26, 3) := by decide +kernel
theorem dX2_makesUp_42 : decode cX2_makesUp 42 = .ok (.iload_n 1, 1) := by decide +kernel
theorem dX2_makesUp_43 : decode cX2_makesUp 43 = .ok (.iaload, 1) := by decide +kernel
theorem dX2_makesUp_44 : decode cX2_makesUp 44 = .ok (.aload_n 0, 1) := by decide +kernel
theorem dX2_makesUp_45 : decode cX2_makesUp 45 = .ok (.iload 6, 2) := by decide +kernel
theorem dX2_makesUp_47 : decode cX2_makesUp 47 = .ok (.invokevirtual 76, 3) := by decide +kernel
theorem dX2_makesUp_50 : decode cX2_makesUp 50 = .ok (.isub, 1) := by decide +kernel
theorem dX2_makesUp_51 : decode cX2_makesUp 51 = .ok (.istore 8, 2) := by decide +kernel
theorem dX2_makesUp_53 : decode cX2_makesUp 53 = .ok (.aload_n 0, 1) := by decide +kernel
theorem dX2_makesUp_54 : decode cX2_makesUp 54 = .ok (.getfield 49, 3) := by decide +kernel
theorem dX2_makesUp_57 : decode cX2_makesUp 57 = .ok (.iload 6, 2) := by decide +kernel
theorem dX2_makesUp_59 : decode cX2_makesUp 59 = .ok (.dup2, 1) := by decide +kernel
theorem dX2_makesUp_60 : decode cX2_makesUp 60 = .ok (.iaload, 1) := by decide +kernel
theorem dX2_makesUp_61 : decode cX2_makesUp 61 = .ok (.iload 7, 2) := by decide +kernel
theorem dX2_makesUp_63 : decode cX2_makesUp 63 = .ok (.isub, 1) := by decide +kernel
theorem dX2_makesUp_64 : decode cX2_makesUp 64 = .ok (.iastore, 1) := by decide +kernel
theorem dX2_makesUp_65 : decode cX2_makesUp 65 = .ok (.iload_n 3, 1) := by decide +kernel
theorem dX2_makesUp_66 : decode cX2_makesUp 66 = .ok (.iload 7, 2) := by decide +kernel
theorem dX2_makesUp_68 : decode cX2_makesUp 68 = .ok (.isub, 1) := by decide +kernel
theorem dX2_makesUp_69 : decode cX2_makesUp 69 = .ok (.istore_n 3, 1) := by decide +kernel
theorem dX2_makesUp_70 : decode cX2_makesUp 70 = .ok (.lload 4, 2) := by decide +kernel
theorem dX2_makesUp_72 : decode cX2_makesUp 72 = .ok (.iload 8, 2) := by decide +kernel
theorem dX2_makesUp_74 : decode cX2_makesUp 74 = .ok (.ifCond .le 13, 3) := by decide +kernel
theorem dX2_makesUp_77 : decode cX2_makesUp 77 = .ok (.iload 7, 2) := by decide +kernel
theorem dX2_makesUp_79 : decode cX2_makesUp 79 = .ok (.i2l, 1) := by decide +kernel
theorem dX2_makesUp_80 : decode cX2_makesUp 80 = .ok (.iload 8, 2) := by decide +kernel
theorem dX2_makesUp_82 : decode cX2_makesUp 82 = .ok (.i2l, 1) := by decide +kernel
theorem dX2_makesUp_83 : decode cX2_makesUp 83 = .ok (.lmul, 1) := by decide +kernel
theorem dX2_makesUp_84 : decode cX2_makesUp 84 = .ok (.goto 4, 3) := by decide +kernel
theorem dX2_makesUp_87 : decode cX2_makesUp 87 = .ok (.lconst 0, 1) := by decide +kernel
theorem dX2_makesUp_88 : decode cX2_makesUp 88 = .ok (.ladd, 1) := by decide +kernel
theorem dX2_makesUp_89 : decode cX2_makesUp 89 = .ok (.lstore 4, 2) := by decide +kernel
theorem dX2_makesUp_91 : decode cX2_makesUp 91 = .ok (.iinc 6 1, 3) := by decide +kernel
theorem dX2_makesUp_94 : decode cX2_makesUp 94 = .ok (.goto (-86), 3) := by decide +kernel
theorem dX2_makesUp_97 : decode cX2_makesUp 97 = .ok (.aload_n 0, 1) := by decide +kernel
theorem dX2_makesUp_98 : decode cX2_makesUp 98 = .ok (.getfield 55, 3) := by decide +kernel
theorem dX2_makesUp_101 : decode cX2_makesUp 101 = .ok (.iload_n 1, 1) := by decide +kernel
theorem dX2_makesUp_102 : decode cX2_makesUp 102 = .ok (.iload_n 2, 1) := by decide +kernel
theorem dX2_makesUp_103 : decode cX2_makesUp 103 = .ok (.iload_n 3, 1) := by decide +kernel
theorem dX2_makesUp_104 : decode cX2_makesUp 104 = .ok (.isub, 1) := by decide +kernel
theorem dX2_makesUp_105 : decode cX2_makesUp 105 = .ok (.iastore, 1) := by decide +kernel
theorem dX2_makesUp_106 : decode cX2_makesUp 106 = .ok (.aload_n 0, 1) := by decide +kernel
theorem dX2_makesUp_107 : decode cX2_makesUp 107 = .ok (.getfield 36, 3) := by decide +kernel
theorem dX2_makesUp_110 : decode cX2_makesUp 110 = .ok (.iload_n 1, 1) := by decide +kernel
theorem dX2_makesUp_111 : decode cX2_makesUp 111 = .ok (.iaload, 1) := by decide +kernel
theorem dX2_makesUp_112 : decode cX2_makesUp 112 = .ok (.aload_n 0, 1) := by decide +kernel
theorem dX2_makesUp_113 : decode cX2_makesUp 113 = .ok (.getfield 55, 3) := by decide +kernel
theorem dX2_makesUp_116 : decode cX2_makesUp 116 = .ok (.iload_n 1, 1) := by decide +kernel
theorem dX2_makesUp_117 : decode cX2_makesUp 117 = .ok (.iaload, 1) := by decide +kernel
theorem dX2_makesUp_118 : decode cX2_makesUp 118 = .ok (.isub, 1) := by decide +kernel
theorem dX2_makesUp_119 : decode cX2_makesUp 119 = .ok (.istore 6, 2) := by decide +kernel
theorem dX2_makesUp_121 : decode cX2_makesUp 121 = .ok (.aload_n 0, 1) := by decide +kernel
theorem dX2_makesUp_122 : decode cX2_makesUp 122 = .ok (.getfield 46, 3) := by decide +kernel
theorem dX2_makesUp_125 : decode cX2_makesUp 125 = .ok (.iload_n 1, 1) := by decide +kernel
theorem dX2_makesUp_126 : decode cX2_makesUp 126 = .ok (.iload 6, 2) := by decide +kernel
theorem dX2_makesUp_128 : decode cX2_makesUp 128 = .ok (.aload_n 0, 1) := by decide +kernel
theorem dX2_makesUp_129 : decode cX2_makesUp 129 = .ok (.getfield 8, 3) := by decide +kernel
theorem dX2_makesUp_132 : decode cX2_makesUp 132 = .ok (.if_icmp .le 13, 3) := by decide +kernel
theorem dX2_makesUp_135 : decode cX2_makesUp 135 = .ok (.iload 6, 2) := by decide +kernel
theorem dX2_makesUp_137 : decode cX2_makesUp 137 = .ok (.aload_n 0, 1) := by decide +kernel
theorem dX2_makesUp_138 : decode cX2_makesUp 138 = .ok (.getfield 8, 3) := by decide +kernel
theorem dX2_makesUp_141 : decode cX2_makesUp 141 = .ok (.isub, 1) := by decide +kernel
theorem dX2_makesUp_142 : decode cX2_makesUp 142 = .ok (.goto 4, 3) := by decide +kernel
theorem dX2_makesUp_145 : decode cX2_makesUp 145 = .ok (.iconst 0, 1) := by decide +kernel
theorem dX2_makesUp_146 : decode cX2_makesUp 146 = .ok (.iastore, 1) := by decide +kernel
theorem dX2_makesUp_147 : decode cX2_makesUp 147 = .ok (.aload_n 0, 1) := by decide +kernel
theorem dX2_makesUp_148 : decode cX2_makesUp 148 = .ok (.getfield 52, 3) := by decide +kernel
theorem dX2_makesUp_151 : decode cX2_makesUp 151 = .ok (.iload_n 1, 1) := by decide +kernel
theorem dX2_makesUp_152 : decode cX2_makesUp 152 = .ok (.aload_n 0, 1) := by decide +kernel
theorem dX2_makesUp_153 : decode cX2_makesUp 153 = .ok (.getfield 46, 3) := by decide +kernel
theorem dX2_makesUp_156 : decode cX2_makesUp 156 = .ok (.iload_n 1, 1) := by decide +kernel
theorem dX2_makesUp_157 : decode cX2_makesUp 157 = .ok (.iaload, 1) := by decide +kernel
theorem dX2_makesUp_158 : decode cX2_makesUp 158 = .ok (.iastore, 1) := by decide +kernel
theorem dX2_makesUp_159 : decode cX2_makesUp 159 = .ok (.aload_n 0, 1) := by decide +kernel
theorem dX2_makesUp_160 : decode cX2_makesUp 160 = .ok (.getfield 61, 3) := by decide +kernel
theorem dX2_makesUp_163 : decode cX2_makesUp 163 = .ok (.iload_n 1, 1) := by decide +kernel
theorem dX2_makesUp_164 : decode cX2_makesUp 164 = .ok (.iload 6, 2) := by decide +kernel
theorem dX2_makesUp_166 : decode cX2_makesUp 166 = .ok (.i2l, 1) := by decide +kernel
theorem dX2_makesUp_167 : decode cX2_makesUp 167 = .ok (.aload_n 0, 1) := by decide +kernel
theorem dX2_makesUp_168 : decode cX2_makesUp 168 = .ok (.getfield 26, 3) := by decide +kernel
theorem dX2_makesUp_171 : decode cX2_makesUp 171 = .ok (.iload_n 1, 1) := by decide +kernel
theorem dX2_makesUp_172 : decode cX2_makesUp 172 = .ok (.iaload, 1) := by decide +kernel
theorem dX2_makesUp_173 : decode cX2_makesUp 173 = .ok (.i2l, 1) := by decide +kernel
theorem dX2_makesUp_174 : decode cX2_makesUp 174 = .ok (.lmul, 1) := by decide +kernel
theorem dX2_makesUp_175 : decode cX2_makesUp 175 = .ok (.lload 4, 2) := by decide +kernel
theorem dX2_makesUp_177 : decode cX2_makesUp 177 = .ok (.ladd, 1) := by decide +kernel
theorem dX2_makesUp_178 : decode cX2_makesUp 178 = .ok (.lastore, 1) := by decide +kernel
theorem dX2_makesUp_179 : decode cX2_makesUp 179 = .ok (.return_, 1) := by decide +kernel
set_option maxRecDepth 20000 in
theorem ggX2_goesThrough_X2_lapses : GoodIn wsX2_goesThrough wsX2_lapses := goodIn_r _ [14, 15, 1, 5, 16, 6, 40, 41, 42, 43, 44, 45, 46, 47, 48, 49, 50, 51, 52, 53, 54, 55, 56, 57, 58, 59] (by decide +kernel) (by decide +kernel)
set_option maxRecDepth 20000 in
theorem gX2_goesThrough_X2_lapses : GoodIn wsX2_goesThrough (wsV RX2 83 RX2 yX2_lapses wsX2_lapses) := goodIn_app (goodIn_of _ (by decide +kernel)) ggX2_goesThrough_X2_lapses
set_option maxRecDepth 20000 in
theorem ggX2_goesThrough_X2_leastOf : GoodIn wsX2_goesThrough wsX2_leastOf := goodIn_r _ [20, 21, 22, 23, 24, 40, 41, 42, 43, 44, 45, 46, 47, 48, 49, 50, 51, 52, 53, 54, 55, 56, 57, 58, 59] (by decide +kernel) (by decide +kernel)
set_option maxRecDepth 20000 in
theorem gX2_goesThrough_X2_leastOf : GoodIn wsX2_goesThrough (wsV RX2 87 RX2 yX2_leastOf wsX2_leastOf) := goodIn_app (goodIn_of _ (by decide +kernel)) ggX2_goesThrough_X2_leastOf
set_option maxRecDepth 20000 in
theorem ggX2_goesThrough_X2_covers : GoodIn wsX2_goesThrough wsX2_covers := goodIn_r _ [28, 6, 8, 3, 5, 29, 9, 30, 31, 32, 33, 13, 34, 35, 40, 41, 42, 43, 44, 45, 46, 47, 48, 49, 50, 51, 52, 53, 54, 55, 56, 57, 58, 59] (by decide +kernel) (by decide +kernel)
set_option maxRecDepth 20000 in
theorem gX2_goesThrough_X2_covers : GoodIn wsX2_goesThrough (wsV RX2 90 RX2 yX2_covers wsX2_covers) := goodIn_app (goodIn_of _ (by decide +kernel)) ggX2_goesThrough_X2_covers
set_option maxRecDepth 20000 in
theorem ggX2_goesThrough_X2_makesUp : GoodIn wsX2_goesThrough wsX2_makesUp := goodIn_r _ [39, 5, 30, 7, 9, 4, 21, 6, 29, 31, 32, 33, 13, 34, 35, 40, 41, 42, 43, 44, 45, 46, 47, 48, 49, 50, 51, 52, 53, 54, 55, 56, 57, 58, 59] (by decide +kernel) (by decide +kernel)
set_option maxRecDepth 20000 in
theorem gX2_goesThrough_X2_makesUp : GoodIn wsX2_goesThrough (wsV RX2 94 RX2 yX2_makesUp wsX2_makesUp) := goodIn_app (goodIn_of _ (by decide +kernel)) ggX2_goesThrough_X2_makesUp
theorem dX2_goesThrough_0 : decode cX2_goesThrough 0 = .ok (.aload_n 0, 1) := by decide +kernel
theorem dX2_goesThrough_1 : decode cX2_goesThrough 1 = .ok (.iconst 0, 1) := by decide +kernel
theorem dX2_goesThrough_2 : decode cX2_goesThrough 2 = .ok (.putfield 73, 3) := by decide +kernel
theorem dX2_goesThrough_5 : decode cX2_goesThrough 5 = .ok (.iconst 0, 1) := by decide +kernel
theorem dX2_goesThrough_6 : decode cX2_goesThrough 6 = .ok (.istore_n 1, 1) := by decide +kernel
theorem dX2_goesThrough_7 : decode cX2_goesThrough 7 = .ok (.iload_n 1, 1) := by decide +kernel
theorem dX2_goesThrough_8 : decode cX2_goesThrough 8 = .ok (.aload_n 0, 1) := by decide +kernel
theorem dX2_goesThrough_9 : decode cX2_goesThrough 9 = .ok (.getfield 80, 3) := by decide +kernel
theorem dX2_goesThrough_12 : decode cX2_goesThrough 12 = .ok (.if_icmp .ge 101, 3) := by decide +kernel
theorem dX2_goesThrough_15 : decode cX2_goesThrough 15 = .ok (.aload_n 0, 1) := by decide +kernel
theorem dX2_goesThrough_16 : decode cX2_goesThrough 16 = .ok (.getfield 43, 3) := by decide +kernel
theorem dX2_goesThrough_19 : decode cX2_goesThrough 19 = .ok (.iload_n 1, 1) := by decide +kernel
theorem dX2_goesThrough_20 : decode cX2_goesThrough 20 = .ok (.iconst 0, 1) := by decide +kernel
theorem dX2_goesThrough_21 : decode cX2_goesThrough 21 = .ok (.iastore, 1) := by decide +kernel
theorem dX2_goesThrough_22 : decode cX2_goesThrough 22 = .ok (.aload_n 0, 1) := by decide +kernel
theorem dX2_goesThrough_23 : decode cX2_goesThrough 23 = .ok (.getfield 46, 3) := by decide +kernel
theorem dX2_goesThrough_26 : decode cX2_goesThrough 26 = .ok (.iload_n 1, 1) := by decide +kernel
theorem dX2_goesThrough_27 : decode cX2_goesThrough 27 = .ok (.iconst 0, 1) := by decide +kernel
theorem dX2_goesThrough_28 : decode cX2_goesThrough 28 = .ok (.iastore, 1) := by decide +kernel
theorem dX2_goesThrough_29 : decode cX2_goesThrough 29 = .ok (.aload_n 0, 1) := by decide +kernel
theorem dX2_goesThrough_30 : decode cX2_goesThrough 30 = .ok (.getfield 49, 3) := by decide +kernel
theorem dX2_goesThrough_33 : decode cX2_goesThrough 33 = .ok (.iload_n 1, 1) := by decide +kernel
theorem dX2_goesThrough_34 : decode cX2_goesThrough 34 = .ok (.iconst 0, 1) := by decide +kernel
theorem dX2_goesThrough_35 : decode cX2_goesThrough 35 = .ok (.iastore, 1) := by decide +kernel
theorem dX2_goesThrough_36 : decode cX2_goesThrough 36 = .ok (.aload_n 0, 1) := by decide +kernel
theorem dX2_goesThrough_37 : decode cX2_goesThrough 37 = .ok (.getfield 52, 3) := by decide +kernel
theorem dX2_goesThrough_40 : decode cX2_goesThrough 40 = .ok (.iload_n 1, 1) := by decide +kernel
theorem dX2_goesThrough_41 : decode cX2_goesThrough 41 = .ok (.iconst 0, 1) := by decide +kernel
theorem dX2_goesThrough_42 : decode cX2_goesThrough 42 = .ok (.iastore, 1) := by decide +kernel
theorem dX2_goesThrough_43 : decode cX2_goesThrough 43 = .ok (.aload_n 0, 1) := by decide +kernel
theorem dX2_goesThrough_44 : decode cX2_goesThrough 44 = .ok (.getfield 55, 3) := by decide +kernel
theorem dX2_goesThrough_47 : decode cX2_goesThrough 47 = .ok (.iload_n 1, 1) := by decide +kernel
theorem dX2_goesThrough_48 : decode cX2_goesThrough 48 = .ok (.iconst 0, 1) := by decide +kernel
theorem dX2_goesThrough_49 : decode cX2_goesThrough 49 = .ok (.iastore, 1) := by decide +kernel
theorem dX2_goesThrough_50 : decode cX2_goesThrough 50 = .ok (.aload_n 0, 1) := by decide +kernel
theorem dX2_goesThrough_51 : decode cX2_goesThrough 51 = .ok (.getfield 58, 3) := by decide +kernel
theorem dX2_goesThrough_54 : decode cX2_goesThrough 54 = .ok (.iload_n 1, 1) := by decide +kernel
theorem dX2_goesThrough_55 : decode cX2_goesThrough 55 = .ok (.iconst 0, 1) := by decide +kernel
theorem dX2_goesThrough_56 : decode cX2_goesThrough 56 = .ok (.iastore, 1) := by decide +kernel
theorem dX2_goesThrough_57 : decode cX2_goesThrough 57 = .ok (.aload_n 0, 1) := by decide +kernel
theorem dX2_goesThrough_58 : decode cX2_goesThrough 58 = .ok (.iload_n 1, 1) := by decide +kernel
theorem dX2_goesThrough_59 : decode cX2_goesThrough 59 = .ok (.invokevirtual 83, 3) := by decide +kernel
theorem dX2_goesThrough_62 : decode cX2_goesThrough 62 = .ok (.aload_n 0, 1) := by decide +kernel
theorem dX2_goesThrough_63 : decode cX2_goesThrough 63 = .ok (.iload_n 1, 1) := by decide +kernel
theorem dX2_goesThrough_64 : decode cX2_goesThrough 64 = .ok (.invokevirtual 87, 3) := by decide +kernel
theorem dX2_goesThrough_67 : decode cX2_goesThrough 67 = .ok (.istore_n 2, 1) := by decide +kernel
theorem dX2_goesThrough_68 : decode cX2_goesThrough 68 = .ok (.aload_n 0, 1) := by decide +kernel
theorem dX2_goesThrough_69 : decode cX2_goesThrough 69 = .ok (.getfield 36, 3) := by decide +kernel
theorem dX2_goesThrough_72 : decode cX2_goesThrough 72 = .ok (.iload_n 1, 1) := by decide +kernel
theorem dX2_goesThrough_73 : decode cX2_goesThrough 73 = .ok (.iaload, 1) := by decide +kernel
theorem dX2_goesThrough_74 : decode cX2_goesThrough 74 = .ok (.iload_n 2, 1) := by decide +kernel
theorem dX2_goesThrough_75 : decode cX2_goesThrough 75 = .ok (.if_icmp .ge 19, 3) := by decide +kernel
theorem dX2_goesThrough_78 : decode cX2_goesThrough 78 = .ok (.aload_n 0, 1) := by decide +kernel
theorem dX2_goesThrough_79 : decode cX2_goesThrough 79 = .ok (.iload_n 1, 1) := by decide +kernel
theorem dX2_goesThrough_80 : decode cX2_goesThrough 80 = .ok (.iload_n 2, 1) := by decide +kernel
theorem dX2_goesThrough_81 : decode cX2_goesThrough 81 = .ok (.aload_n 0, 1) := by decide +kernel
theorem dX2_goesThrough_82 : decode cX2_goesThrough 82 = .ok (.getfield 36, 3) := by decide +kernel
