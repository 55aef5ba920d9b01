theorem dX1_addTakes_17 : decode cX1_addTakes 17 = .ok (.iload_n 3, 1) := by decide +kernel
theorem dX1_addTakes_18 : decode cX1_addTakes 18 = .ok (.iadd, 1) := by decide +kernel
theorem dX1_addTakes_19 : decode cX1_addTakes 19 = .ok (.iastore, 1) := by decide +kernel
theorem dX1_addTakes_20 : decode cX1_addTakes 20 = .ok (.iinc 4 1, 3) := by decide +kernel
theorem dX1_addTakes_23 : decode cX1_addTakes 23 = .ok (.goto (-20), 3) := by decide +kernel
theorem dX1_addTakes_26 : decode cX1_addTakes 26 = .ok (.aload_n 0, 1) := by decide +kernel
theorem dX1_addTakes_27 : decode cX1_addTakes 27 = .ok (.getfield 36, 3) := by decide +kernel
theorem dX1_addTakes_30 : decode cX1_addTakes 30 = .ok (.aload_n 0, 1) := by decide +kernel
theorem dX1_addTakes_31 : decode cX1_addTakes 31 = .ok (.getfield 103, 3) := by decide +kernel
theorem dX1_addTakes_34 : decode cX1_addTakes 34 = .ok (.dup2, 1) := by decide +kernel
theorem dX1_addTakes_35 : decode cX1_addTakes 35 = .ok (.iaload, 1) := by decide +kernel
theorem dX1_addTakes_36 : decode cX1_addTakes 36 = .ok (.iload_n 3, 1) := by decide +kernel
theorem dX1_addTakes_37 : decode cX1_addTakes 37 = .ok (.iload_n 2, 1) := by decide +kernel
theorem dX1_addTakes_38 : decode cX1_addTakes 38 = .ok (.iload_n 1, 1) := by decide +kernel
theorem dX1_addTakes_39 : decode cX1_addTakes 39 = .ok (.isub, 1) := by decide +kernel
theorem dX1_addTakes_40 : decode cX1_addTakes 40 = .ok (.iconst 1, 1) := by decide +kernel
theorem dX1_addTakes_41 : decode cX1_addTakes 41 = .ok (.iadd, 1) := by decide +kernel
theorem dX1_addTakes_42 : decode cX1_addTakes 42 = .ok (.imul, 1) := by decide +kernel
theorem dX1_addTakes_43 : decode cX1_addTakes 43 = .ok (.iadd, 1) := by decide +kernel
theorem dX1_addTakes_44 : decode cX1_addTakes 44 = .ok (.iastore, 1) := by decide +kernel
theorem dX1_addTakes_45 : decode cX1_addTakes 45 = .ok (.return_, 1) := by decide +kernel
theorem dX1_leastQuantity_0 : decode cX1_leastQuantity 0 = .ok (.aload_n 0, 1) := by decide +kernel
theorem dX1_leastQuantity_1 : decode cX1_leastQuantity 1 = .ok (.getfield 10, 3) := by decide +kernel
theorem dX1_leastQuantity_4 : decode cX1_leastQuantity 4 = .ok (.i2l, 1) := by decide +kernel
theorem dX1_leastQuantity_5 : decode cX1_leastQuantity 5 = .ok (.aload_n 0, 1) := by decide +kernel
theorem dX1_leastQuantity_6 : decode cX1_leastQuantity 6 = .ok (.getfield 14, 3) := by decide +kernel
theorem dX1_leastQuantity_9 : decode cX1_leastQuantity 9 = .ok (.i2l, 1) := by decide +kernel
theorem dX1_leastQuantity_10 : decode cX1_leastQuantity 10 = .ok (.lmul, 1) := by decide +kernel
theorem dX1_leastQuantity_11 : decode cX1_leastQuantity 11 = .ok (.sipush 360, 3) := by decide +kernel
theorem dX1_leastQuantity_14 : decode cX1_leastQuantity 14 = .ok (.aload_n 0, 1) := by decide +kernel
theorem dX1_leastQuantity_15 : decode cX1_leastQuantity 15 = .ok (.getfield 30, 3) := by decide +kernel
theorem dX1_leastQuantity_18 : decode cX1_leastQuantity 18 = .ok (.iload_n 1, 1) := by decide +kernel
theorem dX1_leastQuantity_19 : decode cX1_leastQuantity 19 = .ok (.iaload, 1) := by decide +kernel
theorem dX1_leastQuantity_20 : decode cX1_leastQuantity 20 = .ok (.isub, 1) := by decide +kernel
theorem dX1_leastQuantity_21 : decode cX1_leastQuantity 21 = .ok (.i2l, 1) := by decide +kernel
theorem dX1_leastQuantity_22 : decode cX1_leastQuantity 22 = .ok (.lmul, 1) := by decide +kernel
theorem dX1_leastQuantity_23 : decode cX1_leastQuantity 23 = .ok (.lstore_n 2, 1) := by decide +kernel
theorem dX1_leastQuantity_24 : decode cX1_leastQuantity 24 = .ok (.lload_n 2, 1) := by decide +kernel
theorem dX1_leastQuantity_25 : decode cX1_leastQuantity 25 = .ok (.ldc2_w 146, 3) := by decide +kernel
theorem dX1_leastQuantity_28 : decode cX1_leastQuantity 28 = .ok (.ldiv, 1) := by decide +kernel
theorem dX1_leastQuantity_29 : decode cX1_leastQuantity 29 = .ok (.l2i, 1) := by decide +kernel
theorem dX1_leastQuantity_30 : decode cX1_leastQuantity 30 = .ok (.ireturn, 1) := by decide +kernel
theorem dX1_shortfallPrice_0 : decode cX1_shortfallPrice 0 = .ok (.aload_n 0, 1) := by decide +kernel
theorem dX1_shortfallPrice_1 : decode cX1_shortfallPrice 1 = .ok (.getfield 20, 3) := by decide +kernel
theorem dX1_shortfallPrice_4 : decode cX1_shortfallPrice 4 = .ok (.iload_n 1, 1) := by decide +kernel
theorem dX1_shortfallPrice_5 : decode cX1_shortfallPrice 5 = .ok (.iaload, 1) := by decide +kernel
theorem dX1_shortfallPrice_6 : decode cX1_shortfallPrice 6 = .ok (.aload_n 0, 1) := by decide +kernel
theorem dX1_shortfallPrice_7 : decode cX1_shortfallPrice 7 = .ok (.getfield 17, 3) := by decide +kernel
theorem dX1_shortfallPrice_10 : decode cX1_shortfallPrice 10 = .ok (.imul, 1) := by decide +kernel
theorem dX1_shortfallPrice_11 : decode cX1_shortfallPrice 11 = .ok (.bipush 100, 2) := by decide +kernel
theorem dX1_shortfallPrice_13 : decode cX1_shortfallPrice 13 = .ok (.idiv, 1) := by decide +kernel
theorem dX1_shortfallPrice_14 : decode cX1_shortfallPrice 14 = .ok (.ireturn, 1) := by decide +kernel
set_option maxRecDepth 20000 in
theorem ggX1_settleClosedYears_X0_empty : GoodIn wsX1_settleClosedYears wsX0_empty := goodIn_r _ [9, 10, 11, 12, 13, 14, 15, 85, 86, 87] (by decide +kernel) (by decide +kernel)
set_option maxRecDepth 20000 in
theorem gX1_settleClosedYears_X0_empty : GoodIn wsX1_settleClosedYears (wsV RX1 148 RX0 yX0_empty wsX0_empty) := goodIn_app (goodIn_of _ (by decide +kernel)) ggX1_settleClosedYears_X0_empty
set_option maxRecDepth 20000 in
theorem ggX1_settleClosedYears_X0_lapseBefore : GoodIn wsX1_settleClosedYears wsX0_lapseBefore := goodIn_r _ [19, 20, 11, 10, 85, 86, 87] (by decide +kernel) (by decide +kernel)
set_option maxRecDepth 20000 in
theorem gX1_settleClosedYears_X0_lapseBefore : GoodIn wsX1_settleClosedYears (wsV RX1 151 RX0 yX0_lapseBefore wsX0_lapseBefore) := goodIn_app (goodIn_of _ (by decide +kernel)) ggX1_settleClosedYears_X0_lapseBefore
set_option maxRecDepth 20000 in
theorem ggX1_settleClosedYears_X1_leastQuantity : GoodIn wsX1_settleClosedYears wsX1_leastQuantity := goodIn_r _ [25, 26, 27, 28, 29, 68, 69, 70, 71, 72, 73, 74, 75, 76, 77, 78, 79, 80, 81, 82, 83, 84] (by decide +kernel) (by decide +kernel)
set_option maxRecDepth 20000 in
theorem gX1_settleClosedYears_X1_leastQuantity : GoodIn wsX1_settleClosedYears (wsV RX1 114 RX1 yX1_leastQuantity wsX1_leastQuantity) := goodIn_app (goodIn_of _ (by decide +kernel)) ggX1_settleClosedYears_X1_leastQuantity
set_option maxRecDepth 20000 in
theorem ggX1_settleClosedYears_X1_settleGap : GoodIn wsX1_settleClosedYears wsX1_settleGap := goodIn_r _ [33, 4, 1, 34, 35, 36, 37, 38, 39, 21, 22, 23, 24, 25, 26, 27, 28, 29, 40, 41, 42, 43, 2, 44, 45, 46, 8, 47, 10, 48, 49, 50, 51, 52, 53, 54, 55, 56, 57, 58, 59, 60, 68, 69, 70, 71, 72, 73, 74, 75, 76, 77, 78, 79, 80, 81, 82, 83, 84, 85, 86, 87] (by decide +kernel) (by decide +kernel)
set_option maxRecDepth 20000 in
theorem gX1_settleClosedYears_X1_settleGap : GoodIn wsX1_settleClosedYears (wsV RX1 154 RX1 yX1_settleGap wsX1_settleGap) := goodIn_app (goodIn_of _ (by decide +kernel)) ggX1_settleClosedYears_X1_settleGap
set_option maxRecDepth 20000 in
theorem ggX1_settleClosedYears_X1_settleEnough : GoodIn wsX1_settleClosedYears wsX1_settleEnough := goodIn_r _ [64, 4, 1, 39, 65, 66, 50, 67, 26, 2, 34, 35, 36, 37, 38, 21, 22, 23, 24, 25, 27, 28, 29, 44, 45, 46, 8, 47, 10, 48, 49, 51, 56, 57, 58, 59, 60, 52, 53, 54, 55, 68, 69, 70, 71, 72, 73, 74, 75, 76, 77, 78, 79, 80, 81, 82, 83, 84, 85, 86, 87] (by decide +kernel) (by decide +kernel)
set_option maxRecDepth 20000 in
theorem gX1_settleClosedYears_X1_settleEnough : GoodIn wsX1_settleClosedYears (wsV RX1 157 RX1 yX1_settleEnough wsX1_settleEnough) := goodIn_app (goodIn_of _ (by decide +kernel)) ggX1_settleClosedYears_X1_settleEnough
theorem dX1_settleClosedYears_0 : decode cX1_settleClosedYears 0 = .ok (.aload_n 0, 1) := by decide +kernel
theorem dX1_settleClosedYears_1 : decode cX1_settleClosedYears 1 = .ok (.getfield 44, 3) := by decide +kernel
theorem dX1_settleClosedYears_4 : decode cX1_settleClosedYears 4 = .ok (.invokevirtual 148, 3) := by decide +kernel
theorem dX1_settleClosedYears_7 : decode cX1_settleClosedYears 7 = .ok (.aload_n 0, 1) := by decide +kernel
theorem dX1_settleClosedYears_8 : decode cX1_settleClosedYears 8 = .ok (.getfield 48, 3) := by decide +kernel
theorem dX1_settleClosedYears_11 : decode cX1_settleClosedYears 11 = .ok (.invokevirtual 148, 3) := by decide +kernel
theorem dX1_settleClosedYears_14 : decode cX1_settleClosedYears 14 = .ok (.iconst 0, 1) := by decide +kernel
theorem dX1_settleClosedYears_15 : decode cX1_settleClosedYears 15 = .ok (.istore_n 1, 1) := by decide +kernel
theorem dX1_settleClosedYears_16 : decode cX1_settleClosedYears 16 = .ok (.iload_n 1, 1) := by decide +kernel
theorem dX1_settleClosedYears_17 : decode cX1_settleClosedYears 17 = .ok (.aload_n 0, 1) := by decide +kernel
theorem dX1_settleClosedYears_18 : decode cX1_settleClosedYears 18 = .ok (.getfield 103, 3) := by decide +kernel
theorem dX1_settleClosedYears_21 : decode cX1_settleClosedYears 21 = .ok (.if_icmp .ge 52, 3) := by decide +kernel
theorem dX1_settleClosedYears_24 : decode cX1_settleClosedYears 24 = .ok (.aload_n 0, 1) := by decide +kernel
theorem dX1_settleClosedYears_25 : decode cX1_settleClosedYears 25 = .ok (.getfield 44, 3) := by decide +kernel
theorem dX1_settleClosedYears_28 : decode cX1_settleClosedYears 28 = .ok (.iload_n 1, 1) := by decide +kernel
theorem dX1_settleClosedYears_29 : decode cX1_settleClosedYears 29 = .ok (.invokevirtual 151, 3) := by decide +kernel
theorem dX1_settleClosedYears_32 : decode cX1_settleClosedYears 32 = .ok (.aload_n 0, 1) := by decide +kernel
theorem dX1_settleClosedYears_33 : decode cX1_settleClosedYears 33 = .ok (.getfield 48, 3) := by decide +kernel
theorem dX1_settleClosedYears_36 : decode cX1_settleClosedYears 36 = .ok (.iload_n 1, 1) := by decide +kernel
theorem dX1_settleClosedYears_37 : decode cX1_settleClosedYears 37 = .ok (.invokevirtual 151, 3) := by decide +kernel
theorem dX1_settleClosedYears_40 : decode cX1_settleClosedYears 40 = .ok (.aload_n 0, 1) := by decide +kernel
theorem dX1_settleClosedYears_41 : decode cX1_settleClosedYears 41 = .ok (.getfield 36, 3) := by decide +kernel
theorem dX1_settleClosedYears_44 : decode cX1_settleClosedYears 44 = .ok (.iload_n 1, 1) := by decide +kernel
theorem dX1_settleClosedYears_45 : decode cX1_settleClosedYears 45 = .ok (.iaload, 1) := by decide +kernel
theorem dX1_settleClosedYears_46 : decode cX1_settleClosedYears 46 = .ok (.aload_n 0, 1) := by decide +kernel
theorem dX1_settleClosedYears_47 : decode cX1_settleClosedYears 47 = .ok (.iload_n 1, 1) := by decide +kernel
theorem dX1_settleClosedYears_48 : decode cX1_settleClosedYears 48 = .ok (.invokevirtual 114, 3) := by decide +kernel
theorem dX1_settleClosedYears_51 : decode cX1_settleClosedYears 51 = .ok (.if_icmp .ge 11, 3) := by decide +kernel
theorem dX1_settleClosedYears_54 : decode cX1_settleClosedYears 54 = .ok (.aload_n 0, 1) := by decide +kernel
theorem dX1_settleClosedYears_55 : decode cX1_settleClosedYears 55 = .ok (.iload_n 1, 1) := by decide +kernel
theorem dX1_settleClosedYears_56 : decode cX1_settleClosedYears 56 = .ok (.invokevirtual 154, 3) := by decide +kernel
theorem dX1_settleClosedYears_59 : decode cX1_settleClosedYears 59 = .ok (.goto 8, 3) := by decide +kernel
theorem dX1_settleClosedYears_62 : decode cX1_settleClosedYears 62 = .ok (.aload_n 0, 1) := by decide +kernel
theorem dX1_settleClosedYears_63 : decode cX1_settleClosedYears 63 = .ok (.iload_n 1, 1) := by decide +kernel
theorem dX1_settleClosedYears_64 : decode cX1_settleClosedYears 64 = .ok (.invokevirtual 157, 3) := by decide +kernel
theorem dX1_settleClosedYears_67 : decode cX1_settleClosedYears 67 = .ok (.iinc 1 1, 3) := by decide +kernel
theorem dX1_settleClosedYears_70 : decode cX1_settleClosedYears 70 = .ok (.goto (-54), 3) := by decide +kernel
theorem dX1_settleClosedYears_73 : decode cX1_settleClosedYears 73 = .ok (.return_, 1) := by decide +kernel
set_option maxRecDepth 20000 in
theorem ggX1_settleGap_X1_leastQuantity : GoodIn wsX1_settleGap wsX1_leastQuantity := goodIn_r _ [13, 14, 15, 16, 17, 42, 43, 44, 45, 46, 47, 48, 49, 50, 51, 52, 53, 54, 55, 56, 57, 58] (by decide +kernel) (by decide +kernel)
set_option maxRecDepth 20000 in
theorem gX1_settleGap_X1_leastQuantity : GoodIn wsX1_settleGap (wsV RX1 114 RX1 yX1_leastQuantity wsX1_leastQuantity) := goodIn_app (goodIn_of _ (by decide +kernel)) ggX1_settleGap_X1_leastQuantity
set_option maxRecDepth 20000 in
theorem ggX1_settleGap_X1_drawSurplus : GoodIn wsX1_settleGap wsX1_drawSurplus := goodIn_r _ [21, 22, 23, 24, 25, 26, 27, 28, 29, 30, 31, 32, 42, 43, 44, 45, 46, 47, 48, 49, 50, 51, 52, 53, 54, 55, 56, 57, 58, 59, 60, 61] (by decide +kernel) (by decide +kernel)
set_option maxRecDepth 20000 in
theorem gX1_settleGap_X1_drawSurplus : GoodIn wsX1_settleGap (wsV RX1 160 RX1 yX1_drawSurplus wsX1_drawSurplus) := goodIn_app (goodIn_of _ (by decide +kernel)) ggX1_settleGap_X1_drawSurplus
set_option maxRecDepth 20000 in
theorem ggX1_settleGap_X0_put : GoodIn wsX1_settleGap wsX0_put := goodIn_r _ [36, 28, 59, 60, 61] (by decide +kernel) (by decide +kernel)
set_option maxRecDepth 20000 in
theorem gX1_settleGap_X0_put : GoodIn wsX1_settleGap (wsV RX1 164 RX0 yX0_put wsX0_put) := goodIn_app (goodIn_of _ (by decide +kernel)) ggX1_settleGap_X0_put
set_option maxRecDepth 20000 in
theorem ggX1_settleGap_X1_shortfallPrice : GoodIn wsX1_settleGap wsX1_shortfallPrice := goodIn_r _ [40, 8, 41, 42, 43, 44, 45, 46, 47, 48, 49, 50, 51, 52, 53, 54, 55, 56, 57, 58] (by decide +kernel) (by decide +kernel)
set_option maxRecDepth 20000 in
theorem gX1_settleGap_X1_shortfallPrice : GoodIn wsX1_settleGap (wsV RX1 167 RX1 yX1_shortfallPrice wsX1_shortfallPrice) := goodIn_app (goodIn_of _ (by decide +kernel)) ggX1_settleGap_X1_shortfallPrice
theorem dX1_settleGap_0 : decode cX1_settleGap 0 = .ok (.aload_n 0, 1) := by decide +kernel
theorem dX1_settleGap_1 : decode cX1_settleGap 1 = .ok (.iload_n 1, 1) := by decide +kernel
theorem dX1_settleGap_2 : decode cX1_settleGap 2 = .ok (.invokevirtual 114, 3) := by decide +kernel
theorem dX1_settleGap_5 : decode cX1_settleGap 5 = .ok (.aload_n 0, 1) := by decide +kernel
theorem dX1_settleGap_6 : decode cX1_settleGap 6 = .ok (.getfield 36, 3) := by decide +kernel
theorem dX1_settleGap_9 : decode cX1_settleGap 9 = .ok (.iload_n 1, 1) := by decide +kernel
theorem dX1_settleGap_10 : decode cX1_settleGap 10 = .ok (.iaload, 1) := by decide +kernel
theorem dX1_settleGap_11 : decode cX1_settleGap 11 = .ok (.isub, 1) := by decide +kernel
theorem dX1_settleGap_12 : decode cX1_settleGap 12 = .ok (.istore_n 2, 1) := by decide +kernel
theorem dX1_settleGap_13 : decode cX1_settleGap 13 = .ok (.aload_n 0, 1) := by decide +kernel
theorem dX1_settleGap_14 : decode cX1_settleGap 14 = .ok (.iload_n 1, 1) := by decide +kernel
theorem dX1_settleGap_15 : decode cX1_settleGap 15 = .ok (.iload_n 2, 1) := by decide +kernel
theorem dX1_settleGap_16 : decode cX1_settleGap 16 = .ok (.invokevirtual 160, 3) := by decide +kernel
theorem dX1_settleGap_19 : decode cX1_settleGap 19 = .ok (.istore_n 3, 1) := by decide +kernel
theorem dX1_settleGap_20 : decode cX1_settleGap 20 = .ok (.iload_n 2, 1) := by decide +kernel
theorem dX1_settleGap_21 : decode cX1_settleGap 21 = .ok (.iload_n 3, 1) := by decide +kernel
theorem dX1_settleGap_22 : decode cX1_settleGap 22 = .ok (.isub, 1) := by decide +kernel
theorem dX1_settleGap_23 : decode cX1_settleGap 23 = .ok (.istore 4, 2) := by decide +kernel
theorem dX1_settleGap_25 : decode cX1_settleGap 25 = .ok (.aload_n 0, 1) := by decide +kernel
theorem dX1_settleGap_26 : decode cX1_settleGap 26 = .ok (.getfield 44, 3) := by decide +kernel
theorem dX1_settleGap_29 : decode cX1_settleGap 29 = .ok (.iload_n 1, 1) := by decide +kernel
theorem dX1_settleGap_30 : decode cX1_settleGap 30 = .ok (.iload 4, 2) := by decide +kernel
theorem dX1_settleGap_32 : decode cX1_settleGap 32 = .ok (.invokevirtual 164, 3) := by decide +kernel
theorem dX1_settleGap_35 : decode cX1_settleGap 35 = .ok (.aload_n 0, 1) := by decide +kernel
theorem dX1_settleGap_36 : decode cX1_settleGap 36 = .ok (.getfield 57, 3) := by decide +kernel
theorem dX1_settleGap_39 : decode cX1_settleGap 39 = .ok (.iload_n 1, 1) := by decide +kernel
theorem dX1_settleGap_40 : decode cX1_settleGap 40 = .ok (.iload_n 3, 1) := by decide +kernel
theorem dX1_settleGap_41 : decode cX1_settleGap 41 = .ok (.iastore, 1) := by decide +kernel
theorem dX1_settleGap_42 : decode cX1_settleGap 42 = .ok (.aload_n 0, 1) := by decide +kernel
theorem dX1_settleGap_43 : decode cX1_settleGap 43 = .ok (.getfield 51, 3) := by decide +kernel
theorem dX1_settleGap_46 : decode cX1_settleGap 46 = .ok (.iload_n 1, 1) := by decide +kernel
theorem dX1_settleGap_47 : decode cX1_settleGap 47 = .ok (.iload 4, 2) := by decide +kernel
theorem dX1_settleGap_49 : decode cX1_settleGap 49 = .ok (.iastore, 1) := by decide +kernel
theorem dX1_settleGap_50 : decode cX1_settleGap 50 = .ok (.aload_n 0, 1) := by decide +kernel
theorem dX1_settleGap_51 : decode cX1_settleGap 51 = .ok (.getfield 54, 3) := by decide +kernel
theorem dX1_settleGap_54 : decode cX1_settleGap 54 = .ok (.iload_n 1, 1) := by decide +kernel
theorem dX1_settleGap_55 : decode cX1_settleGap 55 = .ok (.iconst 0, 1) := by decide +kernel
theorem dX1_settleGap_56 : decode cX1_settleGap 56 = .ok (.iastore, 1) := by decide +kernel
theorem dX1_settleGap_57 : decode cX1_settleGap 57 = .ok (.aload_n 0, 1) := by decide +kernel
theorem dX1_settleGap_58 : decode cX1_settleGap 58 = .ok (.getfield 60, 3) := by decide +kernel
theorem dX1_settleGap_61 : decode cX1_settleGap 61 = .ok (.iload_n 1, 1) := by decide +kernel
theorem dX1_settleGap_62 : decode cX1_settleGap 62 = .ok (.iconst 0, 1) := by decide +kernel
theorem dX1_settleGap_63 : decode cX1_settleGap 63 = .ok (.iastore, 1) := by decide +kernel
theorem dX1_settleGap_64 : decode cX1_settleGap 64 = .ok (.aload_n 0, 1) := by decide +kernel
theorem dX1_settleGap_65 : decode cX1_settleGap 65 = .ok (.getfield 63, 3) := by decide +kernel
theorem dX1_settleGap_68 : decode cX1_settleGap 68 = .ok (.iload_n 1, 1) := by decide +kernel
theorem dX1_settleGap_69 : decode cX1_settleGap 69 = .ok (.aload_n 0, 1) := by decide +kernel
theorem dX1_settleGap_70 : decode cX1_settleGap 70 = .ok (.getfield 36, 3) := by decide +kernel
theorem dX1_settleGap_73 : decode cX1_settleGap 73 = .ok (.iload_n 1, 1) := by decide +kernel
theorem dX1_settleGap_74 : decode cX1_settleGap 74 = .ok (.iaload, 1) := by decide +kernel
theorem dX1_settleGap_75 : decode cX1_settleGap 75 = .ok (.i2l, 1) := by decide +kernel
theorem dX1_settleGap_76 : decode cX1_settleGap 76 = .ok (.aload_n 0, 1) := by decide +kernel
theorem dX1_settleGap_77 : decode cX1_settleGap 77 = .ok (.getfield 20, 3) := by decide +kernel
theorem dX1_settleGap_80 : decode cX1_settleGap 80 = .ok (.iload_n 1, 1) := by decide +kernel
theorem dX1_settleGap_81 : decode cX1_settleGap 81 = .ok (.iaload, 1) := by decide +kernel
theorem dX1_settleGap_82 : decode cX1_settleGap 82 = .ok (.i2l, 1) := by decide +kernel
theorem dX1_settleGap_83 : decode cX1_settleGap 83 = .ok (.lmul, 1) := by decide +kernel
theorem dX1_settleGap_84 : decode cX1_settleGap 84 = .ok (.iload 4, 2) := by decide +kernel
theorem dX1_settleGap_86 : decode cX1_settleGap 86 = .ok (.i2l, 1) := by decide +kernel
theorem dX1_settleGap_87 : decode cX1_settleGap 87 = .ok (.aload_n 0, 1) := by decide +kernel
theorem dX1_settleGap_88 : decode cX1_settleGap 88 = .ok (.iload_n 1, 1) := by decide +kernel
theorem dX1_settleGap_89 : decode cX1_settleGap 89 = .ok (.invokevirtual 167, 3) := by decide +kernel
theorem dX1_settleGap_92 : decode cX1_settleGap 92 = .ok (.i2l, 1) := by decide +kernel
theorem dX1_settleGap_93 : decode cX1_settleGap 93 = .ok (.lmul, 1) := by decide +kernel
theorem dX1_settleGap_94 : decode cX1_settleGap 94 = .ok (.ladd, 1) := by decide +kernel
theorem dX1_settleGap_95 : decode cX1_settleGap 95 = .ok (.lastore, 1) := by decide +kernel
theorem dX1_settleGap_96 : decode cX1_settleGap 96 = .ok (.return_, 1) := by decide +kernel
set_option maxRecDepth 20000 in
theorem ggX1_drawSurplus_X0_drawFrom : GoodIn wsX1_drawSurplus wsX0_drawFrom := goodIn_r _ [6, 7, 8, 9, 10, 11, 29, 30, 31] (by decide +kernel) (by decide +kernel)
set_option maxRecDepth 20000 in
theorem gX1_drawSurplus_X0_drawFrom : GoodIn wsX1_drawSurplus (wsV RX1 170 RX0 yX0_drawFrom wsX0_drawFrom) := goodIn_app (goodIn_of _ (by decide +kernel)) ggX1_drawSurplus_X0_drawFrom
theorem dX1_drawSurplus_0 : decode cX1_drawSurplus 0 = .ok (.iconst 0, 1) := by decide +kernel
theorem dX1_drawSurplus_1 : decode cX1_drawSurplus 1 = .ok (.istore_n 3, 1) := by decide +kernel
theorem dX1_drawSurplus_2 : decode cX1_drawSurplus 2 = .ok (.iconst 0, 1) := by decide +kernel
theorem dX1_drawSurplus_3 : decode cX1_drawSurplus 3 = .ok (.istore 4, 2) := by decide +kernel
theorem dX1_drawSurplus_5 : decode cX1_drawSurplus 5 = .ok (.iload 4, 2) := by decide +kernel
theorem dX1_drawSurplus_7 : decode cX1_drawSurplus 7 = .ok (.iload_n 1, 1) := by decide +kernel
theorem dX1_drawSurplus_8 : decode cX1_drawSurplus 8 = .ok (.if_icmp .ge 24, 3) := by decide +kernel
theorem dX1_drawSurplus_11 : decode cX1_drawSurplus 11 = .ok (.iload_n 3, 1) := by decide +kernel
theorem dX1_drawSurplus_12 : decode cX1_drawSurplus 12 = .ok (.aload_n 0, 1) := by decide +kernel
theorem dX1_drawSurplus_13 : decode cX1_drawSurplus 13 = .ok (.getfield 48, 3) := by decide +kernel
theorem dX1_drawSurplus_16 : decode cX1_drawSurplus 16 = .ok (.iload 4, 2) := by decide +kernel
theorem dX1_drawSurplus_18 : decode cX1_drawSurplus 18 = .ok (.iload_n 2, 1) := by decide +kernel
theorem dX1_drawSurplus_19 : decode cX1_drawSurplus 19 = .ok (.iload_n 3, 1) := by decide +kernel
theorem dX1_drawSurplus_20 : decode cX1_drawSurplus 20 = .ok (.isub, 1) := by decide +kernel
theorem dX1_drawSurplus_21 : decode cX1_drawSurplus 21 = .ok (.invokevirtual 170, 3) := by decide +kernel
theorem dX1_drawSurplus_24 : decode cX1_drawSurplus 24 = .ok (.iadd, 1) := by decide +kernel
theorem dX1_drawSurplus_25 : decode cX1_drawSurplus 25 = .ok (.istore_n 3, 1) := by decide +kernel
theorem dX1_drawSurplus_26 : decode cX1_drawSurplus 26 = .ok (.iinc 4 1, 3) := by decide +kernel
theorem dX1_drawSurplus_29 : decode cX1_drawSurplus 29 = .ok (.goto (-24), 3) := by decide +kernel
theorem dX1_drawSurplus_32 : decode cX1_drawSurplus 32 = .ok (.iload_n 3, 1) := by decide +kernel
theorem dX1_drawSurplus_33 : decode cX1_drawSurplus 33 = .ok (.ireturn, 1) := by decide +kernel
set_option maxRecDepth 20000 in
theorem ggX1_settleEnough_X1_leastQuantity : GoodIn wsX1_settleEnough wsX1_leastQuantity := goodIn_r _ [19, 8, 20, 21, 22, 41, 42, 43, 44, 45, 46, 47, 48, 49, 50, 51, 52, 53, 54, 55, 56, 57] (by decide +kernel) (by decide +kernel)
set_option maxRecDepth 20000 in
theorem gX1_settleEnough_X1_leastQuantity : GoodIn wsX1_settleEnough (wsV RX1 114 RX1 yX1_leastQuantity wsX1_leastQuantity) := goodIn_app (goodIn_of _ (by decide +kernel)) ggX1_settleEnough_X1_leastQuantity
set_option maxRecDepth 20000 in
theorem ggX1_settleEnough_X0_drawFrom : GoodIn wsX1_settleEnough wsX0_drawFrom := goodIn_r _ [27, 28, 29, 30, 6, 31, 58, 59, 60] (by decide +kernel) (by decide +kernel)
set_option maxRecDepth 20000 in
theorem gX1_settleEnough_X0_drawFrom : GoodIn wsX1_settleEnough (wsV RX1 170 RX0 yX0_drawFrom wsX0_drawFrom) := goodIn_app (goodIn_of _ (by decide +kernel)) ggX1_settleEnough_X0_drawFrom
set_option maxRecDepth 20000 in
theorem ggX1_settleEnough_X1_shortfallPrice : GoodIn wsX1_settleEnough wsX1_shortfallPrice := goodIn_r _ [35, 3, 36, 41, 42, 43, 44, 45, 46, 47, 48, 49, 50, 51, 52, 53, 54, 55, 56, 57] (by decide +kernel) (by decide +kernel)
set_option maxRecDepth 20000 in
theorem gX1_settleEnough_X1_shortfallPrice : GoodIn wsX1_settleEnough (wsV RX1 167 RX1 yX1_shortfallPrice wsX1_shortfallPrice) := goodIn_app (goodIn_of _ (by decide +kernel)) ggX1_settleEnough_X1_shortfallPrice
set_option maxRecDepth 20000 in
theorem ggX1_settleEnough_X0_put : GoodIn wsX1_settleEnough wsX0_put := goodIn_r _ [40, 28, 58, 59, 60] (by decide +kernel) (by decide +kernel)
set_option maxRecDepth 20000 in
theorem gX1_settleEnough_X0_put : GoodIn wsX1_settleEnough (wsV RX1 164 RX0 yX0_put wsX0_put) := goodIn_app (goodIn_of _ (by decide +kernel)) ggX1_settleEnough_X0_put
theorem dX1_settleEnough_0 : decode cX1_settleEnough 0 = .ok (.aload_n 0, 1) := by decide +kernel
theorem dX1_settleEnough_1 : decode cX1_settleEnough 1 = .ok (.getfield 36, 3) := by decide +kernel
theorem dX1_settleEnough_4 : decode cX1_settleEnough 4 = .ok (.iload_n 1, 1) := by decide +kernel
theorem dX1_settleEnough_5 : decode cX1_settleEnough 5 = .ok (.iaload, 1) := by decide +kernel
theorem dX1_settleEnough_6 : decode cX1_settleEnough 6 = .ok (.aload_n 0, 1) := by decide +kernel
theorem dX1_settleEnough_7 : decode cX1_settleEnough 7 = .ok (.iload_n 1, 1) := by decide +kernel
theorem dX1_settleEnough_8 : decode cX1_settleEnough 8 = .ok (.invokevirtual 114, 3) := by decide +kernel
theorem dX1_settleEnough_11 : decode cX1_settleEnough 11 = .ok (.isub, 1) := by decide +kernel
theorem dX1_settleEnough_12 : decode cX1_settleEnough 12 = .ok (.istore_n 2, 1) := by decide +kernel
theorem dX1_settleEnough_13 : decode cX1_settleEnough 13 = .ok (.iconst 0, 1) := by decide +kernel
theorem dX1_settleEnough_14 : decode cX1_settleEnough 14 = .ok (.istore_n 3, 1) := by decide +kernel
theorem dX1_settleEnough_15 : decode cX1_settleEnough 15 = .ok (.lconst 0, 1) := by decide +kernel
theorem dX1_settleEnough_16 : decode cX1_settleEnough 16 = .ok (.lstore 4, 2) := by decide +kernel
theorem dX1_settleEnough_18 : decode cX1_settleEnough 18 = .ok (.iconst 0, 1) := by decide +kernel
theorem dX1_settleEnough_19 : decode cX1_settleEnough 19 = .ok (.istore 6, 2) := by decide +kernel
theorem dX1_settleEnough_21 : decode cX1_settleEnough 21 = .ok (.iload 6, 2) := by decide +kernel
theorem dX1_settleEnough_23 : decode cX1_settleEnough 23 = .ok (.iload_n 1, 1) := by decide +kernel
theorem dX1_settleEnough_24 : decode cX1_settleEnough 24 = .ok (.if_icmp .ge 55, 3) := by decide +kernel
theorem dX1_settleEnough_27 : decode cX1_settleEnough 27 = .ok (.aload_n 0, 1) := by decide +kernel
theorem dX1_settleEnough_28 : decode cX1_settleEnough 28 = .ok (.getfield 44, 3) := by decide +kernel
theorem dX1_settleEnough_31 : decode cX1_settleEnough 31 = .ok (.iload 6, 2) := by decide +kernel
theorem dX1_settleEnough_33 : decode cX1_settleEnough 33 = .ok (.iload_n 2, 1) := by decide +kernel
theorem dX1_settleEnough_34 : decode cX1_settleEnough 34 = .ok (.iload_n 3, 1) := by decide +kernel
theorem dX1_settleEnough_35 : decode cX1_settleEnough 35 = .ok (.isub, 1) := by decide +kernel
theorem dX1_settleEnough_36 : decode cX1_settleEnough 36 = .ok (.invokevirtual 170, 3) := by decide +kernel
theorem dX1_settleEnough_39 : decode cX1_settleEnough 39 = .ok (.istore 7, 2) := by decide +kernel
theorem dX1_settleEnough_41 : decode cX1_settleEnough 41 = .ok (.iload_n 3, 1) := by decide +kernel
theorem dX1_settleEnough_42 : decode cX1_settleEnough 42 = .ok (.iload 7, 2) := by decide +kernel
theorem dX1_settleEnough_44 : decode cX1_settleEnough 44 = .ok (.iadd, 1) := by decide +kernel
theorem dX1_settleEnough_45 : decode cX1_settleEnough 45 = .ok (.istore_n 3, 1) := by decide +kernel
theorem dX1_settleEnough_46 : decode cX1_settleEnough 46 = .ok (.lload 4, 2) := by decide +kernel
theorem dX1_settleEnough_48 : decode cX1_settleEnough 48 = .ok (.iload 7, 2) := by decide +kernel
theorem dX1_settleEnough_50 : decode cX1_settleEnough 50 = .ok (.i2l, 1) := by decide +kernel
theorem dX1_settleEnough_51 : decode cX1_settleEnough 51 = .ok (.iconst 0, 1) := by decide +kernel
theorem dX1_settleEnough_52 : decode cX1_settleEnough 52 = .ok (.aload_n 0, 1) := by decide +kernel
theorem dX1_settleEnough_53 : decode cX1_settleEnough 53 = .ok (.getfield 20, 3) := by decide +kernel
theorem dX1_settleEnough_56 : decode cX1_settleEnough 56 = .ok (.iload_n 1, 1) := by decide +kernel
theorem dX1_settleEnough_57 : decode cX1_settleEnough 57 = .ok (.iaload, 1) := by decide +kernel
theorem dX1_settleEnough_58 : decode cX1_settleEnough 58 = .ok (.aload_n 0, 1) := by decide +kernel
theorem dX1_settleEnough_59 : decode cX1_settleEnough 59 = .ok (.iload 6, 2) := by decide +kernel
theorem dX1_settleEnough_61 : decode cX1_settleEnough 61 = .ok (.invokevirtual 167, 3) := by decide +kernel
theorem dX1_settleEnough_64 : decode cX1_settleEnough 64 = .ok (.isub, 1) := by decide +kernel
theorem dX1_settleEnough_65 : decode cX1_settleEnough 65 = .ok (.invokestatic 173, 3) := by decide +kernel
theorem dX1_settleEnough_68 : decode cX1_settleEnough 68 = .ok (.i2l, 1) := by decide +kernel
theorem dX1_settleEnough_69 : decode cX1_settleEnough 69 = .ok (.lmul, 1) := by decide +kernel
theorem dX1_settleEnough_70 : decode cX1_settleEnough 70 = .ok (.ladd, 1) := by decide +kernel
theorem dX1_settleEnough_71 : decode cX1_settleEnough 71 = .ok (.lstore 4, 2) := by decide +kernel
theorem dX1_settleEnough_73 : decode cX1_settleEnough 73 = .ok (.iinc 6 1, 3) := by decide +kernel
theorem dX1_settleEnough_76 : decode cX1_settleEnough 76 = .ok (.goto (-55), 3) := by decide +kernel
theorem dX1_settleEnough_79 : decode cX1_settleEnough 79 = .ok (.aload_n 0, 1) := by decide +kernel
theorem dX1_settleEnough_80 : decode cX1_settleEnough 80 = .ok (.getfield 36, 3) := by decide +kernel
theorem dX1_settleEnough_83 : decode cX1_settleEnough 83 = .ok (.iload_n 1, 1) := by decide +kernel
theorem dX1_settleEnough_84 : decode cX1_settleEnough 84 = .ok (.iaload, 1) := by decide +kernel
theorem dX1_settleEnough_85 : decode cX1_settleEnough 85 = .ok (.iload_n 3, 1) := by decide +kernel
theorem dX1_settleEnough_86 : decode cX1_settleEnough 86 = .ok (.isub, 1) := by decide +kernel
theorem dX1_settleEnough_87 : decode cX1_settleEnough 87 = .ok (.istore 6, 2) := by decide +kernel
theorem dX1_settleEnough_89 : decode cX1_settleEnough 89 = .ok (.iconst 0, 1) := by decide +kernel
theorem dX1_settleEnough_90 : decode cX1_settleEnough 90 = .ok (.iload 6, 2) := by decide +kernel
theorem dX1_settleEnough_92 : decode cX1_settleEnough 92 = .ok (.aload_n 0, 1) := by decide +kernel
theorem dX1_settleEnough_93 : decode cX1_settleEnough 93 = .ok (.getfield 10, 3) := by decide +kernel
theorem dX1_settleEnough_96 : decode cX1_settleEnough 96 = .ok (.isub, 1) := by decide +kernel
theorem dX1_settleEnough_97 : decode cX1_settleEnough 97 = .ok (.invokestatic 173, 3) := by decide +kernel
theorem dX1_settleEnough_100 : decode cX1_settleEnough 100 = .ok (.istore 7, 2) := by decide +kernel
theorem dX1_settleEnough_102 : decode cX1_settleEnough 102 = .ok (.aload_n 0, 1) := by decide +kernel
theorem dX1_settleEnough_103 : decode cX1_settleEnough 103 = .ok (.getfield 48, 3) := by decide +kernel
theorem dX1_settleEnough_106 : decode cX1_settleEnough 106 = .ok (.iload_n 1, 1) := by decide +kernel
theorem dX1_settleEnough_107 : decode cX1_settleEnough 107 = .ok (.iload 7, 2) := by decide +kernel
theorem dX1_settleEnough_109 : decode cX1_settleEnough 109 = .ok (.invokevirtual 164, 3) := by decide +kernel
theorem dX1_settleEnough_112 : decode cX1_settleEnough 112 = .ok (.aload_n 0, 1) := by decide +kernel
theorem dX1_settleEnough_113 : decode cX1_settleEnough 113 = .ok (.getfield 57, 3) := by decide +kernel
theorem dX1_settleEnough_116 : decode cX1_settleEnough 116 = .ok (.iload_n 1, 1) := by decide +kernel
theorem dX1_settleEnough_117 : decode cX1_settleEnough 117 = .ok (.iconst 0, 1) := by decide +kernel
theorem dX1_settleEnough_118 : decode cX1_settleEnough 118 = .ok (.iastore, 1) := by decide +kernel
theorem dX1_settleEnough_119 : decode cX1_settleEnough 119 = .ok (.aload_n 0, 1) := by decide +kernel
theorem dX1_settleEnough_120 : decode cX1_settleEnough 120 = .ok (.getfield 51, 3) := by decide +kernel
theorem dX1_settleEnough_123 : decode cX1_settleEnough 123 = .ok (.iload_n 1, 1) := by decide +kernel
theorem dX1_settleEnough_124 : decode cX1_settleEnough 124 = .ok (.iconst 0, 1) := by decide +kernel
theorem dX1_settleEnough_125 : decode cX1_settleEnough 125 = .ok (.iastore, 1) := by decide +kernel
theorem dX1_settleEnough_126 : decode cX1_settleEnough 126 = .ok (.aload_n 0, 1) := by decide +kernel
theorem dX1_settleEnough_127 : decode cX1_settleEnough 127 = .ok (.getfield 54, 3) := by decide +kernel
theorem dX1_settleEnough_130 : decode cX1_settleEnough 130 = .ok (.iload_n 1, 1) := by decide +kernel
theorem dX1_settleEnough_131 : decode cX1_settleEnough 131 = .ok (.iload_n 3, 1) := by decide +kernel
theorem dX1_settleEnough_132 : decode cX1_settleEnough 132 = .ok (.iastore, 1) := by decide +kernel
theorem dX1_settleEnough_133 : decode cX1_settleEnough 133 = .ok (.aload_n 0, 1) := by decide +kernel
theorem dX1_settleEnough_134 : decode cX1_settleEnough 134 = .ok (.getfield 60, 3) := by decide +kernel
theorem dX1_settleEnough_137 : decode cX1_settleEnough 137 = .ok (.iload_n 1, 1) := by decide +kernel
theorem dX1_settleEnough_138 : decode cX1_settleEnough 138 = .ok (.iload 7, 2) := by decide +kernel
theorem dX1_settleEnough_140 : decode cX1_settleEnough 140 = .ok (.iastore, 1) := by decide +kernel
theorem dX1_settleEnough_141 : decode cX1_settleEnough 141 = .ok (.aload_n 0, 1) := by decide +kernel
theorem dX1_settleEnough_142 : decode cX1_settleEnough 142 = .ok (.getfield 63, 3) := by decide +kernel
theorem dX1_settleEnough_145 : decode cX1_settleEnough 145 = .ok (.iload_n 1, 1) := by decide +kernel
theorem dX1_settleEnough_146 : decode cX1_settleEnough 146 = .ok (.iload 6, 2) := by decide +kernel
theorem dX1_settleEnough_148 : decode cX1_settleEnough 148 = .ok (.i2l, 1) := by decide +kernel
theorem dX1_settleEnough_149 : decode cX1_settleEnough 149 = .ok (.aload_n 0, 1) := by decide +kernel
theorem dX1_settleEnough_150 : decode cX1_settleEnough 150 = .ok (.getfield 20, 3) := by decide +kernel
theorem dX1_settleEnough_153 : decode cX1_settleEnough 153 = .ok (.iload_n 1, 1) := by decide +kernel
theorem dX1_settleEnough_154 : decode cX1_settleEnough 154 = .ok (.iaload, 1) := by decide +kernel
theorem dX1_settleEnough_155 : decode cX1_settleEnough 155 = .ok (.i2l, 1) := by decide +kernel
theorem dX1_settleEnough_156 : decode cX1_settleEnough 156 = .ok (.lmul, 1) := by decide +kernel
theorem dX1_settleEnough_157 : decode cX1_settleEnough 157 = .ok (.lload 4, 2) := by decide +kernel
theorem dX1_settleEnough_159 : decode cX1_settleEnough 159 = .ok (.ladd, 1) := by decide +kernel
theorem dX1_settleEnough_160 : decode cX1_settleEnough 160 = .ok (.lastore, 1) := by decide +kernel
theorem dX1_settleEnough_161 : decode cX1_settleEnough 161 = .ok (.return_, 1) := by decide +kernel
theorem dX1_dueInAll_0 : decode cX1_dueInAll 0 = .ok (.lconst 0, 1) := by decide +kernel
theorem dX1_dueInAll_1 : decode cX1_dueInAll 1 = .ok (.lstore_n 1, 1) := by decide +kernel
theorem dX1_dueInAll_2 : decode cX1_dueInAll 2 = .ok (.iconst 0, 1) := by decide +kernel
theorem dX1_dueInAll_3 : decode cX1_dueInAll 3 = .ok (.istore_n 3, 1) := by decide +kernel
theorem dX1_dueInAll_4 : decode cX1_dueInAll 4 = .ok (.iload_n 3, 1) := by decide +kernel
theorem dX1_dueInAll_5 : decode cX1_dueInAll 5 = .ok (.aload_n 0, 1) := by decide +kernel
theorem dX1_dueInAll_6 : decode cX1_dueInAll 6 = .ok (.getfield 103, 3) := by decide +kernel
theorem dX1_dueInAll_9 : decode cX1_dueInAll 9 = .ok (.if_icmp .ge 18, 3) := by decide +kernel
theorem dX1_dueInAll_12 : decode cX1_dueInAll 12 = .ok (.lload_n 1, 1) := by decide +kernel
theorem dX1_dueInAll_13 : decode cX1_dueInAll 13 = .ok (.aload_n 0, 1) := by decide +kernel
theorem dX1_dueInAll_14 : decode cX1_dueInAll 14 = .ok (.getfield 63, 3) := by decide +kernel
theorem dX1_dueInAll_17 : decode cX1_dueInAll 17 = .ok (.iload_n 3, 1) := by decide +kernel
theorem dX1_dueInAll_18 : decode cX1_dueInAll 18 = .ok (.laload, 1) := by decide +kernel
theorem dX1_dueInAll_19 : decode cX1_dueInAll 19 = .ok (.ladd, 1) := by decide +kernel
theorem dX1_dueInAll_20 : decode cX1_dueInAll 20 = .ok (.lstore_n 1, 1) := by decide +kernel
theorem dX1_dueInAll_21 : decode cX1_dueInAll 21 = .ok (.iinc 3 1, 3) := by decide +kernel
theorem dX1_dueInAll_24 : decode cX1_dueInAll 24 = .ok (.goto (-20), 3) := by decide +kernel
theorem dX1_dueInAll_27 : decode cX1_dueInAll 27 = .ok (.lload_n 1, 1) := by decide +kernel
theorem dX1_dueInAll_28 : decode cX1_dueInAll 28 = .ok (.lreturn, 1) := by decide +kernel
theorem dJ9_max_7cf53_0 : decode cJ9_max_7cf53 0 = .ok (.iload_n 0, 1) := by decide +kernel
theorem dJ9_max_7cf53_1 : decode cJ9_max_7cf53 1 = .ok (.iload_n 1, 1) := by decide +kernel
theorem dJ9_max_7cf53_2 : decode cJ9_max_7cf53 2 = .ok (.if_icmp .lt 7, 3) := by decide +kernel
theorem dJ9_max_7cf53_5 : decode cJ9_max_7cf53 5 = .ok (.iload_n 0, 1) := by decide +kernel
theorem dJ9_max_7cf53_6 : decode cJ9_max_7cf53 6 = .ok (.goto 4, 3) := by decide +kernel
theorem dJ9_max_7cf53_9 : decode cJ9_max_7cf53 9 = .ok (.iload_n 1, 1) := by decide +kernel
theorem dJ9_max_7cf53_10 : decode cJ9_max_7cf53 10 = .ok (.ireturn, 1) := by decide +kernel
theorem dJ9_min_7cf53_0 : decode cJ9_min_7cf53 0 = .ok (.iload_n 0, 1) := by decide +kernel
theorem dJ9_min_7cf53_1 : decode cJ9_min_7cf53 1 = .ok (.iload_n 1, 1) := by decide +kernel
theorem dJ9_min_7cf53_2 : decode cJ9_min_7cf53 2 = .ok (.if_icmp .gt 7, 3) := by decide +kernel
theorem dJ9_min_7cf53_5 : decode cJ9_min_7cf53 5 = .ok (.iload_n 0, 1) := by decide +kernel
theorem dJ9_min_7cf53_6 : decode cJ9_min_7cf53 6 = .ok (.goto 4, 3) := by decide +kernel
theorem dJ9_min_7cf53_9 : decode cJ9_min_7cf53 9 = .ok (.iload_n 1, 1) := by decide +kernel
theorem dJ9_min_7cf53_10 : decode cJ9_min_7cf53 10 = .ok (.ireturn, 1) := by decide +kernel
theorem dJ7_fill_53178_0 : decode cJ7_fill_53178 0 = .ok (.iconst 0, 1) := by decide +kernel
theorem dJ7_fill_53178_1 : decode cJ7_fill_53178 1 = .ok (.istore_n 2, 1) := by decide +kernel
theorem dJ7_fill_53178_2 : decode cJ7_fill_53178 2 = .ok (.aload_n 0, 1) := by decide +kernel
theorem dJ7_fill_53178_3 : decode cJ7_fill_53178 3 = .ok (.arraylength, 1) := by decide +kernel
theorem dJ7_fill_53178_4 : decode cJ7_fill_53178 4 = .ok (.istore_n 3, 1) := by decide +kernel
theorem dJ7_fill_53178_5 : decode cJ7_fill_53178 5 = .ok (.iload_n 2, 1) := by decide +kernel
theorem dJ7_fill_53178_6 : decode cJ7_fill_53178 6 = .ok (.iload_n 3, 1) := by decide +kernel
theorem dJ7_fill_53178_7 : decode cJ7_fill_53178 7 = .ok (.if_icmp .ge 13, 3) := by decide +kernel
theorem dJ7_fill_53178_10 : decode cJ7_fill_53178 10 = .ok (.aload_n 0, 1) := by decide +kernel
theorem dJ7_fill_53178_11 : decode cJ7_fill_53178 11 = .ok (.iload_n 2, 1) := by decide +kernel
theorem dJ7_fill_53178_12 : decode cJ7_fill_53178 12 = .ok (.iload_n 1, 1) := by decide +kernel
theorem dJ7_fill_53178_13 : decode cJ7_fill_53178 13 = .ok (.iastore, 1) := by decide +kernel
theorem dJ7_fill_53178_14 : decode cJ7_fill_53178 14 = .ok (.iinc 2 1, 3) := by decide +kernel
theorem dJ7_fill_53178_17 : decode cJ7_fill_53178 17 = .ok (.goto (-12), 3) := by decide +kernel
theorem dJ7_fill_53178_20 : decode cJ7_fill_53178 20 = .ok (.return_, 1) := by decide +kernel
theorem dL_draw_0 : decode cL_draw 0 = .ok (.iload_n 1, 1) := by decide +kernel
theorem dL_draw_1 : decode cL_draw 1 = .ok (.aload_n 0, 1) := by decide +kernel
theorem dL_draw_2 : decode cL_draw 2 = .ok (.arraylength, 1) := by decide +kernel
theorem dL_draw_3 : decode cL_draw 3 = .ok (.if_icmp .ge 12, 3) := by decide +kernel
theorem dL_draw_6 : decode cL_draw 6 = .ok (.aload_n 0, 1) := by decide +kernel
theorem dL_draw_7 : decode cL_draw 7 = .ok (.iload_n 1, 1) := by decide +kernel
theorem dL_draw_8 : decode cL_draw 8 = .ok (.iaload, 1) := by decide +kernel
theorem dL_draw_9 : decode cL_draw 9 = .ok (.ldc 7, 2) := by decide +kernel
theorem dL_draw_11 : decode cL_draw 11 = .ok (.iand, 1) := by decide +kernel
theorem dL_draw_12 : decode cL_draw 12 = .ok (.goto 12, 3) := by decide +kernel
theorem dL_draw_15 : decode cL_draw 15 = .ok (.ldc 8, 2) := by decide +kernel
theorem dL_draw_17 : decode cL_draw 17 = .ok (.iload_n 1, 1) := by decide +kernel
theorem dL_draw_18 : decode cL_draw 18 = .ok (.iconst 2, 1) := by decide +kernel
theorem dL_draw_19 : decode cL_draw 19 = .ok (.iadd, 1) := by decide +kernel
theorem dL_draw_20 : decode cL_draw 20 = .ok (.imul, 1) := by decide +kernel
theorem dL_draw_21 : decode cL_draw 21 = .ok (.ldc 9, 2) := by decide +kernel
theorem dL_draw_23 : decode cL_draw 23 = .ok (.irem, 1) := by decide +kernel
theorem dL_draw_24 : decode cL_draw 24 = .ok (.ireturn, 1) := by decide +kernel
set_option maxRecDepth 20000 in
theorem ggL_step_X1_closed : GoodIn wsL_step wsX1_closed := goodIn_r _ [8, 9, 187, 188, 189, 190, 191, 192, 193, 194, 195, 196, 197, 198, 199, 200, 201, 202, 203] (by decide +kernel) (by decide +kernel)
set_option maxRecDepth 20000 in
theorem gL_step_X1_closed : GoodIn wsL_step (wsV RL 10 RX1 yX1_closed wsX1_closed) := goodIn_app (goodIn_of _ (by decide +kernel)) ggL_step_X1_closed
set_option maxRecDepth 20000 in
theorem ggL_step_X1_set : GoodIn wsL_step wsX1_set := goodIn_ca (goodIn_ca (goodIn_r _ [13, 14, 15, 16, 17, 18, 19, 20, 21, 7, 22, 23, 24, 25, 26, 27, 28, 29, 30, 9, 31, 32, 33, 34, 35, 36, 37, 187, 188, 189, 190, 191, 192, 193, 194, 195, 196, 197, 198, 199, 200, 201, 202, 203, 204, 205, 206] (by decide +kernel) (by decide +kernel)) (goodIn_sub (fun _ h => List.mem_cons_of_mem _ (List.mem_append_left _ (List.mem_append_right _ h))) (by decide +kernel))) (goodIn_sub (fun _ h => List.mem_cons_of_mem _ (List.mem_append_right _ h)) (by decide +kernel))
set_option maxRecDepth 20000 in
theorem gL_step_X1_set : GoodIn wsL_step (wsV RL 17 RX1 yX1_set wsX1_set) := goodIn_app (goodIn_of _ (by decide +kernel)) ggL_step_X1_set
set_option maxRecDepth 20000 in
theorem ggL_step_X1_least : GoodIn wsL_step wsX1_least := goodIn_ca (goodIn_r _ [41, 42, 43, 7, 44, 20, 21, 22, 23, 24, 45, 46, 47, 48, 15, 16, 49, 50, 187, 188, 189, 190, 191, 192, 193, 194, 195, 196, 197, 198, 199, 200, 201, 202, 203] (by decide +kernel) (by decide +kernel)) (goodIn_sub (fun _ h => List.mem_cons_of_mem _ (List.mem_append_left _ (List.mem_append_right _ h))) (by decide +kernel))
set_option maxRecDepth 20000 in
theorem gL_step_X1_least : GoodIn wsL_step (wsV RL 21 RX1 yX1_least wsX1_least) := goodIn_app (goodIn_of _ (by decide +kernel)) ggL_step_X1_least
set_option maxRecDepth 20000 in
theorem ggL_step_X1_price : GoodIn wsL_step wsX1_price := goodIn_ca (goodIn_r _ [54, 55, 42, 43, 7, 44, 20, 21, 22, 23, 24, 187, 188, 189, 190, 191, 192, 193, 194, 195, 196, 197, 198, 199, 200, 201, 202, 203] (by decide +kernel) (by decide +kernel)) (goodIn_sub (fun _ h => List.mem_cons_of_mem _ (List.mem_append_left _ (List.mem_append_right _ h))) (by decide +kernel))
set_option maxRecDepth 20000 in
theorem gL_step_X1_price : GoodIn wsL_step (wsV RL 27 RX1 yX1_price wsX1_price) := goodIn_app (goodIn_of _ (by decide +kernel)) ggL_step_X1_price
set_option maxRecDepth 20000 in
theorem ggL_step_X1_review : GoodIn wsL_step wsX1_review := goodIn_ca (goodIn_r _ [59, 55, 42, 43, 7, 44, 20, 21, 22, 23, 24, 60, 61, 62, 63, 18, 19, 9, 31, 64, 65, 66, 35, 67, 68, 69, 70, 71, 72, 73, 74, 75, 76, 77, 37, 45, 46, 47, 48, 15, 16, 49, 50, 78, 79, 80, 81, 82, 83, 84, 85, 86, 87, 88, 89, 90, 91, 92, 93, 94, 95, 96, 97, 98, 99, 100, 101, 102, 103, 104, 105, 106, 17, 107, 108, 109, 110, 111, 112, 113, 187, 188, 189, 190, 191, 192, 193, 194, 195, 196, 197, 198, 199, 200, 201, 202, 203, 204, 205, 206] (by decide +kernel) (by decide +kernel)) (goodIn_sub (fun _ h => List.mem_cons_of_mem _ (List.mem_append_left _ (List.mem_append_right _ h))) (by decide +kernel))
set_option maxRecDepth 20000 in
theorem gL_step_X1_review : GoodIn wsL_step (wsV RL 30 RX1 yX1_review wsX1_review) := goodIn_app (goodIn_of _ (by decide +kernel)) ggL_step_X1_review
set_option maxRecDepth 20000 in
theorem ggL_step_X1_excuse : GoodIn wsL_step wsX1_excuse := goodIn_ca (goodIn_r _ [117, 49, 42, 43, 7, 44, 20, 21, 22, 23, 24, 60, 61, 62, 63, 18, 19, 9, 31, 64, 65, 66, 35, 67, 68, 69, 70, 71, 72, 73, 74, 75, 76, 77, 37, 45, 46, 47, 48, 15, 16, 50, 78, 79, 80, 81, 82, 83, 84, 85, 86, 55, 87, 88, 89, 90, 91, 92, 93, 94, 95, 96, 97, 98, 99, 100, 101, 102, 103, 104, 105, 106, 17, 107, 108, 109, 110, 111, 112, 113, 187, 188, 189, 190, 191, 192, 193, 194, 195, 196, 197, 198, 199, 200, 201, 202, 203, 204, 205, 206] (by decide +kernel) (by decide +kernel)) (goodIn_sub (fun _ h => List.mem_cons_of_mem _ (List.mem_append_left _ (List.mem_append_right _ h))) (by decide +kernel))
set_option maxRecDepth 20000 in
theorem gL_step_X1_excuse : GoodIn wsL_step (wsV RL 34 RX1 yX1_excuse wsX1_excuse) := goodIn_app (goodIn_of _ (by decide +kernel)) ggL_step_X1_excuse
set_option maxRecDepth 20000 in
theorem ggL_step_L_takes : GoodIn wsL_step wsL_takes := goodIn_ca (goodIn_ca (goodIn_r _ [121, 122, 123, 124, 7, 125, 126, 127, 128, 129, 130, 131, 132, 20, 21, 22, 23, 24, 133, 134, 135, 136, 31, 42, 43, 44, 137, 138, 139, 140, 141, 142, 143, 144, 29, 30, 9, 145, 146, 147, 148, 149, 150, 151, 152, 153, 154, 155, 156, 187, 188, 189, 190, 191, 192, 193, 194, 195, 196, 197, 198, 199, 200, 201, 202, 203] (by decide +kernel) (by decide +kernel)) (goodIn_sub (fun _ h => List.mem_cons_of_mem _ (List.mem_append_left _ (List.mem_append_right _ h))) (by decide +kernel))) (goodIn_sub (fun _ h => List.mem_cons_of_mem _ (List.mem_append_right _ h)) (by decide +kernel))
set_option maxRecDepth 20000 in
theorem gL_step_L_takes : GoodIn wsL_step (va_wsS RL 39 yL_takes wsL_takes) := goodIn_app (goodIn_of _ (by decide +kernel)) ggL_step_L_takes
set_option maxRecDepth 20000 in
theorem ggL_step_X1_taken : GoodIn wsL_step wsX1_taken := goodIn_ca (goodIn_r _ [136, 31, 42, 43, 7, 44, 20, 21, 22, 23, 24, 187, 188, 189, 190, 191, 192, 193, 194, 195, 196, 197, 198, 199, 200, 201, 202, 203] (by decide +kernel) (by decide +kernel)) (goodIn_sub (fun _ h => List.mem_cons_of_mem _ (List.mem_append_left _ (List.mem_append_right _ h))) (by decide +kernel))
set_option maxRecDepth 20000 in
theorem gL_step_X1_taken : GoodIn wsL_step (wsV RL 45 RX1 yX1_taken wsX1_taken) := goodIn_app (goodIn_of _ (by decide +kernel)) ggL_step_X1_taken
set_option maxRecDepth 20000 in
theorem ggL_step_X1_takenFrom : GoodIn wsL_step wsX1_takenFrom := goodIn_ca (goodIn_r _ [125, 126, 127, 128, 7, 129, 130, 131, 132, 20, 21, 22, 23, 24, 187, 188, 189, 190, 191, 192, 193, 194, 195, 196, 197, 198, 199, 200, 201, 202, 203] (by decide +kernel) (by decide +kernel)) (goodIn_sub (fun _ h => List.mem_cons_of_mem _ (List.mem_append_left _ (List.mem_append_right _ h))) (by decide +kernel))
set_option maxRecDepth 20000 in
theorem gL_step_X1_takenFrom : GoodIn wsL_step (wsV RL 48 RX1 yX1_takenFrom wsX1_takenFrom) := goodIn_app (goodIn_of _ (by decide +kernel)) ggL_step_X1_takenFrom
set_option maxRecDepth 20000 in
theorem ggL_step_L_closes : GoodIn wsL_step wsL_closes := goodIn_ca (goodIn_ca (goodIn_r _ [159, 160, 161, 162, 7, 163, 164, 165, 166, 167, 168, 9, 86, 169, 170, 171, 172, 126, 173, 141, 142, 143, 144, 29, 30, 174, 71, 72, 73, 60, 61, 62, 63, 18, 19, 31, 64, 65, 66, 35, 67, 68, 69, 70, 74, 75, 76, 77, 37, 45, 46, 47, 48, 15, 16, 49, 50, 78, 79, 80, 81, 82, 83, 84, 85, 55, 87, 88, 89, 90, 91, 92, 93, 94, 95, 96, 97, 98, 99, 100, 101, 102, 103, 104, 105, 106, 17, 107, 108, 109, 110, 111, 112, 113, 4, 5, 6, 8, 175, 176, 177, 178, 179, 180, 181, 182, 42, 43, 44, 20, 21, 22, 23, 24, 183, 184, 185, 186, 122, 123, 124, 125, 127, 128, 129, 130, 131, 132, 187, 188, 189, 190, 191, 192, 193, 194, 195, 196, 197, 198, 199, 200, 201, 202, 203, 204, 205, 206] (by decide +kernel) (by decide +kernel)) (goodIn_sub (fun _ h => List.mem_cons_of_mem _ (List.mem_append_right _ h)) (by decide +kernel))) (goodIn_sub (fun _ h => List.mem_cons_of_mem _ (List.mem_append_left _ (List.mem_append_right _ h))) (by decide +kernel))
set_option maxRecDepth 20000 in
theorem gL_step_L_closes : GoodIn wsL_step (va_wsS RL 51 yL_closes wsL_closes) := goodIn_app (goodIn_of _ (by decide +kernel)) ggL_step_L_closes
theorem dL_step_0 : decode cL_step 0 = .ok (.iload_n 3, 1) := by decide +kernel
theorem dL_step_1 : decode cL_step 1 = .ok (.bipush 20, 2) := by decide +kernel
theorem dL_step_3 : decode cL_step 3 = .ok (.irem, 1) := by decide +kernel
theorem dL_step_4 : decode cL_step 4 = .ok (.istore 5, 2) := by decide +kernel
theorem dL_step_6 : decode cL_step 6 = .ok (.iload_n 2, 1) := by decide +kernel
theorem dL_step_7 : decode cL_step 7 = .ok (.bipush 12, 2) := by decide +kernel
theorem dL_step_9 : decode cL_step 9 = .ok (.irem, 1) := by decide +kernel
theorem dL_step_10 : decode cL_step 10 = .ok (.tableswitch 478 0 7 #[46, 193, 280, 349, 349, 349, 389, 409], 46) := by decide +kernel
theorem dL_step_56 : decode cL_step 56 = .ok (.aload_n 1, 1) := by decide +kernel
theorem dL_step_57 : decode cL_step 57 = .ok (.iconst 5, 1) := by decide +kernel
theorem dL_step_58 : decode cL_step 58 = .ok (.iaload, 1) := by decide +kernel
theorem dL_step_59 : decode cL_step 59 = .ok (.ifCond .gt 10, 3) := by decide +kernel
theorem dL_step_62 : decode cL_step 62 = .ok (.aload_n 1, 1) := by decide +kernel
theorem dL_step_63 : decode cL_step 63 = .ok (.bipush 6, 2) := by decide +kernel
theorem dL_step_65 : decode cL_step 65 = .ok (.iaload, 1) := by decide +kernel
theorem dL_step_66 : decode cL_step 66 = .ok (.ifCond .le 19, 3) := by decide +kernel
theorem dL_step_69 : decode cL_step 69 = .ok (.aload_n 0, 1) := by decide +kernel
theorem dL_step_70 : decode cL_step 70 = .ok (.invokevirtual 10, 3) := by decide +kernel
theorem dL_step_73 : decode cL_step 73 = .ok (.aload_n 1, 1) := by decide +kernel
theorem dL_step_74 : decode cL_step 74 = .ok (.iconst 5, 1) := by decide +kernel
theorem dL_step_75 : decode cL_step 75 = .ok (.iaload, 1) := by decide +kernel
theorem dL_step_76 : decode cL_step 76 = .ok (.if_icmp .ne 7, 3) := by decide +kernel
theorem dL_step_79 : decode cL_step 79 = .ok (.iconst 1, 1) := by decide +kernel
theorem dL_step_80 : decode cL_step 80 = .ok (.goto 4, 3) := by decide +kernel
theorem dL_step_83 : decode cL_step 83 = .ok (.iconst 0, 1) := by decide +kernel
theorem dL_step_84 : decode cL_step 84 = .ok (.ireturn, 1) := by decide +kernel
theorem dL_step_85 : decode cL_step 85 = .ok (.aload_n 1, 1) := by decide +kernel
theorem dL_step_86 : decode cL_step 86 = .ok (.iconst 0, 1) := by decide +kernel
theorem dL_step_87 : decode cL_step 87 = .ok (.iconst 1, 1) := by decide +kernel
theorem dL_step_88 : decode cL_step 88 = .ok (.iload_n 3, 1) := by decide +kernel
theorem dL_step_89 : decode cL_step 89 = .ok (.iload 4, 2) := by decide +kernel
theorem dL_step_91 : decode cL_step 91 = .ok (.iconst 2, 1) := by decide +kernel
theorem dL_step_92 : decode cL_step 92 = .ok (.irem, 1) := by decide +kernel
theorem dL_step_93 : decode cL_step 93 = .ok (.ifCond .ne 8, 3) := by decide +kernel
theorem dL_step_96 : decode cL_step 96 = .ok (.ldc 16, 2) := by decide +kernel
theorem dL_step_98 : decode cL_step 98 = .ok (.goto 6, 3) := by decide +kernel
theorem dL_step_101 : decode cL_step 101 = .ok (.sipush 4000, 3) := by decide +kernel
theorem dL_step_104 : decode cL_step 104 = .ok (.irem, 1) := by decide +kernel
theorem dL_step_105 : decode cL_step 105 = .ok (.iadd, 1) := by decide +kernel
theorem dL_step_106 : decode cL_step 106 = .ok (.iastore, 1) := by decide +kernel
theorem dL_step_107 : decode cL_step 107 = .ok (.aload_n 1, 1) := by decide +kernel
theorem dL_step_108 : decode cL_step 108 = .ok (.iconst 1, 1) := by decide +kernel
theorem dL_step_109 : decode cL_step 109 = .ok (.iload 4, 2) := by decide +kernel
theorem dL_step_111 : decode cL_step 111 = .ok (.iconst 2, 1) := by decide +kernel
theorem dL_step_112 : decode cL_step 112 = .ok (.idiv, 1) := by decide +kernel
theorem dL_step_113 : decode cL_step 113 = .ok (.bipush 101, 2) := by decide +kernel
theorem dL_step_115 : decode cL_step 115 = .ok (.irem, 1) := by decide +kernel
theorem dL_step_116 : decode cL_step 116 = .ok (.iastore, 1) := by decide +kernel
theorem dL_step_117 : decode cL_step 117 = .ok (.aload_n 1, 1) := by decide +kernel
theorem dL_step_118 : decode cL_step 118 = .ok (.iconst 2, 1) := by decide +kernel
theorem dL_step_119 : decode cL_step 119 = .ok (.iload 4, 2) := by decide +kernel
theorem dL_step_121 : decode cL_step 121 = .ok (.sipush 202, 3) := by decide +kernel
theorem dL_step_124 : decode cL_step 124 = .ok (.idiv, 1) := by decide +kernel
theorem dL_step_125 : decode cL_step 125 = .ok (.bipush 101, 2) := by decide +kernel
theorem dL_step_127 : decode cL_step 127 = .ok (.irem, 1) := by decide +kernel
theorem dL_step_128 : decode cL_step 128 = .ok (.iastore, 1) := by decide +kernel
theorem dL_step_129 : decode cL_step 129 = .ok (.aload_n 1, 1) := by decide +kernel
theorem dL_step_130 : decode cL_step 130 = .ok (.iconst 3, 1) := by decide +kernel
theorem dL_step_131 : decode cL_step 131 = .ok (.iconst 1, 1) := by decide +kernel
theorem dL_step_132 : decode cL_step 132 = .ok (.iload_n 3, 1) := by decide +kernel
theorem dL_step_133 : decode cL_step 133 = .ok (.iconst 5, 1) := by decide +kernel
theorem dL_step_134 : decode cL_step 134 = .ok (.irem, 1) := by decide +kernel
theorem dL_step_135 : decode cL_step 135 = .ok (.iadd, 1) := by decide +kernel
theorem dL_step_136 : decode cL_step 136 = .ok (.iastore, 1) := by decide +kernel
theorem dL_step_137 : decode cL_step 137 = .ok (.aload_n 1, 1) := by decide +kernel
theorem dL_step_138 : decode cL_step 138 = .ok (.iconst 4, 1) := by decide +kernel
theorem dL_step_139 : decode cL_step 139 = .ok (.iconst 1, 1) := by decide +kernel
theorem dL_step_140 : decode cL_step 140 = .ok (.iload 4, 2) := by decide +kernel
theorem dL_step_142 : decode cL_step 142 = .ok (.iconst 5, 1) := by decide +kernel
theorem dL_step_143 : decode cL_step 143 = .ok (.irem, 1) := by decide +kernel
theorem dL_step_144 : decode cL_step 144 = .ok (.iadd, 1) := by decide +kernel
theorem dL_step_145 : decode cL_step 145 = .ok (.iastore, 1) := by decide +kernel
theorem dL_step_146 : decode cL_step 146 = .ok (.aload_n 0, 1) := by decide +kernel
theorem dL_step_147 : decode cL_step 147 = .ok (.aload_n 1, 1) := by decide +kernel
theorem dL_step_148 : decode cL_step 148 = .ok (.iconst 0, 1) := by decide +kernel
theorem dL_step_149 : decode cL_step 149 = .ok (.iaload, 1) := by decide +kernel
theorem dL_step_150 : decode cL_step 150 = .ok (.aload_n 1, 1) := by decide +kernel
theorem dL_step_151 : decode cL_step 151 = .ok (.iconst 1, 1) := by decide +kernel
theorem dL_step_152 : decode cL_step 152 = .ok (.iaload, 1) := by decide +kernel
theorem dL_step_153 : decode cL_step 153 = .ok (.aload_n 1, 1) := by decide +kernel
theorem dL_step_154 : decode cL_step 154 = .ok (.iconst 2, 1) := by decide +kernel
theorem dL_step_155 : decode cL_step 155 = .ok (.iaload, 1) := by decide +kernel
theorem dL_step_156 : decode cL_step 156 = .ok (.aload_n 1, 1) := by decide +kernel
theorem dL_step_157 : decode cL_step 157 = .ok (.iconst 3, 1) := by decide +kernel
theorem dL_step_158 : decode cL_step 158 = .ok (.iaload, 1) := by decide +kernel
theorem dL_step_159 : decode cL_step 159 = .ok (.aload_n 1, 1) := by decide +kernel
theorem dL_step_160 : decode cL_step 160 = .ok (.iconst 4, 1) := by decide +kernel
theorem dL_step_161 : decode cL_step 161 = .ok (.iaload, 1) := by decide +kernel
theorem dL_step_162 : decode cL_step 162 = .ok (.invokevirtual 17, 3) := by decide +kernel
theorem dL_step_165 : decode cL_step 165 = .ok (.aload_n 0, 1) := by decide +kernel
theorem dL_step_166 : decode cL_step 166 = .ok (.iload 5, 2) := by decide +kernel
theorem dL_step_168 : decode cL_step 168 = .ok (.invokevirtual 21, 3) := by decide +kernel
theorem dL_step_171 : decode cL_step 171 = .ok (.ifCond .lt 30, 3) := by decide +kernel
theorem dL_step_174 : decode cL_step 174 = .ok (.aload_n 0, 1) := by decide +kernel
theorem dL_step_175 : decode cL_step 175 = .ok (.iload 5, 2) := by decide +kernel
theorem dL_step_177 : decode cL_step 177 = .ok (.invokevirtual 21, 3) := by decide +kernel
theorem dL_step_180 : decode cL_step 180 = .ok (.aload_n 1, 1) := by decide +kernel
theorem dL_step_181 : decode cL_step 181 = .ok (.iconst 0, 1) := by decide +kernel
theorem dL_step_182 : decode cL_step 182 = .ok (.iaload, 1) := by decide +kernel
theorem dL_step_183 : decode cL_step 183 = .ok (.i2l, 1) := by decide +kernel
theorem dL_step_184 : decode cL_step 184 = .ok (.aload_n 1, 1) := by decide +kernel
theorem dL_step_185 : decode cL_step 185 = .ok (.iconst 1, 1) := by decide +kernel
theorem dL_step_186 : decode cL_step 186 = .ok (.iaload, 1) := by decide +kernel
theorem dL_step_187 : decode cL_step 187 = .ok (.i2l, 1) := by decide +kernel
theorem dL_step_188 : decode cL_step 188 = .ok (.lmul, 1) := by decide +kernel
theorem dL_step_189 : decode cL_step 189 = .ok (.ldc2_w 25, 3) := by decide +kernel
theorem dL_step_192 : decode cL_step 192 = .ok (.ldiv, 1) := by decide +kernel
theorem dL_step_193 : decode cL_step 193 = .ok (.l2i, 1) := by decide +kernel
theorem dL_step_194 : decode cL_step 194 = .ok (.if_icmp .gt 7, 3) := by decide +kernel
theorem dL_step_197 : decode cL_step 197 = .ok (.iconst 1, 1) := by decide +kernel
theorem dL_step_198 : decode cL_step 198 = .ok (.goto 4, 3) := by decide +kernel
theorem dL_step_201 : decode cL_step 201 = .ok (.iconst 0, 1) := by decide +kernel
theorem dL_step_202 : decode cL_step 202 = .ok (.ireturn, 1) := by decide +kernel
theorem dL_step_203 : decode cL_step 203 = .ok (.iconst 1, 1) := by decide +kernel
theorem dL_step_204 : decode cL_step 204 = .ok (.iload 4, 2) := by decide +kernel
theorem dL_step_206 : decode cL_step 206 = .ok (.sipush 1000, 3) := by decide +kernel
theorem dL_step_209 : decode cL_step 209 = .ok (.irem, 1) := by decide +kernel
theorem dL_step_210 : decode cL_step 210 = .ok (.iadd, 1) := by decide +kernel
theorem dL_step_211 : decode cL_step 211 = .ok (.istore 6, 2) := by decide +kernel
theorem dL_step_213 : decode cL_step 213 = .ok (.aload_n 0, 1) := by decide +kernel
theorem dL_step_214 : decode cL_step 214 = .ok (.iload 5, 2) := by decide +kernel
theorem dL_step_216 : decode cL_step 216 = .ok (.invokevirtual 27, 3) := by decide +kernel
theorem dL_step_219 : decode cL_step 219 = .ok (.istore 7, 2) := by decide +kernel
theorem dL_step_221 : decode cL_step 221 = .ok (.aload_n 0, 1) := by decide +kernel
theorem dL_step_222 : decode cL_step 222 = .ok (.iload 5, 2) := by decide +kernel
theorem dL_step_224 : decode cL_step 224 = .ok (.iload 6, 2) := by decide +kernel
theorem dL_step_226 : decode cL_step 226 = .ok (.invokevirtual 30, 3) := by decide +kernel
theorem dL_step_229 : decode cL_step 229 = .ok (.iload 7, 2) := by decide +kernel
theorem dL_step_231 : decode cL_step 231 = .ok (.if_icmp .ne 7, 3) := by decide +kernel
theorem dL_step_234 : decode cL_step 234 = .ok (.iconst 1, 1) := by decide +kernel
theorem dL_step_235 : decode cL_step 235 = .ok (.goto 4, 3) := by decide +kernel
theorem dL_step_238 : decode cL_step 238 = .ok (.iconst 0, 1) := by decide +kernel
theorem dL_step_239 : decode cL_step 239 = .ok (.istore 8, 2) := by decide +kernel
theorem dL_step_241 : decode cL_step 241 = .ok (.iconst 0, 1) := by decide +kernel
theorem dL_step_242 : decode cL_step 242 = .ok (.istore 9, 2) := by decide +kernel
theorem dL_step_244 : decode cL_step 244 = .ok (.iload 9, 2) := by decide +kernel
theorem dL_step_246 : decode cL_step 246 = .ok (.bipush 20, 2) := by decide +kernel
theorem dL_step_248 : decode cL_step 248 = .ok (.if_icmp .ge 39, 3) := by decide +kernel
theorem dL_step_251 : decode cL_step 251 = .ok (.iload 8, 2) := by decide +kernel
theorem dL_step_253 : decode cL_step 253 = .ok (.ifCond .eq 25, 3) := by decide +kernel
theorem dL_step_256 : decode cL_step 256 = .ok (.iload 9, 2) := by decide +kernel
theorem dL_step_258 : decode cL_step 258 = .ok (.iload 5, 2) := by decide +kernel
theorem dL_step_260 : decode cL_step 260 = .ok (.if_icmp .lt 14, 3) := by decide +kernel
theorem dL_step_263 : decode cL_step 263 = .ok (.aload_n 0, 1) := by decide +kernel
theorem dL_step_264 : decode cL_step 264 = .ok (.iload 9, 2) := by decide +kernel
theorem dL_step_266 : decode cL_step 266 = .ok (.invokevirtual 27, 3) := by decide +kernel
theorem dL_step_269 : decode cL_step 269 = .ok (.iload 6, 2) := by decide +kernel
theorem dL_step_271 : decode cL_step 271 = .ok (.if_icmp .ne 7, 3) := by decide +kernel
theorem dL_step_274 : decode cL_step 274 = .ok (.iconst 1, 1) := by decide +kernel
theorem dL_step_275 : decode cL_step 275 = .ok (.goto 4, 3) := by decide +kernel
theorem dL_step_278 : decode cL_step 278 = .ok (.iconst 0, 1) := by decide +kernel
theorem dL_step_279 : decode cL_step 279 = .ok (.istore 8, 2) := by decide +kernel
theorem dL_step_281 : decode cL_step 281 = .ok (.iinc 9 1, 3) := by decide +kernel
theorem dL_step_284 : decode cL_step 284 = .ok (.goto (-40), 3) := by decide +kernel
theorem dL_step_287 : decode cL_step 287 = .ok (.iload 8, 2) := by decide +kernel
theorem dL_step_289 : decode cL_step 289 = .ok (.ireturn, 1) := by decide +kernel
theorem dL_step_290 : decode cL_step 290 = .ok (.iload 4, 2) := by decide +kernel
theorem dL_step_292 : decode cL_step 292 = .ok (.sipush 361, 3) := by decide +kernel
theorem dL_step_295 : decode cL_step 295 = .ok (.irem, 1) := by decide +kernel
theorem dL_step_296 : decode cL_step 296 = .ok (.istore 9, 2) := by decide +kernel
theorem dL_step_298 : decode cL_step 298 = .ok (.aload_n 0, 1) := by decide +kernel
theorem dL_step_299 : decode cL_step 299 = .ok (.iload 5, 2) := by decide +kernel
theorem dL_step_301 : decode cL_step 301 = .ok (.iload 9, 2) := by decide +kernel
theorem dL_step_303 : decode cL_step 303 = .ok (.invokevirtual 34, 3) := by decide +kernel
theorem dL_step_306 : decode cL_step 306 = .ok (.ifCond .lt 51, 3) := by decide +kernel
theorem dL_step_309 : decode cL_step 309 = .ok (.aload_n 0, 1) := by decide +kernel
theorem dL_step_310 : decode cL_step 310 = .ok (.iload 5, 2) := by decide +kernel
theorem dL_step_312 : decode cL_step 312 = .ok (.iload 9, 2) := by decide +kernel
theorem dL_step_314 : decode cL_step 314 = .ok (.invokevirtual 34, 3) := by decide +kernel
theorem dL_step_317 : decode cL_step 317 = .ok (.iload 9, 2) := by decide +kernel
theorem dL_step_319 : decode cL_step 319 = .ok (.if_icmp .ne 38, 3) := by decide +kernel
theorem dL_step_322 : decode cL_step 322 = .ok (.aload_n 0, 1) := by decide +kernel
theorem dL_step_323 : decode cL_step 323 = .ok (.iload 5, 2) := by decide +kernel
theorem dL_step_325 : decode cL_step 325 = .ok (.invokevirtual 21, 3) := by decide +kernel
theorem dL_step_328 : decode cL_step 328 = .ok (.aload_n 1, 1) := by decide +kernel
theorem dL_step_329 : decode cL_step 329 = .ok (.iconst 0, 1) := by decide +kernel
theorem dL_step_330 : decode cL_step 330 = .ok (.iaload, 1) := by decide +kernel
theorem dL_step_331 : decode cL_step 331 = .ok (.i2l, 1) := by decide +kernel
theorem dL_step_332 : decode cL_step 332 = .ok (.aload_n 1, 1) := by decide +kernel
theorem dL_step_333 : decode cL_step 333 = .ok (.iconst 1, 1) := by decide +kernel
theorem dL_step_334 : decode cL_step 334 = .ok (.iaload, 1) := by decide +kernel
theorem dL_step_335 : decode cL_step 335 = .ok (.i2l, 1) := by decide +kernel
theorem dL_step_336 : decode cL_step 336 = .ok (.lmul, 1) := by decide +kernel
theorem dL_step_337 : decode cL_step 337 = .ok (.sipush 360, 3) := by decide +kernel
theorem dL_step_340 : decode cL_step 340 = .ok (.iload 9, 2) := by decide +kernel
theorem dL_step_342 : decode cL_step 342 = .ok (.isub, 1) := by decide +kernel
theorem dL_step_343 : decode cL_step 343 = .ok (.i2l, 1) := by decide +kernel
theorem dL_step_344 : decode cL_step 344 = .ok (.lmul, 1) := by decide +kernel
theorem dL_step_345 : decode cL_step 345 = .ok (.ldc2_w 37, 3) := by decide +kernel
theorem dL_step_348 : decode cL_step 348 = .ok (.ldiv, 1) := by decide +kernel
theorem dL_step_349 : decode cL_step 349 = .ok (.l2i, 1) := by decide +kernel
theorem dL_step_350 : decode cL_step 350 = .ok (.if_icmp .ne 7, 3) := by decide +kernel
theorem dL_step_353 : decode cL_step 353 = .ok (.iconst 1, 1) := by decide +kernel
theorem dL_step_354 : decode cL_step 354 = .ok (.goto 4, 3) := by decide +kernel
theorem dL_step_357 : decode cL_step 357 = .ok (.iconst 0, 1) := by decide +kernel
theorem dL_step_358 : decode cL_step 358 = .ok (.ireturn, 1) := by decide +kernel
theorem dL_step_359 : decode cL_step 359 = .ok (.aload_n 0, 1) := by decide +kernel
theorem dL_step_360 : decode cL_step 360 = .ok (.aload_n 1, 1) := by decide +kernel
theorem dL_step_361 : decode cL_step 361 = .ok (.iload_n 3, 1) := by decide +kernel
theorem dL_step_362 : decode cL_step 362 = .ok (.sipush 360, 3) := by decide +kernel
theorem dL_step_365 : decode cL_step 365 = .ok (.irem, 1) := by decide +kernel
theorem dL_step_366 : decode cL_step 366 = .ok (.iload_n 3, 1) := by decide +kernel
theorem dL_step_367 : decode cL_step 367 = .ok (.sipush 360, 3) := by decide +kernel
theorem dL_step_370 : decode cL_step 370 = .ok (.idiv, 1) := by decide +kernel
theorem dL_step_371 : decode cL_step 371 = .ok (.sipush 360, 3) := by decide +kernel
theorem dL_step_374 : decode cL_step 374 = .ok (.irem, 1) := by decide +kernel
theorem dL_step_375 : decode cL_step 375 = .ok (.iconst 1, 1) := by decide +kernel
theorem dL_step_376 : decode cL_step 376 = .ok (.iload 4, 2) := by decide +kernel
theorem dL_step_378 : decode cL_step 378 = .ok (.iload 4, 2) := by decide +kernel
theorem dL_step_380 : decode cL_step 380 = .ok (.iconst 3, 1) := by decide +kernel
theorem dL_step_381 : decode cL_step 381 = .ok (.irem, 1) := by decide +kernel
theorem dL_step_382 : decode cL_step 382 = .ok (.ifCond .ne 9, 3) := by decide +kernel
theorem dL_step_385 : decode cL_step 385 = .ok (.sipush 500, 3) := by decide +kernel
theorem dL_step_388 : decode cL_step 388 = .ok (.goto 5, 3) := by decide +kernel
theorem dL_step_391 : decode cL_step 391 = .ok (.bipush 120, 2) := by decide +kernel
theorem dL_step_393 : decode cL_step 393 = .ok (.irem, 1) := by decide +kernel
theorem dL_step_394 : decode cL_step 394 = .ok (.iadd, 1) := by decide +kernel
theorem dL_step_395 : decode cL_step 395 = .ok (.invokestatic 39, 3) := by decide +kernel
theorem dL_step_398 : decode cL_step 398 = .ok (.ireturn, 1) := by decide +kernel
theorem dL_step_399 : decode cL_step 399 = .ok (.aload_n 0, 1) := by decide +kernel
theorem dL_step_400 : decode cL_step 400 = .ok (.aload_n 1, 1) := by decide +kernel
theorem dL_step_401 : decode cL_step 401 = .ok (.iload_n 3, 1) := by decide +kernel
theorem dL_step_402 : decode cL_step 402 = .ok (.sipush 360, 3) := by decide +kernel
theorem dL_step_405 : decode cL_step 405 = .ok (.irem, 1) := by decide +kernel
theorem dL_step_406 : decode cL_step 406 = .ok (.iconst 0, 1) := by decide +kernel
theorem dL_step_407 : decode cL_step 407 = .ok (.iconst 1, 1) := by decide +kernel
theorem dL_step_408 : decode cL_step 408 = .ok (.iload 4, 2) := by decide +kernel
theorem dL_step_410 : decode cL_step 410 = .ok (.sipush 500, 3) := by decide +kernel
theorem dL_step_413 : decode cL_step 413 = .ok (.irem, 1) := by decide +kernel
theorem dL_step_414 : decode cL_step 414 = .ok (.iadd, 1) := by decide +kernel
theorem dL_step_415 : decode cL_step 415 = .ok (.invokestatic 39, 3) := by decide +kernel
theorem dL_step_418 : decode cL_step 418 = .ok (.ireturn, 1) := by decide +kernel
theorem dL_step_419 : decode cL_step 419 = .ok (.aload_n 1, 1) := by decide +kernel
theorem dL_step_420 : decode cL_step 420 = .ok (.iconst 5, 1) := by decide +kernel
theorem dL_step_421 : decode cL_step 421 = .ok (.iaload, 1) := by decide +kernel
theorem dL_step_422 : decode cL_step 422 = .ok (.bipush 20, 2) := by decide +kernel
theorem dL_step_424 : decode cL_step 424 = .ok (.if_icmp .eq 58, 3) := by decide +kernel
theorem dL_step_427 : decode cL_step 427 = .ok (.aload_n 0, 1) := by decide +kernel
theorem dL_step_428 : decode cL_step 428 = .ok (.aload_n 1, 1) := by decide +kernel
theorem dL_step_429 : decode cL_step 429 = .ok (.iconst 5, 1) := by decide +kernel
theorem dL_step_430 : decode cL_step 430 = .ok (.iaload, 1) := by decide +kernel
theorem dL_step_431 : decode cL_step 431 = .ok (.invokevirtual 45, 3) := by decide +kernel
theorem dL_step_434 : decode cL_step 434 = .ok (.aload_n 1, 1) := by decide +kernel
theorem dL_step_435 : decode cL_step 435 = .ok (.bipush 6, 2) := by decide +kernel
theorem dL_step_437 : decode cL_step 437 = .ok (.iaload, 1) := by decide +kernel
