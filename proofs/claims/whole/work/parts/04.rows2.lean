theorem dX2_goesThrough_85 : decode cX2_goesThrough 85 = .ok (.iload_n 1, 1) := by decide +kernel
theorem dX2_goesThrough_86 : decode cX2_goesThrough 86 = .ok (.iaload, 1) := by decide +kernel
theorem dX2_goesThrough_87 : decode cX2_goesThrough 87 = .ok (.isub, 1) := by decide +kernel
theorem dX2_goesThrough_88 : decode cX2_goesThrough 88 = .ok (.invokevirtual 90, 3) := by decide +kernel
theorem dX2_goesThrough_91 : decode cX2_goesThrough 91 = .ok (.goto 16, 3) := by decide +kernel
theorem dX2_goesThrough_94 : decode cX2_goesThrough 94 = .ok (.aload_n 0, 1) := by decide +kernel
theorem dX2_goesThrough_95 : decode cX2_goesThrough 95 = .ok (.iload_n 1, 1) := by decide +kernel
theorem dX2_goesThrough_96 : decode cX2_goesThrough 96 = .ok (.aload_n 0, 1) := by decide +kernel
theorem dX2_goesThrough_97 : decode cX2_goesThrough 97 = .ok (.getfield 36, 3) := by decide +kernel
theorem dX2_goesThrough_100 : decode cX2_goesThrough 100 = .ok (.iload_n 1, 1) := by decide +kernel
theorem dX2_goesThrough_101 : decode cX2_goesThrough 101 = .ok (.iaload, 1) := by decide +kernel
theorem dX2_goesThrough_102 : decode cX2_goesThrough 102 = .ok (.iload_n 2, 1) := by decide +kernel
theorem dX2_goesThrough_103 : decode cX2_goesThrough 103 = .ok (.isub, 1) := by decide +kernel
theorem dX2_goesThrough_104 : decode cX2_goesThrough 104 = .ok (.invokevirtual 94, 3) := by decide +kernel
theorem dX2_goesThrough_107 : decode cX2_goesThrough 107 = .ok (.iinc 1 1, 3) := by decide +kernel
theorem dX2_goesThrough_110 : decode cX2_goesThrough 110 = .ok (.goto (-103), 3) := by decide +kernel
theorem dX2_goesThrough_113 : decode cX2_goesThrough 113 = .ok (.return_, 1) := by decide +kernel
set_option maxRecDepth 20000 in
theorem ggX2_openNow_X2_goesThrough : GoodIn wsX2_openNow wsX2_goesThrough := goodIn_r _ [8, 9, 1, 10, 11, 12, 13, 14, 15, 16, 17, 18, 19, 7, 20, 21, 22, 23, 24, 25, 26, 27, 28, 29, 30, 31, 32, 33, 34, 2, 35, 36, 37, 38, 39, 40, 41, 42, 43, 44, 45, 46, 47, 48, 49, 50, 51, 52, 53, 54, 55, 56, 57, 58, 59, 60, 61, 62, 63, 64] (by decide +kernel) (by decide +kernel)
set_option maxRecDepth 20000 in
theorem gX2_openNow_X2_goesThrough : GoodIn wsX2_openNow (wsV RX2 97 RX2 yX2_goesThrough wsX2_goesThrough) := goodIn_app (goodIn_of _ (by decide +kernel)) ggX2_openNow_X2_goesThrough
theorem dX2_openNow_0 : decode cX2_openNow 0 = .ok (.aload_n 0, 1) := by decide +kernel
theorem dX2_openNow_1 : decode cX2_openNow 1 = .ok (.invokevirtual 97, 3) := by decide +kernel
theorem dX2_openNow_4 : decode cX2_openNow 4 = .ok (.lconst 0, 1) := by decide +kernel
theorem dX2_openNow_5 : decode cX2_openNow 5 = .ok (.lstore_n 1, 1) := by decide +kernel
theorem dX2_openNow_6 : decode cX2_openNow 6 = .ok (.iconst 0, 1) := by decide +kernel
theorem dX2_openNow_7 : decode cX2_openNow 7 = .ok (.istore_n 3, 1) := by decide +kernel
theorem dX2_openNow_8 : decode cX2_openNow 8 = .ok (.iload_n 3, 1) := by decide +kernel
theorem dX2_openNow_9 : decode cX2_openNow 9 = .ok (.aload_n 0, 1) := by decide +kernel
theorem dX2_openNow_10 : decode cX2_openNow 10 = .ok (.getfield 80, 3) := by decide +kernel
theorem dX2_openNow_13 : decode cX2_openNow 13 = .ok (.if_icmp .ge 25, 3) := by decide +kernel
theorem dX2_openNow_16 : decode cX2_openNow 16 = .ok (.lload_n 1, 1) := by decide +kernel
theorem dX2_openNow_17 : decode cX2_openNow 17 = .ok (.aload_n 0, 1) := by decide +kernel
theorem dX2_openNow_18 : decode cX2_openNow 18 = .ok (.getfield 61, 3) := by decide +kernel
theorem dX2_openNow_21 : decode cX2_openNow 21 = .ok (.iload_n 3, 1) := by decide +kernel
theorem dX2_openNow_22 : decode cX2_openNow 22 = .ok (.laload, 1) := by decide +kernel
theorem dX2_openNow_23 : decode cX2_openNow 23 = .ok (.aload_n 0, 1) := by decide +kernel
theorem dX2_openNow_24 : decode cX2_openNow 24 = .ok (.getfield 39, 3) := by decide +kernel
theorem dX2_openNow_27 : decode cX2_openNow 27 = .ok (.iload_n 3, 1) := by decide +kernel
theorem dX2_openNow_28 : decode cX2_openNow 28 = .ok (.laload, 1) := by decide +kernel
theorem dX2_openNow_29 : decode cX2_openNow 29 = .ok (.lsub, 1) := by decide +kernel
theorem dX2_openNow_30 : decode cX2_openNow 30 = .ok (.ladd, 1) := by decide +kernel
theorem dX2_openNow_31 : decode cX2_openNow 31 = .ok (.lstore_n 1, 1) := by decide +kernel
theorem dX2_openNow_32 : decode cX2_openNow 32 = .ok (.iinc 3 1, 3) := by decide +kernel
theorem dX2_openNow_35 : decode cX2_openNow 35 = .ok (.goto (-27), 3) := by decide +kernel
theorem dX2_openNow_38 : decode cX2_openNow 38 = .ok (.lload_n 1, 1) := by decide +kernel
theorem dX2_openNow_39 : decode cX2_openNow 39 = .ok (.lreturn, 1) := by decide +kernel
set_option maxRecDepth 20000 in
theorem ggX2_set_X2_isIn : GoodIn wsX2_set wsX2_isIn := goodIn_r _ [12] (by decide +kernel) (by decide +kernel)
set_option maxRecDepth 20000 in
theorem gX2_set_X2_isIn : GoodIn wsX2_set (va_wsS RX2 67 yX2_isIn wsX2_isIn) := goodIn_app (goodIn_of _ (by decide +kernel)) ggX2_set_X2_isIn
set_option maxRecDepth 20000 in
theorem ggX2_set_X2_holds : GoodIn wsX2_set wsX2_holds := goodIn_r _ [16, 17, 18, 19, 20, 21, 22, 23, 24, 25, 26, 27, 28, 29, 30, 31, 32, 33, 34, 35, 36, 37] (by decide +kernel) (by decide +kernel)
set_option maxRecDepth 20000 in
theorem gX2_set_X2_holds : GoodIn wsX2_set (wsV RX2 101 RX2 yX2_holds wsX2_holds) := goodIn_app (goodIn_of _ (by decide +kernel)) ggX2_set_X2_holds
theorem dX2_set_0 : decode cX2_set 0 = .ok (.iload_n 1, 1) := by decide +kernel
theorem dX2_set_1 : decode cX2_set 1 = .ok (.iconst 1, 1) := by decide +kernel
theorem dX2_set_2 : decode cX2_set 2 = .ok (.ldc 100, 2) := by decide +kernel
theorem dX2_set_4 : decode cX2_set 4 = .ok (.invokestatic 67, 3) := by decide +kernel
theorem dX2_set_7 : decode cX2_set 7 = .ok (.ifCond .eq 47, 3) := by decide +kernel
theorem dX2_set_10 : decode cX2_set 10 = .ok (.iload_n 2, 1) := by decide +kernel
theorem dX2_set_11 : decode cX2_set 11 = .ok (.iconst 0, 1) := by decide +kernel
theorem dX2_set_12 : decode cX2_set 12 = .ok (.bipush 100, 2) := by decide +kernel
theorem dX2_set_14 : decode cX2_set 14 = .ok (.invokestatic 67, 3) := by decide +kernel
theorem dX2_set_17 : decode cX2_set 17 = .ok (.ifCond .eq 37, 3) := by decide +kernel
theorem dX2_set_20 : decode cX2_set 20 = .ok (.iload_n 3, 1) := by decide +kernel
theorem dX2_set_21 : decode cX2_set 21 = .ok (.iconst 0, 1) := by decide +kernel
theorem dX2_set_22 : decode cX2_set 22 = .ok (.bipush 100, 2) := by decide +kernel
theorem dX2_set_24 : decode cX2_set 24 = .ok (.invokestatic 67, 3) := by decide +kernel
theorem dX2_set_27 : decode cX2_set 27 = .ok (.ifCond .eq 27, 3) := by decide +kernel
theorem dX2_set_30 : decode cX2_set 30 = .ok (.iload 4, 2) := by decide +kernel
theorem dX2_set_32 : decode cX2_set 32 = .ok (.iconst 1, 1) := by decide +kernel
theorem dX2_set_33 : decode cX2_set 33 = .ok (.iconst 5, 1) := by decide +kernel
theorem dX2_set_34 : decode cX2_set 34 = .ok (.invokestatic 67, 3) := by decide +kernel
theorem dX2_set_37 : decode cX2_set 37 = .ok (.ifCond .eq 17, 3) := by decide +kernel
theorem dX2_set_40 : decode cX2_set 40 = .ok (.iload 5, 2) := by decide +kernel
theorem dX2_set_42 : decode cX2_set 42 = .ok (.iconst 1, 1) := by decide +kernel
theorem dX2_set_43 : decode cX2_set 43 = .ok (.iconst 5, 1) := by decide +kernel
theorem dX2_set_44 : decode cX2_set 44 = .ok (.invokestatic 67, 3) := by decide +kernel
theorem dX2_set_47 : decode cX2_set 47 = .ok (.ifCond .eq 7, 3) := by decide +kernel
theorem dX2_set_50 : decode cX2_set 50 = .ok (.iconst 1, 1) := by decide +kernel
theorem dX2_set_51 : decode cX2_set 51 = .ok (.goto 4, 3) := by decide +kernel
theorem dX2_set_54 : decode cX2_set 54 = .ok (.iconst 0, 1) := by decide +kernel
theorem dX2_set_55 : decode cX2_set 55 = .ok (.istore 6, 2) := by decide +kernel
theorem dX2_set_57 : decode cX2_set 57 = .ok (.aload_n 0, 1) := by decide +kernel
theorem dX2_set_58 : decode cX2_set 58 = .ok (.iload 6, 2) := by decide +kernel
theorem dX2_set_60 : decode cX2_set 60 = .ok (.ifCond .ne 7, 3) := by decide +kernel
theorem dX2_set_63 : decode cX2_set 63 = .ok (.iconst 1, 1) := by decide +kernel
theorem dX2_set_64 : decode cX2_set 64 = .ok (.goto 24, 3) := by decide +kernel
theorem dX2_set_67 : decode cX2_set 67 = .ok (.aload_n 0, 1) := by decide +kernel
theorem dX2_set_68 : decode cX2_set 68 = .ok (.getfield 80, 3) := by decide +kernel
theorem dX2_set_71 : decode cX2_set 71 = .ok (.ifCond .gt 12, 3) := by decide +kernel
theorem dX2_set_74 : decode cX2_set 74 = .ok (.aload_n 0, 1) := by decide +kernel
theorem dX2_set_75 : decode cX2_set 75 = .ok (.getfield 36, 3) := by decide +kernel
theorem dX2_set_78 : decode cX2_set 78 = .ok (.iconst 0, 1) := by decide +kernel
theorem dX2_set_79 : decode cX2_set 79 = .ok (.iaload, 1) := by decide +kernel
theorem dX2_set_80 : decode cX2_set 80 = .ok (.ifCond .le 7, 3) := by decide +kernel
theorem dX2_set_83 : decode cX2_set 83 = .ok (.iconst 2, 1) := by decide +kernel
theorem dX2_set_84 : decode cX2_set 84 = .ok (.goto 4, 3) := by decide +kernel
theorem dX2_set_87 : decode cX2_set 87 = .ok (.iconst 0, 1) := by decide +kernel
theorem dX2_set_88 : decode cX2_set 88 = .ok (.invokevirtual 101, 3) := by decide +kernel
theorem dX2_set_91 : decode cX2_set 91 = .ok (.ifCond .eq 30, 3) := by decide +kernel
theorem dX2_set_94 : decode cX2_set 94 = .ok (.aload_n 0, 1) := by decide +kernel
theorem dX2_set_95 : decode cX2_set 95 = .ok (.iload_n 1, 1) := by decide +kernel
theorem dX2_set_96 : decode cX2_set 96 = .ok (.putfield 8, 3) := by decide +kernel
theorem dX2_set_99 : decode cX2_set 99 = .ok (.aload_n 0, 1) := by decide +kernel
theorem dX2_set_100 : decode cX2_set 100 = .ok (.iload_n 2, 1) := by decide +kernel
theorem dX2_set_101 : decode cX2_set 101 = .ok (.putfield 14, 3) := by decide +kernel
theorem dX2_set_104 : decode cX2_set 104 = .ok (.aload_n 0, 1) := by decide +kernel
theorem dX2_set_105 : decode cX2_set 105 = .ok (.iload_n 3, 1) := by decide +kernel
theorem dX2_set_106 : decode cX2_set 106 = .ok (.putfield 17, 3) := by decide +kernel
theorem dX2_set_109 : decode cX2_set 109 = .ok (.aload_n 0, 1) := by decide +kernel
theorem dX2_set_110 : decode cX2_set 110 = .ok (.iload 4, 2) := by decide +kernel
theorem dX2_set_112 : decode cX2_set 112 = .ok (.putfield 20, 3) := by decide +kernel
theorem dX2_set_115 : decode cX2_set 115 = .ok (.aload_n 0, 1) := by decide +kernel
theorem dX2_set_116 : decode cX2_set 116 = .ok (.iload 5, 2) := by decide +kernel
theorem dX2_set_118 : decode cX2_set 118 = .ok (.putfield 23, 3) := by decide +kernel
theorem dX2_set_121 : decode cX2_set 121 = .ok (.return_, 1) := by decide +kernel
set_option maxRecDepth 20000 in
theorem ggX2_review_X2_isYear : GoodIn wsX2_review wsX2_isYear := goodIn_r _ [5, 6, 7, 4, 8] (by decide +kernel) (by decide +kernel)
set_option maxRecDepth 20000 in
theorem gX2_review_X2_isYear : GoodIn wsX2_review (va_wsS RX2 105 yX2_isYear wsX2_isYear) := goodIn_app (goodIn_of _ (by decide +kernel)) ggX2_review_X2_isYear
set_option maxRecDepth 20000 in
theorem ggX2_review_X2_isIn : GoodIn wsX2_review wsX2_isIn := goodIn_r _ [8] (by decide +kernel) (by decide +kernel)
set_option maxRecDepth 20000 in
theorem gX2_review_X2_isIn : GoodIn wsX2_review (va_wsS RX2 67 yX2_isIn wsX2_isIn) := goodIn_app (goodIn_of _ (by decide +kernel)) ggX2_review_X2_isIn
set_option maxRecDepth 20000 in
theorem ggX2_review_X2_holds : GoodIn wsX2_review wsX2_holds := goodIn_r _ [12, 13, 14, 15, 16, 17, 18, 19, 20, 21, 22, 23, 24, 25, 26, 27, 28, 29, 30, 31, 32, 33] (by decide +kernel) (by decide +kernel)
set_option maxRecDepth 20000 in
theorem gX2_review_X2_holds : GoodIn wsX2_review (wsV RX2 101 RX2 yX2_holds wsX2_holds) := goodIn_app (goodIn_of _ (by decide +kernel)) ggX2_review_X2_holds
theorem dX2_review_0 : decode cX2_review 0 = .ok (.aload_n 0, 1) := by decide +kernel
theorem dX2_review_1 : decode cX2_review 1 = .ok (.iload_n 1, 1) := by decide +kernel
theorem dX2_review_2 : decode cX2_review 2 = .ok (.invokestatic 105, 3) := by decide +kernel
theorem dX2_review_5 : decode cX2_review 5 = .ok (.ifCond .eq 18, 3) := by decide +kernel
theorem dX2_review_8 : decode cX2_review 8 = .ok (.iload_n 2, 1) := by decide +kernel
theorem dX2_review_9 : decode cX2_review 9 = .ok (.iconst 1, 1) := by decide +kernel
theorem dX2_review_10 : decode cX2_review 10 = .ok (.sipush 1000, 3) := by decide +kernel
theorem dX2_review_13 : decode cX2_review 13 = .ok (.invokestatic 67, 3) := by decide +kernel
theorem dX2_review_16 : decode cX2_review 16 = .ok (.ifCond .eq 7, 3) := by decide +kernel
theorem dX2_review_19 : decode cX2_review 19 = .ok (.iconst 0, 1) := by decide +kernel
theorem dX2_review_20 : decode cX2_review 20 = .ok (.goto 4, 3) := by decide +kernel
theorem dX2_review_23 : decode cX2_review 23 = .ok (.iconst 1, 1) := by decide +kernel
theorem dX2_review_24 : decode cX2_review 24 = .ok (.invokevirtual 101, 3) := by decide +kernel
theorem dX2_review_27 : decode cX2_review 27 = .ok (.ifCond .ne 5, 3) := by decide +kernel
theorem dX2_review_30 : decode cX2_review 30 = .ok (.iconst 0, 1) := by decide +kernel
theorem dX2_review_31 : decode cX2_review 31 = .ok (.ireturn, 1) := by decide +kernel
theorem dX2_review_32 : decode cX2_review 32 = .ok (.aload_n 0, 1) := by decide +kernel
theorem dX2_review_33 : decode cX2_review 33 = .ok (.getfield 26, 3) := by decide +kernel
theorem dX2_review_36 : decode cX2_review 36 = .ok (.iload_n 1, 1) := by decide +kernel
theorem dX2_review_37 : decode cX2_review 37 = .ok (.iaload, 1) := by decide +kernel
theorem dX2_review_38 : decode cX2_review 38 = .ok (.istore_n 3, 1) := by decide +kernel
theorem dX2_review_39 : decode cX2_review 39 = .ok (.iload_n 1, 1) := by decide +kernel
theorem dX2_review_40 : decode cX2_review 40 = .ok (.istore 4, 2) := by decide +kernel
theorem dX2_review_42 : decode cX2_review 42 = .ok (.iload 4, 2) := by decide +kernel
theorem dX2_review_44 : decode cX2_review 44 = .ok (.bipush 20, 2) := by decide +kernel
theorem dX2_review_46 : decode cX2_review 46 = .ok (.if_icmp .ge 17, 3) := by decide +kernel
theorem dX2_review_49 : decode cX2_review 49 = .ok (.aload_n 0, 1) := by decide +kernel
theorem dX2_review_50 : decode cX2_review 50 = .ok (.getfield 26, 3) := by decide +kernel
theorem dX2_review_53 : decode cX2_review 53 = .ok (.iload 4, 2) := by decide +kernel
theorem dX2_review_55 : decode cX2_review 55 = .ok (.iload_n 2, 1) := by decide +kernel
theorem dX2_review_56 : decode cX2_review 56 = .ok (.iastore, 1) := by decide +kernel
theorem dX2_review_57 : decode cX2_review 57 = .ok (.iinc 4 1, 3) := by decide +kernel
theorem dX2_review_60 : decode cX2_review 60 = .ok (.goto (-18), 3) := by decide +kernel
theorem dX2_review_63 : decode cX2_review 63 = .ok (.iload_n 3, 1) := by decide +kernel
theorem dX2_review_64 : decode cX2_review 64 = .ok (.ireturn, 1) := by decide +kernel
set_option maxRecDepth 20000 in
theorem ggX2_excuse_X2_isYear : GoodIn wsX2_excuse wsX2_isYear := goodIn_r _ [5, 6, 7, 4, 8] (by decide +kernel) (by decide +kernel)
set_option maxRecDepth 20000 in
theorem gX2_excuse_X2_isYear : GoodIn wsX2_excuse (va_wsS RX2 105 yX2_isYear wsX2_isYear) := goodIn_app (goodIn_of _ (by decide +kernel)) ggX2_excuse_X2_isYear
set_option maxRecDepth 20000 in
theorem ggX2_excuse_X2_isIn : GoodIn wsX2_excuse wsX2_isIn := goodIn_r _ [8] (by decide +kernel) (by decide +kernel)
set_option maxRecDepth 20000 in
theorem gX2_excuse_X2_isIn : GoodIn wsX2_excuse (va_wsS RX2 67 yX2_isIn wsX2_isIn) := goodIn_app (goodIn_of _ (by decide +kernel)) ggX2_excuse_X2_isIn
set_option maxRecDepth 20000 in
theorem ggX2_excuse_X2_holds : GoodIn wsX2_excuse wsX2_holds := goodIn_r _ [12, 13, 14, 15, 16, 17, 18, 19, 20, 21, 22, 23, 24, 25, 26, 27, 28, 29, 30, 31, 32, 33] (by decide +kernel) (by decide +kernel)
set_option maxRecDepth 20000 in
theorem gX2_excuse_X2_holds : GoodIn wsX2_excuse (wsV RX2 101 RX2 yX2_holds wsX2_holds) := goodIn_app (goodIn_of _ (by decide +kernel)) ggX2_excuse_X2_holds
theorem dX2_excuse_0 : decode cX2_excuse 0 = .ok (.aload_n 0, 1) := by decide +kernel
theorem dX2_excuse_1 : decode cX2_excuse 1 = .ok (.iload_n 1, 1) := by decide +kernel
theorem dX2_excuse_2 : decode cX2_excuse 2 = .ok (.invokestatic 105, 3) := by decide +kernel
theorem dX2_excuse_5 : decode cX2_excuse 5 = .ok (.ifCond .eq 18, 3) := by decide +kernel
theorem dX2_excuse_8 : decode cX2_excuse 8 = .ok (.iload_n 2, 1) := by decide +kernel
theorem dX2_excuse_9 : decode cX2_excuse 9 = .ok (.iconst 0, 1) := by decide +kernel
theorem dX2_excuse_10 : decode cX2_excuse 10 = .ok (.sipush 360, 3) := by decide +kernel
theorem dX2_excuse_13 : decode cX2_excuse 13 = .ok (.invokestatic 67, 3) := by decide +kernel
theorem dX2_excuse_16 : decode cX2_excuse 16 = .ok (.ifCond .eq 7, 3) := by decide +kernel
theorem dX2_excuse_19 : decode cX2_excuse 19 = .ok (.iconst 0, 1) := by decide +kernel
theorem dX2_excuse_20 : decode cX2_excuse 20 = .ok (.goto 4, 3) := by decide +kernel
theorem dX2_excuse_23 : decode cX2_excuse 23 = .ok (.iconst 1, 1) := by decide +kernel
theorem dX2_excuse_24 : decode cX2_excuse 24 = .ok (.invokevirtual 101, 3) := by decide +kernel
theorem dX2_excuse_27 : decode cX2_excuse 27 = .ok (.ifCond .ne 5, 3) := by decide +kernel
theorem dX2_excuse_30 : decode cX2_excuse 30 = .ok (.iconst 0, 1) := by decide +kernel
theorem dX2_excuse_31 : decode cX2_excuse 31 = .ok (.ireturn, 1) := by decide +kernel
theorem dX2_excuse_32 : decode cX2_excuse 32 = .ok (.aload_n 0, 1) := by decide +kernel
theorem dX2_excuse_33 : decode cX2_excuse 33 = .ok (.getfield 30, 3) := by decide +kernel
theorem dX2_excuse_36 : decode cX2_excuse 36 = .ok (.iload_n 1, 1) := by decide +kernel
theorem dX2_excuse_37 : decode cX2_excuse 37 = .ok (.iaload, 1) := by decide +kernel
theorem dX2_excuse_38 : decode cX2_excuse 38 = .ok (.istore_n 3, 1) := by decide +kernel
theorem dX2_excuse_39 : decode cX2_excuse 39 = .ok (.aload_n 0, 1) := by decide +kernel
theorem dX2_excuse_40 : decode cX2_excuse 40 = .ok (.getfield 30, 3) := by decide +kernel
theorem dX2_excuse_43 : decode cX2_excuse 43 = .ok (.iload_n 1, 1) := by decide +kernel
theorem dX2_excuse_44 : decode cX2_excuse 44 = .ok (.iload_n 2, 1) := by decide +kernel
theorem dX2_excuse_45 : decode cX2_excuse 45 = .ok (.iastore, 1) := by decide +kernel
theorem dX2_excuse_46 : decode cX2_excuse 46 = .ok (.iload_n 3, 1) := by decide +kernel
theorem dX2_excuse_47 : decode cX2_excuse 47 = .ok (.ireturn, 1) := by decide +kernel
theorem dX2_isRange_0 : decode cX2_isRange 0 = .ok (.iload_n 0, 1) := by decide +kernel
theorem dX2_isRange_1 : decode cX2_isRange 1 = .ok (.ifCond .lt 19, 3) := by decide +kernel
theorem dX2_isRange_4 : decode cX2_isRange 4 = .ok (.iload_n 1, 1) := by decide +kernel
theorem dX2_isRange_5 : decode cX2_isRange 5 = .ok (.iload_n 0, 1) := by decide +kernel
theorem dX2_isRange_6 : decode cX2_isRange 6 = .ok (.if_icmp .lt 14, 3) := by decide +kernel
theorem dX2_isRange_9 : decode cX2_isRange 9 = .ok (.iload_n 1, 1) := by decide +kernel
theorem dX2_isRange_10 : decode cX2_isRange 10 = .ok (.sipush 360, 3) := by decide +kernel
theorem dX2_isRange_13 : decode cX2_isRange 13 = .ok (.if_icmp .ge 7, 3) := by decide +kernel
theorem dX2_isRange_16 : decode cX2_isRange 16 = .ok (.iconst 1, 1) := by decide +kernel
theorem dX2_isRange_17 : decode cX2_isRange 17 = .ok (.goto 4, 3) := by decide +kernel
theorem dX2_isRange_20 : decode cX2_isRange 20 = .ok (.iconst 0, 1) := by decide +kernel
theorem dX2_isRange_21 : decode cX2_isRange 21 = .ok (.ireturn, 1) := by decide +kernel
theorem dX2_isTooMuch_0 : decode cX2_isTooMuch 0 = .ok (.iconst 0, 1) := by decide +kernel
theorem dX2_isTooMuch_1 : decode cX2_isTooMuch 1 = .ok (.istore 4, 2) := by decide +kernel
theorem dX2_isTooMuch_3 : decode cX2_isTooMuch 3 = .ok (.iload_n 1, 1) := by decide +kernel
theorem dX2_isTooMuch_4 : decode cX2_isTooMuch 4 = .ok (.istore 5, 2) := by decide +kernel
theorem dX2_isTooMuch_6 : decode cX2_isTooMuch 6 = .ok (.iload 5, 2) := by decide +kernel
theorem dX2_isTooMuch_8 : decode cX2_isTooMuch 8 = .ok (.iload_n 2, 1) := by decide +kernel
theorem dX2_isTooMuch_9 : decode cX2_isTooMuch 9 = .ok (.if_icmp .gt 36, 3) := by decide +kernel
theorem dX2_isTooMuch_12 : decode cX2_isTooMuch 12 = .ok (.iload 4, 2) := by decide +kernel
theorem dX2_isTooMuch_14 : decode cX2_isTooMuch 14 = .ok (.ifCond .ne 18, 3) := by decide +kernel
theorem dX2_isTooMuch_17 : decode cX2_isTooMuch 17 = .ok (.aload_n 0, 1) := by decide +kernel
theorem dX2_isTooMuch_18 : decode cX2_isTooMuch 18 = .ok (.getfield 33, 3) := by decide +kernel
theorem dX2_isTooMuch_21 : decode cX2_isTooMuch 21 = .ok (.iload 5, 2) := by decide +kernel
theorem dX2_isTooMuch_23 : decode cX2_isTooMuch 23 = .ok (.iaload, 1) := by decide +kernel
theorem dX2_isTooMuch_24 : decode cX2_isTooMuch 24 = .ok (.iload_n 3, 1) := by decide +kernel
theorem dX2_isTooMuch_25 : decode cX2_isTooMuch 25 = .ok (.iadd, 1) := by decide +kernel
theorem dX2_isTooMuch_26 : decode cX2_isTooMuch 26 = .ok (.sipush 500, 3) := by decide +kernel
theorem dX2_isTooMuch_29 : decode cX2_isTooMuch 29 = .ok (.if_icmp .le 7, 3) := by decide +kernel
theorem dX2_isTooMuch_32 : decode cX2_isTooMuch 32 = .ok (.iconst 1, 1) := by decide +kernel
theorem dX2_isTooMuch_33 : decode cX2_isTooMuch 33 = .ok (.goto 4, 3) := by decide +kernel
theorem dX2_isTooMuch_36 : decode cX2_isTooMuch 36 = .ok (.iconst 0, 1) := by decide +kernel
theorem dX2_isTooMuch_37 : decode cX2_isTooMuch 37 = .ok (.istore 4, 2) := by decide +kernel
theorem dX2_isTooMuch_39 : decode cX2_isTooMuch 39 = .ok (.iinc 5 1, 3) := by decide +kernel
theorem dX2_isTooMuch_42 : decode cX2_isTooMuch 42 = .ok (.goto (-36), 3) := by decide +kernel
theorem dX2_isTooMuch_45 : decode cX2_isTooMuch 45 = .ok (.iload 4, 2) := by decide +kernel
theorem dX2_isTooMuch_47 : decode cX2_isTooMuch 47 = .ok (.ireturn, 1) := by decide +kernel
set_option maxRecDepth 20000 in
theorem ggX2_canTake_X2_isRange : GoodIn wsX2_canTake wsX2_isRange := goodIn_r _ [5] (by decide +kernel) (by decide +kernel)
set_option maxRecDepth 20000 in
theorem gX2_canTake_X2_isRange : GoodIn wsX2_canTake (va_wsS RX2 108 yX2_isRange wsX2_isRange) := goodIn_app (goodIn_of _ (by decide +kernel)) ggX2_canTake_X2_isRange
set_option maxRecDepth 20000 in
theorem ggX2_canTake_X2_isIn : GoodIn wsX2_canTake wsX2_isIn := goodIn_r _ [8] (by decide +kernel) (by decide +kernel)
set_option maxRecDepth 20000 in
theorem gX2_canTake_X2_isIn : GoodIn wsX2_canTake (va_wsS RX2 67 yX2_isIn wsX2_isIn) := goodIn_app (goodIn_of _ (by decide +kernel)) ggX2_canTake_X2_isIn
set_option maxRecDepth 20000 in
theorem ggX2_canTake_X2_isTooMuch : GoodIn wsX2_canTake wsX2_isTooMuch := goodIn_r _ [12, 13, 19, 20, 21, 22, 23, 24, 25, 26, 27, 28, 29, 30, 31, 32, 33, 34, 35, 36, 37, 38] (by decide +kernel) (by decide +kernel)
set_option maxRecDepth 20000 in
theorem gX2_canTake_X2_isTooMuch : GoodIn wsX2_canTake (wsV RX2 112 RX2 yX2_isTooMuch wsX2_isTooMuch) := goodIn_app (goodIn_of _ (by decide +kernel)) ggX2_canTake_X2_isTooMuch
set_option maxRecDepth 20000 in
theorem ggX2_canTake_X2_holds : GoodIn wsX2_canTake wsX2_holds := goodIn_r _ [17, 18, 19, 20, 21, 22, 23, 24, 25, 26, 27, 28, 29, 30, 31, 32, 33, 34, 35, 36, 37, 38] (by decide +kernel) (by decide +kernel)
set_option maxRecDepth 20000 in
theorem gX2_canTake_X2_holds : GoodIn wsX2_canTake (wsV RX2 101 RX2 yX2_holds wsX2_holds) := goodIn_app (goodIn_of _ (by decide +kernel)) ggX2_canTake_X2_holds
theorem dX2_canTake_0 : decode cX2_canTake 0 = .ok (.iload_n 1, 1) := by decide +kernel
theorem dX2_canTake_1 : decode cX2_canTake 1 = .ok (.iload_n 2, 1) := by decide +kernel
theorem dX2_canTake_2 : decode cX2_canTake 2 = .ok (.invokestatic 108, 3) := by decide +kernel
theorem dX2_canTake_5 : decode cX2_canTake 5 = .ok (.ifCond .eq 18, 3) := by decide +kernel
theorem dX2_canTake_8 : decode cX2_canTake 8 = .ok (.iload_n 3, 1) := by decide +kernel
theorem dX2_canTake_9 : decode cX2_canTake 9 = .ok (.iconst 1, 1) := by decide +kernel
theorem dX2_canTake_10 : decode cX2_canTake 10 = .ok (.sipush 500, 3) := by decide +kernel
theorem dX2_canTake_13 : decode cX2_canTake 13 = .ok (.invokestatic 67, 3) := by decide +kernel
theorem dX2_canTake_16 : decode cX2_canTake 16 = .ok (.ifCond .eq 7, 3) := by decide +kernel
theorem dX2_canTake_19 : decode cX2_canTake 19 = .ok (.iconst 1, 1) := by decide +kernel
theorem dX2_canTake_20 : decode cX2_canTake 20 = .ok (.goto 4, 3) := by decide +kernel
theorem dX2_canTake_23 : decode cX2_canTake 23 = .ok (.iconst 0, 1) := by decide +kernel
theorem dX2_canTake_24 : decode cX2_canTake 24 = .ok (.istore 4, 2) := by decide +kernel
theorem dX2_canTake_26 : decode cX2_canTake 26 = .ok (.aload_n 0, 1) := by decide +kernel
theorem dX2_canTake_27 : decode cX2_canTake 27 = .ok (.iload 4, 2) := by decide +kernel
theorem dX2_canTake_29 : decode cX2_canTake 29 = .ok (.ifCond .ne 7, 3) := by decide +kernel
theorem dX2_canTake_32 : decode cX2_canTake 32 = .ok (.iconst 1, 1) := by decide +kernel
theorem dX2_canTake_33 : decode cX2_canTake 33 = .ok (.goto 27, 3) := by decide +kernel
theorem dX2_canTake_36 : decode cX2_canTake 36 = .ok (.aload_n 0, 1) := by decide +kernel
theorem dX2_canTake_37 : decode cX2_canTake 37 = .ok (.getfield 80, 3) := by decide +kernel
theorem dX2_canTake_40 : decode cX2_canTake 40 = .ok (.bipush 20, 2) := by decide +kernel
theorem dX2_canTake_42 : decode cX2_canTake 42 = .ok (.if_icmp .eq 13, 3) := by decide +kernel
theorem dX2_canTake_45 : decode cX2_canTake 45 = .ok (.aload_n 0, 1) := by decide +kernel
theorem dX2_canTake_46 : decode cX2_canTake 46 = .ok (.iload_n 1, 1) := by decide +kernel
theorem dX2_canTake_47 : decode cX2_canTake 47 = .ok (.iload_n 2, 1) := by decide +kernel
theorem dX2_canTake_48 : decode cX2_canTake 48 = .ok (.iload_n 3, 1) := by decide +kernel
theorem dX2_canTake_49 : decode cX2_canTake 49 = .ok (.invokevirtual 112, 3) := by decide +kernel
theorem dX2_canTake_52 : decode cX2_canTake 52 = .ok (.ifCond .eq 7, 3) := by decide +kernel
theorem dX2_canTake_55 : decode cX2_canTake 55 = .ok (.iconst 2, 1) := by decide +kernel
theorem dX2_canTake_56 : decode cX2_canTake 56 = .ok (.goto 4, 3) := by decide +kernel
theorem dX2_canTake_59 : decode cX2_canTake 59 = .ok (.iconst 0, 1) := by decide +kernel
theorem dX2_canTake_60 : decode cX2_canTake 60 = .ok (.invokevirtual 101, 3) := by decide +kernel
theorem dX2_canTake_63 : decode cX2_canTake 63 = .ok (.ireturn, 1) := by decide +kernel
theorem dX2_takes_0 : decode cX2_takes 0 = .ok (.iload_n 1, 1) := by decide +kernel
theorem dX2_takes_1 : decode cX2_takes 1 = .ok (.istore 4, 2) := by decide +kernel
theorem dX2_takes_3 : decode cX2_takes 3 = .ok (.iload 4, 2) := by decide +kernel
theorem dX2_takes_5 : decode cX2_takes 5 = .ok (.iload_n 2, 1) := by decide +kernel
theorem dX2_takes_6 : decode cX2_takes 6 = .ok (.if_icmp .gt 33, 3) := by decide +kernel
theorem dX2_takes_9 : decode cX2_takes 9 = .ok (.aload_n 0, 1) := by decide +kernel
theorem dX2_takes_10 : decode cX2_takes 10 = .ok (.getfield 33, 3) := by decide +kernel
theorem dX2_takes_13 : decode cX2_takes 13 = .ok (.iload 4, 2) := by decide +kernel
theorem dX2_takes_15 : decode cX2_takes 15 = .ok (.dup2, 1) := by decide +kernel
theorem dX2_takes_16 : decode cX2_takes 16 = .ok (.iaload, 1) := by decide +kernel
theorem dX2_takes_17 : decode cX2_takes 17 = .ok (.iload_n 3, 1) := by decide +kernel
theorem dX2_takes_18 : decode cX2_takes 18 = .ok (.iadd, 1) := by decide +kernel
theorem dX2_takes_19 : decode cX2_takes 19 = .ok (.iastore, 1) := by decide +kernel
theorem dX2_takes_20 : decode cX2_takes 20 = .ok (.aload_n 0, 1) := by decide +kernel
theorem dX2_takes_21 : decode cX2_takes 21 = .ok (.getfield 36, 3) := by decide +kernel
theorem dX2_takes_24 : decode cX2_takes 24 = .ok (.aload_n 0, 1) := by decide +kernel
theorem dX2_takes_25 : decode cX2_takes 25 = .ok (.getfield 80, 3) := by decide +kernel
theorem dX2_takes_28 : decode cX2_takes 28 = .ok (.dup2, 1) := by decide +kernel
theorem dX2_takes_29 : decode cX2_takes 29 = .ok (.iaload, 1) := by decide +kernel
theorem dX2_takes_30 : decode cX2_takes 30 = .ok (.iload_n 3, 1) := by decide +kernel
theorem dX2_takes_31 : decode cX2_takes 31 = .ok (.iadd, 1) := by decide +kernel
theorem dX2_takes_32 : decode cX2_takes 32 = .ok (.iastore, 1) := by decide +kernel
theorem dX2_takes_33 : decode cX2_takes 33 = .ok (.iinc 4 1, 3) := by decide +kernel
theorem dX2_takes_36 : decode cX2_takes 36 = .ok (.goto (-33), 3) := by decide +kernel
theorem dX2_takes_39 : decode cX2_takes 39 = .ok (.return_, 1) := by decide +kernel
set_option maxRecDepth 20000 in
theorem ggX2_take_X2_canTake : GoodIn wsX2_take wsX2_canTake := goodIn_r _ [6, 7, 8, 9, 5, 10, 11, 12, 13, 14, 15, 16, 17, 1, 18, 19, 20, 21, 22, 28, 29, 30, 31, 32, 33, 34, 35, 36, 37, 38, 39, 40, 41, 42, 43, 44, 45, 46, 47] (by decide +kernel) (by decide +kernel)
set_option maxRecDepth 20000 in
theorem gX2_take_X2_canTake : GoodIn wsX2_take (wsV RX2 115 RX2 yX2_canTake wsX2_canTake) := goodIn_app (goodIn_of _ (by decide +kernel)) ggX2_take_X2_canTake
set_option maxRecDepth 20000 in
theorem ggX2_take_X2_takes : GoodIn wsX2_take wsX2_takes := goodIn_r _ [26, 1, 27, 7, 28, 29, 30, 31, 32, 33, 34, 35, 36, 37, 38, 39, 40, 41, 42, 43, 44, 45, 46, 47] (by decide +kernel) (by decide +kernel)
set_option maxRecDepth 20000 in
theorem gX2_take_X2_takes : GoodIn wsX2_take (wsV RX2 118 RX2 yX2_takes wsX2_takes) := goodIn_app (goodIn_of _ (by decide +kernel)) ggX2_take_X2_takes
theorem dX2_take_0 : decode cX2_take 0 = .ok (.aload_n 0, 1) := by decide +kernel
theorem dX2_take_1 : decode cX2_take 1 = .ok (.iload_n 1, 1) := by decide +kernel
theorem dX2_take_2 : decode cX2_take 2 = .ok (.iload_n 1, 1) := by decide +kernel
theorem dX2_take_3 : decode cX2_take 3 = .ok (.iload_n 2, 1) := by decide +kernel
theorem dX2_take_4 : decode cX2_take 4 = .ok (.invokevirtual 115, 3) := by decide +kernel
theorem dX2_take_7 : decode cX2_take 7 = .ok (.ifCond .ne 5, 3) := by decide +kernel
theorem dX2_take_10 : decode cX2_take 10 = .ok (.iconst 0, 1) := by decide +kernel
theorem dX2_take_11 : decode cX2_take 11 = .ok (.ireturn, 1) := by decide +kernel
theorem dX2_take_12 : decode cX2_take 12 = .ok (.aload_n 0, 1) := by decide +kernel
theorem dX2_take_13 : decode cX2_take 13 = .ok (.iload_n 1, 1) := by decide +kernel
theorem dX2_take_14 : decode cX2_take 14 = .ok (.iload_n 1, 1) := by decide +kernel
theorem dX2_take_15 : decode cX2_take 15 = .ok (.iload_n 2, 1) := by decide +kernel
theorem dX2_take_16 : decode cX2_take 16 = .ok (.invokevirtual 118, 3) := by decide +kernel
theorem dX2_take_19 : decode cX2_take 19 = .ok (.aload_n 0, 1) := by decide +kernel
theorem dX2_take_20 : decode cX2_take 20 = .ok (.getfield 33, 3) := by decide +kernel
theorem dX2_take_23 : decode cX2_take 23 = .ok (.iload_n 1, 1) := by decide +kernel
theorem dX2_take_24 : decode cX2_take 24 = .ok (.iaload, 1) := by decide +kernel
theorem dX2_take_25 : decode cX2_take 25 = .ok (.ireturn, 1) := by decide +kernel
set_option maxRecDepth 20000 in
theorem ggX2_takeDaily_X2_canTake : GoodIn wsX2_takeDaily wsX2_canTake := goodIn_r _ [7, 2, 8, 9, 6, 10, 11, 12, 13, 14, 15, 16, 17, 18, 19, 20, 21, 22, 23, 28, 29, 30, 31, 32, 33, 34, 35, 36, 37, 38, 39, 40, 41, 42, 43, 44, 45, 46, 47] (by decide +kernel) (by decide +kernel)
set_option maxRecDepth 20000 in
theorem gX2_takeDaily_X2_canTake : GoodIn wsX2_takeDaily (wsV RX2 115 RX2 yX2_canTake wsX2_canTake) := goodIn_app (goodIn_of _ (by decide +kernel)) ggX2_takeDaily_X2_canTake
set_option maxRecDepth 20000 in
theorem ggX2_takeDaily_X2_takes : GoodIn wsX2_takeDaily wsX2_takes := goodIn_r _ [27, 18, 1, 2, 28, 29, 30, 31, 32, 33, 34, 35, 36, 37, 38, 39, 40, 41, 42, 43, 44, 45, 46, 47] (by decide +kernel) (by decide +kernel)
set_option maxRecDepth 20000 in
theorem gX2_takeDaily_X2_takes : GoodIn wsX2_takeDaily (wsV RX2 118 RX2 yX2_takes wsX2_takes) := goodIn_app (goodIn_of _ (by decide +kernel)) ggX2_takeDaily_X2_takes
theorem dX2_takeDaily_0 : decode cX2_takeDaily 0 = .ok (.aload_n 0, 1) := by decide +kernel
theorem dX2_takeDaily_1 : decode cX2_takeDaily 1 = .ok (.iload_n 1, 1) := by decide +kernel
theorem dX2_takeDaily_2 : decode cX2_takeDaily 2 = .ok (.iload_n 2, 1) := by decide +kernel
theorem dX2_takeDaily_3 : decode cX2_takeDaily 3 = .ok (.iload_n 3, 1) := by decide +kernel
theorem dX2_takeDaily_4 : decode cX2_takeDaily 4 = .ok (.invokevirtual 115, 3) := by decide +kernel
theorem dX2_takeDaily_7 : decode cX2_takeDaily 7 = .ok (.ifCond .ne 5, 3) := by decide +kernel
theorem dX2_takeDaily_10 : decode cX2_takeDaily 10 = .ok (.iconst 0, 1) := by decide +kernel
theorem dX2_takeDaily_11 : decode cX2_takeDaily 11 = .ok (.ireturn, 1) := by decide +kernel
theorem dX2_takeDaily_12 : decode cX2_takeDaily 12 = .ok (.aload_n 0, 1) := by decide +kernel
theorem dX2_takeDaily_13 : decode cX2_takeDaily 13 = .ok (.iload_n 1, 1) := by decide +kernel
theorem dX2_takeDaily_14 : decode cX2_takeDaily 14 = .ok (.iload_n 2, 1) := by decide +kernel
theorem dX2_takeDaily_15 : decode cX2_takeDaily 15 = .ok (.iload_n 3, 1) := by decide +kernel
theorem dX2_takeDaily_16 : decode cX2_takeDaily 16 = .ok (.invokevirtual 118, 3) := by decide +kernel
theorem dX2_takeDaily_19 : decode cX2_takeDaily 19 = .ok (.aload_n 0, 1) := by decide +kernel
theorem dX2_takeDaily_20 : decode cX2_takeDaily 20 = .ok (.getfield 36, 3) := by decide +kernel
theorem dX2_takeDaily_23 : decode cX2_takeDaily 23 = .ok (.aload_n 0, 1) := by decide +kernel
theorem dX2_takeDaily_24 : decode cX2_takeDaily 24 = .ok (.getfield 80, 3) := by decide +kernel
theorem dX2_takeDaily_27 : decode cX2_takeDaily 27 = .ok (.iaload, 1) := by decide +kernel
theorem dX2_takeDaily_28 : decode cX2_takeDaily 28 = .ok (.ireturn, 1) := by decide +kernel
set_option maxRecDepth 20000 in
theorem ggX2_close_X2_holds : GoodIn wsX2_close wsX2_holds := goodIn_r _ [8, 9, 55, 56, 57, 58, 59, 60, 61, 62, 63, 64, 65, 66, 67, 68, 69, 70, 71, 72, 73, 74] (by decide +kernel) (by decide +kernel)
set_option maxRecDepth 20000 in
theorem gX2_close_X2_holds : GoodIn wsX2_close (wsV RX2 101 RX2 yX2_holds wsX2_holds) := goodIn_app (goodIn_of _ (by decide +kernel)) ggX2_close_X2_holds
set_option maxRecDepth 20000 in
theorem ggX2_close_X2_openNow : GoodIn wsX2_close wsX2_openNow := goodIn_r _ [13, 1, 14, 2, 15, 16, 17, 7, 18, 19, 20, 21, 22, 23, 24, 25, 26, 27, 28, 29, 30, 31, 32, 33, 34, 35, 36, 37, 38, 39, 40, 41, 42, 43, 44, 45, 46, 47, 48, 49, 50, 51, 52, 53, 54, 55, 56, 57, 58, 59, 60, 61, 62, 63, 64, 65, 66, 67, 68, 69, 70, 71, 72, 73, 74] (by decide +kernel) (by decide +kernel)
set_option maxRecDepth 20000 in
theorem gX2_close_X2_openNow : GoodIn wsX2_close (wsV RX2 122 RX2 yX2_openNow wsX2_openNow) := goodIn_app (goodIn_of _ (by decide +kernel)) ggX2_close_X2_openNow
theorem dX2_close_0 : decode cX2_close 0 = .ok (.aload_n 0, 1) := by decide +kernel
theorem dX2_close_1 : decode cX2_close 1 = .ok (.aload_n 0, 1) := by decide +kernel
theorem dX2_close_2 : decode cX2_close 2 = .ok (.getfield 80, 3) := by decide +kernel
theorem dX2_close_5 : decode cX2_close 5 = .ok (.bipush 20, 2) := by decide +kernel
theorem dX2_close_7 : decode cX2_close 7 = .ok (.if_icmp .ne 7, 3) := by decide +kernel
theorem dX2_close_10 : decode cX2_close 10 = .ok (.iconst 1, 1) := by decide +kernel
theorem dX2_close_11 : decode cX2_close 11 = .ok (.goto 4, 3) := by decide +kernel
theorem dX2_close_14 : decode cX2_close 14 = .ok (.iconst 0, 1) := by decide +kernel
theorem dX2_close_15 : decode cX2_close 15 = .ok (.invokevirtual 101, 3) := by decide +kernel
theorem dX2_close_18 : decode cX2_close 18 = .ok (.ifCond .ne 5, 3) := by decide +kernel
theorem dX2_close_21 : decode cX2_close 21 = .ok (.lconst 0, 1) := by decide +kernel
theorem dX2_close_22 : decode cX2_close 22 = .ok (.lreturn, 1) := by decide +kernel
theorem dX2_close_23 : decode cX2_close 23 = .ok (.aload_n 0, 1) := by decide +kernel
theorem dX2_close_24 : decode cX2_close 24 = .ok (.getfield 39, 3) := by decide +kernel
theorem dX2_close_27 : decode cX2_close 27 = .ok (.aload_n 0, 1) := by decide +kernel
theorem dX2_close_28 : decode cX2_close 28 = .ok (.getfield 80, 3) := by decide +kernel
theorem dX2_close_31 : decode cX2_close 31 = .ok (.lconst 0, 1) := by decide +kernel
theorem dX2_close_32 : decode cX2_close 32 = .ok (.lastore, 1) := by decide +kernel
theorem dX2_close_33 : decode cX2_close 33 = .ok (.aload_n 0, 1) := by decide +kernel
theorem dX2_close_34 : decode cX2_close 34 = .ok (.dup, 1) := by decide +kernel
theorem dX2_close_35 : decode cX2_close 35 = .ok (.getfield 80, 3) := by decide +kernel
theorem dX2_close_38 : decode cX2_close 38 = .ok (.iconst 1, 1) := by decide +kernel
theorem dX2_close_39 : decode cX2_close 39 = .ok (.iadd, 1) := by decide +kernel
theorem dX2_close_40 : decode cX2_close 40 = .ok (.putfield 80, 3) := by decide +kernel
theorem dX2_close_43 : decode cX2_close 43 = .ok (.aload_n 0, 1) := by decide +kernel
theorem dX2_close_44 : decode cX2_close 44 = .ok (.getfield 39, 3) := by decide +kernel
theorem dX2_close_47 : decode cX2_close 47 = .ok (.aload_n 0, 1) := by decide +kernel
theorem dX2_close_48 : decode cX2_close 48 = .ok (.getfield 80, 3) := by decide +kernel
theorem dX2_close_51 : decode cX2_close 51 = .ok (.iconst 1, 1) := by decide +kernel
theorem dX2_close_52 : decode cX2_close 52 = .ok (.isub, 1) := by decide +kernel
theorem dX2_close_53 : decode cX2_close 53 = .ok (.aload_n 0, 1) := by decide +kernel
theorem dX2_close_54 : decode cX2_close 54 = .ok (.invokevirtual 122, 3) := by decide +kernel
theorem dX2_close_57 : decode cX2_close 57 = .ok (.lastore, 1) := by decide +kernel
theorem dX2_close_58 : decode cX2_close 58 = .ok (.iconst 0, 1) := by decide +kernel
theorem dX2_close_59 : decode cX2_close 59 = .ok (.istore_n 1, 1) := by decide +kernel
theorem dX2_close_60 : decode cX2_close 60 = .ok (.iload_n 1, 1) := by decide +kernel
theorem dX2_close_61 : decode cX2_close 61 = .ok (.sipush 360, 3) := by decide +kernel
theorem dX2_close_64 : decode cX2_close 64 = .ok (.if_icmp .ge 16, 3) := by decide +kernel
theorem dX2_close_67 : decode cX2_close 67 = .ok (.aload_n 0, 1) := by decide +kernel
theorem dX2_close_68 : decode cX2_close 68 = .ok (.getfield 33, 3) := by decide +kernel
theorem dX2_close_71 : decode cX2_close 71 = .ok (.iload_n 1, 1) := by decide +kernel
theorem dX2_close_72 : decode cX2_close 72 = .ok (.iconst 0, 1) := by decide +kernel
theorem dX2_close_73 : decode cX2_close 73 = .ok (.iastore, 1) := by decide +kernel
theorem dX2_close_74 : decode cX2_close 74 = .ok (.iinc 1 1, 3) := by decide +kernel
theorem dX2_close_77 : decode cX2_close 77 = .ok (.goto (-17), 3) := by decide +kernel
theorem dX2_close_80 : decode cX2_close 80 = .ok (.aload_n 0, 1) := by decide +kernel
theorem dX2_close_81 : decode cX2_close 81 = .ok (.getfield 39, 3) := by decide +kernel
theorem dX2_close_84 : decode cX2_close 84 = .ok (.aload_n 0, 1) := by decide +kernel
theorem dX2_close_85 : decode cX2_close 85 = .ok (.getfield 80, 3) := by decide +kernel
theorem dX2_close_88 : decode cX2_close 88 = .ok (.iconst 1, 1) := by decide +kernel
theorem dX2_close_89 : decode cX2_close 89 = .ok (.isub, 1) := by decide +kernel
theorem dX2_close_90 : decode cX2_close 90 = .ok (.laload, 1) := by decide +kernel
theorem dX2_close_91 : decode cX2_close 91 = .ok (.lreturn, 1) := by decide +kernel
theorem dX2_closed_0 : decode cX2_closed 0 = .ok (.aload_n 0, 1) := by decide +kernel
theorem dX2_closed_1 : decode cX2_closed 1 = .ok (.iconst 0, 1) := by decide +kernel
theorem dX2_closed_2 : decode cX2_closed 2 = .ok (.putfield 64, 3) := by decide +kernel
theorem dX2_closed_5 : decode cX2_closed 5 = .ok (.aload_n 0, 1) := by decide +kernel
theorem dX2_closed_6 : decode cX2_closed 6 = .ok (.getfield 80, 3) := by decide +kernel
theorem dX2_closed_9 : decode cX2_closed 9 = .ok (.ireturn, 1) := by decide +kernel
set_option maxRecDepth 20000 in
theorem ggX2_taken_X2_isYear : GoodIn wsX2_taken wsX2_isYear := goodIn_r _ [5, 6, 7, 4, 8] (by decide +kernel) (by decide +kernel)
set_option maxRecDepth 20000 in
theorem gX2_taken_X2_isYear : GoodIn wsX2_taken (va_wsS RX2 105 yX2_isYear wsX2_isYear) := goodIn_app (goodIn_of _ (by decide +kernel)) ggX2_taken_X2_isYear
set_option maxRecDepth 20000 in
theorem ggX2_taken_X2_holds : GoodIn wsX2_taken wsX2_holds := goodIn_r _ [12, 13, 14, 15, 16, 17, 18, 19, 20, 21, 22, 23, 24, 25, 26, 27, 28, 29, 30, 31, 32, 33] (by decide +kernel) (by decide +kernel)
set_option maxRecDepth 20000 in
theorem gX2_taken_X2_holds : GoodIn wsX2_taken (wsV RX2 101 RX2 yX2_holds wsX2_holds) := goodIn_app (goodIn_of _ (by decide +kernel)) ggX2_taken_X2_holds
theorem dX2_taken_0 : decode cX2_taken 0 = .ok (.aload_n 0, 1) := by decide +kernel
theorem dX2_taken_1 : decode cX2_taken 1 = .ok (.iload_n 1, 1) := by decide +kernel
theorem dX2_taken_2 : decode cX2_taken 2 = .ok (.invokestatic 105, 3) := by decide +kernel
theorem dX2_taken_5 : decode cX2_taken 5 = .ok (.ifCond .eq 7, 3) := by decide +kernel
theorem dX2_taken_8 : decode cX2_taken 8 = .ok (.iconst 0, 1) := by decide +kernel
theorem dX2_taken_9 : decode cX2_taken 9 = .ok (.goto 4, 3) := by decide +kernel
theorem dX2_taken_12 : decode cX2_taken 12 = .ok (.iconst 1, 1) := by decide +kernel
theorem dX2_taken_13 : decode cX2_taken 13 = .ok (.invokevirtual 101, 3) := by decide +kernel
theorem dX2_taken_16 : decode cX2_taken 16 = .ok (.ifCond .eq 12, 3) := by decide +kernel
theorem dX2_taken_19 : decode cX2_taken 19 = .ok (.aload_n 0, 1) := by decide +kernel
theorem dX2_taken_20 : decode cX2_taken 20 = .ok (.getfield 36, 3) := by decide +kernel
theorem dX2_taken_23 : decode cX2_taken 23 = .ok (.iload_n 1, 1) := by decide +kernel
theorem dX2_taken_24 : decode cX2_taken 24 = .ok (.iaload, 1) := by decide +kernel
theorem dX2_taken_25 : decode cX2_taken 25 = .ok (.goto 4, 3) := by decide +kernel
theorem dX2_taken_28 : decode cX2_taken 28 = .ok (.iconst 0, 1) := by decide +kernel
theorem dX2_taken_29 : decode cX2_taken 29 = .ok (.ireturn, 1) := by decide +kernel
set_option maxRecDepth 20000 in
theorem ggX2_takenFrom_X2_isRange : GoodIn wsX2_takenFrom wsX2_isRange := goodIn_r _ [5] (by decide +kernel) (by decide +kernel)
set_option maxRecDepth 20000 in
theorem gX2_takenFrom_X2_isRange : GoodIn wsX2_takenFrom (va_wsS RX2 108 yX2_isRange wsX2_isRange) := goodIn_app (goodIn_of _ (by decide +kernel)) ggX2_takenFrom_X2_isRange
set_option maxRecDepth 20000 in
theorem ggX2_takenFrom_X2_holds : GoodIn wsX2_takenFrom wsX2_holds := goodIn_r _ [9, 10, 11, 12, 13, 14, 15, 16, 17, 18, 19, 20, 21, 22, 23, 24, 25, 26, 27, 28, 29, 30] (by decide +kernel) (by decide +kernel)
set_option maxRecDepth 20000 in
theorem gX2_takenFrom_X2_holds : GoodIn wsX2_takenFrom (wsV RX2 101 RX2 yX2_holds wsX2_holds) := goodIn_app (goodIn_of _ (by decide +kernel)) ggX2_takenFrom_X2_holds
theorem dX2_takenFrom_0 : decode cX2_takenFrom 0 = .ok (.aload_n 0, 1) := by decide +kernel
theorem dX2_takenFrom_1 : decode cX2_takenFrom 1 = .ok (.iload_n 1, 1) := by decide +kernel
theorem dX2_takenFrom_2 : decode cX2_takenFrom 2 = .ok (.iload_n 2, 1) := by decide +kernel
theorem dX2_takenFrom_3 : decode cX2_takenFrom 3 = .ok (.invokestatic 108, 3) := by decide +kernel
theorem dX2_takenFrom_6 : decode cX2_takenFrom 6 = .ok (.ifCond .eq 7, 3) := by decide +kernel
theorem dX2_takenFrom_9 : decode cX2_takenFrom 9 = .ok (.iconst 0, 1) := by decide +kernel
theorem dX2_takenFrom_10 : decode cX2_takenFrom 10 = .ok (.goto 4, 3) := by decide +kernel
theorem dX2_takenFrom_13 : decode cX2_takenFrom 13 = .ok (.iconst 1, 1) := by decide +kernel
theorem dX2_takenFrom_14 : decode cX2_takenFrom 14 = .ok (.invokevirtual 101, 3) := by decide +kernel
theorem dX2_takenFrom_17 : decode cX2_takenFrom 17 = .ok (.ifCond .ne 5, 3) := by decide +kernel
theorem dX2_takenFrom_20 : decode cX2_takenFrom 20 = .ok (.iconst 0, 1) := by decide +kernel
theorem dX2_takenFrom_21 : decode cX2_takenFrom 21 = .ok (.ireturn, 1) := by decide +kernel
theorem dX2_takenFrom_22 : decode cX2_takenFrom 22 = .ok (.iconst 0, 1) := by decide +kernel
theorem dX2_takenFrom_23 : decode cX2_takenFrom 23 = .ok (.istore_n 3, 1) := by decide +kernel
theorem dX2_takenFrom_24 : decode cX2_takenFrom 24 = .ok (.iload_n 1, 1) := by decide +kernel
theorem dX2_takenFrom_25 : decode cX2_takenFrom 25 = .ok (.istore 4, 2) := by decide +kernel
theorem dX2_takenFrom_27 : decode cX2_takenFrom 27 = .ok (.iload 4, 2) := by decide +kernel
theorem dX2_takenFrom_29 : decode cX2_takenFrom 29 = .ok (.iload_n 2, 1) := by decide +kernel
theorem dX2_takenFrom_30 : decode cX2_takenFrom 30 = .ok (.if_icmp .gt 19, 3) := by decide +kernel
theorem dX2_takenFrom_33 : decode cX2_takenFrom 33 = .ok (.iload_n 3, 1) := by decide +kernel
theorem dX2_takenFrom_34 : decode cX2_takenFrom 34 = .ok (.aload_n 0, 1) := by decide +kernel
theorem dX2_takenFrom_35 : decode cX2_takenFrom 35 = .ok (.getfield 33, 3) := by decide +kernel
theorem dX2_takenFrom_38 : decode cX2_takenFrom 38 = .ok (.iload 4, 2) := by decide +kernel
theorem dX2_takenFrom_40 : decode cX2_takenFrom 40 = .ok (.iaload, 1) := by decide +kernel
theorem dX2_takenFrom_41 : decode cX2_takenFrom 41 = .ok (.iadd, 1) := by decide +kernel
theorem dX2_takenFrom_42 : decode cX2_takenFrom 42 = .ok (.istore_n 3, 1) := by decide +kernel
theorem dX2_takenFrom_43 : decode cX2_takenFrom 43 = .ok (.iinc 4 1, 3) := by decide +kernel
theorem dX2_takenFrom_46 : decode cX2_takenFrom 46 = .ok (.goto (-19), 3) := by decide +kernel
theorem dX2_takenFrom_49 : decode cX2_takenFrom 49 = .ok (.iload_n 3, 1) := by decide +kernel
theorem dX2_takenFrom_50 : decode cX2_takenFrom 50 = .ok (.ireturn, 1) := by decide +kernel
set_option maxRecDepth 20000 in
theorem ggX2_price_X2_isYear : GoodIn wsX2_price wsX2_isYear := goodIn_r _ [5, 6, 7, 4, 8] (by decide +kernel) (by decide +kernel)
set_option maxRecDepth 20000 in
theorem gX2_price_X2_isYear : GoodIn wsX2_price (va_wsS RX2 105 yX2_isYear wsX2_isYear) := goodIn_app (goodIn_of _ (by decide +kernel)) ggX2_price_X2_isYear
set_option maxRecDepth 20000 in
theorem ggX2_price_X2_holds : GoodIn wsX2_price wsX2_holds := goodIn_r _ [12, 13, 14, 15, 16, 17, 18, 19, 20, 21, 22, 23, 24, 25, 26, 27, 28, 29, 30, 31, 32, 33] (by decide +kernel) (by decide +kernel)
set_option maxRecDepth 20000 in
theorem gX2_price_X2_holds : GoodIn wsX2_price (wsV RX2 101 RX2 yX2_holds wsX2_holds) := goodIn_app (goodIn_of _ (by decide +kernel)) ggX2_price_X2_holds
theorem dX2_price_0 : decode cX2_price 0 = .ok (.aload_n 0, 1) := by decide +kernel
theorem dX2_price_1 : decode cX2_price 1 = .ok (.iload_n 1, 1) := by decide +kernel
theorem dX2_price_2 : decode cX2_price 2 = .ok (.invokestatic 105, 3) := by decide +kernel
theorem dX2_price_5 : decode cX2_price 5 = .ok (.ifCond .eq 7, 3) := by decide +kernel
theorem dX2_price_8 : decode cX2_price 8 = .ok (.iconst 0, 1) := by decide +kernel
theorem dX2_price_9 : decode cX2_price 9 = .ok (.goto 4, 3) := by decide +kernel
theorem dX2_price_12 : decode cX2_price 12 = .ok (.iconst 1, 1) := by decide +kernel
theorem dX2_price_13 : decode cX2_price 13 = .ok (.invokevirtual 101, 3) := by decide +kernel
theorem dX2_price_16 : decode cX2_price 16 = .ok (.ifCond .eq 12, 3) := by decide +kernel
theorem dX2_price_19 : decode cX2_price 19 = .ok (.aload_n 0, 1) := by decide +kernel
theorem dX2_price_20 : decode cX2_price 20 = .ok (.getfield 26, 3) := by decide +kernel
theorem dX2_price_23 : decode cX2_price 23 = .ok (.iload_n 1, 1) := by decide +kernel
theorem dX2_price_24 : decode cX2_price 24 = .ok (.iaload, 1) := by decide +kernel
theorem dX2_price_25 : decode cX2_price 25 = .ok (.goto 4, 3) := by decide +kernel
theorem dX2_price_28 : decode cX2_price 28 = .ok (.iconst 0, 1) := by decide +kernel
theorem dX2_price_29 : decode cX2_price 29 = .ok (.ireturn, 1) := by decide +kernel
set_option maxRecDepth 20000 in
theorem ggX2_least_X2_isYear : GoodIn wsX2_least wsX2_isYear := goodIn_r _ [4, 5, 6, 3, 7] (by decide +kernel) (by decide +kernel)
set_option maxRecDepth 20000 in
theorem gX2_least_X2_isYear : GoodIn wsX2_least (va_wsS RX2 105 yX2_isYear wsX2_isYear) := goodIn_app (goodIn_of _ (by decide +kernel)) ggX2_least_X2_isYear
set_option maxRecDepth 20000 in
theorem ggX2_least_X2_holds : GoodIn wsX2_least wsX2_holds := goodIn_r _ [11, 12, 21, 22, 23, 24, 25, 26, 27, 28, 29, 30, 31, 32, 33, 34, 35, 36, 37, 38, 39, 40] (by decide +kernel) (by decide +kernel)
set_option maxRecDepth 20000 in
theorem gX2_least_X2_holds : GoodIn wsX2_least (wsV RX2 101 RX2 yX2_holds wsX2_holds) := goodIn_app (goodIn_of _ (by decide +kernel)) ggX2_least_X2_holds
set_option maxRecDepth 20000 in
theorem ggX2_least_X2_leastOf : GoodIn wsX2_least wsX2_leastOf := goodIn_r _ [16, 17, 18, 19, 20, 21, 22, 23, 24, 25, 26, 27, 28, 29, 30, 31, 32, 33, 34, 35, 36, 37, 38, 39, 40] (by decide +kernel) (by decide +kernel)
set_option maxRecDepth 20000 in
theorem gX2_least_X2_leastOf : GoodIn wsX2_least (wsV RX2 87 RX2 yX2_leastOf wsX2_leastOf) := goodIn_app (goodIn_of _ (by decide +kernel)) ggX2_least_X2_leastOf
theorem dX2_least_0 : decode cX2_least 0 = .ok (.aload_n 0, 1) := by decide +kernel
theorem dX2_least_1 : decode cX2_least 1 = .ok (.iload_n 1, 1) := by decide +kernel
theorem dX2_least_2 : decode cX2_least 2 = .ok (.invokestatic 105, 3) := by decide +kernel
theorem dX2_least_5 : decode cX2_least 5 = .ok (.ifCond .eq 7, 3) := by decide +kernel
theorem dX2_least_8 : decode cX2_least 8 = .ok (.iconst 0, 1) := by decide +kernel
theorem dX2_least_9 : decode cX2_least 9 = .ok (.goto 4, 3) := by decide +kernel
theorem dX2_least_12 : decode cX2_least 12 = .ok (.iconst 1, 1) := by decide +kernel
theorem dX2_least_13 : decode cX2_least 13 = .ok (.invokevirtual 101, 3) := by decide +kernel
theorem dX2_least_16 : decode cX2_least 16 = .ok (.ifCond .eq 11, 3) := by decide +kernel
theorem dX2_least_19 : decode cX2_least 19 = .ok (.aload_n 0, 1) := by decide +kernel
theorem dX2_least_20 : decode cX2_least 20 = .ok (.iload_n 1, 1) := by decide +kernel
theorem dX2_least_21 : decode cX2_least 21 = .ok (.invokevirtual 87, 3) := by decide +kernel
theorem dX2_least_24 : decode cX2_least 24 = .ok (.goto 4, 3) := by decide +kernel
theorem dX2_least_27 : decode cX2_least 27 = .ok (.iconst 0, 1) := by decide +kernel
theorem dX2_least_28 : decode cX2_least 28 = .ok (.ireturn, 1) := by decide +kernel
set_option maxRecDepth 20000 in
theorem ggX2_isClosed_X2_isYear : GoodIn wsX2_isClosed wsX2_isYear := goodIn_r _ [5, 6, 7, 4, 8] (by decide +kernel) (by decide +kernel)
set_option maxRecDepth 20000 in
theorem gX2_isClosed_X2_isYear : GoodIn wsX2_isClosed (va_wsS RX2 105 yX2_isYear wsX2_isYear) := goodIn_app (goodIn_of _ (by decide +kernel)) ggX2_isClosed_X2_isYear
set_option maxRecDepth 20000 in
theorem ggX2_isClosed_X2_holds : GoodIn wsX2_isClosed wsX2_holds := goodIn_r _ [12, 13, 55, 56, 57, 58, 59, 60, 61, 62, 63, 64, 65, 66, 67, 68, 69, 70, 71, 72, 73, 74] (by decide +kernel) (by decide +kernel)
set_option maxRecDepth 20000 in
theorem gX2_isClosed_X2_holds : GoodIn wsX2_isClosed (wsV RX2 101 RX2 yX2_holds wsX2_holds) := goodIn_app (goodIn_of _ (by decide +kernel)) ggX2_isClosed_X2_holds
set_option maxRecDepth 20000 in
theorem ggX2_isClosed_X2_goesThrough : GoodIn wsX2_isClosed wsX2_goesThrough := goodIn_r _ [17, 18, 1, 19, 20, 21, 22, 23, 24, 25, 26, 27, 28, 4, 29, 30, 31, 32, 33, 34, 35, 36, 37, 38, 39, 40, 41, 42, 43, 44, 45, 46, 47, 48, 49, 50, 51, 52, 53, 54, 55, 56, 57, 58, 59, 60, 61, 62, 63, 64, 65, 66, 67, 68, 69, 70, 71, 72, 73, 74] (by decide +kernel) (by decide +kernel)
set_option maxRecDepth 20000 in
theorem gX2_isClosed_X2_goesThrough : GoodIn wsX2_isClosed (wsV RX2 97 RX2 yX2_goesThrough wsX2_goesThrough) := goodIn_app (goodIn_of _ (by decide +kernel)) ggX2_isClosed_X2_goesThrough
theorem dX2_isClosed_0 : decode cX2_isClosed 0 = .ok (.aload_n 0, 1) := by decide +kernel
theorem dX2_isClosed_1 : decode cX2_isClosed 1 = .ok (.iload_n 1, 1) := by decide +kernel
theorem dX2_isClosed_2 : decode cX2_isClosed 2 = .ok (.invokestatic 105, 3) := by decide +kernel
theorem dX2_isClosed_5 : decode cX2_isClosed 5 = .ok (.ifCond .ne 7, 3) := by decide +kernel
theorem dX2_isClosed_8 : decode cX2_isClosed 8 = .ok (.iconst 1, 1) := by decide +kernel
theorem dX2_isClosed_9 : decode cX2_isClosed 9 = .ok (.goto 16, 3) := by decide +kernel
theorem dX2_isClosed_12 : decode cX2_isClosed 12 = .ok (.iload_n 1, 1) := by decide +kernel
theorem dX2_isClosed_13 : decode cX2_isClosed 13 = .ok (.aload_n 0, 1) := by decide +kernel
theorem dX2_isClosed_14 : decode cX2_isClosed 14 = .ok (.getfield 80, 3) := by decide +kernel
theorem dX2_isClosed_17 : decode cX2_isClosed 17 = .ok (.if_icmp .ge 7, 3) := by decide +kernel
theorem dX2_isClosed_20 : decode cX2_isClosed 20 = .ok (.iconst 0, 1) := by decide +kernel
theorem dX2_isClosed_21 : decode cX2_isClosed 21 = .ok (.goto 4, 3) := by decide +kernel
theorem dX2_isClosed_24 : decode cX2_isClosed 24 = .ok (.iconst 2, 1) := by decide +kernel
theorem dX2_isClosed_25 : decode cX2_isClosed 25 = .ok (.invokevirtual 101, 3) := by decide +kernel
theorem dX2_isClosed_28 : decode cX2_isClosed 28 = .ok (.ifCond .ne 5, 3) := by decide +kernel
theorem dX2_isClosed_31 : decode cX2_isClosed 31 = .ok (.iconst 0, 1) := by decide +kernel
theorem dX2_isClosed_32 : decode cX2_isClosed 32 = .ok (.ireturn, 1) := by decide +kernel
theorem dX2_isClosed_33 : decode cX2_isClosed 33 = .ok (.aload_n 0, 1) := by decide +kernel
theorem dX2_isClosed_34 : decode cX2_isClosed 34 = .ok (.invokevirtual 97, 3) := by decide +kernel
theorem dX2_isClosed_37 : decode cX2_isClosed 37 = .ok (.iconst 1, 1) := by decide +kernel
theorem dX2_isClosed_38 : decode cX2_isClosed 38 = .ok (.ireturn, 1) := by decide +kernel
set_option maxRecDepth 20000 in
theorem ggX2_shortfall_X2_isClosed : GoodIn wsX2_shortfall wsX2_isClosed := goodIn_r _ [6, 7, 8, 9, 5, 10, 11, 12, 13, 14, 15, 16, 17, 18, 19, 20, 21, 22, 23, 1, 24, 25, 26, 27, 28, 29, 30, 31, 32, 33, 34, 35, 36, 37, 38, 39, 40, 41, 42, 43, 44, 45, 46, 47, 48, 49, 50, 51, 52, 53, 54, 55, 56, 57, 58, 59, 60, 61, 62, 63, 64, 65, 66, 67, 68, 69, 70, 71, 72, 73, 74, 75, 76, 77, 78] (by decide +kernel) (by decide +kernel)
set_option maxRecDepth 20000 in
theorem gX2_shortfall_X2_isClosed : GoodIn wsX2_shortfall (wsV RX2 126 RX2 yX2_isClosed wsX2_isClosed) := goodIn_app (goodIn_of _ (by decide +kernel)) ggX2_shortfall_X2_isClosed
theorem dX2_shortfall_0 : decode cX2_shortfall 0 = .ok (.aload_n 0, 1) := by decide +kernel
theorem dX2_shortfall_1 : decode cX2_shortfall 1 = .ok (.iload_n 1, 1) := by decide +kernel
theorem dX2_shortfall_2 : decode cX2_shortfall 2 = .ok (.invokevirtual 126, 3) := by decide +kernel
theorem dX2_shortfall_5 : decode cX2_shortfall 5 = .ok (.ifCond .eq 12, 3) := by decide +kernel
theorem dX2_shortfall_8 : decode cX2_shortfall 8 = .ok (.aload_n 0, 1) := by decide +kernel
theorem dX2_shortfall_9 : decode cX2_shortfall 9 = .ok (.getfield 43, 3) := by decide +kernel
theorem dX2_shortfall_12 : decode cX2_shortfall 12 = .ok (.iload_n 1, 1) := by decide +kernel
theorem dX2_shortfall_13 : decode cX2_shortfall 13 = .ok (.iaload, 1) := by decide +kernel
theorem dX2_shortfall_14 : decode cX2_shortfall 14 = .ok (.goto 4, 3) := by decide +kernel
theorem dX2_shortfall_17 : decode cX2_shortfall 17 = .ok (.iconst 0, 1) := by decide +kernel
theorem dX2_shortfall_18 : decode cX2_shortfall 18 = .ok (.ireturn, 1) := by decide +kernel
set_option maxRecDepth 20000 in
theorem ggX2_madeUp_X2_isClosed : GoodIn wsX2_madeUp wsX2_isClosed := goodIn_r _ [6, 7, 8, 9, 5, 10, 11, 12, 13, 14, 15, 16, 17, 18, 19, 20, 21, 22, 23, 24, 25, 26, 27, 1, 28, 29, 30, 31, 32, 33, 34, 35, 36, 37, 38, 39, 40, 41, 42, 43, 44, 45, 46, 47, 48, 49, 50, 51, 52, 53, 54, 55, 56, 57, 58, 59, 60, 61, 62, 63, 64, 65, 66, 67, 68, 69, 70, 71, 72, 73, 74, 75, 76, 77, 78] (by decide +kernel) (by decide +kernel)
set_option maxRecDepth 20000 in
theorem gX2_madeUp_X2_isClosed : GoodIn wsX2_madeUp (wsV RX2 126 RX2 yX2_isClosed wsX2_isClosed) := goodIn_app (goodIn_of _ (by decide +kernel)) ggX2_madeUp_X2_isClosed
theorem dX2_madeUp_0 : decode cX2_madeUp 0 = .ok (.aload_n 0, 1) := by decide +kernel
theorem dX2_madeUp_1 : decode cX2_madeUp 1 = .ok (.iload_n 1, 1) := by decide +kernel
theorem dX2_madeUp_2 : decode cX2_madeUp 2 = .ok (.invokevirtual 126, 3) := by decide +kernel
theorem dX2_madeUp_5 : decode cX2_madeUp 5 = .ok (.ifCond .eq 12, 3) := by decide +kernel
theorem dX2_madeUp_8 : decode cX2_madeUp 8 = .ok (.aload_n 0, 1) := by decide +kernel
theorem dX2_madeUp_9 : decode cX2_madeUp 9 = .ok (.getfield 55, 3) := by decide +kernel
theorem dX2_madeUp_12 : decode cX2_madeUp 12 = .ok (.iload_n 1, 1) := by decide +kernel
theorem dX2_madeUp_13 : decode cX2_madeUp 13 = .ok (.iaload, 1) := by decide +kernel
theorem dX2_madeUp_14 : decode cX2_madeUp 14 = .ok (.goto 4, 3) := by decide +kernel
theorem dX2_madeUp_17 : decode cX2_madeUp 17 = .ok (.iconst 0, 1) := by decide +kernel
theorem dX2_madeUp_18 : decode cX2_madeUp 18 = .ok (.ireturn, 1) := by decide +kernel
set_option maxRecDepth 20000 in
theorem ggX2_covered_X2_isClosed : GoodIn wsX2_covered wsX2_isClosed := goodIn_r _ [6, 7, 8, 9, 5, 10, 11, 12, 13, 14, 15, 16, 17, 18, 19, 20, 21, 22, 23, 24, 25, 26, 27, 28, 1, 29, 30, 31, 32, 33, 34, 35, 36, 37, 38, 39, 40, 41, 42, 43, 44, 45, 46, 47, 48, 49, 50, 51, 52, 53, 54, 55, 56, 57, 58, 59, 60, 61, 62, 63, 64, 65, 66, 67, 68, 69, 70, 71, 72, 73, 74, 75, 76, 77, 78] (by decide +kernel) (by decide +kernel)
set_option maxRecDepth 20000 in
theorem gX2_covered_X2_isClosed : GoodIn wsX2_covered (wsV RX2 126 RX2 yX2_isClosed wsX2_isClosed) := goodIn_app (goodIn_of _ (by decide +kernel)) ggX2_covered_X2_isClosed
theorem dX2_covered_0 : decode cX2_covered 0 = .ok (.aload_n 0, 1) := by decide +kernel
theorem dX2_covered_1 : decode cX2_covered 1 = .ok (.iload_n 1, 1) := by decide +kernel
theorem dX2_covered_2 : decode cX2_covered 2 = .ok (.invokevirtual 126, 3) := by decide +kernel
theorem dX2_covered_5 : decode cX2_covered 5 = .ok (.ifCond .eq 12, 3) := by decide +kernel
theorem dX2_covered_8 : decode cX2_covered 8 = .ok (.aload_n 0, 1) := by decide +kernel
theorem dX2_covered_9 : decode cX2_covered 9 = .ok (.getfield 58, 3) := by decide +kernel
theorem dX2_covered_12 : decode cX2_covered 12 = .ok (.iload_n 1, 1) := by decide +kernel
theorem dX2_covered_13 : decode cX2_covered 13 = .ok (.iaload, 1) := by decide +kernel
theorem dX2_covered_14 : decode cX2_covered 14 = .ok (.goto 4, 3) := by decide +kernel
theorem dX2_covered_17 : decode cX2_covered 17 = .ok (.iconst 0, 1) := by decide +kernel
theorem dX2_covered_18 : decode cX2_covered 18 = .ok (.ireturn, 1) := by decide +kernel
set_option maxRecDepth 20000 in
theorem ggX2_surplus_X2_isClosed : GoodIn wsX2_surplus wsX2_isClosed := goodIn_r _ [6, 7, 8, 9, 5, 10, 11, 12, 13, 14, 15, 16, 17, 18, 19, 20, 21, 22, 23, 24, 1, 25, 26, 27, 28, 29, 30, 31, 32, 33, 34, 35, 36, 37, 38, 39, 40, 41, 42, 43, 44, 45, 46, 47, 48, 49, 50, 51, 52, 53, 54, 55, 56, 57, 58, 59, 60, 61, 62, 63, 64, 65, 66, 67, 68, 69, 70, 71, 72, 73, 74, 75, 76, 77, 78] (by decide +kernel) (by decide +kernel)
set_option maxRecDepth 20000 in
theorem gX2_surplus_X2_isClosed : GoodIn wsX2_surplus (wsV RX2 126 RX2 yX2_isClosed wsX2_isClosed) := goodIn_app (goodIn_of _ (by decide +kernel)) ggX2_surplus_X2_isClosed
theorem dX2_surplus_0 : decode cX2_surplus 0 = .ok (.aload_n 0, 1) := by decide +kernel
theorem dX2_surplus_1 : decode cX2_surplus 1 = .ok (.iload_n 1, 1) := by decide +kernel
theorem dX2_surplus_2 : decode cX2_surplus 2 = .ok (.invokevirtual 126, 3) := by decide +kernel
theorem dX2_surplus_5 : decode cX2_surplus 5 = .ok (.ifCond .eq 12, 3) := by decide +kernel
theorem dX2_surplus_8 : decode cX2_surplus 8 = .ok (.aload_n 0, 1) := by decide +kernel
theorem dX2_surplus_9 : decode cX2_surplus 9 = .ok (.getfield 46, 3) := by decide +kernel
theorem dX2_surplus_12 : decode cX2_surplus 12 = .ok (.iload_n 1, 1) := by decide +kernel
theorem dX2_surplus_13 : decode cX2_surplus 13 = .ok (.iaload, 1) := by decide +kernel
theorem dX2_surplus_14 : decode cX2_surplus 14 = .ok (.goto 4, 3) := by decide +kernel
theorem dX2_surplus_17 : decode cX2_surplus 17 = .ok (.iconst 0, 1) := by decide +kernel
theorem dX2_surplus_18 : decode cX2_surplus 18 = .ok (.ireturn, 1) := by decide +kernel
set_option maxRecDepth 20000 in
theorem ggX2_due_X2_isClosed : GoodIn wsX2_due wsX2_isClosed := goodIn_r _ [6, 7, 8, 9, 5, 10, 11, 12, 13, 14, 15, 16, 17, 18, 19, 20, 21, 22, 23, 24, 25, 26, 27, 28, 29, 30, 31, 32, 33, 34, 35, 36, 37, 38, 39, 40, 41, 42, 43, 44, 45, 46, 47, 48, 1, 49, 50, 51, 52, 53, 54, 55, 56, 57, 58, 59, 60, 61, 62, 63, 64, 65, 66, 67, 68, 69, 70, 71, 72, 73, 74, 75, 76, 77, 78] (by decide +kernel) (by decide +kernel)
set_option maxRecDepth 20000 in
theorem gX2_due_X2_isClosed : GoodIn wsX2_due (wsV RX2 126 RX2 yX2_isClosed wsX2_isClosed) := goodIn_app (goodIn_of _ (by decide +kernel)) ggX2_due_X2_isClosed
theorem dX2_due_0 : decode cX2_due 0 = .ok (.aload_n 0, 1) := by decide +kernel
theorem dX2_due_1 : decode cX2_due 1 = .ok (.iload_n 1, 1) := by decide +kernel
theorem dX2_due_2 : decode cX2_due 2 = .ok (.invokevirtual 126, 3) := by decide +kernel
theorem dX2_due_5 : decode cX2_due 5 = .ok (.ifCond .eq 12, 3) := by decide +kernel
theorem dX2_due_8 : decode cX2_due 8 = .ok (.aload_n 0, 1) := by decide +kernel
theorem dX2_due_9 : decode cX2_due 9 = .ok (.getfield 61, 3) := by decide +kernel
theorem dX2_due_12 : decode cX2_due 12 = .ok (.iload_n 1, 1) := by decide +kernel
theorem dX2_due_13 : decode cX2_due 13 = .ok (.laload, 1) := by decide +kernel
theorem dX2_due_14 : decode cX2_due 14 = .ok (.goto 4, 3) := by decide +kernel
theorem dX2_due_17 : decode cX2_due 17 = .ok (.lconst 0, 1) := by decide +kernel
theorem dX2_due_18 : decode cX2_due 18 = .ok (.lreturn, 1) := by decide +kernel
set_option maxRecDepth 20000 in
theorem ggX2_bill_X2_isClosed : GoodIn wsX2_bill wsX2_isClosed := goodIn_r _ [6, 7, 8, 9, 5, 10, 11, 12, 13, 14, 15, 16, 17, 18, 19, 20, 21, 22, 23, 24, 25, 26, 27, 28, 29, 30, 31, 32, 33, 34, 35, 36, 37, 38, 39, 40, 41, 42, 43, 44, 45, 46, 47, 48, 49, 50, 51, 52, 53, 54, 55, 56, 57, 58, 59, 60, 61, 62, 63, 64, 65, 66, 67, 68, 69, 70, 71, 72, 73, 74, 75, 76, 77, 78, 79] (by decide +kernel) (by decide +kernel)
set_option maxRecDepth 20000 in
theorem gX2_bill_X2_isClosed : GoodIn wsX2_bill (wsV RX2 126 RX2 yX2_isClosed wsX2_isClosed) := goodIn_app (goodIn_of _ (by decide +kernel)) ggX2_bill_X2_isClosed
theorem dX2_bill_0 : decode cX2_bill 0 = .ok (.aload_n 0, 1) := by decide +kernel
theorem dX2_bill_1 : decode cX2_bill 1 = .ok (.iload_n 1, 1) := by decide +kernel
theorem dX2_bill_2 : decode cX2_bill 2 = .ok (.invokevirtual 126, 3) := by decide +kernel
theorem dX2_bill_5 : decode cX2_bill 5 = .ok (.ifCond .eq 12, 3) := by decide +kernel
theorem dX2_bill_8 : decode cX2_bill 8 = .ok (.aload_n 0, 1) := by decide +kernel
theorem dX2_bill_9 : decode cX2_bill 9 = .ok (.getfield 39, 3) := by decide +kernel
theorem dX2_bill_12 : decode cX2_bill 12 = .ok (.iload_n 1, 1) := by decide +kernel
theorem dX2_bill_13 : decode cX2_bill 13 = .ok (.laload, 1) := by decide +kernel
theorem dX2_bill_14 : decode cX2_bill 14 = .ok (.goto 4, 3) := by decide +kernel
theorem dX2_bill_17 : decode cX2_bill 17 = .ok (.lconst 0, 1) := by decide +kernel
theorem dX2_bill_18 : decode cX2_bill 18 = .ok (.lreturn, 1) := by decide +kernel
set_option maxRecDepth 20000 in
theorem ggX2_makeUpLeft_X2_isClosed : GoodIn wsX2_makeUpLeft wsX2_isClosed := goodIn_r _ [6, 7, 8, 9, 5, 10, 11, 12, 13, 14, 15, 16, 17, 18, 19, 20, 21, 22, 23, 24, 25, 1, 26, 27, 28, 29, 30, 31, 32, 33, 34, 35, 36, 37, 38, 39, 40, 41, 42, 43, 44, 45, 46, 47, 48, 49, 50, 51, 52, 53, 54, 55, 56, 57, 58, 59, 60, 61, 62, 63, 64, 65, 66, 67, 68, 69, 70, 71, 72, 73, 74, 75, 76, 77, 78] (by decide +kernel) (by decide +kernel)
set_option maxRecDepth 20000 in
theorem gX2_makeUpLeft_X2_isClosed : GoodIn wsX2_makeUpLeft (wsV RX2 126 RX2 yX2_isClosed wsX2_isClosed) := goodIn_app (goodIn_of _ (by decide +kernel)) ggX2_makeUpLeft_X2_isClosed
theorem dX2_makeUpLeft_0 : decode cX2_makeUpLeft 0 = .ok (.aload_n 0, 1) := by decide +kernel
theorem dX2_makeUpLeft_1 : decode cX2_makeUpLeft 1 = .ok (.iload_n 1, 1) := by decide +kernel
theorem dX2_makeUpLeft_2 : decode cX2_makeUpLeft 2 = .ok (.invokevirtual 126, 3) := by decide +kernel
theorem dX2_makeUpLeft_5 : decode cX2_makeUpLeft 5 = .ok (.ifCond .eq 12, 3) := by decide +kernel
theorem dX2_makeUpLeft_8 : decode cX2_makeUpLeft 8 = .ok (.aload_n 0, 1) := by decide +kernel
theorem dX2_makeUpLeft_9 : decode cX2_makeUpLeft 9 = .ok (.getfield 49, 3) := by decide +kernel
theorem dX2_makeUpLeft_12 : decode cX2_makeUpLeft 12 = .ok (.iload_n 1, 1) := by decide +kernel
theorem dX2_makeUpLeft_13 : decode cX2_makeUpLeft 13 = .ok (.iaload, 1) := by decide +kernel
theorem dX2_makeUpLeft_14 : decode cX2_makeUpLeft 14 = .ok (.goto 4, 3) := by decide +kernel
theorem dX2_makeUpLeft_17 : decode cX2_makeUpLeft 17 = .ok (.iconst 0, 1) := by decide +kernel
theorem dX2_makeUpLeft_18 : decode cX2_makeUpLeft 18 = .ok (.ireturn, 1) := by decide +kernel
set_option maxRecDepth 20000 in
theorem ggX2_surplusLeft_X2_isClosed : GoodIn wsX2_surplusLeft wsX2_isClosed := goodIn_r _ [6, 7, 8, 9, 5, 10, 11, 12, 13, 14, 15, 16, 17, 18, 19, 20, 21, 22, 23, 24, 25, 26, 1, 27, 28, 29, 30, 31, 32, 33, 34, 35, 36, 37, 38, 39, 40, 41, 42, 43, 44, 45, 46, 47, 48, 49, 50, 51, 52, 53, 54, 55, 56, 57, 58, 59, 60, 61, 62, 63, 64, 65, 66, 67, 68, 69, 70, 71, 72, 73, 74, 75, 76, 77, 78] (by decide +kernel) (by decide +kernel)
set_option maxRecDepth 20000 in
theorem gX2_surplusLeft_X2_isClosed : GoodIn wsX2_surplusLeft (wsV RX2 126 RX2 yX2_isClosed wsX2_isClosed) := goodIn_app (goodIn_of _ (by decide +kernel)) ggX2_surplusLeft_X2_isClosed
theorem dX2_surplusLeft_0 : decode cX2_surplusLeft 0 = .ok (.aload_n 0, 1) := by decide +kernel
theorem dX2_surplusLeft_1 : decode cX2_surplusLeft 1 = .ok (.iload_n 1, 1) := by decide +kernel
theorem dX2_surplusLeft_2 : decode cX2_surplusLeft 2 = .ok (.invokevirtual 126, 3) := by decide +kernel
theorem dX2_surplusLeft_5 : decode cX2_surplusLeft 5 = .ok (.ifCond .eq 12, 3) := by decide +kernel
theorem dX2_surplusLeft_8 : decode cX2_surplusLeft 8 = .ok (.aload_n 0, 1) := by decide +kernel
theorem dX2_surplusLeft_9 : decode cX2_surplusLeft 9 = .ok (.getfield 52, 3) := by decide +kernel
theorem dX2_surplusLeft_12 : decode cX2_surplusLeft 12 = .ok (.iload_n 1, 1) := by decide +kernel
theorem dX2_surplusLeft_13 : decode cX2_surplusLeft 13 = .ok (.iaload, 1) := by decide +kernel
theorem dX2_surplusLeft_14 : decode cX2_surplusLeft 14 = .ok (.goto 4, 3) := by decide +kernel
theorem dX2_surplusLeft_17 : decode cX2_surplusLeft 17 = .ok (.iconst 0, 1) := by decide +kernel
theorem dX2_surplusLeft_18 : decode cX2_surplusLeft 18 = .ok (.ireturn, 1) := by decide +kernel
set_option maxRecDepth 20000 in
theorem ggX2_lapsed_X2_goesThrough : GoodIn wsX2_lapsed wsX2_goesThrough := goodIn_r _ [7, 2, 8, 9, 10, 11, 12, 13, 14, 15, 16, 17, 18, 6, 19, 20, 21, 22, 23, 24, 25, 26, 27, 28, 29, 30, 31, 32, 33, 34, 35, 36, 37, 38, 39, 40, 41, 42, 43, 44, 45, 46, 47, 48, 49, 50, 51, 52, 53, 54, 55, 56, 57, 58, 59, 60, 61, 62, 63, 64] (by decide +kernel) (by decide +kernel)
set_option maxRecDepth 20000 in
theorem gX2_lapsed_X2_goesThrough : GoodIn wsX2_lapsed (wsV RX2 97 RX2 yX2_goesThrough wsX2_goesThrough) := goodIn_app (goodIn_of _ (by decide +kernel)) ggX2_lapsed_X2_goesThrough
theorem dX2_lapsed_0 : decode cX2_lapsed 0 = .ok (.aload_n 0, 1) := by decide +kernel
theorem dX2_lapsed_1 : decode cX2_lapsed 1 = .ok (.iconst 0, 1) := by decide +kernel
theorem dX2_lapsed_2 : decode cX2_lapsed 2 = .ok (.putfield 64, 3) := by decide +kernel
theorem dX2_lapsed_5 : decode cX2_lapsed 5 = .ok (.aload_n 0, 1) := by decide +kernel
theorem dX2_lapsed_6 : decode cX2_lapsed 6 = .ok (.invokevirtual 97, 3) := by decide +kernel
theorem dX2_lapsed_9 : decode cX2_lapsed 9 = .ok (.aload_n 0, 1) := by decide +kernel
theorem dX2_lapsed_10 : decode cX2_lapsed 10 = .ok (.getfield 73, 3) := by decide +kernel
theorem dX2_lapsed_13 : decode cX2_lapsed 13 = .ok (.ireturn, 1) := by decide +kernel
set_option maxRecDepth 20000 in
theorem ggX2_open_X2_openNow : GoodIn wsX2_open wsX2_openNow := goodIn_r _ [6, 7, 8, 9, 10, 11, 12, 5, 13, 14, 15, 16, 17, 18, 19, 20, 21, 22, 23, 24, 25, 26, 27, 28, 29, 30, 31, 32, 33, 34, 35, 36, 37, 38, 39, 40, 41, 42, 43, 44, 45, 46, 47, 48, 49, 50, 51, 52, 53, 54, 55, 56, 57, 58, 59, 60, 61, 62, 63, 64, 65, 66, 67, 68, 69] (by decide +kernel) (by decide +kernel)
set_option maxRecDepth 20000 in
theorem gX2_open_X2_openNow : GoodIn wsX2_open (wsV RX2 122 RX2 yX2_openNow wsX2_openNow) := goodIn_app (goodIn_of _ (by decide +kernel)) ggX2_open_X2_openNow
theorem dX2_open_0 : decode cX2_open 0 = .ok (.aload_n 0, 1) := by decide +kernel
theorem dX2_open_1 : decode cX2_open 1 = .ok (.iconst 0, 1) := by decide +kernel
theorem dX2_open_2 : decode cX2_open 2 = .ok (.putfield 64, 3) := by decide +kernel
theorem dX2_open_5 : decode cX2_open 5 = .ok (.aload_n 0, 1) := by decide +kernel
theorem dX2_open_6 : decode cX2_open 6 = .ok (.invokevirtual 122, 3) := by decide +kernel
theorem dX2_open_9 : decode cX2_open 9 = .ok (.lreturn, 1) := by decide +kernel
theorem dJ9_max_7cf53_0 : decode cJ9_max_7cf53 0 = .ok (.iload_n 0, 1) := by decide +kernel
theorem dJ9_max_7cf53_1 : decode cJ9_max_7cf53 1 = .ok (.iload_n 1, 1) := by decide +kernel
theorem dJ9_max_7cf53_2 : decode cJ9_max_7cf53 2 = .ok (.if_icmp .lt 7, 3) := by decide +kernel
theorem dJ9_max_7cf53_5 : decode cJ9_max_7cf53 5 = .ok (.iload_n 0, 1) := by decide +kernel
theorem dJ9_max_7cf53_6 : decode cJ9_max_7cf53 6 = .ok (.goto 4, 3) := by decide +kernel
theorem dJ9_max_7cf53_9 : decode cJ9_max_7cf53 9 = .ok (.iload_n 1, 1) := by decide +kernel
theorem dJ9_max_7cf53_10 : decode cJ9_max_7cf53 10 = .ok (.ireturn, 1) := by decide +kernel
theorem dJ9_min_7cf53_0 : decode cJ9_min_7cf53 0 = .ok (.iload_n 0, 1) := by decide +kernel
theorem dJ9_min_7cf53_1 : decode cJ9_min_7cf53 1 = .ok (.iload_n 1, 1) := by decide +kernel
theorem dJ9_min_7cf53_2 : decode cJ9_min_7cf53 2 = .ok (.if_icmp .gt 7, 3) := by decide +kernel
theorem dJ9_min_7cf53_5 : decode cJ9_min_7cf53 5 = .ok (.iload_n 0, 1) := by decide +kernel
theorem dJ9_min_7cf53_6 : decode cJ9_min_7cf53 6 = .ok (.goto 4, 3) := by decide +kernel
theorem dJ9_min_7cf53_9 : decode cJ9_min_7cf53 9 = .ok (.iload_n 1, 1) := by decide +kernel
theorem dJ9_min_7cf53_10 : decode cJ9_min_7cf53 10 = .ok (.ireturn, 1) := by decide +kernel
theorem dJ7_fill_53178_0 : decode cJ7_fill_53178 0 = .ok (.iconst 0, 1) := by decide +kernel
theorem dJ7_fill_53178_1 : decode cJ7_fill_53178 1 = .ok (.istore_n 2, 1) := by decide +kernel
theorem dJ7_fill_53178_2 : decode cJ7_fill_53178 2 = .ok (.aload_n 0, 1) := by decide +kernel
theorem dJ7_fill_53178_3 : decode cJ7_fill_53178 3 = .ok (.arraylength, 1) := by decide +kernel
theorem dJ7_fill_53178_4 : decode cJ7_fill_53178 4 = .ok (.istore_n 3, 1) := by decide +kernel
theorem dJ7_fill_53178_5 : decode cJ7_fill_53178 5 = .ok (.iload_n 2, 1) := by decide +kernel
theorem dJ7_fill_53178_6 : decode cJ7_fill_53178 6 = .ok (.iload_n 3, 1) := by decide +kernel
theorem dJ7_fill_53178_7 : decode cJ7_fill_53178 7 = .ok (.if_icmp .ge 13, 3) := by decide +kernel
theorem dJ7_fill_53178_10 : decode cJ7_fill_53178 10 = .ok (.aload_n 0, 1) := by decide +kernel
theorem dJ7_fill_53178_11 : decode cJ7_fill_53178 11 = .ok (.iload_n 2, 1) := by decide +kernel
theorem dJ7_fill_53178_12 : decode cJ7_fill_53178 12 = .ok (.iload_n 1, 1) := by decide +kernel
theorem dJ7_fill_53178_13 : decode cJ7_fill_53178 13 = .ok (.iastore, 1) := by decide +kernel
theorem dJ7_fill_53178_14 : decode cJ7_fill_53178 14 = .ok (.iinc 2 1, 3) := by decide +kernel
theorem dJ7_fill_53178_17 : decode cJ7_fill_53178 17 = .ok (.goto (-12), 3) := by decide +kernel
theorem dJ7_fill_53178_20 : decode cJ7_fill_53178 20 = .ok (.return_, 1) := by decide +kernel
set_option maxRecDepth 20000 in
theorem ggL_set_X1_set : GoodIn wsL_set wsX1_set := goodIn_ca (goodIn_ca (goodIn_r _ [7, 8, 9, 10, 11, 12, 13, 14, 15, 6, 16, 17, 18, 19, 20, 21, 22, 23, 24, 25, 26, 27, 28, 29, 30, 31, 32, 33, 34, 35, 36, 37, 38, 39, 40, 41, 42, 43, 44, 45, 46, 47, 48, 49, 50, 51, 52] (by decide +kernel) (by decide +kernel)) (goodIn_sub (fun _ h => List.mem_cons_of_mem _ (List.mem_append_left _ (List.mem_append_right _ h))) (by decide +kernel))) (goodIn_sub (fun _ h => List.mem_cons_of_mem _ (List.mem_append_right _ h)) (by decide +kernel))
set_option maxRecDepth 20000 in
theorem gL_set_X1_set : GoodIn wsL_set (wsV RL 7 RX1 yX1_set wsX1_set) := goodIn_app (goodIn_of _ (by decide +kernel)) ggL_set_X1_set
theorem dL_set_0 : decode cL_set 0 = .ok (.aload_n 0, 1) := by decide +kernel
theorem dL_set_1 : decode cL_set 1 = .ok (.iload_n 1, 1) := by decide +kernel
theorem dL_set_2 : decode cL_set 2 = .ok (.iload_n 2, 1) := by decide +kernel
theorem dL_set_3 : decode cL_set 3 = .ok (.iload_n 3, 1) := by decide +kernel
theorem dL_set_4 : decode cL_set 4 = .ok (.iload 4, 2) := by decide +kernel
theorem dL_set_6 : decode cL_set 6 = .ok (.iload 5, 2) := by decide +kernel
theorem dL_set_8 : decode cL_set 8 = .ok (.invokevirtual 7, 3) := by decide +kernel
theorem dL_set_11 : decode cL_set 11 = .ok (.goto 11, 3) := by decide +kernel
theorem dL_set_14 : decode cL_set 14 = .ok (.astore 6, 2) := by decide +kernel
theorem dL_set_16 : decode cL_set 16 = .ok (.iconst 1, 1) := by decide +kernel
theorem dL_set_17 : decode cL_set 17 = .ok (.ireturn, 1) := by decide +kernel
theorem dL_set_18 : decode cL_set 18 = .ok (.astore 6, 2) := by decide +kernel
theorem dL_set_20 : decode cL_set 20 = .ok (.iconst 2, 1) := by decide +kernel
theorem dL_set_21 : decode cL_set 21 = .ok (.ireturn, 1) := by decide +kernel
theorem dL_set_22 : decode cL_set 22 = .ok (.iconst 0, 1) := by decide +kernel
theorem dL_set_23 : decode cL_set 23 = .ok (.ireturn, 1) := by decide +kernel
set_option maxRecDepth 20000 in
theorem ggL_review_X1_review : GoodIn wsL_review wsX1_review := goodIn_ca (goodIn_r _ [6, 7, 8, 9, 5, 10, 11, 12, 13, 14, 15, 16, 17, 18, 19, 20, 21, 22, 23, 24, 25, 26, 27, 28, 29, 30, 31, 32, 33, 34, 35, 36, 37, 38, 39, 40, 41, 42, 43, 44, 45, 46, 47, 48, 49, 50, 51, 52, 53, 54, 55, 56, 57, 58, 59, 60, 61, 62, 63, 64, 65, 66, 67, 68, 69, 70, 71, 72, 73, 74, 75, 76, 77, 78, 79, 80, 81, 82, 83, 84, 85, 86, 87, 88, 89, 90, 91, 92, 93, 94, 95, 96, 97, 98, 99, 100, 101, 102, 103, 104] (by decide +kernel) (by decide +kernel)) (goodIn_sub (fun _ h => List.mem_cons_of_mem _ (List.mem_append_right _ h)) (by decide +kernel))
set_option maxRecDepth 20000 in
theorem gL_review_X1_review : GoodIn wsL_review (wsV RL 17 RX1 yX1_review wsX1_review) := goodIn_app (goodIn_of _ (by decide +kernel)) ggL_review_X1_review
theorem dL_review_0 : decode cL_review 0 = .ok (.aload_n 3, 1) := by decide +kernel
theorem dL_review_1 : decode cL_review 1 = .ok (.iconst 0, 1) := by decide +kernel
theorem dL_review_2 : decode cL_review 2 = .ok (.aload_n 0, 1) := by decide +kernel
theorem dL_review_3 : decode cL_review 3 = .ok (.iload_n 1, 1) := by decide +kernel
theorem dL_review_4 : decode cL_review 4 = .ok (.iload_n 2, 1) := by decide +kernel
theorem dL_review_5 : decode cL_review 5 = .ok (.invokevirtual 17, 3) := by decide +kernel
theorem dL_review_8 : decode cL_review 8 = .ok (.i2l, 1) := by decide +kernel
theorem dL_review_9 : decode cL_review 9 = .ok (.lastore, 1) := by decide +kernel
theorem dL_review_10 : decode cL_review 10 = .ok (.goto 7, 3) := by decide +kernel
