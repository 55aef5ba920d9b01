theorem wsL_law_x0 : ∀ w ∈ (vx_atS RX1 132 "java/lang/IllegalArgumentException" ["java/lang/RuntimeException", "java/lang/Exception"]).filter goodWord, w ∈ lw_tbl := by decide +kernel
theorem wsL_law_x1 : ∀ w ∈ (vx_atS RX1 139 "java/lang/IllegalStateException" ["java/lang/RuntimeException", "java/lang/Exception"]).filter goodWord, w ∈ lw_tbl := by decide +kernel
theorem wsL_law_in : ∀ w ∈ wsL_law, w ∈ lw_tbl := fun w h => (List.mem_append.mp h).elim (fun h => (List.mem_append.mp h).elim (fun h => wsL_law_in0 w h) (fun h => wsL_law_x0 w h)) (fun h => wsL_law_x1 w h)
theorem inlX0 : ∀ w ∈ wsX00, w ∈ wsL_law := fun _ h => List.mem_append_left _ (List.mem_append_left _ (List.mem_append_left _ (List.mem_append_right _ h)))
theorem inX0 : ∀ w ∈ wsX00, w ∈ lw_tbl := fun w h => wsL_law_in w (inlX0 w h)
theorem inlX1 : ∀ w ∈ wsX10, w ∈ wsL_law := fun _ h => List.mem_append_left _ (List.mem_append_left _ (List.mem_append_left _ (List.mem_append_left _ (List.mem_append_right _ h))))
theorem inX1 : ∀ w ∈ wsX10, w ∈ lw_tbl := fun w h => wsL_law_in w (inlX1 w h)
theorem inX2 : ∀ w ∈ wsX20, w ∈ lw_tbl := by decide +kernel
theorem inJx145de : ∀ w ∈ wsJx145de0, w ∈ lw_tbl := by decide +kernel
theorem inJ9 : ∀ w ∈ wsJ90, w ∈ lw_tbl := by decide +kernel
theorem inJ0 : ∀ w ∈ wsJ00, w ∈ lw_tbl := by decide +kernel
theorem inJ7 : ∀ w ∈ wsJ70, w ∈ lw_tbl := by decide +kernel
theorem dX0_init_0 : decode cX0_init 0 = .ok (.aload_n 0, 1) := by decide +kernel
theorem dX0_init_1 : decode cX0_init 1 = .ok (.invokespecial 3, 3) := by decide +kernel
theorem dX0_init_4 : decode cX0_init 4 = .ok (.aload_n 0, 1) := by decide +kernel
theorem dX0_init_5 : decode cX0_init 5 = .ok (.bipush 20, 2) := by decide +kernel
theorem dX0_init_7 : decode cX0_init 7 = .ok (.newarray .int, 2) := by decide +kernel
theorem dX0_init_9 : decode cX0_init 9 = .ok (.putfield 9, 3) := by decide +kernel
theorem dX0_init_12 : decode cX0_init 12 = .ok (.aload_n 0, 1) := by decide +kernel
theorem dX0_init_13 : decode cX0_init 13 = .ok (.iload_n 1, 1) := by decide +kernel
theorem dX0_init_14 : decode cX0_init 14 = .ok (.putfield 15, 3) := by decide +kernel
theorem dX0_init_17 : decode cX0_init 17 = .ok (.return_, 1) := by decide +kernel
theorem dX0_keepFor_0 : decode cX0_keepFor 0 = .ok (.aload_n 0, 1) := by decide +kernel
theorem dX0_keepFor_1 : decode cX0_keepFor 1 = .ok (.iload_n 1, 1) := by decide +kernel
theorem dX0_keepFor_2 : decode cX0_keepFor 2 = .ok (.putfield 15, 3) := by decide +kernel
theorem dX0_keepFor_5 : decode cX0_keepFor 5 = .ok (.return_, 1) := by decide +kernel
set_option maxRecDepth 20000 in
theorem ggX0_empty_J7_fill_53178 : GoodIn wsX0_empty wsJ7_fill_53178 := goodIn_r _ [6] (by decide +kernel) (by decide +kernel)
set_option maxRecDepth 20000 in
theorem gX0_empty_J7_fill_53178 : GoodIn wsX0_empty (va_wsS RX0 19 yJ7_fill_53178 wsJ7_fill_53178) := goodIn_app (goodIn_of _ (by decide +kernel)) ggX0_empty_J7_fill_53178
theorem dX0_empty_0 : decode cX0_empty 0 = .ok (.aload_n 0, 1) := by decide +kernel
theorem dX0_empty_1 : decode cX0_empty 1 = .ok (.getfield 9, 3) := by decide +kernel
theorem dX0_empty_4 : decode cX0_empty 4 = .ok (.iconst 0, 1) := by decide +kernel
theorem dX0_empty_5 : decode cX0_empty 5 = .ok (.invokestatic 19, 3) := by decide +kernel
theorem dX0_empty_8 : decode cX0_empty 8 = .ok (.aload_n 0, 1) := by decide +kernel
theorem dX0_empty_9 : decode cX0_empty 9 = .ok (.iconst 0, 1) := by decide +kernel
theorem dX0_empty_10 : decode cX0_empty 10 = .ok (.putfield 25, 3) := by decide +kernel
theorem dX0_empty_13 : decode cX0_empty 13 = .ok (.return_, 1) := by decide +kernel
theorem dX0_lapseBefore_0 : decode cX0_lapseBefore 0 = .ok (.iload_n 1, 1) := by decide +kernel
theorem dX0_lapseBefore_1 : decode cX0_lapseBefore 1 = .ok (.aload_n 0, 1) := by decide +kernel
theorem dX0_lapseBefore_2 : decode cX0_lapseBefore 2 = .ok (.getfield 15, 3) := by decide +kernel
theorem dX0_lapseBefore_5 : decode cX0_lapseBefore 5 = .ok (.isub, 1) := by decide +kernel
theorem dX0_lapseBefore_6 : decode cX0_lapseBefore 6 = .ok (.iconst 1, 1) := by decide +kernel
theorem dX0_lapseBefore_7 : decode cX0_lapseBefore 7 = .ok (.isub, 1) := by decide +kernel
theorem dX0_lapseBefore_8 : decode cX0_lapseBefore 8 = .ok (.istore_n 2, 1) := by decide +kernel
theorem dX0_lapseBefore_9 : decode cX0_lapseBefore 9 = .ok (.iload_n 2, 1) := by decide +kernel
theorem dX0_lapseBefore_10 : decode cX0_lapseBefore 10 = .ok (.ifCond .lt 31, 3) := by decide +kernel
theorem dX0_lapseBefore_13 : decode cX0_lapseBefore 13 = .ok (.iload_n 2, 1) := by decide +kernel
theorem dX0_lapseBefore_14 : decode cX0_lapseBefore 14 = .ok (.bipush 20, 2) := by decide +kernel
theorem dX0_lapseBefore_16 : decode cX0_lapseBefore 16 = .ok (.if_icmp .ge 25, 3) := by decide +kernel
theorem dX0_lapseBefore_19 : decode cX0_lapseBefore 19 = .ok (.aload_n 0, 1) := by decide +kernel
theorem dX0_lapseBefore_20 : decode cX0_lapseBefore 20 = .ok (.dup, 1) := by decide +kernel
theorem dX0_lapseBefore_21 : decode cX0_lapseBefore 21 = .ok (.getfield 25, 3) := by decide +kernel
theorem dX0_lapseBefore_24 : decode cX0_lapseBefore 24 = .ok (.aload_n 0, 1) := by decide +kernel
theorem dX0_lapseBefore_25 : decode cX0_lapseBefore 25 = .ok (.getfield 9, 3) := by decide +kernel
theorem dX0_lapseBefore_28 : decode cX0_lapseBefore 28 = .ok (.iload_n 2, 1) := by decide +kernel
theorem dX0_lapseBefore_29 : decode cX0_lapseBefore 29 = .ok (.iaload, 1) := by decide +kernel
theorem dX0_lapseBefore_30 : decode cX0_lapseBefore 30 = .ok (.iadd, 1) := by decide +kernel
theorem dX0_lapseBefore_31 : decode cX0_lapseBefore 31 = .ok (.putfield 25, 3) := by decide +kernel
theorem dX0_lapseBefore_34 : decode cX0_lapseBefore 34 = .ok (.aload_n 0, 1) := by decide +kernel
theorem dX0_lapseBefore_35 : decode cX0_lapseBefore 35 = .ok (.getfield 9, 3) := by decide +kernel
theorem dX0_lapseBefore_38 : decode cX0_lapseBefore 38 = .ok (.iload_n 2, 1) := by decide +kernel
theorem dX0_lapseBefore_39 : decode cX0_lapseBefore 39 = .ok (.iconst 0, 1) := by decide +kernel
theorem dX0_lapseBefore_40 : decode cX0_lapseBefore 40 = .ok (.iastore, 1) := by decide +kernel
theorem dX0_lapseBefore_41 : decode cX0_lapseBefore 41 = .ok (.return_, 1) := by decide +kernel
theorem dX0_put_0 : decode cX0_put 0 = .ok (.aload_n 0, 1) := by decide +kernel
theorem dX0_put_1 : decode cX0_put 1 = .ok (.getfield 9, 3) := by decide +kernel
theorem dX0_put_4 : decode cX0_put 4 = .ok (.iload_n 1, 1) := by decide +kernel
theorem dX0_put_5 : decode cX0_put 5 = .ok (.iload_n 2, 1) := by decide +kernel
theorem dX0_put_6 : decode cX0_put 6 = .ok (.iastore, 1) := by decide +kernel
theorem dX0_put_7 : decode cX0_put 7 = .ok (.return_, 1) := by decide +kernel
theorem dX0_drawFrom_0 : decode cX0_drawFrom 0 = .ok (.iload_n 2, 1) := by decide +kernel
theorem dX0_drawFrom_1 : decode cX0_drawFrom 1 = .ok (.aload_n 0, 1) := by decide +kernel
theorem dX0_drawFrom_2 : decode cX0_drawFrom 2 = .ok (.getfield 9, 3) := by decide +kernel
theorem dX0_drawFrom_5 : decode cX0_drawFrom 5 = .ok (.iload_n 1, 1) := by decide +kernel
theorem dX0_drawFrom_6 : decode cX0_drawFrom 6 = .ok (.iaload, 1) := by decide +kernel
theorem dX0_drawFrom_7 : decode cX0_drawFrom 7 = .ok (.invokestatic 28, 3) := by decide +kernel
theorem dX0_drawFrom_10 : decode cX0_drawFrom 10 = .ok (.istore_n 3, 1) := by decide +kernel
theorem dX0_drawFrom_11 : decode cX0_drawFrom 11 = .ok (.aload_n 0, 1) := by decide +kernel
theorem dX0_drawFrom_12 : decode cX0_drawFrom 12 = .ok (.getfield 9, 3) := by decide +kernel
theorem dX0_drawFrom_15 : decode cX0_drawFrom 15 = .ok (.iload_n 1, 1) := by decide +kernel
theorem dX0_drawFrom_16 : decode cX0_drawFrom 16 = .ok (.dup2, 1) := by decide +kernel
theorem dX0_drawFrom_17 : decode cX0_drawFrom 17 = .ok (.iaload, 1) := by decide +kernel
theorem dX0_drawFrom_18 : decode cX0_drawFrom 18 = .ok (.iload_n 3, 1) := by decide +kernel
theorem dX0_drawFrom_19 : decode cX0_drawFrom 19 = .ok (.isub, 1) := by decide +kernel
theorem dX0_drawFrom_20 : decode cX0_drawFrom 20 = .ok (.iastore, 1) := by decide +kernel
theorem dX0_drawFrom_21 : decode cX0_drawFrom 21 = .ok (.iload_n 3, 1) := by decide +kernel
theorem dX0_drawFrom_22 : decode cX0_drawFrom 22 = .ok (.ireturn, 1) := by decide +kernel
theorem dX0_leftFrom_0 : decode cX0_leftFrom 0 = .ok (.aload_n 0, 1) := by decide +kernel
theorem dX0_leftFrom_1 : decode cX0_leftFrom 1 = .ok (.getfield 9, 3) := by decide +kernel
theorem dX0_leftFrom_4 : decode cX0_leftFrom 4 = .ok (.iload_n 1, 1) := by decide +kernel
theorem dX0_leftFrom_5 : decode cX0_leftFrom 5 = .ok (.iaload, 1) := by decide +kernel
theorem dX0_leftFrom_6 : decode cX0_leftFrom 6 = .ok (.ireturn, 1) := by decide +kernel
theorem dX0_lapsedInAll_0 : decode cX0_lapsedInAll 0 = .ok (.aload_n 0, 1) := by decide +kernel
theorem dX0_lapsedInAll_1 : decode cX0_lapsedInAll 1 = .ok (.getfield 25, 3) := by decide +kernel
theorem dX0_lapsedInAll_4 : decode cX0_lapsedInAll 4 = .ok (.ireturn, 1) := by decide +kernel
set_option maxRecDepth 20000 in
theorem ggX1_init_J7_fill_53178 : GoodIn wsX1_init wsJ7_fill_53178 := goodIn_r _ [28] (by decide +kernel) (by decide +kernel)
set_option maxRecDepth 20000 in
theorem gX1_init_J7_fill_53178 : GoodIn wsX1_init (va_wsS RX1 24 yJ7_fill_53178 wsJ7_fill_53178) := goodIn_app (goodIn_of _ (by decide +kernel)) ggX1_init_J7_fill_53178
set_option maxRecDepth 20000 in
theorem ggX1_init_X0_init : GoodIn wsX1_init wsX0_init := goodIn_r _ [31, 32, 2, 3, 8, 33, 34, 52, 53, 54] (by decide +kernel) (by decide +kernel)
set_option maxRecDepth 20000 in
theorem gX1_init_X0_init : GoodIn wsX1_init (wsX0_init) := ggX1_init_X0_init
theorem dX1_init_0 : decode cX1_init 0 = .ok (.aload_n 0, 1) := by decide +kernel
theorem dX1_init_1 : decode cX1_init 1 = .ok (.invokespecial 1, 3) := by decide +kernel
theorem dX1_init_4 : decode cX1_init 4 = .ok (.aload_n 0, 1) := by decide +kernel
theorem dX1_init_5 : decode cX1_init 5 = .ok (.ldc 9, 2) := by decide +kernel
theorem dX1_init_7 : decode cX1_init 7 = .ok (.putfield 10, 3) := by decide +kernel
theorem dX1_init_10 : decode cX1_init 10 = .ok (.aload_n 0, 1) := by decide +kernel
theorem dX1_init_11 : decode cX1_init 11 = .ok (.bipush 80, 2) := by decide +kernel
theorem dX1_init_13 : decode cX1_init 13 = .ok (.putfield 14, 3) := by decide +kernel
theorem dX1_init_16 : decode cX1_init 16 = .ok (.aload_n 0, 1) := by decide +kernel
theorem dX1_init_17 : decode cX1_init 17 = .ok (.bipush 100, 2) := by decide +kernel
theorem dX1_init_19 : decode cX1_init 19 = .ok (.putfield 17, 3) := by decide +kernel
theorem dX1_init_22 : decode cX1_init 22 = .ok (.aload_n 0, 1) := by decide +kernel
theorem dX1_init_23 : decode cX1_init 23 = .ok (.bipush 20, 2) := by decide +kernel
theorem dX1_init_25 : decode cX1_init 25 = .ok (.newarray .int, 2) := by decide +kernel
theorem dX1_init_27 : decode cX1_init 27 = .ok (.putfield 20, 3) := by decide +kernel
theorem dX1_init_30 : decode cX1_init 30 = .ok (.aload_n 0, 1) := by decide +kernel
theorem dX1_init_31 : decode cX1_init 31 = .ok (.getfield 20, 3) := by decide +kernel
theorem dX1_init_34 : decode cX1_init 34 = .ok (.bipush 100, 2) := by decide +kernel
theorem dX1_init_36 : decode cX1_init 36 = .ok (.invokestatic 24, 3) := by decide +kernel
theorem dX1_init_39 : decode cX1_init 39 = .ok (.aload_n 0, 1) := by decide +kernel
theorem dX1_init_40 : decode cX1_init 40 = .ok (.bipush 20, 2) := by decide +kernel
theorem dX1_init_42 : decode cX1_init 42 = .ok (.newarray .int, 2) := by decide +kernel
theorem dX1_init_44 : decode cX1_init 44 = .ok (.putfield 30, 3) := by decide +kernel
theorem dX1_init_47 : decode cX1_init 47 = .ok (.aload_n 0, 1) := by decide +kernel
theorem dX1_init_48 : decode cX1_init 48 = .ok (.sipush 360, 3) := by decide +kernel
theorem dX1_init_51 : decode cX1_init 51 = .ok (.newarray .int, 2) := by decide +kernel
theorem dX1_init_53 : decode cX1_init 53 = .ok (.putfield 33, 3) := by decide +kernel
theorem dX1_init_56 : decode cX1_init 56 = .ok (.aload_n 0, 1) := by decide +kernel
theorem dX1_init_57 : decode cX1_init 57 = .ok (.bipush 20, 2) := by decide +kernel
theorem dX1_init_59 : decode cX1_init 59 = .ok (.newarray .int, 2) := by decide +kernel
theorem dX1_init_61 : decode cX1_init 61 = .ok (.putfield 36, 3) := by decide +kernel
theorem dX1_init_64 : decode cX1_init 64 = .ok (.aload_n 0, 1) := by decide +kernel
theorem dX1_init_65 : decode cX1_init 65 = .ok (.new 39, 3) := by decide +kernel
theorem dX1_init_68 : decode cX1_init 68 = .ok (.dup, 1) := by decide +kernel
theorem dX1_init_69 : decode cX1_init 69 = .ok (.iconst 3, 1) := by decide +kernel
theorem dX1_init_70 : decode cX1_init 70 = .ok (.invokespecial 41, 3) := by decide +kernel
theorem dX1_init_73 : decode cX1_init 73 = .ok (.putfield 44, 3) := by decide +kernel
theorem dX1_init_76 : decode cX1_init 76 = .ok (.aload_n 0, 1) := by decide +kernel
theorem dX1_init_77 : decode cX1_init 77 = .ok (.new 39, 3) := by decide +kernel
theorem dX1_init_80 : decode cX1_init 80 = .ok (.dup, 1) := by decide +kernel
theorem dX1_init_81 : decode cX1_init 81 = .ok (.iconst 2, 1) := by decide +kernel
theorem dX1_init_82 : decode cX1_init 82 = .ok (.invokespecial 41, 3) := by decide +kernel
theorem dX1_init_85 : decode cX1_init 85 = .ok (.putfield 48, 3) := by decide +kernel
theorem dX1_init_88 : decode cX1_init 88 = .ok (.aload_n 0, 1) := by decide +kernel
theorem dX1_init_89 : decode cX1_init 89 = .ok (.bipush 20, 2) := by decide +kernel
theorem dX1_init_91 : decode cX1_init 91 = .ok (.newarray .int, 2) := by decide +kernel
theorem dX1_init_93 : decode cX1_init 93 = .ok (.putfield 51, 3) := by decide +kernel
theorem dX1_init_96 : decode cX1_init 96 = .ok (.aload_n 0, 1) := by decide +kernel
theorem dX1_init_97 : decode cX1_init 97 = .ok (.bipush 20, 2) := by decide +kernel
theorem dX1_init_99 : decode cX1_init 99 = .ok (.newarray .int, 2) := by decide +kernel
theorem dX1_init_101 : decode cX1_init 101 = .ok (.putfield 54, 3) := by decide +kernel
theorem dX1_init_104 : decode cX1_init 104 = .ok (.aload_n 0, 1) := by decide +kernel
theorem dX1_init_105 : decode cX1_init 105 = .ok (.bipush 20, 2) := by decide +kernel
theorem dX1_init_107 : decode cX1_init 107 = .ok (.newarray .int, 2) := by decide +kernel
theorem dX1_init_109 : decode cX1_init 109 = .ok (.putfield 57, 3) := by decide +kernel
theorem dX1_init_112 : decode cX1_init 112 = .ok (.aload_n 0, 1) := by decide +kernel
theorem dX1_init_113 : decode cX1_init 113 = .ok (.bipush 20, 2) := by decide +kernel
theorem dX1_init_115 : decode cX1_init 115 = .ok (.newarray .int, 2) := by decide +kernel
theorem dX1_init_117 : decode cX1_init 117 = .ok (.putfield 60, 3) := by decide +kernel
theorem dX1_init_120 : decode cX1_init 120 = .ok (.aload_n 0, 1) := by decide +kernel
theorem dX1_init_121 : decode cX1_init 121 = .ok (.bipush 20, 2) := by decide +kernel
theorem dX1_init_123 : decode cX1_init 123 = .ok (.newarray .long, 2) := by decide +kernel
theorem dX1_init_125 : decode cX1_init 125 = .ok (.putfield 63, 3) := by decide +kernel
theorem dX1_init_128 : decode cX1_init 128 = .ok (.aload_n 0, 1) := by decide +kernel
theorem dX1_init_129 : decode cX1_init 129 = .ok (.bipush 20, 2) := by decide +kernel
theorem dX1_init_131 : decode cX1_init 131 = .ok (.newarray .long, 2) := by decide +kernel
theorem dX1_init_133 : decode cX1_init 133 = .ok (.putfield 67, 3) := by decide +kernel
theorem dX1_init_136 : decode cX1_init 136 = .ok (.return_, 1) := by decide +kernel
set_option maxRecDepth 20000 in
theorem ggX1_set_X1_requireRange : GoodIn wsX1_set wsX1_requireRange := goodIn_ca (goodIn_r _ [10, 11, 12] (by decide +kernel) (by decide +kernel)) (goodIn_sub (fun _ h => List.mem_cons_of_mem _ (List.mem_append_left _ (List.mem_append_right _ h))) (by decide +kernel))
set_option maxRecDepth 20000 in
theorem gX1_set_X1_requireRange : GoodIn wsX1_set (va_wsS RX1 71 yX1_requireRange wsX1_requireRange) := goodIn_app (goodIn_of _ (by decide +kernel)) ggX1_set_X1_requireRange
set_option maxRecDepth 20000 in
theorem ggX1_set_X1_requireUnused : GoodIn wsX1_set wsX1_requireUnused := goodIn_ca (goodIn_r _ [16, 17, 18, 19, 20, 27, 28, 29, 30, 31, 32, 33, 34, 35, 36, 37, 38, 39, 40, 41, 42, 43] (by decide +kernel) (by decide +kernel)) (goodIn_sub (fun _ h => List.mem_cons_of_mem _ (List.mem_append_right _ h)) (by decide +kernel))
set_option maxRecDepth 20000 in
theorem gX1_set_X1_requireUnused : GoodIn wsX1_set (wsV RX1 75 RX1 yX1_requireUnused wsX1_requireUnused) := goodIn_app (goodIn_of _ (by decide +kernel)) ggX1_set_X1_requireUnused
set_option maxRecDepth 20000 in
theorem ggX1_set_X0_keepFor : GoodIn wsX1_set wsX0_keepFor := goodIn_r _ [25, 26, 44, 45, 46] (by decide +kernel) (by decide +kernel)
set_option maxRecDepth 20000 in
theorem gX1_set_X0_keepFor : GoodIn wsX1_set (wsV RX1 78 RX0 yX0_keepFor wsX0_keepFor) := goodIn_app (goodIn_of _ (by decide +kernel)) ggX1_set_X0_keepFor
theorem dX1_set_0 : decode cX1_set 0 = .ok (.iload_n 1, 1) := by decide +kernel
theorem dX1_set_1 : decode cX1_set 1 = .ok (.iconst 1, 1) := by decide +kernel
theorem dX1_set_2 : decode cX1_set 2 = .ok (.ldc 70, 2) := by decide +kernel
theorem dX1_set_4 : decode cX1_set 4 = .ok (.invokestatic 71, 3) := by decide +kernel
theorem dX1_set_7 : decode cX1_set 7 = .ok (.iload_n 2, 1) := by decide +kernel
theorem dX1_set_8 : decode cX1_set 8 = .ok (.iconst 0, 1) := by decide +kernel
theorem dX1_set_9 : decode cX1_set 9 = .ok (.bipush 100, 2) := by decide +kernel
theorem dX1_set_11 : decode cX1_set 11 = .ok (.invokestatic 71, 3) := by decide +kernel
theorem dX1_set_14 : decode cX1_set 14 = .ok (.iload_n 3, 1) := by decide +kernel
theorem dX1_set_15 : decode cX1_set 15 = .ok (.iconst 0, 1) := by decide +kernel
theorem dX1_set_16 : decode cX1_set 16 = .ok (.bipush 100, 2) := by decide +kernel
theorem dX1_set_18 : decode cX1_set 18 = .ok (.invokestatic 71, 3) := by decide +kernel
theorem dX1_set_21 : decode cX1_set 21 = .ok (.iload 4, 2) := by decide +kernel
theorem dX1_set_23 : decode cX1_set 23 = .ok (.iconst 1, 1) := by decide +kernel
theorem dX1_set_24 : decode cX1_set 24 = .ok (.iconst 5, 1) := by decide +kernel
theorem dX1_set_25 : decode cX1_set 25 = .ok (.invokestatic 71, 3) := by decide +kernel
theorem dX1_set_28 : decode cX1_set 28 = .ok (.iload 5, 2) := by decide +kernel
theorem dX1_set_30 : decode cX1_set 30 = .ok (.iconst 1, 1) := by decide +kernel
theorem dX1_set_31 : decode cX1_set 31 = .ok (.iconst 5, 1) := by decide +kernel
theorem dX1_set_32 : decode cX1_set 32 = .ok (.invokestatic 71, 3) := by decide +kernel
theorem dX1_set_35 : decode cX1_set 35 = .ok (.aload_n 0, 1) := by decide +kernel
theorem dX1_set_36 : decode cX1_set 36 = .ok (.invokevirtual 75, 3) := by decide +kernel
theorem dX1_set_39 : decode cX1_set 39 = .ok (.aload_n 0, 1) := by decide +kernel
theorem dX1_set_40 : decode cX1_set 40 = .ok (.iload_n 1, 1) := by decide +kernel
theorem dX1_set_41 : decode cX1_set 41 = .ok (.putfield 10, 3) := by decide +kernel
theorem dX1_set_44 : decode cX1_set 44 = .ok (.aload_n 0, 1) := by decide +kernel
theorem dX1_set_45 : decode cX1_set 45 = .ok (.iload_n 2, 1) := by decide +kernel
theorem dX1_set_46 : decode cX1_set 46 = .ok (.putfield 14, 3) := by decide +kernel
theorem dX1_set_49 : decode cX1_set 49 = .ok (.aload_n 0, 1) := by decide +kernel
theorem dX1_set_50 : decode cX1_set 50 = .ok (.iload_n 3, 1) := by decide +kernel
theorem dX1_set_51 : decode cX1_set 51 = .ok (.putfield 17, 3) := by decide +kernel
theorem dX1_set_54 : decode cX1_set 54 = .ok (.aload_n 0, 1) := by decide +kernel
theorem dX1_set_55 : decode cX1_set 55 = .ok (.getfield 44, 3) := by decide +kernel
theorem dX1_set_58 : decode cX1_set 58 = .ok (.iload 4, 2) := by decide +kernel
theorem dX1_set_60 : decode cX1_set 60 = .ok (.invokevirtual 78, 3) := by decide +kernel
theorem dX1_set_63 : decode cX1_set 63 = .ok (.aload_n 0, 1) := by decide +kernel
theorem dX1_set_64 : decode cX1_set 64 = .ok (.getfield 48, 3) := by decide +kernel
theorem dX1_set_67 : decode cX1_set 67 = .ok (.iload 5, 2) := by decide +kernel
theorem dX1_set_69 : decode cX1_set 69 = .ok (.invokevirtual 78, 3) := by decide +kernel
theorem dX1_set_72 : decode cX1_set 72 = .ok (.return_, 1) := by decide +kernel
set_option maxRecDepth 20000 in
theorem ggX1_review_X1_requireYear : GoodIn wsX1_review wsX1_requireYear := goodIn_ca (goodIn_r _ [5, 6, 7, 4, 8, 9, 10] (by decide +kernel) (by decide +kernel)) (goodIn_sub (fun _ h => List.mem_cons_of_mem _ (List.mem_append_right _ h)) (by decide +kernel))
set_option maxRecDepth 20000 in
theorem gX1_review_X1_requireYear : GoodIn wsX1_review (va_wsS RX1 81 yX1_requireYear wsX1_requireYear) := goodIn_app (goodIn_of _ (by decide +kernel)) ggX1_review_X1_requireYear
set_option maxRecDepth 20000 in
theorem ggX1_review_X1_requireRange : GoodIn wsX1_review wsX1_requireRange := goodIn_ca (goodIn_r _ [8, 9, 10] (by decide +kernel) (by decide +kernel)) (goodIn_sub (fun _ h => List.mem_cons_of_mem _ (List.mem_append_right _ h)) (by decide +kernel))
set_option maxRecDepth 20000 in
theorem gX1_review_X1_requireRange : GoodIn wsX1_review (va_wsS RX1 71 yX1_requireRange wsX1_requireRange) := goodIn_app (goodIn_of _ (by decide +kernel)) ggX1_review_X1_requireRange
set_option maxRecDepth 20000 in
theorem ggX1_review_X1_settleClosedYears : GoodIn wsX1_review wsX1_settleClosedYears := goodIn_r _ [14, 15, 16, 17, 18, 19, 20, 21, 22, 23, 24, 25, 26, 27, 28, 29, 30, 31, 32, 33, 34, 35, 36, 37, 4, 38, 39, 40, 41, 42, 43, 44, 45, 46, 47, 48, 49, 50, 51, 1, 52, 53, 54, 55, 56, 57, 58, 59, 60, 61, 62, 63, 64, 65, 66, 67, 68, 69, 70, 71, 72, 73, 74, 75, 76, 77, 78, 79, 80, 81, 82, 83, 84, 85, 86, 87, 88, 89, 90, 91, 92, 93, 94, 95, 96, 97, 98, 99] (by decide +kernel) (by decide +kernel)
set_option maxRecDepth 20000 in
theorem gX1_review_X1_settleClosedYears : GoodIn wsX1_review (wsV RX1 84 RX1 yX1_settleClosedYears wsX1_settleClosedYears) := goodIn_app (goodIn_of _ (by decide +kernel)) ggX1_review_X1_settleClosedYears
theorem dX1_review_0 : decode cX1_review 0 = .ok (.iload_n 1, 1) := by decide +kernel
theorem dX1_review_1 : decode cX1_review 1 = .ok (.invokestatic 81, 3) := by decide +kernel
theorem dX1_review_4 : decode cX1_review 4 = .ok (.iload_n 2, 1) := by decide +kernel
theorem dX1_review_5 : decode cX1_review 5 = .ok (.iconst 1, 1) := by decide +kernel
theorem dX1_review_6 : decode cX1_review 6 = .ok (.sipush 1000, 3) := by decide +kernel
theorem dX1_review_9 : decode cX1_review 9 = .ok (.invokestatic 71, 3) := by decide +kernel
theorem dX1_review_12 : decode cX1_review 12 = .ok (.aload_n 0, 1) := by decide +kernel
theorem dX1_review_13 : decode cX1_review 13 = .ok (.getfield 20, 3) := by decide +kernel
theorem dX1_review_16 : decode cX1_review 16 = .ok (.iload_n 1, 1) := by decide +kernel
theorem dX1_review_17 : decode cX1_review 17 = .ok (.iaload, 1) := by decide +kernel
theorem dX1_review_18 : decode cX1_review 18 = .ok (.istore_n 3, 1) := by decide +kernel
theorem dX1_review_19 : decode cX1_review 19 = .ok (.iload_n 1, 1) := by decide +kernel
theorem dX1_review_20 : decode cX1_review 20 = .ok (.istore 4, 2) := by decide +kernel
theorem dX1_review_22 : decode cX1_review 22 = .ok (.iload 4, 2) := by decide +kernel
theorem dX1_review_24 : decode cX1_review 24 = .ok (.bipush 20, 2) := by decide +kernel
theorem dX1_review_26 : decode cX1_review 26 = .ok (.if_icmp .ge 17, 3) := by decide +kernel
theorem dX1_review_29 : decode cX1_review 29 = .ok (.aload_n 0, 1) := by decide +kernel
theorem dX1_review_30 : decode cX1_review 30 = .ok (.getfield 20, 3) := by decide +kernel
theorem dX1_review_33 : decode cX1_review 33 = .ok (.iload 4, 2) := by decide +kernel
theorem dX1_review_35 : decode cX1_review 35 = .ok (.iload_n 2, 1) := by decide +kernel
theorem dX1_review_36 : decode cX1_review 36 = .ok (.iastore, 1) := by decide +kernel
theorem dX1_review_37 : decode cX1_review 37 = .ok (.iinc 4 1, 3) := by decide +kernel
theorem dX1_review_40 : decode cX1_review 40 = .ok (.goto (-18), 3) := by decide +kernel
theorem dX1_review_43 : decode cX1_review 43 = .ok (.aload_n 0, 1) := by decide +kernel
theorem dX1_review_44 : decode cX1_review 44 = .ok (.invokevirtual 84, 3) := by decide +kernel
theorem dX1_review_47 : decode cX1_review 47 = .ok (.iload_n 3, 1) := by decide +kernel
theorem dX1_review_48 : decode cX1_review 48 = .ok (.ireturn, 1) := by decide +kernel
set_option maxRecDepth 20000 in
theorem ggX1_excuse_X1_requireYear : GoodIn wsX1_excuse wsX1_requireYear := goodIn_ca (goodIn_r _ [5, 6, 7, 4, 8, 9, 10] (by decide +kernel) (by decide +kernel)) (goodIn_sub (fun _ h => List.mem_cons_of_mem _ (List.mem_append_right _ h)) (by decide +kernel))
set_option maxRecDepth 20000 in
theorem gX1_excuse_X1_requireYear : GoodIn wsX1_excuse (va_wsS RX1 81 yX1_requireYear wsX1_requireYear) := goodIn_app (goodIn_of _ (by decide +kernel)) ggX1_excuse_X1_requireYear
set_option maxRecDepth 20000 in
theorem ggX1_excuse_X1_requireRange : GoodIn wsX1_excuse wsX1_requireRange := goodIn_ca (goodIn_r _ [8, 9, 10] (by decide +kernel) (by decide +kernel)) (goodIn_sub (fun _ h => List.mem_cons_of_mem _ (List.mem_append_right _ h)) (by decide +kernel))
set_option maxRecDepth 20000 in
theorem gX1_excuse_X1_requireRange : GoodIn wsX1_excuse (va_wsS RX1 71 yX1_requireRange wsX1_requireRange) := goodIn_app (goodIn_of _ (by decide +kernel)) ggX1_excuse_X1_requireRange
set_option maxRecDepth 20000 in
theorem ggX1_excuse_X1_settleClosedYears : GoodIn wsX1_excuse wsX1_settleClosedYears := goodIn_r _ [14, 15, 16, 17, 18, 19, 20, 21, 22, 23, 24, 25, 26, 27, 28, 29, 30, 31, 32, 33, 34, 35, 36, 37, 4, 38, 39, 40, 1, 41, 42, 43, 44, 45, 46, 47, 48, 49, 50, 51, 52, 53, 54, 55, 56, 57, 58, 59, 60, 61, 62, 63, 64, 65, 66, 67, 68, 69, 70, 71, 72, 73, 74, 75, 76, 77, 78, 79, 80, 81, 82, 83, 84, 85, 86, 87, 88, 89, 90, 91, 92, 93, 94, 95, 96, 97, 98, 99] (by decide +kernel) (by decide +kernel)
set_option maxRecDepth 20000 in
theorem gX1_excuse_X1_settleClosedYears : GoodIn wsX1_excuse (wsV RX1 84 RX1 yX1_settleClosedYears wsX1_settleClosedYears) := goodIn_app (goodIn_of _ (by decide +kernel)) ggX1_excuse_X1_settleClosedYears
theorem dX1_excuse_0 : decode cX1_excuse 0 = .ok (.iload_n 1, 1) := by decide +kernel
theorem dX1_excuse_1 : decode cX1_excuse 1 = .ok (.invokestatic 81, 3) := by decide +kernel
theorem dX1_excuse_4 : decode cX1_excuse 4 = .ok (.iload_n 2, 1) := by decide +kernel
theorem dX1_excuse_5 : decode cX1_excuse 5 = .ok (.iconst 0, 1) := by decide +kernel
theorem dX1_excuse_6 : decode cX1_excuse 6 = .ok (.sipush 360, 3) := by decide +kernel
theorem dX1_excuse_9 : decode cX1_excuse 9 = .ok (.invokestatic 71, 3) := by decide +kernel
theorem dX1_excuse_12 : decode cX1_excuse 12 = .ok (.aload_n 0, 1) := by decide +kernel
theorem dX1_excuse_13 : decode cX1_excuse 13 = .ok (.getfield 30, 3) := by decide +kernel
theorem dX1_excuse_16 : decode cX1_excuse 16 = .ok (.iload_n 1, 1) := by decide +kernel
theorem dX1_excuse_17 : decode cX1_excuse 17 = .ok (.iaload, 1) := by decide +kernel
theorem dX1_excuse_18 : decode cX1_excuse 18 = .ok (.istore_n 3, 1) := by decide +kernel
theorem dX1_excuse_19 : decode cX1_excuse 19 = .ok (.aload_n 0, 1) := by decide +kernel
theorem dX1_excuse_20 : decode cX1_excuse 20 = .ok (.getfield 30, 3) := by decide +kernel
theorem dX1_excuse_23 : decode cX1_excuse 23 = .ok (.iload_n 1, 1) := by decide +kernel
theorem dX1_excuse_24 : decode cX1_excuse 24 = .ok (.iload_n 2, 1) := by decide +kernel
theorem dX1_excuse_25 : decode cX1_excuse 25 = .ok (.iastore, 1) := by decide +kernel
theorem dX1_excuse_26 : decode cX1_excuse 26 = .ok (.aload_n 0, 1) := by decide +kernel
theorem dX1_excuse_27 : decode cX1_excuse 27 = .ok (.invokevirtual 84, 3) := by decide +kernel
theorem dX1_excuse_30 : decode cX1_excuse 30 = .ok (.iload_n 3, 1) := by decide +kernel
theorem dX1_excuse_31 : decode cX1_excuse 31 = .ok (.ireturn, 1) := by decide +kernel
set_option maxRecDepth 20000 in
theorem ggX1_take_X1_requireDay : GoodIn wsX1_take wsX1_requireDay := goodIn_ca (goodIn_r _ [5, 6, 7, 4, 8, 9, 10] (by decide +kernel) (by decide +kernel)) (goodIn_sub (fun _ h => List.mem_cons_of_mem _ (List.mem_append_left _ (List.mem_append_right _ h))) (by decide +kernel))
set_option maxRecDepth 20000 in
theorem gX1_take_X1_requireDay : GoodIn wsX1_take (va_wsS RX1 87 yX1_requireDay wsX1_requireDay) := goodIn_app (goodIn_of _ (by decide +kernel)) ggX1_take_X1_requireDay
set_option maxRecDepth 20000 in
theorem ggX1_take_X1_requireRange : GoodIn wsX1_take wsX1_requireRange := goodIn_ca (goodIn_r _ [8, 9, 10] (by decide +kernel) (by decide +kernel)) (goodIn_sub (fun _ h => List.mem_cons_of_mem _ (List.mem_append_left _ (List.mem_append_right _ h))) (by decide +kernel))
set_option maxRecDepth 20000 in
theorem gX1_take_X1_requireRange : GoodIn wsX1_take (va_wsS RX1 71 yX1_requireRange wsX1_requireRange) := goodIn_app (goodIn_of _ (by decide +kernel)) ggX1_take_X1_requireRange
set_option maxRecDepth 20000 in
theorem ggX1_take_X1_requireYearGoingOn : GoodIn wsX1_take wsX1_requireYearGoingOn := goodIn_ca (goodIn_r _ [14, 15, 16, 17, 27, 28, 29, 30, 31, 32, 33, 34, 35, 36, 37, 38, 39, 40, 41, 42, 43] (by decide +kernel) (by decide +kernel)) (goodIn_sub (fun _ h => List.mem_cons_of_mem _ (List.mem_append_right _ h)) (by decide +kernel))
set_option maxRecDepth 20000 in
theorem gX1_take_X1_requireYearGoingOn : GoodIn wsX1_take (wsV RX1 90 RX1 yX1_requireYearGoingOn wsX1_requireYearGoingOn) := goodIn_app (goodIn_of _ (by decide +kernel)) ggX1_take_X1_requireYearGoingOn
set_option maxRecDepth 20000 in
theorem ggX1_take_X1_requireRoom : GoodIn wsX1_take wsX1_requireRoom := goodIn_ca (goodIn_r _ [21, 15, 16, 1, 27, 28, 29, 30, 31, 32, 33, 34, 35, 36, 37, 38, 39, 40, 41, 42, 43] (by decide +kernel) (by decide +kernel)) (goodIn_sub (fun _ h => List.mem_cons_of_mem _ (List.mem_append_right _ h)) (by decide +kernel))
set_option maxRecDepth 20000 in
theorem gX1_take_X1_requireRoom : GoodIn wsX1_take (wsV RX1 93 RX1 yX1_requireRoom wsX1_requireRoom) := goodIn_app (goodIn_of _ (by decide +kernel)) ggX1_take_X1_requireRoom
set_option maxRecDepth 20000 in
theorem ggX1_take_X1_addTakes : GoodIn wsX1_take wsX1_addTakes := goodIn_r _ [25, 1, 26, 17, 27, 28, 29, 30, 31, 32, 33, 34, 35, 36, 37, 38, 39, 40, 41, 42, 43] (by decide +kernel) (by decide +kernel)
set_option maxRecDepth 20000 in
theorem gX1_take_X1_addTakes : GoodIn wsX1_take (wsV RX1 96 RX1 yX1_addTakes wsX1_addTakes) := goodIn_app (goodIn_of _ (by decide +kernel)) ggX1_take_X1_addTakes
theorem dX1_take_0 : decode cX1_take 0 = .ok (.iload_n 1, 1) := by decide +kernel
theorem dX1_take_1 : decode cX1_take 1 = .ok (.invokestatic 87, 3) := by decide +kernel
theorem dX1_take_4 : decode cX1_take 4 = .ok (.iload_n 2, 1) := by decide +kernel
theorem dX1_take_5 : decode cX1_take 5 = .ok (.iconst 1, 1) := by decide +kernel
theorem dX1_take_6 : decode cX1_take 6 = .ok (.sipush 500, 3) := by decide +kernel
theorem dX1_take_9 : decode cX1_take 9 = .ok (.invokestatic 71, 3) := by decide +kernel
theorem dX1_take_12 : decode cX1_take 12 = .ok (.aload_n 0, 1) := by decide +kernel
theorem dX1_take_13 : decode cX1_take 13 = .ok (.invokevirtual 90, 3) := by decide +kernel
theorem dX1_take_16 : decode cX1_take 16 = .ok (.aload_n 0, 1) := by decide +kernel
theorem dX1_take_17 : decode cX1_take 17 = .ok (.iload_n 1, 1) := by decide +kernel
theorem dX1_take_18 : decode cX1_take 18 = .ok (.iload_n 1, 1) := by decide +kernel
theorem dX1_take_19 : decode cX1_take 19 = .ok (.iload_n 2, 1) := by decide +kernel
theorem dX1_take_20 : decode cX1_take 20 = .ok (.invokevirtual 93, 3) := by decide +kernel
theorem dX1_take_23 : decode cX1_take 23 = .ok (.aload_n 0, 1) := by decide +kernel
theorem dX1_take_24 : decode cX1_take 24 = .ok (.iload_n 1, 1) := by decide +kernel
theorem dX1_take_25 : decode cX1_take 25 = .ok (.iload_n 1, 1) := by decide +kernel
theorem dX1_take_26 : decode cX1_take 26 = .ok (.iload_n 2, 1) := by decide +kernel
theorem dX1_take_27 : decode cX1_take 27 = .ok (.invokevirtual 96, 3) := by decide +kernel
theorem dX1_take_30 : decode cX1_take 30 = .ok (.aload_n 0, 1) := by decide +kernel
theorem dX1_take_31 : decode cX1_take 31 = .ok (.getfield 33, 3) := by decide +kernel
theorem dX1_take_34 : decode cX1_take 34 = .ok (.iload_n 1, 1) := by decide +kernel
theorem dX1_take_35 : decode cX1_take 35 = .ok (.iaload, 1) := by decide +kernel
theorem dX1_take_36 : decode cX1_take 36 = .ok (.ireturn, 1) := by decide +kernel
set_option maxRecDepth 20000 in
theorem ggX1_takeDaily_X1_requireDays : GoodIn wsX1_takeDaily wsX1_requireDays := goodIn_ca (goodIn_r _ [6, 7, 8, 5, 9, 10, 11, 12, 13, 14] (by decide +kernel) (by decide +kernel)) (goodIn_sub (fun _ h => List.mem_cons_of_mem _ (List.mem_append_left _ (List.mem_append_right _ h))) (by decide +kernel))
set_option maxRecDepth 20000 in
theorem gX1_takeDaily_X1_requireDays : GoodIn wsX1_takeDaily (va_wsS RX1 99 yX1_requireDays wsX1_requireDays) := goodIn_app (goodIn_of _ (by decide +kernel)) ggX1_takeDaily_X1_requireDays
set_option maxRecDepth 20000 in
theorem ggX1_takeDaily_X1_requireRange : GoodIn wsX1_takeDaily wsX1_requireRange := goodIn_ca (goodIn_r _ [12, 13, 14] (by decide +kernel) (by decide +kernel)) (goodIn_sub (fun _ h => List.mem_cons_of_mem _ (List.mem_append_left _ (List.mem_append_right _ h))) (by decide +kernel))
set_option maxRecDepth 20000 in
theorem gX1_takeDaily_X1_requireRange : GoodIn wsX1_takeDaily (va_wsS RX1 71 yX1_requireRange wsX1_requireRange) := goodIn_app (goodIn_of _ (by decide +kernel)) ggX1_takeDaily_X1_requireRange
set_option maxRecDepth 20000 in
theorem ggX1_takeDaily_X1_requireYearGoingOn : GoodIn wsX1_takeDaily wsX1_requireYearGoingOn := goodIn_ca (goodIn_r _ [18, 19, 20, 2, 30, 31, 32, 33, 34, 35, 36, 37, 38, 39, 40, 41, 42, 43, 44, 45, 46] (by decide +kernel) (by decide +kernel)) (goodIn_sub (fun _ h => List.mem_cons_of_mem _ (List.mem_append_right _ h)) (by decide +kernel))
set_option maxRecDepth 20000 in
theorem gX1_takeDaily_X1_requireYearGoingOn : GoodIn wsX1_takeDaily (wsV RX1 90 RX1 yX1_requireYearGoingOn wsX1_requireYearGoingOn) := goodIn_app (goodIn_of _ (by decide +kernel)) ggX1_takeDaily_X1_requireYearGoingOn
set_option maxRecDepth 20000 in
theorem ggX1_takeDaily_X1_requireRoom : GoodIn wsX1_takeDaily wsX1_requireRoom := goodIn_ca (goodIn_r _ [24, 19, 20, 25, 30, 31, 32, 33, 34, 35, 36, 37, 38, 39, 40, 41, 42, 43, 44, 45, 46] (by decide +kernel) (by decide +kernel)) (goodIn_sub (fun _ h => List.mem_cons_of_mem _ (List.mem_append_right _ h)) (by decide +kernel))
set_option maxRecDepth 20000 in
theorem gX1_takeDaily_X1_requireRoom : GoodIn wsX1_takeDaily (wsV RX1 93 RX1 yX1_requireRoom wsX1_requireRoom) := goodIn_app (goodIn_of _ (by decide +kernel)) ggX1_takeDaily_X1_requireRoom
set_option maxRecDepth 20000 in
theorem ggX1_takeDaily_X1_addTakes : GoodIn wsX1_takeDaily wsX1_addTakes := goodIn_r _ [29, 25, 1, 2, 30, 31, 32, 33, 34, 35, 36, 37, 38, 39, 40, 41, 42, 43, 44, 45, 46] (by decide +kernel) (by decide +kernel)
set_option maxRecDepth 20000 in
theorem gX1_takeDaily_X1_addTakes : GoodIn wsX1_takeDaily (wsV RX1 96 RX1 yX1_addTakes wsX1_addTakes) := goodIn_app (goodIn_of _ (by decide +kernel)) ggX1_takeDaily_X1_addTakes
theorem dX1_takeDaily_0 : decode cX1_takeDaily 0 = .ok (.iload_n 1, 1) := by decide +kernel
theorem dX1_takeDaily_1 : decode cX1_takeDaily 1 = .ok (.iload_n 2, 1) := by decide +kernel
theorem dX1_takeDaily_2 : decode cX1_takeDaily 2 = .ok (.invokestatic 99, 3) := by decide +kernel
theorem dX1_takeDaily_5 : decode cX1_takeDaily 5 = .ok (.iload_n 3, 1) := by decide +kernel
theorem dX1_takeDaily_6 : decode cX1_takeDaily 6 = .ok (.iconst 1, 1) := by decide +kernel
theorem dX1_takeDaily_7 : decode cX1_takeDaily 7 = .ok (.sipush 500, 3) := by decide +kernel
theorem dX1_takeDaily_10 : decode cX1_takeDaily 10 = .ok (.invokestatic 71, 3) := by decide +kernel
theorem dX1_takeDaily_13 : decode cX1_takeDaily 13 = .ok (.aload_n 0, 1) := by decide +kernel
theorem dX1_takeDaily_14 : decode cX1_takeDaily 14 = .ok (.invokevirtual 90, 3) := by decide +kernel
theorem dX1_takeDaily_17 : decode cX1_takeDaily 17 = .ok (.aload_n 0, 1) := by decide +kernel
theorem dX1_takeDaily_18 : decode cX1_takeDaily 18 = .ok (.iload_n 1, 1) := by decide +kernel
theorem dX1_takeDaily_19 : decode cX1_takeDaily 19 = .ok (.iload_n 2, 1) := by decide +kernel
theorem dX1_takeDaily_20 : decode cX1_takeDaily 20 = .ok (.iload_n 3, 1) := by decide +kernel
theorem dX1_takeDaily_21 : decode cX1_takeDaily 21 = .ok (.invokevirtual 93, 3) := by decide +kernel
theorem dX1_takeDaily_24 : decode cX1_takeDaily 24 = .ok (.aload_n 0, 1) := by decide +kernel
theorem dX1_takeDaily_25 : decode cX1_takeDaily 25 = .ok (.iload_n 1, 1) := by decide +kernel
theorem dX1_takeDaily_26 : decode cX1_takeDaily 26 = .ok (.iload_n 2, 1) := by decide +kernel
theorem dX1_takeDaily_27 : decode cX1_takeDaily 27 = .ok (.iload_n 3, 1) := by decide +kernel
theorem dX1_takeDaily_28 : decode cX1_takeDaily 28 = .ok (.invokevirtual 96, 3) := by decide +kernel
theorem dX1_takeDaily_31 : decode cX1_takeDaily 31 = .ok (.aload_n 0, 1) := by decide +kernel
theorem dX1_takeDaily_32 : decode cX1_takeDaily 32 = .ok (.getfield 36, 3) := by decide +kernel
theorem dX1_takeDaily_35 : decode cX1_takeDaily 35 = .ok (.aload_n 0, 1) := by decide +kernel
theorem dX1_takeDaily_36 : decode cX1_takeDaily 36 = .ok (.getfield 103, 3) := by decide +kernel
theorem dX1_takeDaily_39 : decode cX1_takeDaily 39 = .ok (.iaload, 1) := by decide +kernel
theorem dX1_takeDaily_40 : decode cX1_takeDaily 40 = .ok (.ireturn, 1) := by decide +kernel
set_option maxRecDepth 20000 in
theorem ggX1_close_X1_requireYearGoingOn : GoodIn wsX1_close wsX1_requireYearGoingOn := goodIn_ca (goodIn_r _ [9, 10, 11, 1, 86, 87, 88, 89, 90, 91, 92, 93, 94, 95, 96, 97, 98, 99, 100, 101, 102] (by decide +kernel) (by decide +kernel)) (goodIn_sub (fun _ h => List.mem_cons_of_mem _ (List.mem_append_right _ h)) (by decide +kernel))
set_option maxRecDepth 20000 in
theorem gX1_close_X1_requireYearGoingOn : GoodIn wsX1_close (wsV RX1 90 RX1 yX1_requireYearGoingOn wsX1_requireYearGoingOn) := goodIn_app (goodIn_of _ (by decide +kernel)) ggX1_close_X1_requireYearGoingOn
set_option maxRecDepth 20000 in
theorem ggX1_close_J7_fill_53178 : GoodIn wsX1_close wsJ7_fill_53178 := goodIn_r _ [15] (by decide +kernel) (by decide +kernel)
set_option maxRecDepth 20000 in
theorem gX1_close_J7_fill_53178 : GoodIn wsX1_close (va_wsS RX1 24 yJ7_fill_53178 wsJ7_fill_53178) := goodIn_app (goodIn_of _ (by decide +kernel)) ggX1_close_J7_fill_53178
set_option maxRecDepth 20000 in
theorem ggX1_close_X1_settleClosedYears : GoodIn wsX1_close wsX1_settleClosedYears := goodIn_r _ [19, 20, 21, 1, 22, 23, 24, 25, 26, 27, 28, 29, 30, 13, 14, 15, 31, 32, 33, 34, 35, 36, 37, 38, 8, 39, 40, 41, 42, 43, 44, 45, 46, 47, 48, 49, 50, 51, 52, 53, 54, 55, 56, 57, 58, 59, 60, 61, 62, 63, 64, 65, 66, 67, 68, 69, 70, 71, 72, 73, 74, 75, 76, 77, 78, 79, 80, 81, 86, 87, 88, 89, 90, 91, 92, 93, 94, 95, 96, 97, 98, 99, 100, 101, 102, 103, 104, 105] (by decide +kernel) (by decide +kernel)
set_option maxRecDepth 20000 in
theorem gX1_close_X1_settleClosedYears : GoodIn wsX1_close (wsV RX1 84 RX1 yX1_settleClosedYears wsX1_settleClosedYears) := goodIn_app (goodIn_of _ (by decide +kernel)) ggX1_close_X1_settleClosedYears
set_option maxRecDepth 20000 in
theorem ggX1_close_X1_dueInAll : GoodIn wsX1_close wsX1_dueInAll := goodIn_r _ [85, 1, 52, 86, 87, 88, 89, 90, 91, 92, 93, 94, 95, 96, 97, 98, 99, 100, 101, 102] (by decide +kernel) (by decide +kernel)
set_option maxRecDepth 20000 in
theorem gX1_close_X1_dueInAll : GoodIn wsX1_close (wsV RX1 106 RX1 yX1_dueInAll wsX1_dueInAll) := goodIn_app (goodIn_of _ (by decide +kernel)) ggX1_close_X1_dueInAll
theorem dX1_close_0 : decode cX1_close 0 = .ok (.aload_n 0, 1) := by decide +kernel
theorem dX1_close_1 : decode cX1_close 1 = .ok (.invokevirtual 90, 3) := by decide +kernel
theorem dX1_close_4 : decode cX1_close 4 = .ok (.aload_n 0, 1) := by decide +kernel
theorem dX1_close_5 : decode cX1_close 5 = .ok (.getfield 103, 3) := by decide +kernel
theorem dX1_close_8 : decode cX1_close 8 = .ok (.istore_n 1, 1) := by decide +kernel
theorem dX1_close_9 : decode cX1_close 9 = .ok (.aload_n 0, 1) := by decide +kernel
theorem dX1_close_10 : decode cX1_close 10 = .ok (.iload_n 1, 1) := by decide +kernel
theorem dX1_close_11 : decode cX1_close 11 = .ok (.iconst 1, 1) := by decide +kernel
theorem dX1_close_12 : decode cX1_close 12 = .ok (.iadd, 1) := by decide +kernel
theorem dX1_close_13 : decode cX1_close 13 = .ok (.putfield 103, 3) := by decide +kernel
theorem dX1_close_16 : decode cX1_close 16 = .ok (.aload_n 0, 1) := by decide +kernel
theorem dX1_close_17 : decode cX1_close 17 = .ok (.getfield 33, 3) := by decide +kernel
theorem dX1_close_20 : decode cX1_close 20 = .ok (.iconst 0, 1) := by decide +kernel
theorem dX1_close_21 : decode cX1_close 21 = .ok (.invokestatic 24, 3) := by decide +kernel
theorem dX1_close_24 : decode cX1_close 24 = .ok (.aload_n 0, 1) := by decide +kernel
theorem dX1_close_25 : decode cX1_close 25 = .ok (.invokevirtual 84, 3) := by decide +kernel
theorem dX1_close_28 : decode cX1_close 28 = .ok (.aload_n 0, 1) := by decide +kernel
theorem dX1_close_29 : decode cX1_close 29 = .ok (.invokevirtual 106, 3) := by decide +kernel
theorem dX1_close_32 : decode cX1_close 32 = .ok (.aload_n 0, 1) := by decide +kernel
theorem dX1_close_33 : decode cX1_close 33 = .ok (.getfield 110, 3) := by decide +kernel
theorem dX1_close_36 : decode cX1_close 36 = .ok (.lsub, 1) := by decide +kernel
theorem dX1_close_37 : decode cX1_close 37 = .ok (.lstore_n 2, 1) := by decide +kernel
theorem dX1_close_38 : decode cX1_close 38 = .ok (.aload_n 0, 1) := by decide +kernel
theorem dX1_close_39 : decode cX1_close 39 = .ok (.getfield 67, 3) := by decide +kernel
theorem dX1_close_42 : decode cX1_close 42 = .ok (.iload_n 1, 1) := by decide +kernel
theorem dX1_close_43 : decode cX1_close 43 = .ok (.lload_n 2, 1) := by decide +kernel
theorem dX1_close_44 : decode cX1_close 44 = .ok (.lastore, 1) := by decide +kernel
theorem dX1_close_45 : decode cX1_close 45 = .ok (.aload_n 0, 1) := by decide +kernel
theorem dX1_close_46 : decode cX1_close 46 = .ok (.dup, 1) := by decide +kernel
theorem dX1_close_47 : decode cX1_close 47 = .ok (.getfield 110, 3) := by decide +kernel
theorem dX1_close_50 : decode cX1_close 50 = .ok (.lload_n 2, 1) := by decide +kernel
theorem dX1_close_51 : decode cX1_close 51 = .ok (.ladd, 1) := by decide +kernel
theorem dX1_close_52 : decode cX1_close 52 = .ok (.putfield 110, 3) := by decide +kernel
theorem dX1_close_55 : decode cX1_close 55 = .ok (.lload_n 2, 1) := by decide +kernel
theorem dX1_close_56 : decode cX1_close 56 = .ok (.lreturn, 1) := by decide +kernel
theorem dX1_closed_0 : decode cX1_closed 0 = .ok (.aload_n 0, 1) := by decide +kernel
theorem dX1_closed_1 : decode cX1_closed 1 = .ok (.getfield 103, 3) := by decide +kernel
theorem dX1_closed_4 : decode cX1_closed 4 = .ok (.ireturn, 1) := by decide +kernel
set_option maxRecDepth 20000 in
theorem ggX1_taken_X1_requireYear : GoodIn wsX1_taken wsX1_requireYear := goodIn_ca (goodIn_r _ [5, 6, 7, 4, 8, 9, 10] (by decide +kernel) (by decide +kernel)) (goodIn_sub (fun _ h => List.mem_cons_of_mem _ (List.mem_append_right _ h)) (by decide +kernel))
set_option maxRecDepth 20000 in
theorem gX1_taken_X1_requireYear : GoodIn wsX1_taken (va_wsS RX1 81 yX1_requireYear wsX1_requireYear) := goodIn_app (goodIn_of _ (by decide +kernel)) ggX1_taken_X1_requireYear
theorem dX1_taken_0 : decode cX1_taken 0 = .ok (.iload_n 1, 1) := by decide +kernel
theorem dX1_taken_1 : decode cX1_taken 1 = .ok (.invokestatic 81, 3) := by decide +kernel
theorem dX1_taken_4 : decode cX1_taken 4 = .ok (.aload_n 0, 1) := by decide +kernel
theorem dX1_taken_5 : decode cX1_taken 5 = .ok (.getfield 36, 3) := by decide +kernel
theorem dX1_taken_8 : decode cX1_taken 8 = .ok (.iload_n 1, 1) := by decide +kernel
theorem dX1_taken_9 : decode cX1_taken 9 = .ok (.iaload, 1) := by decide +kernel
theorem dX1_taken_10 : decode cX1_taken 10 = .ok (.ireturn, 1) := by decide +kernel
set_option maxRecDepth 20000 in
theorem ggX1_takenFrom_X1_requireDays : GoodIn wsX1_takenFrom wsX1_requireDays := goodIn_ca (goodIn_r _ [5, 6, 7, 4, 8, 9, 10, 11, 12, 13] (by decide +kernel) (by decide +kernel)) (goodIn_sub (fun _ h => List.mem_cons_of_mem _ (List.mem_append_right _ h)) (by decide +kernel))
set_option maxRecDepth 20000 in
theorem gX1_takenFrom_X1_requireDays : GoodIn wsX1_takenFrom (va_wsS RX1 99 yX1_requireDays wsX1_requireDays) := goodIn_app (goodIn_of _ (by decide +kernel)) ggX1_takenFrom_X1_requireDays
theorem dX1_takenFrom_0 : decode cX1_takenFrom 0 = .ok (.iload_n 1, 1) := by decide +kernel
theorem dX1_takenFrom_1 : decode cX1_takenFrom 1 = .ok (.iload_n 2, 1) := by decide +kernel
theorem dX1_takenFrom_2 : decode cX1_takenFrom 2 = .ok (.invokestatic 99, 3) := by decide +kernel
theorem dX1_takenFrom_5 : decode cX1_takenFrom 5 = .ok (.iconst 0, 1) := by decide +kernel
theorem dX1_takenFrom_6 : decode cX1_takenFrom 6 = .ok (.istore_n 3, 1) := by decide +kernel
theorem dX1_takenFrom_7 : decode cX1_takenFrom 7 = .ok (.iload_n 1, 1) := by decide +kernel
theorem dX1_takenFrom_8 : decode cX1_takenFrom 8 = .ok (.istore 4, 2) := by decide +kernel
theorem dX1_takenFrom_10 : decode cX1_takenFrom 10 = .ok (.iload 4, 2) := by decide +kernel
theorem dX1_takenFrom_12 : decode cX1_takenFrom 12 = .ok (.iload_n 2, 1) := by decide +kernel
theorem dX1_takenFrom_13 : decode cX1_takenFrom 13 = .ok (.if_icmp .gt 19, 3) := by decide +kernel
theorem dX1_takenFrom_16 : decode cX1_takenFrom 16 = .ok (.iload_n 3, 1) := by decide +kernel
theorem dX1_takenFrom_17 : decode cX1_takenFrom 17 = .ok (.aload_n 0, 1) := by decide +kernel
theorem dX1_takenFrom_18 : decode cX1_takenFrom 18 = .ok (.getfield 33, 3) := by decide +kernel
theorem dX1_takenFrom_21 : decode cX1_takenFrom 21 = .ok (.iload 4, 2) := by decide +kernel
theorem dX1_takenFrom_23 : decode cX1_takenFrom 23 = .ok (.iaload, 1) := by decide +kernel
theorem dX1_takenFrom_24 : decode cX1_takenFrom 24 = .ok (.iadd, 1) := by decide +kernel
theorem dX1_takenFrom_25 : decode cX1_takenFrom 25 = .ok (.istore_n 3, 1) := by decide +kernel
theorem dX1_takenFrom_26 : decode cX1_takenFrom 26 = .ok (.iinc 4 1, 3) := by decide +kernel
theorem dX1_takenFrom_29 : decode cX1_takenFrom 29 = .ok (.goto (-19), 3) := by decide +kernel
theorem dX1_takenFrom_32 : decode cX1_takenFrom 32 = .ok (.iload_n 3, 1) := by decide +kernel
theorem dX1_takenFrom_33 : decode cX1_takenFrom 33 = .ok (.ireturn, 1) := by decide +kernel
set_option maxRecDepth 20000 in
theorem ggX1_price_X1_requireYear : GoodIn wsX1_price wsX1_requireYear := goodIn_ca (goodIn_r _ [5, 6, 7, 4, 8, 9, 10] (by decide +kernel) (by decide +kernel)) (goodIn_sub (fun _ h => List.mem_cons_of_mem _ (List.mem_append_right _ h)) (by decide +kernel))
set_option maxRecDepth 20000 in
theorem gX1_price_X1_requireYear : GoodIn wsX1_price (va_wsS RX1 81 yX1_requireYear wsX1_requireYear) := goodIn_app (goodIn_of _ (by decide +kernel)) ggX1_price_X1_requireYear
theorem dX1_price_0 : decode cX1_price 0 = .ok (.iload_n 1, 1) := by decide +kernel
theorem dX1_price_1 : decode cX1_price 1 = .ok (.invokestatic 81, 3) := by decide +kernel
theorem dX1_price_4 : decode cX1_price 4 = .ok (.aload_n 0, 1) := by decide +kernel
theorem dX1_price_5 : decode cX1_price 5 = .ok (.getfield 20, 3) := by decide +kernel
theorem dX1_price_8 : decode cX1_price 8 = .ok (.iload_n 1, 1) := by decide +kernel
theorem dX1_price_9 : decode cX1_price 9 = .ok (.iaload, 1) := by decide +kernel
theorem dX1_price_10 : decode cX1_price 10 = .ok (.ireturn, 1) := by decide +kernel
set_option maxRecDepth 20000 in
theorem ggX1_least_X1_requireYear : GoodIn wsX1_least wsX1_requireYear := goodIn_ca (goodIn_r _ [4, 5, 6, 3, 7, 8, 9] (by decide +kernel) (by decide +kernel)) (goodIn_sub (fun _ h => List.mem_cons_of_mem _ (List.mem_append_right _ h)) (by decide +kernel))
set_option maxRecDepth 20000 in
theorem gX1_least_X1_requireYear : GoodIn wsX1_least (va_wsS RX1 81 yX1_requireYear wsX1_requireYear) := goodIn_app (goodIn_of _ (by decide +kernel)) ggX1_least_X1_requireYear
set_option maxRecDepth 20000 in
theorem ggX1_least_X1_leastQuantity : GoodIn wsX1_least wsX1_leastQuantity := goodIn_r _ [13, 14, 15, 16, 17, 18, 19, 20, 21, 22, 23, 24, 25, 26, 27, 28, 29, 30, 31, 32, 33, 34] (by decide +kernel) (by decide +kernel)
set_option maxRecDepth 20000 in
theorem gX1_least_X1_leastQuantity : GoodIn wsX1_least (wsV RX1 114 RX1 yX1_leastQuantity wsX1_leastQuantity) := goodIn_app (goodIn_of _ (by decide +kernel)) ggX1_least_X1_leastQuantity
theorem dX1_least_0 : decode cX1_least 0 = .ok (.iload_n 1, 1) := by decide +kernel
theorem dX1_least_1 : decode cX1_least 1 = .ok (.invokestatic 81, 3) := by decide +kernel
theorem dX1_least_4 : decode cX1_least 4 = .ok (.aload_n 0, 1) := by decide +kernel
theorem dX1_least_5 : decode cX1_least 5 = .ok (.iload_n 1, 1) := by decide +kernel
theorem dX1_least_6 : decode cX1_least 6 = .ok (.invokevirtual 114, 3) := by decide +kernel
theorem dX1_least_9 : decode cX1_least 9 = .ok (.ireturn, 1) := by decide +kernel
set_option maxRecDepth 20000 in
theorem ggX1_shortfall_X1_requireClosedYear : GoodIn wsX1_shortfall wsX1_requireClosedYear := goodIn_ca (goodIn_ca (goodIn_r _ [6, 7, 8, 9, 10, 11, 5, 12, 13, 14, 15, 16, 17, 18, 19, 20, 21, 22, 23, 24, 25, 26, 27, 28, 29, 30, 31, 32, 33, 34] (by decide +kernel) (by decide +kernel)) (goodIn_sub (fun _ h => List.mem_cons_of_mem _ (List.mem_append_left _ (List.mem_append_right _ h))) (by decide +kernel))) (goodIn_sub (fun _ h => List.mem_cons_of_mem _ (List.mem_append_right _ h)) (by decide +kernel))
set_option maxRecDepth 20000 in
theorem gX1_shortfall_X1_requireClosedYear : GoodIn wsX1_shortfall (wsV RX1 118 RX1 yX1_requireClosedYear wsX1_requireClosedYear) := goodIn_app (goodIn_of _ (by decide +kernel)) ggX1_shortfall_X1_requireClosedYear
theorem dX1_shortfall_0 : decode cX1_shortfall 0 = .ok (.aload_n 0, 1) := by decide +kernel
theorem dX1_shortfall_1 : decode cX1_shortfall 1 = .ok (.iload_n 1, 1) := by decide +kernel
theorem dX1_shortfall_2 : decode cX1_shortfall 2 = .ok (.invokevirtual 118, 3) := by decide +kernel
theorem dX1_shortfall_5 : decode cX1_shortfall 5 = .ok (.aload_n 0, 1) := by decide +kernel
theorem dX1_shortfall_6 : decode cX1_shortfall 6 = .ok (.getfield 51, 3) := by decide +kernel
theorem dX1_shortfall_9 : decode cX1_shortfall 9 = .ok (.iload_n 1, 1) := by decide +kernel
theorem dX1_shortfall_10 : decode cX1_shortfall 10 = .ok (.iaload, 1) := by decide +kernel
theorem dX1_shortfall_11 : decode cX1_shortfall 11 = .ok (.ireturn, 1) := by decide +kernel
set_option maxRecDepth 20000 in
theorem ggX1_madeUp_X1_requireClosedYear : GoodIn wsX1_madeUp wsX1_requireClosedYear := goodIn_ca (goodIn_ca (goodIn_r _ [6, 7, 8, 9, 10, 11, 5, 12, 13, 14, 15, 16, 17, 18, 19, 20, 21, 22, 23, 24, 25, 26, 27, 28, 29, 30, 31, 32, 33, 34] (by decide +kernel) (by decide +kernel)) (goodIn_sub (fun _ h => List.mem_cons_of_mem _ (List.mem_append_left _ (List.mem_append_right _ h))) (by decide +kernel))) (goodIn_sub (fun _ h => List.mem_cons_of_mem _ (List.mem_append_right _ h)) (by decide +kernel))
set_option maxRecDepth 20000 in
theorem gX1_madeUp_X1_requireClosedYear : GoodIn wsX1_madeUp (wsV RX1 118 RX1 yX1_requireClosedYear wsX1_requireClosedYear) := goodIn_app (goodIn_of _ (by decide +kernel)) ggX1_madeUp_X1_requireClosedYear
theorem dX1_madeUp_0 : decode cX1_madeUp 0 = .ok (.aload_n 0, 1) := by decide +kernel
theorem dX1_madeUp_1 : decode cX1_madeUp 1 = .ok (.iload_n 1, 1) := by decide +kernel
theorem dX1_madeUp_2 : decode cX1_madeUp 2 = .ok (.invokevirtual 118, 3) := by decide +kernel
theorem dX1_madeUp_5 : decode cX1_madeUp 5 = .ok (.aload_n 0, 1) := by decide +kernel
theorem dX1_madeUp_6 : decode cX1_madeUp 6 = .ok (.getfield 54, 3) := by decide +kernel
theorem dX1_madeUp_9 : decode cX1_madeUp 9 = .ok (.iload_n 1, 1) := by decide +kernel
theorem dX1_madeUp_10 : decode cX1_madeUp 10 = .ok (.iaload, 1) := by decide +kernel
theorem dX1_madeUp_11 : decode cX1_madeUp 11 = .ok (.ireturn, 1) := by decide +kernel
set_option maxRecDepth 20000 in
theorem ggX1_covered_X1_requireClosedYear : GoodIn wsX1_covered wsX1_requireClosedYear := goodIn_ca (goodIn_ca (goodIn_r _ [6, 7, 8, 9, 10, 11, 5, 12, 13, 14, 15, 16, 17, 18, 19, 20, 21, 22, 23, 24, 25, 26, 27, 28, 29, 30, 31, 32, 33, 34] (by decide +kernel) (by decide +kernel)) (goodIn_sub (fun _ h => List.mem_cons_of_mem _ (List.mem_append_left _ (List.mem_append_right _ h))) (by decide +kernel))) (goodIn_sub (fun _ h => List.mem_cons_of_mem _ (List.mem_append_right _ h)) (by decide +kernel))
set_option maxRecDepth 20000 in
theorem gX1_covered_X1_requireClosedYear : GoodIn wsX1_covered (wsV RX1 118 RX1 yX1_requireClosedYear wsX1_requireClosedYear) := goodIn_app (goodIn_of _ (by decide +kernel)) ggX1_covered_X1_requireClosedYear
theorem dX1_covered_0 : decode cX1_covered 0 = .ok (.aload_n 0, 1) := by decide +kernel
theorem dX1_covered_1 : decode cX1_covered 1 = .ok (.iload_n 1, 1) := by decide +kernel
theorem dX1_covered_2 : decode cX1_covered 2 = .ok (.invokevirtual 118, 3) := by decide +kernel
theorem dX1_covered_5 : decode cX1_covered 5 = .ok (.aload_n 0, 1) := by decide +kernel
theorem dX1_covered_6 : decode cX1_covered 6 = .ok (.getfield 57, 3) := by decide +kernel
theorem dX1_covered_9 : decode cX1_covered 9 = .ok (.iload_n 1, 1) := by decide +kernel
theorem dX1_covered_10 : decode cX1_covered 10 = .ok (.iaload, 1) := by decide +kernel
theorem dX1_covered_11 : decode cX1_covered 11 = .ok (.ireturn, 1) := by decide +kernel
set_option maxRecDepth 20000 in
theorem ggX1_surplus_X1_requireClosedYear : GoodIn wsX1_surplus wsX1_requireClosedYear := goodIn_ca (goodIn_ca (goodIn_r _ [6, 7, 8, 9, 10, 11, 5, 12, 13, 14, 15, 16, 17, 18, 19, 20, 21, 22, 23, 24, 25, 26, 27, 28, 29, 30, 31, 32, 33, 34] (by decide +kernel) (by decide +kernel)) (goodIn_sub (fun _ h => List.mem_cons_of_mem _ (List.mem_append_left _ (List.mem_append_right _ h))) (by decide +kernel))) (goodIn_sub (fun _ h => List.mem_cons_of_mem _ (List.mem_append_right _ h)) (by decide +kernel))
set_option maxRecDepth 20000 in
theorem gX1_surplus_X1_requireClosedYear : GoodIn wsX1_surplus (wsV RX1 118 RX1 yX1_requireClosedYear wsX1_requireClosedYear) := goodIn_app (goodIn_of _ (by decide +kernel)) ggX1_surplus_X1_requireClosedYear
theorem dX1_surplus_0 : decode cX1_surplus 0 = .ok (.aload_n 0, 1) := by decide +kernel
theorem dX1_surplus_1 : decode cX1_surplus 1 = .ok (.iload_n 1, 1) := by decide +kernel
theorem dX1_surplus_2 : decode cX1_surplus 2 = .ok (.invokevirtual 118, 3) := by decide +kernel
theorem dX1_surplus_5 : decode cX1_surplus 5 = .ok (.aload_n 0, 1) := by decide +kernel
theorem dX1_surplus_6 : decode cX1_surplus 6 = .ok (.getfield 60, 3) := by decide +kernel
theorem dX1_surplus_9 : decode cX1_surplus 9 = .ok (.iload_n 1, 1) := by decide +kernel
theorem dX1_surplus_10 : decode cX1_surplus 10 = .ok (.iaload, 1) := by decide +kernel
theorem dX1_surplus_11 : decode cX1_surplus 11 = .ok (.ireturn, 1) := by decide +kernel
set_option maxRecDepth 20000 in
theorem ggX1_due_X1_requireClosedYear : GoodIn wsX1_due wsX1_requireClosedYear := goodIn_ca (goodIn_ca (goodIn_r _ [6, 7, 8, 9, 10, 11, 5, 12, 13, 14, 15, 16, 17, 18, 19, 20, 21, 22, 23, 24, 25, 26, 27, 28, 29, 30, 31, 32, 33, 34] (by decide +kernel) (by decide +kernel)) (goodIn_sub (fun _ h => List.mem_cons_of_mem _ (List.mem_append_left _ (List.mem_append_right _ h))) (by decide +kernel))) (goodIn_sub (fun _ h => List.mem_cons_of_mem _ (List.mem_append_right _ h)) (by decide +kernel))
set_option maxRecDepth 20000 in
theorem gX1_due_X1_requireClosedYear : GoodIn wsX1_due (wsV RX1 118 RX1 yX1_requireClosedYear wsX1_requireClosedYear) := goodIn_app (goodIn_of _ (by decide +kernel)) ggX1_due_X1_requireClosedYear
theorem dX1_due_0 : decode cX1_due 0 = .ok (.aload_n 0, 1) := by decide +kernel
theorem dX1_due_1 : decode cX1_due 1 = .ok (.iload_n 1, 1) := by decide +kernel
theorem dX1_due_2 : decode cX1_due 2 = .ok (.invokevirtual 118, 3) := by decide +kernel
theorem dX1_due_5 : decode cX1_due 5 = .ok (.aload_n 0, 1) := by decide +kernel
theorem dX1_due_6 : decode cX1_due 6 = .ok (.getfield 63, 3) := by decide +kernel
theorem dX1_due_9 : decode cX1_due 9 = .ok (.iload_n 1, 1) := by decide +kernel
theorem dX1_due_10 : decode cX1_due 10 = .ok (.laload, 1) := by decide +kernel
theorem dX1_due_11 : decode cX1_due 11 = .ok (.lreturn, 1) := by decide +kernel
set_option maxRecDepth 20000 in
theorem ggX1_bill_X1_requireClosedYear : GoodIn wsX1_bill wsX1_requireClosedYear := goodIn_ca (goodIn_ca (goodIn_r _ [6, 7, 8, 9, 10, 11, 5, 12, 13, 14, 15, 16, 17, 18, 19, 20, 21, 22, 23, 24, 25, 26, 27, 28, 29, 30, 31, 32, 33, 34] (by decide +kernel) (by decide +kernel)) (goodIn_sub (fun _ h => List.mem_cons_of_mem _ (List.mem_append_left _ (List.mem_append_right _ h))) (by decide +kernel))) (goodIn_sub (fun _ h => List.mem_cons_of_mem _ (List.mem_append_right _ h)) (by decide +kernel))
set_option maxRecDepth 20000 in
theorem gX1_bill_X1_requireClosedYear : GoodIn wsX1_bill (wsV RX1 118 RX1 yX1_requireClosedYear wsX1_requireClosedYear) := goodIn_app (goodIn_of _ (by decide +kernel)) ggX1_bill_X1_requireClosedYear
theorem dX1_bill_0 : decode cX1_bill 0 = .ok (.aload_n 0, 1) := by decide +kernel
theorem dX1_bill_1 : decode cX1_bill 1 = .ok (.iload_n 1, 1) := by decide +kernel
theorem dX1_bill_2 : decode cX1_bill 2 = .ok (.invokevirtual 118, 3) := by decide +kernel
theorem dX1_bill_5 : decode cX1_bill 5 = .ok (.aload_n 0, 1) := by decide +kernel
theorem dX1_bill_6 : decode cX1_bill 6 = .ok (.getfield 67, 3) := by decide +kernel
theorem dX1_bill_9 : decode cX1_bill 9 = .ok (.iload_n 1, 1) := by decide +kernel
theorem dX1_bill_10 : decode cX1_bill 10 = .ok (.laload, 1) := by decide +kernel
theorem dX1_bill_11 : decode cX1_bill 11 = .ok (.lreturn, 1) := by decide +kernel
set_option maxRecDepth 20000 in
theorem ggX1_makeUpLeft_X1_requireClosedYear : GoodIn wsX1_makeUpLeft wsX1_requireClosedYear := goodIn_ca (goodIn_ca (goodIn_r _ [6, 7, 8, 9, 10, 11, 5, 12, 13, 14, 15, 16, 17, 24, 25, 26, 27, 28, 29, 30, 31, 32, 33, 34, 35, 36, 37, 38, 39, 40] (by decide +kernel) (by decide +kernel)) (goodIn_sub (fun _ h => List.mem_cons_of_mem _ (List.mem_append_left _ (List.mem_append_right _ h))) (by decide +kernel))) (goodIn_sub (fun _ h => List.mem_cons_of_mem _ (List.mem_append_right _ h)) (by decide +kernel))
set_option maxRecDepth 20000 in
theorem gX1_makeUpLeft_X1_requireClosedYear : GoodIn wsX1_makeUpLeft (wsV RX1 118 RX1 yX1_requireClosedYear wsX1_requireClosedYear) := goodIn_app (goodIn_of _ (by decide +kernel)) ggX1_makeUpLeft_X1_requireClosedYear
set_option maxRecDepth 20000 in
theorem ggX1_makeUpLeft_X0_leftFrom : GoodIn wsX1_makeUpLeft wsX0_leftFrom := goodIn_r _ [22, 23, 41, 42, 43] (by decide +kernel) (by decide +kernel)
set_option maxRecDepth 20000 in
theorem gX1_makeUpLeft_X0_leftFrom : GoodIn wsX1_makeUpLeft (wsV RX1 121 RX0 yX0_leftFrom wsX0_leftFrom) := goodIn_app (goodIn_of _ (by decide +kernel)) ggX1_makeUpLeft_X0_leftFrom
theorem dX1_makeUpLeft_0 : decode cX1_makeUpLeft 0 = .ok (.aload_n 0, 1) := by decide +kernel
theorem dX1_makeUpLeft_1 : decode cX1_makeUpLeft 1 = .ok (.iload_n 1, 1) := by decide +kernel
theorem dX1_makeUpLeft_2 : decode cX1_makeUpLeft 2 = .ok (.invokevirtual 118, 3) := by decide +kernel
theorem dX1_makeUpLeft_5 : decode cX1_makeUpLeft 5 = .ok (.aload_n 0, 1) := by decide +kernel
theorem dX1_makeUpLeft_6 : decode cX1_makeUpLeft 6 = .ok (.getfield 44, 3) := by decide +kernel
theorem dX1_makeUpLeft_9 : decode cX1_makeUpLeft 9 = .ok (.iload_n 1, 1) := by decide +kernel
theorem dX1_makeUpLeft_10 : decode cX1_makeUpLeft 10 = .ok (.invokevirtual 121, 3) := by decide +kernel
theorem dX1_makeUpLeft_13 : decode cX1_makeUpLeft 13 = .ok (.ireturn, 1) := by decide +kernel
set_option maxRecDepth 20000 in
theorem ggX1_surplusLeft_X1_requireClosedYear : GoodIn wsX1_surplusLeft wsX1_requireClosedYear := goodIn_ca (goodIn_ca (goodIn_r _ [6, 7, 8, 9, 10, 11, 5, 12, 13, 14, 15, 16, 17, 24, 25, 26, 27, 28, 29, 30, 31, 32, 33, 34, 35, 36, 37, 38, 39, 40] (by decide +kernel) (by decide +kernel)) (goodIn_sub (fun _ h => List.mem_cons_of_mem _ (List.mem_append_left _ (List.mem_append_right _ h))) (by decide +kernel))) (goodIn_sub (fun _ h => List.mem_cons_of_mem _ (List.mem_append_right _ h)) (by decide +kernel))
set_option maxRecDepth 20000 in
theorem gX1_surplusLeft_X1_requireClosedYear : GoodIn wsX1_surplusLeft (wsV RX1 118 RX1 yX1_requireClosedYear wsX1_requireClosedYear) := goodIn_app (goodIn_of _ (by decide +kernel)) ggX1_surplusLeft_X1_requireClosedYear
set_option maxRecDepth 20000 in
theorem ggX1_surplusLeft_X0_leftFrom : GoodIn wsX1_surplusLeft wsX0_leftFrom := goodIn_r _ [22, 23, 41, 42, 43] (by decide +kernel) (by decide +kernel)
set_option maxRecDepth 20000 in
theorem gX1_surplusLeft_X0_leftFrom : GoodIn wsX1_surplusLeft (wsV RX1 121 RX0 yX0_leftFrom wsX0_leftFrom) := goodIn_app (goodIn_of _ (by decide +kernel)) ggX1_surplusLeft_X0_leftFrom
theorem dX1_surplusLeft_0 : decode cX1_surplusLeft 0 = .ok (.aload_n 0, 1) := by decide +kernel
theorem dX1_surplusLeft_1 : decode cX1_surplusLeft 1 = .ok (.iload_n 1, 1) := by decide +kernel
theorem dX1_surplusLeft_2 : decode cX1_surplusLeft 2 = .ok (.invokevirtual 118, 3) := by decide +kernel
theorem dX1_surplusLeft_5 : decode cX1_surplusLeft 5 = .ok (.aload_n 0, 1) := by decide +kernel
theorem dX1_surplusLeft_6 : decode cX1_surplusLeft 6 = .ok (.getfield 48, 3) := by decide +kernel
theorem dX1_surplusLeft_9 : decode cX1_surplusLeft 9 = .ok (.iload_n 1, 1) := by decide +kernel
theorem dX1_surplusLeft_10 : decode cX1_surplusLeft 10 = .ok (.invokevirtual 121, 3) := by decide +kernel
theorem dX1_surplusLeft_13 : decode cX1_surplusLeft 13 = .ok (.ireturn, 1) := by decide +kernel
set_option maxRecDepth 20000 in
theorem ggX1_lapsed_X0_lapsedInAll : GoodIn wsX1_lapsed wsX0_lapsedInAll := goodIn_r _ [6, 7, 25, 26, 27] (by decide +kernel) (by decide +kernel)
set_option maxRecDepth 20000 in
theorem gX1_lapsed_X0_lapsedInAll : GoodIn wsX1_lapsed (wsV RX1 124 RX0 yX0_lapsedInAll wsX0_lapsedInAll) := goodIn_app (goodIn_of _ (by decide +kernel)) ggX1_lapsed_X0_lapsedInAll
theorem dX1_lapsed_0 : decode cX1_lapsed 0 = .ok (.aload_n 0, 1) := by decide +kernel
theorem dX1_lapsed_1 : decode cX1_lapsed 1 = .ok (.getfield 44, 3) := by decide +kernel
theorem dX1_lapsed_4 : decode cX1_lapsed 4 = .ok (.invokevirtual 124, 3) := by decide +kernel
theorem dX1_lapsed_7 : decode cX1_lapsed 7 = .ok (.ireturn, 1) := by decide +kernel
set_option maxRecDepth 20000 in
theorem ggX1_open_X1_dueInAll : GoodIn wsX1_open wsX1_dueInAll := goodIn_r _ [6, 7, 8, 9, 10, 11, 12, 13, 14, 15, 16, 17, 18, 19, 20, 21, 22, 23, 24, 25] (by decide +kernel) (by decide +kernel)
set_option maxRecDepth 20000 in
theorem gX1_open_X1_dueInAll : GoodIn wsX1_open (wsV RX1 106 RX1 yX1_dueInAll wsX1_dueInAll) := goodIn_app (goodIn_of _ (by decide +kernel)) ggX1_open_X1_dueInAll
theorem dX1_open_0 : decode cX1_open 0 = .ok (.aload_n 0, 1) := by decide +kernel
theorem dX1_open_1 : decode cX1_open 1 = .ok (.invokevirtual 106, 3) := by decide +kernel
theorem dX1_open_4 : decode cX1_open 4 = .ok (.aload_n 0, 1) := by decide +kernel
theorem dX1_open_5 : decode cX1_open 5 = .ok (.getfield 110, 3) := by decide +kernel
theorem dX1_open_8 : decode cX1_open 8 = .ok (.lsub, 1) := by decide +kernel
theorem dX1_open_9 : decode cX1_open 9 = .ok (.lreturn, 1) := by decide +kernel
theorem dX1_requireRange_0 : decode cX1_requireRange 0 = .ok (.iload_n 0, 1) := by decide +kernel
theorem dX1_requireRange_1 : decode cX1_requireRange 1 = .ok (.iload_n 1, 1) := by decide +kernel
theorem dX1_requireRange_2 : decode cX1_requireRange 2 = .ok (.if_icmp .lt 8, 3) := by decide +kernel
theorem dX1_requireRange_5 : decode cX1_requireRange 5 = .ok (.iload_n 0, 1) := by decide +kernel
theorem dX1_requireRange_6 : decode cX1_requireRange 6 = .ok (.iload_n 2, 1) := by decide +kernel
theorem dX1_requireRange_7 : decode cX1_requireRange 7 = .ok (.if_icmp .le 13, 3) := by decide +kernel
theorem dX1_requireRange_10 : decode cX1_requireRange 10 = .ok (.new 128, 3) := by decide +kernel
theorem dX1_requireRange_13 : decode cX1_requireRange 13 = .ok (.dup, 1) := by decide +kernel
theorem dX1_requireRange_14 : decode cX1_requireRange 14 = .ok (.ldc 130, 2) := by decide +kernel
theorem dX1_requireRange_16 : decode cX1_requireRange 16 = .ok (.invokespecial 132, 3) := by decide +kernel
theorem dX1_requireRange_19 : decode cX1_requireRange 19 = .ok (.athrow, 1) := by decide +kernel
theorem dX1_requireRange_20 : decode cX1_requireRange 20 = .ok (.return_, 1) := by decide +kernel
set_option maxRecDepth 20000 in
theorem ggX1_requireYear_X1_requireRange : GoodIn wsX1_requireYear wsX1_requireRange := goodIn_ca (goodIn_r _ [4, 5, 6] (by decide +kernel) (by decide +kernel)) (goodIn_sub (fun _ h => List.mem_cons_of_mem _ (List.mem_append_right _ h)) (by decide +kernel))
set_option maxRecDepth 20000 in
theorem gX1_requireYear_X1_requireRange : GoodIn wsX1_requireYear (va_wsS RX1 71 yX1_requireRange wsX1_requireRange) := goodIn_app (goodIn_of _ (by decide +kernel)) ggX1_requireYear_X1_requireRange
theorem dX1_requireYear_0 : decode cX1_requireYear 0 = .ok (.iload_n 0, 1) := by decide +kernel
theorem dX1_requireYear_1 : decode cX1_requireYear 1 = .ok (.iconst 0, 1) := by decide +kernel
theorem dX1_requireYear_2 : decode cX1_requireYear 2 = .ok (.bipush 19, 2) := by decide +kernel
theorem dX1_requireYear_4 : decode cX1_requireYear 4 = .ok (.invokestatic 71, 3) := by decide +kernel
theorem dX1_requireYear_7 : decode cX1_requireYear 7 = .ok (.return_, 1) := by decide +kernel
set_option maxRecDepth 20000 in
theorem ggX1_requireDay_X1_requireRange : GoodIn wsX1_requireDay wsX1_requireRange := goodIn_ca (goodIn_r _ [4, 5, 6] (by decide +kernel) (by decide +kernel)) (goodIn_sub (fun _ h => List.mem_cons_of_mem _ (List.mem_append_right _ h)) (by decide +kernel))
set_option maxRecDepth 20000 in
theorem gX1_requireDay_X1_requireRange : GoodIn wsX1_requireDay (va_wsS RX1 71 yX1_requireRange wsX1_requireRange) := goodIn_app (goodIn_of _ (by decide +kernel)) ggX1_requireDay_X1_requireRange
theorem dX1_requireDay_0 : decode cX1_requireDay 0 = .ok (.iload_n 0, 1) := by decide +kernel
theorem dX1_requireDay_1 : decode cX1_requireDay 1 = .ok (.iconst 0, 1) := by decide +kernel
theorem dX1_requireDay_2 : decode cX1_requireDay 2 = .ok (.sipush 359, 3) := by decide +kernel
theorem dX1_requireDay_5 : decode cX1_requireDay 5 = .ok (.invokestatic 71, 3) := by decide +kernel
theorem dX1_requireDay_8 : decode cX1_requireDay 8 = .ok (.return_, 1) := by decide +kernel
set_option maxRecDepth 20000 in
theorem ggX1_requireDays_X1_requireDay : GoodIn wsX1_requireDays wsX1_requireDay := goodIn_ca (goodIn_r _ [4, 5, 6, 3, 7, 8, 9] (by decide +kernel) (by decide +kernel)) (goodIn_sub (fun _ h => List.mem_cons_of_mem _ (List.mem_append_right _ h)) (by decide +kernel))
set_option maxRecDepth 20000 in
theorem gX1_requireDays_X1_requireDay : GoodIn wsX1_requireDays (va_wsS RX1 87 yX1_requireDay wsX1_requireDay) := goodIn_app (goodIn_of _ (by decide +kernel)) ggX1_requireDays_X1_requireDay
set_option maxRecDepth 20000 in
theorem ggX1_requireDays_X1_requireRange : GoodIn wsX1_requireDays wsX1_requireRange := goodIn_ca (goodIn_r _ [7, 8, 9] (by decide +kernel) (by decide +kernel)) (goodIn_sub (fun _ h => List.mem_cons_of_mem _ (List.mem_append_right _ h)) (by decide +kernel))
set_option maxRecDepth 20000 in
theorem gX1_requireDays_X1_requireRange : GoodIn wsX1_requireDays (va_wsS RX1 71 yX1_requireRange wsX1_requireRange) := goodIn_app (goodIn_of _ (by decide +kernel)) ggX1_requireDays_X1_requireRange
theorem dX1_requireDays_0 : decode cX1_requireDays 0 = .ok (.iload_n 0, 1) := by decide +kernel
theorem dX1_requireDays_1 : decode cX1_requireDays 1 = .ok (.invokestatic 87, 3) := by decide +kernel
theorem dX1_requireDays_4 : decode cX1_requireDays 4 = .ok (.iload_n 1, 1) := by decide +kernel
theorem dX1_requireDays_5 : decode cX1_requireDays 5 = .ok (.iload_n 0, 1) := by decide +kernel
theorem dX1_requireDays_6 : decode cX1_requireDays 6 = .ok (.sipush 359, 3) := by decide +kernel
theorem dX1_requireDays_9 : decode cX1_requireDays 9 = .ok (.invokestatic 71, 3) := by decide +kernel
theorem dX1_requireDays_12 : decode cX1_requireDays 12 = .ok (.return_, 1) := by decide +kernel
set_option maxRecDepth 20000 in
theorem ggX1_requireClosedYear_X1_requireYear : GoodIn wsX1_requireClosedYear wsX1_requireYear := goodIn_ca (goodIn_r _ [7, 8, 9, 6, 10, 11, 12] (by decide +kernel) (by decide +kernel)) (goodIn_sub (fun _ h => List.mem_cons_of_mem _ (List.mem_append_right _ h)) (by decide +kernel))
set_option maxRecDepth 20000 in
theorem gX1_requireClosedYear_X1_requireYear : GoodIn wsX1_requireClosedYear (va_wsS RX1 81 yX1_requireYear wsX1_requireYear) := goodIn_app (goodIn_of _ (by decide +kernel)) ggX1_requireClosedYear_X1_requireYear
theorem dX1_requireClosedYear_0 : decode cX1_requireClosedYear 0 = .ok (.iload_n 1, 1) := by decide +kernel
theorem dX1_requireClosedYear_1 : decode cX1_requireClosedYear 1 = .ok (.invokestatic 81, 3) := by decide +kernel
theorem dX1_requireClosedYear_4 : decode cX1_requireClosedYear 4 = .ok (.iload_n 1, 1) := by decide +kernel
theorem dX1_requireClosedYear_5 : decode cX1_requireClosedYear 5 = .ok (.aload_n 0, 1) := by decide +kernel
theorem dX1_requireClosedYear_6 : decode cX1_requireClosedYear 6 = .ok (.getfield 103, 3) := by decide +kernel
theorem dX1_requireClosedYear_9 : decode cX1_requireClosedYear 9 = .ok (.if_icmp .lt 13, 3) := by decide +kernel
theorem dX1_requireClosedYear_12 : decode cX1_requireClosedYear 12 = .ok (.new 135, 3) := by decide +kernel
theorem dX1_requireClosedYear_15 : decode cX1_requireClosedYear 15 = .ok (.dup, 1) := by decide +kernel
theorem dX1_requireClosedYear_16 : decode cX1_requireClosedYear 16 = .ok (.ldc 137, 2) := by decide +kernel
theorem dX1_requireClosedYear_18 : decode cX1_requireClosedYear 18 = .ok (.invokespecial 139, 3) := by decide +kernel
theorem dX1_requireClosedYear_21 : decode cX1_requireClosedYear 21 = .ok (.athrow, 1) := by decide +kernel
theorem dX1_requireClosedYear_22 : decode cX1_requireClosedYear 22 = .ok (.return_, 1) := by decide +kernel
theorem dX1_requireYearGoingOn_0 : decode cX1_requireYearGoingOn 0 = .ok (.aload_n 0, 1) := by decide +kernel
theorem dX1_requireYearGoingOn_1 : decode cX1_requireYearGoingOn 1 = .ok (.getfield 103, 3) := by decide +kernel
theorem dX1_requireYearGoingOn_4 : decode cX1_requireYearGoingOn 4 = .ok (.bipush 20, 2) := by decide +kernel
theorem dX1_requireYearGoingOn_6 : decode cX1_requireYearGoingOn 6 = .ok (.if_icmp .lt 13, 3) := by decide +kernel
theorem dX1_requireYearGoingOn_9 : decode cX1_requireYearGoingOn 9 = .ok (.new 135, 3) := by decide +kernel
theorem dX1_requireYearGoingOn_12 : decode cX1_requireYearGoingOn 12 = .ok (.dup, 1) := by decide +kernel
theorem dX1_requireYearGoingOn_13 : decode cX1_requireYearGoingOn 13 = .ok (.ldc 140, 2) := by decide +kernel
theorem dX1_requireYearGoingOn_15 : decode cX1_requireYearGoingOn 15 = .ok (.invokespecial 139, 3) := by decide +kernel
theorem dX1_requireYearGoingOn_18 : decode cX1_requireYearGoingOn 18 = .ok (.athrow, 1) := by decide +kernel
theorem dX1_requireYearGoingOn_19 : decode cX1_requireYearGoingOn 19 = .ok (.return_, 1) := by decide +kernel
theorem dX1_requireUnused_0 : decode cX1_requireUnused 0 = .ok (.aload_n 0, 1) := by decide +kernel
theorem dX1_requireUnused_1 : decode cX1_requireUnused 1 = .ok (.getfield 103, 3) := by decide +kernel
theorem dX1_requireUnused_4 : decode cX1_requireUnused 4 = .ok (.ifCond .gt 12, 3) := by decide +kernel
theorem dX1_requireUnused_7 : decode cX1_requireUnused 7 = .ok (.aload_n 0, 1) := by decide +kernel
theorem dX1_requireUnused_8 : decode cX1_requireUnused 8 = .ok (.getfield 36, 3) := by decide +kernel
theorem dX1_requireUnused_11 : decode cX1_requireUnused 11 = .ok (.iconst 0, 1) := by decide +kernel
theorem dX1_requireUnused_12 : decode cX1_requireUnused 12 = .ok (.iaload, 1) := by decide +kernel
theorem dX1_requireUnused_13 : decode cX1_requireUnused 13 = .ok (.ifCond .le 13, 3) := by decide +kernel
theorem dX1_requireUnused_16 : decode cX1_requireUnused 16 = .ok (.new 135, 3) := by decide +kernel
theorem dX1_requireUnused_19 : decode cX1_requireUnused 19 = .ok (.dup, 1) := by decide +kernel
theorem dX1_requireUnused_20 : decode cX1_requireUnused 20 = .ok (.ldc 142, 2) := by decide +kernel
theorem dX1_requireUnused_22 : decode cX1_requireUnused 22 = .ok (.invokespecial 139, 3) := by decide +kernel
theorem dX1_requireUnused_25 : decode cX1_requireUnused 25 = .ok (.athrow, 1) := by decide +kernel
theorem dX1_requireUnused_26 : decode cX1_requireUnused 26 = .ok (.return_, 1) := by decide +kernel
theorem dX1_requireRoom_0 : decode cX1_requireRoom 0 = .ok (.iload_n 1, 1) := by decide +kernel
theorem dX1_requireRoom_1 : decode cX1_requireRoom 1 = .ok (.istore 4, 2) := by decide +kernel
theorem dX1_requireRoom_3 : decode cX1_requireRoom 3 = .ok (.iload 4, 2) := by decide +kernel
theorem dX1_requireRoom_5 : decode cX1_requireRoom 5 = .ok (.iload_n 2, 1) := by decide +kernel
theorem dX1_requireRoom_6 : decode cX1_requireRoom 6 = .ok (.if_icmp .gt 34, 3) := by decide +kernel
theorem dX1_requireRoom_9 : decode cX1_requireRoom 9 = .ok (.aload_n 0, 1) := by decide +kernel
theorem dX1_requireRoom_10 : decode cX1_requireRoom 10 = .ok (.getfield 33, 3) := by decide +kernel
theorem dX1_requireRoom_13 : decode cX1_requireRoom 13 = .ok (.iload 4, 2) := by decide +kernel
theorem dX1_requireRoom_15 : decode cX1_requireRoom 15 = .ok (.iaload, 1) := by decide +kernel
theorem dX1_requireRoom_16 : decode cX1_requireRoom 16 = .ok (.iload_n 3, 1) := by decide +kernel
theorem dX1_requireRoom_17 : decode cX1_requireRoom 17 = .ok (.iadd, 1) := by decide +kernel
theorem dX1_requireRoom_18 : decode cX1_requireRoom 18 = .ok (.sipush 500, 3) := by decide +kernel
theorem dX1_requireRoom_21 : decode cX1_requireRoom 21 = .ok (.if_icmp .le 13, 3) := by decide +kernel
theorem dX1_requireRoom_24 : decode cX1_requireRoom 24 = .ok (.new 135, 3) := by decide +kernel
theorem dX1_requireRoom_27 : decode cX1_requireRoom 27 = .ok (.dup, 1) := by decide +kernel
theorem dX1_requireRoom_28 : decode cX1_requireRoom 28 = .ok (.ldc 144, 2) := by decide +kernel
theorem dX1_requireRoom_30 : decode cX1_requireRoom 30 = .ok (.invokespecial 139, 3) := by decide +kernel
theorem dX1_requireRoom_33 : decode cX1_requireRoom 33 = .ok (.athrow, 1) := by decide +kernel
theorem dX1_requireRoom_34 : decode cX1_requireRoom 34 = .ok (.iinc 4 1, 3) := by decide +kernel
theorem dX1_requireRoom_37 : decode cX1_requireRoom 37 = .ok (.goto (-34), 3) := by decide +kernel
theorem dX1_requireRoom_40 : decode cX1_requireRoom 40 = .ok (.return_, 1) := by decide +kernel
theorem dX1_addTakes_0 : decode cX1_addTakes 0 = .ok (.iload_n 1, 1) := by decide +kernel
theorem dX1_addTakes_1 : decode cX1_addTakes 1 = .ok (.istore 4, 2) := by decide +kernel
theorem dX1_addTakes_3 : decode cX1_addTakes 3 = .ok (.iload 4, 2) := by decide +kernel
theorem dX1_addTakes_5 : decode cX1_addTakes 5 = .ok (.iload_n 2, 1) := by decide +kernel
theorem dX1_addTakes_6 : decode cX1_addTakes 6 = .ok (.if_icmp .gt 20, 3) := by decide +kernel
theorem dX1_addTakes_9 : decode cX1_addTakes 9 = .ok (.aload_n 0, 1) := by decide +kernel
theorem dX1_addTakes_10 : decode cX1_addTakes 10 = .ok (.getfield 33, 3) := by decide +kernel
theorem dX1_addTakes_13 : decode cX1_addTakes 13 = .ok (.iload 4, 2) := by decide +kernel
theorem dX1_addTakes_15 : decode cX1_addTakes 15 = .ok (.dup2, 1) := by decide +kernel
theorem dX1_addTakes_16 : decode cX1_addTakes 16 = .ok (.iaload, 1) := by decide +kernel
