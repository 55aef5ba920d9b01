theorem dL_review_13 : decode cL_review 13 = .ok (.astore 4, 2) := by decide +kernel
theorem dL_review_15 : decode cL_review 15 = .ok (.iconst 1, 1) := by decide +kernel
theorem dL_review_16 : decode cL_review 16 = .ok (.ireturn, 1) := by decide +kernel
theorem dL_review_17 : decode cL_review 17 = .ok (.iconst 0, 1) := by decide +kernel
theorem dL_review_18 : decode cL_review 18 = .ok (.ireturn, 1) := by decide +kernel
set_option maxRecDepth 20000 in
theorem ggL_excuse_X1_excuse : GoodIn wsL_excuse wsX1_excuse := goodIn_ca (goodIn_r _ [6, 7, 8, 9, 5, 10, 11, 12, 13, 14, 15, 16, 17, 18, 19, 20, 21, 22, 23, 24, 25, 26, 27, 28, 29, 30, 31, 32, 33, 34, 35, 36, 37, 38, 39, 40, 41, 42, 43, 44, 45, 46, 47, 48, 49, 50, 51, 52, 53, 54, 55, 56, 57, 58, 59, 60, 61, 62, 63, 64, 65, 66, 67, 68, 69, 70, 71, 72, 73, 74, 75, 76, 77, 78, 79, 80, 81, 82, 83, 84, 85, 86, 87, 88, 89, 90, 91, 92, 93, 94, 95, 96, 97, 98, 99, 100, 101, 102, 103, 104] (by decide +kernel) (by decide +kernel)) (goodIn_sub (fun _ h => List.mem_cons_of_mem _ (List.mem_append_right _ h)) (by decide +kernel))
set_option maxRecDepth 20000 in
theorem gL_excuse_X1_excuse : GoodIn wsL_excuse (wsV RL 21 RX1 yX1_excuse wsX1_excuse) := goodIn_app (goodIn_of _ (by decide +kernel)) ggL_excuse_X1_excuse
theorem dL_excuse_0 : decode cL_excuse 0 = .ok (.aload_n 3, 1) := by decide +kernel
theorem dL_excuse_1 : decode cL_excuse 1 = .ok (.iconst 0, 1) := by decide +kernel
theorem dL_excuse_2 : decode cL_excuse 2 = .ok (.aload_n 0, 1) := by decide +kernel
theorem dL_excuse_3 : decode cL_excuse 3 = .ok (.iload_n 1, 1) := by decide +kernel
theorem dL_excuse_4 : decode cL_excuse 4 = .ok (.iload_n 2, 1) := by decide +kernel
theorem dL_excuse_5 : decode cL_excuse 5 = .ok (.invokevirtual 21, 3) := by decide +kernel
theorem dL_excuse_8 : decode cL_excuse 8 = .ok (.i2l, 1) := by decide +kernel
theorem dL_excuse_9 : decode cL_excuse 9 = .ok (.lastore, 1) := by decide +kernel
theorem dL_excuse_10 : decode cL_excuse 10 = .ok (.goto 7, 3) := by decide +kernel
theorem dL_excuse_13 : decode cL_excuse 13 = .ok (.astore 4, 2) := by decide +kernel
theorem dL_excuse_15 : decode cL_excuse 15 = .ok (.iconst 1, 1) := by decide +kernel
theorem dL_excuse_16 : decode cL_excuse 16 = .ok (.ireturn, 1) := by decide +kernel
theorem dL_excuse_17 : decode cL_excuse 17 = .ok (.iconst 0, 1) := by decide +kernel
theorem dL_excuse_18 : decode cL_excuse 18 = .ok (.ireturn, 1) := by decide +kernel
set_option maxRecDepth 20000 in
theorem ggL_take_X1_take : GoodIn wsL_take wsX1_take := goodIn_ca (goodIn_ca (goodIn_r _ [7, 8, 9, 10, 6, 11, 12, 13, 14, 15, 16, 17, 18, 19, 20, 21, 22, 23, 24, 25, 26, 27, 28, 29, 30, 31, 32, 33, 34, 35, 36, 37, 38, 39, 40, 41, 42, 43, 44, 45, 46, 47, 48, 49] (by decide +kernel) (by decide +kernel)) (goodIn_sub (fun _ h => List.mem_cons_of_mem _ (List.mem_append_left _ (List.mem_append_right _ h))) (by decide +kernel))) (goodIn_sub (fun _ h => List.mem_cons_of_mem _ (List.mem_append_right _ h)) (by decide +kernel))
set_option maxRecDepth 20000 in
theorem gL_take_X1_take : GoodIn wsL_take (wsV RL 24 RX1 yX1_take wsX1_take) := goodIn_app (goodIn_of _ (by decide +kernel)) ggL_take_X1_take
theorem dL_take_0 : decode cL_take 0 = .ok (.aload_n 3, 1) := by decide +kernel
theorem dL_take_1 : decode cL_take 1 = .ok (.iconst 0, 1) := by decide +kernel
theorem dL_take_2 : decode cL_take 2 = .ok (.aload_n 0, 1) := by decide +kernel
theorem dL_take_3 : decode cL_take 3 = .ok (.iload_n 1, 1) := by decide +kernel
theorem dL_take_4 : decode cL_take 4 = .ok (.iload_n 2, 1) := by decide +kernel
theorem dL_take_5 : decode cL_take 5 = .ok (.invokevirtual 24, 3) := by decide +kernel
theorem dL_take_8 : decode cL_take 8 = .ok (.i2l, 1) := by decide +kernel
theorem dL_take_9 : decode cL_take 9 = .ok (.lastore, 1) := by decide +kernel
theorem dL_take_10 : decode cL_take 10 = .ok (.goto 11, 3) := by decide +kernel
theorem dL_take_13 : decode cL_take 13 = .ok (.astore 4, 2) := by decide +kernel
theorem dL_take_15 : decode cL_take 15 = .ok (.iconst 1, 1) := by decide +kernel
theorem dL_take_16 : decode cL_take 16 = .ok (.ireturn, 1) := by decide +kernel
theorem dL_take_17 : decode cL_take 17 = .ok (.astore 4, 2) := by decide +kernel
theorem dL_take_19 : decode cL_take 19 = .ok (.iconst 2, 1) := by decide +kernel
theorem dL_take_20 : decode cL_take 20 = .ok (.ireturn, 1) := by decide +kernel
theorem dL_take_21 : decode cL_take 21 = .ok (.iconst 0, 1) := by decide +kernel
theorem dL_take_22 : decode cL_take 22 = .ok (.ireturn, 1) := by decide +kernel
set_option maxRecDepth 20000 in
theorem ggL_takeDaily_X1_takeDaily : GoodIn wsL_takeDaily wsX1_takeDaily := goodIn_ca (goodIn_ca (goodIn_r _ [7, 8, 9, 10, 11, 6, 12, 13, 14, 15, 16, 17, 18, 19, 20, 21, 22, 23, 24, 25, 26, 27, 28, 29, 30, 31, 32, 33, 34, 35, 36, 37, 38, 39, 40, 41, 42, 43, 44, 45, 46, 47, 48, 49, 50, 51, 52] (by decide +kernel) (by decide +kernel)) (goodIn_sub (fun _ h => List.mem_cons_of_mem _ (List.mem_append_left _ (List.mem_append_right _ h))) (by decide +kernel))) (goodIn_sub (fun _ h => List.mem_cons_of_mem _ (List.mem_append_right _ h)) (by decide +kernel))
set_option maxRecDepth 20000 in
theorem gL_takeDaily_X1_takeDaily : GoodIn wsL_takeDaily (wsV RL 27 RX1 yX1_takeDaily wsX1_takeDaily) := goodIn_app (goodIn_of _ (by decide +kernel)) ggL_takeDaily_X1_takeDaily
theorem dL_takeDaily_0 : decode cL_takeDaily 0 = .ok (.aload 4, 2) := by decide +kernel
theorem dL_takeDaily_2 : decode cL_takeDaily 2 = .ok (.iconst 0, 1) := by decide +kernel
theorem dL_takeDaily_3 : decode cL_takeDaily 3 = .ok (.aload_n 0, 1) := by decide +kernel
theorem dL_takeDaily_4 : decode cL_takeDaily 4 = .ok (.iload_n 1, 1) := by decide +kernel
theorem dL_takeDaily_5 : decode cL_takeDaily 5 = .ok (.iload_n 2, 1) := by decide +kernel
theorem dL_takeDaily_6 : decode cL_takeDaily 6 = .ok (.iload_n 3, 1) := by decide +kernel
theorem dL_takeDaily_7 : decode cL_takeDaily 7 = .ok (.invokevirtual 27, 3) := by decide +kernel
theorem dL_takeDaily_10 : decode cL_takeDaily 10 = .ok (.i2l, 1) := by decide +kernel
theorem dL_takeDaily_11 : decode cL_takeDaily 11 = .ok (.lastore, 1) := by decide +kernel
theorem dL_takeDaily_12 : decode cL_takeDaily 12 = .ok (.goto 11, 3) := by decide +kernel
theorem dL_takeDaily_15 : decode cL_takeDaily 15 = .ok (.astore 5, 2) := by decide +kernel
theorem dL_takeDaily_17 : decode cL_takeDaily 17 = .ok (.iconst 1, 1) := by decide +kernel
theorem dL_takeDaily_18 : decode cL_takeDaily 18 = .ok (.ireturn, 1) := by decide +kernel
theorem dL_takeDaily_19 : decode cL_takeDaily 19 = .ok (.astore 5, 2) := by decide +kernel
theorem dL_takeDaily_21 : decode cL_takeDaily 21 = .ok (.iconst 2, 1) := by decide +kernel
theorem dL_takeDaily_22 : decode cL_takeDaily 22 = .ok (.ireturn, 1) := by decide +kernel
theorem dL_takeDaily_23 : decode cL_takeDaily 23 = .ok (.iconst 0, 1) := by decide +kernel
theorem dL_takeDaily_24 : decode cL_takeDaily 24 = .ok (.ireturn, 1) := by decide +kernel
set_option maxRecDepth 20000 in
theorem ggL_close_X1_close : GoodIn wsL_close wsX1_close := goodIn_ca (goodIn_r _ [6, 7, 8, 9, 10, 11, 12, 13, 5, 14, 15, 16, 17, 18, 19, 20, 21, 22, 23, 24, 25, 26, 27, 28, 29, 30, 31, 32, 33, 34, 35, 36, 37, 38, 39, 40, 41, 42, 43, 44, 45, 46, 47, 48, 49, 50, 51, 52, 53, 54, 55, 56, 57, 58, 59, 60, 61, 62, 63, 64, 65, 66, 67, 68, 69, 70, 71, 72, 73, 74, 75, 76, 77, 78, 79, 80, 81, 82, 83, 84, 85, 86, 87, 88, 89, 90, 91, 92, 93, 94, 95, 96, 97, 98, 99, 100, 101, 102, 103, 104, 105, 106, 107, 108, 109, 110] (by decide +kernel) (by decide +kernel)) (goodIn_sub (fun _ h => List.mem_cons_of_mem _ (List.mem_append_right _ h)) (by decide +kernel))
set_option maxRecDepth 20000 in
theorem gL_close_X1_close : GoodIn wsL_close (wsV RL 31 RX1 yX1_close wsX1_close) := goodIn_app (goodIn_of _ (by decide +kernel)) ggL_close_X1_close
theorem dL_close_0 : decode cL_close 0 = .ok (.aload_n 1, 1) := by decide +kernel
theorem dL_close_1 : decode cL_close 1 = .ok (.iconst 0, 1) := by decide +kernel
theorem dL_close_2 : decode cL_close 2 = .ok (.aload_n 0, 1) := by decide +kernel
theorem dL_close_3 : decode cL_close 3 = .ok (.invokevirtual 31, 3) := by decide +kernel
theorem dL_close_6 : decode cL_close 6 = .ok (.lastore, 1) := by decide +kernel
theorem dL_close_7 : decode cL_close 7 = .ok (.goto 6, 3) := by decide +kernel
theorem dL_close_10 : decode cL_close 10 = .ok (.astore_n 2, 1) := by decide +kernel
theorem dL_close_11 : decode cL_close 11 = .ok (.iconst 1, 1) := by decide +kernel
theorem dL_close_12 : decode cL_close 12 = .ok (.ireturn, 1) := by decide +kernel
theorem dL_close_13 : decode cL_close 13 = .ok (.iconst 0, 1) := by decide +kernel
theorem dL_close_14 : decode cL_close 14 = .ok (.ireturn, 1) := by decide +kernel
set_option maxRecDepth 20000 in
theorem ggL_taken_X1_taken : GoodIn wsL_taken wsX1_taken := goodIn_ca (goodIn_r _ [6, 7, 8, 9, 5, 10, 11, 12, 13, 14, 15, 16, 17, 18, 19, 20, 21, 22, 23, 24, 25, 26, 27, 28, 29, 30, 31, 32] (by decide +kernel) (by decide +kernel)) (goodIn_sub (fun _ h => List.mem_cons_of_mem _ (List.mem_append_right _ h)) (by decide +kernel))
set_option maxRecDepth 20000 in
theorem gL_taken_X1_taken : GoodIn wsL_taken (wsV RL 35 RX1 yX1_taken wsX1_taken) := goodIn_app (goodIn_of _ (by decide +kernel)) ggL_taken_X1_taken
theorem dL_taken_0 : decode cL_taken 0 = .ok (.aload_n 2, 1) := by decide +kernel
theorem dL_taken_1 : decode cL_taken 1 = .ok (.iconst 0, 1) := by decide +kernel
theorem dL_taken_2 : decode cL_taken 2 = .ok (.aload_n 0, 1) := by decide +kernel
theorem dL_taken_3 : decode cL_taken 3 = .ok (.iload_n 1, 1) := by decide +kernel
theorem dL_taken_4 : decode cL_taken 4 = .ok (.invokevirtual 35, 3) := by decide +kernel
theorem dL_taken_7 : decode cL_taken 7 = .ok (.i2l, 1) := by decide +kernel
theorem dL_taken_8 : decode cL_taken 8 = .ok (.lastore, 1) := by decide +kernel
theorem dL_taken_9 : decode cL_taken 9 = .ok (.goto 6, 3) := by decide +kernel
theorem dL_taken_12 : decode cL_taken 12 = .ok (.astore_n 3, 1) := by decide +kernel
theorem dL_taken_13 : decode cL_taken 13 = .ok (.iconst 1, 1) := by decide +kernel
theorem dL_taken_14 : decode cL_taken 14 = .ok (.ireturn, 1) := by decide +kernel
theorem dL_taken_15 : decode cL_taken 15 = .ok (.iconst 0, 1) := by decide +kernel
theorem dL_taken_16 : decode cL_taken 16 = .ok (.ireturn, 1) := by decide +kernel
set_option maxRecDepth 20000 in
theorem ggL_takenFrom_X1_takenFrom : GoodIn wsL_takenFrom wsX1_takenFrom := goodIn_ca (goodIn_r _ [6, 7, 8, 9, 5, 10, 11, 12, 13, 14, 15, 16, 17, 18, 19, 20, 21, 22, 23, 24, 25, 26, 27, 28, 29, 30, 31, 32, 33, 34, 35] (by decide +kernel) (by decide +kernel)) (goodIn_sub (fun _ h => List.mem_cons_of_mem _ (List.mem_append_right _ h)) (by decide +kernel))
set_option maxRecDepth 20000 in
theorem gL_takenFrom_X1_takenFrom : GoodIn wsL_takenFrom (wsV RL 39 RX1 yX1_takenFrom wsX1_takenFrom) := goodIn_app (goodIn_of _ (by decide +kernel)) ggL_takenFrom_X1_takenFrom
theorem dL_takenFrom_0 : decode cL_takenFrom 0 = .ok (.aload_n 3, 1) := by decide +kernel
theorem dL_takenFrom_1 : decode cL_takenFrom 1 = .ok (.iconst 0, 1) := by decide +kernel
theorem dL_takenFrom_2 : decode cL_takenFrom 2 = .ok (.aload_n 0, 1) := by decide +kernel
theorem dL_takenFrom_3 : decode cL_takenFrom 3 = .ok (.iload_n 1, 1) := by decide +kernel
theorem dL_takenFrom_4 : decode cL_takenFrom 4 = .ok (.iload_n 2, 1) := by decide +kernel
theorem dL_takenFrom_5 : decode cL_takenFrom 5 = .ok (.invokevirtual 39, 3) := by decide +kernel
theorem dL_takenFrom_8 : decode cL_takenFrom 8 = .ok (.i2l, 1) := by decide +kernel
theorem dL_takenFrom_9 : decode cL_takenFrom 9 = .ok (.lastore, 1) := by decide +kernel
theorem dL_takenFrom_10 : decode cL_takenFrom 10 = .ok (.goto 7, 3) := by decide +kernel
theorem dL_takenFrom_13 : decode cL_takenFrom 13 = .ok (.astore 4, 2) := by decide +kernel
theorem dL_takenFrom_15 : decode cL_takenFrom 15 = .ok (.iconst 1, 1) := by decide +kernel
theorem dL_takenFrom_16 : decode cL_takenFrom 16 = .ok (.ireturn, 1) := by decide +kernel
theorem dL_takenFrom_17 : decode cL_takenFrom 17 = .ok (.iconst 0, 1) := by decide +kernel
theorem dL_takenFrom_18 : decode cL_takenFrom 18 = .ok (.ireturn, 1) := by decide +kernel
set_option maxRecDepth 20000 in
theorem ggL_price_X1_price : GoodIn wsL_price wsX1_price := goodIn_ca (goodIn_r _ [6, 7, 8, 9, 5, 10, 11, 12, 13, 14, 15, 16, 17, 18, 19, 20, 21, 22, 23, 24, 25, 26, 27, 28, 29, 30, 31, 32] (by decide +kernel) (by decide +kernel)) (goodIn_sub (fun _ h => List.mem_cons_of_mem _ (List.mem_append_right _ h)) (by decide +kernel))
set_option maxRecDepth 20000 in
theorem gL_price_X1_price : GoodIn wsL_price (wsV RL 42 RX1 yX1_price wsX1_price) := goodIn_app (goodIn_of _ (by decide +kernel)) ggL_price_X1_price
theorem dL_price_0 : decode cL_price 0 = .ok (.aload_n 2, 1) := by decide +kernel
theorem dL_price_1 : decode cL_price 1 = .ok (.iconst 0, 1) := by decide +kernel
theorem dL_price_2 : decode cL_price 2 = .ok (.aload_n 0, 1) := by decide +kernel
theorem dL_price_3 : decode cL_price 3 = .ok (.iload_n 1, 1) := by decide +kernel
theorem dL_price_4 : decode cL_price 4 = .ok (.invokevirtual 42, 3) := by decide +kernel
theorem dL_price_7 : decode cL_price 7 = .ok (.i2l, 1) := by decide +kernel
theorem dL_price_8 : decode cL_price 8 = .ok (.lastore, 1) := by decide +kernel
theorem dL_price_9 : decode cL_price 9 = .ok (.goto 6, 3) := by decide +kernel
theorem dL_price_12 : decode cL_price 12 = .ok (.astore_n 3, 1) := by decide +kernel
theorem dL_price_13 : decode cL_price 13 = .ok (.iconst 1, 1) := by decide +kernel
theorem dL_price_14 : decode cL_price 14 = .ok (.ireturn, 1) := by decide +kernel
theorem dL_price_15 : decode cL_price 15 = .ok (.iconst 0, 1) := by decide +kernel
theorem dL_price_16 : decode cL_price 16 = .ok (.ireturn, 1) := by decide +kernel
set_option maxRecDepth 20000 in
theorem ggL_least_X1_least : GoodIn wsL_least wsX1_least := goodIn_ca (goodIn_r _ [6, 7, 8, 5, 9, 10, 11, 12, 13, 14, 15, 16, 17, 18, 19, 20, 21, 22, 23, 24, 25, 26, 27, 28, 29, 30, 31, 32, 33, 34, 35, 36, 37, 38, 39] (by decide +kernel) (by decide +kernel)) (goodIn_sub (fun _ h => List.mem_cons_of_mem _ (List.mem_append_right _ h)) (by decide +kernel))
set_option maxRecDepth 20000 in
theorem gL_least_X1_least : GoodIn wsL_least (wsV RL 45 RX1 yX1_least wsX1_least) := goodIn_app (goodIn_of _ (by decide +kernel)) ggL_least_X1_least
theorem dL_least_0 : decode cL_least 0 = .ok (.aload_n 2, 1) := by decide +kernel
theorem dL_least_1 : decode cL_least 1 = .ok (.iconst 0, 1) := by decide +kernel
theorem dL_least_2 : decode cL_least 2 = .ok (.aload_n 0, 1) := by decide +kernel
theorem dL_least_3 : decode cL_least 3 = .ok (.iload_n 1, 1) := by decide +kernel
theorem dL_least_4 : decode cL_least 4 = .ok (.invokevirtual 45, 3) := by decide +kernel
theorem dL_least_7 : decode cL_least 7 = .ok (.i2l, 1) := by decide +kernel
theorem dL_least_8 : decode cL_least 8 = .ok (.lastore, 1) := by decide +kernel
theorem dL_least_9 : decode cL_least 9 = .ok (.goto 6, 3) := by decide +kernel
theorem dL_least_12 : decode cL_least 12 = .ok (.astore_n 3, 1) := by decide +kernel
theorem dL_least_13 : decode cL_least 13 = .ok (.iconst 1, 1) := by decide +kernel
theorem dL_least_14 : decode cL_least 14 = .ok (.ireturn, 1) := by decide +kernel
theorem dL_least_15 : decode cL_least 15 = .ok (.iconst 0, 1) := by decide +kernel
theorem dL_least_16 : decode cL_least 16 = .ok (.ireturn, 1) := by decide +kernel
set_option maxRecDepth 20000 in
theorem ggL_shortfall_X1_shortfall : GoodIn wsL_shortfall wsX1_shortfall := goodIn_ca (goodIn_ca (goodIn_r _ [7, 8, 9, 10, 11, 6, 12, 13, 14, 15, 16, 17, 18, 19, 20, 21, 22, 23, 24, 25, 26, 27, 28, 29, 30, 31, 32, 33, 34, 35, 36, 37, 38, 39, 40] (by decide +kernel) (by decide +kernel)) (goodIn_sub (fun _ h => List.mem_cons_of_mem _ (List.mem_append_left _ (List.mem_append_right _ h))) (by decide +kernel))) (goodIn_sub (fun _ h => List.mem_cons_of_mem _ (List.mem_append_right _ h)) (by decide +kernel))
set_option maxRecDepth 20000 in
theorem gL_shortfall_X1_shortfall : GoodIn wsL_shortfall (wsV RL 48 RX1 yX1_shortfall wsX1_shortfall) := goodIn_app (goodIn_of _ (by decide +kernel)) ggL_shortfall_X1_shortfall
theorem dL_shortfall_0 : decode cL_shortfall 0 = .ok (.aload_n 2, 1) := by decide +kernel
theorem dL_shortfall_1 : decode cL_shortfall 1 = .ok (.iconst 0, 1) := by decide +kernel
theorem dL_shortfall_2 : decode cL_shortfall 2 = .ok (.aload_n 0, 1) := by decide +kernel
theorem dL_shortfall_3 : decode cL_shortfall 3 = .ok (.iload_n 1, 1) := by decide +kernel
theorem dL_shortfall_4 : decode cL_shortfall 4 = .ok (.invokevirtual 48, 3) := by decide +kernel
theorem dL_shortfall_7 : decode cL_shortfall 7 = .ok (.i2l, 1) := by decide +kernel
theorem dL_shortfall_8 : decode cL_shortfall 8 = .ok (.lastore, 1) := by decide +kernel
theorem dL_shortfall_9 : decode cL_shortfall 9 = .ok (.goto 9, 3) := by decide +kernel
theorem dL_shortfall_12 : decode cL_shortfall 12 = .ok (.astore_n 3, 1) := by decide +kernel
theorem dL_shortfall_13 : decode cL_shortfall 13 = .ok (.iconst 1, 1) := by decide +kernel
theorem dL_shortfall_14 : decode cL_shortfall 14 = .ok (.ireturn, 1) := by decide +kernel
theorem dL_shortfall_15 : decode cL_shortfall 15 = .ok (.astore_n 3, 1) := by decide +kernel
theorem dL_shortfall_16 : decode cL_shortfall 16 = .ok (.iconst 2, 1) := by decide +kernel
theorem dL_shortfall_17 : decode cL_shortfall 17 = .ok (.ireturn, 1) := by decide +kernel
theorem dL_shortfall_18 : decode cL_shortfall 18 = .ok (.iconst 0, 1) := by decide +kernel
theorem dL_shortfall_19 : decode cL_shortfall 19 = .ok (.ireturn, 1) := by decide +kernel
set_option maxRecDepth 20000 in
theorem ggL_madeUp_X1_madeUp : GoodIn wsL_madeUp wsX1_madeUp := goodIn_ca (goodIn_ca (goodIn_r _ [7, 8, 9, 10, 11, 6, 12, 13, 14, 15, 16, 17, 18, 19, 20, 21, 22, 23, 24, 25, 26, 27, 28, 29, 30, 31, 32, 33, 34, 35, 36, 37, 38, 39, 40] (by decide +kernel) (by decide +kernel)) (goodIn_sub (fun _ h => List.mem_cons_of_mem _ (List.mem_append_left _ (List.mem_append_right _ h))) (by decide +kernel))) (goodIn_sub (fun _ h => List.mem_cons_of_mem _ (List.mem_append_right _ h)) (by decide +kernel))
set_option maxRecDepth 20000 in
theorem gL_madeUp_X1_madeUp : GoodIn wsL_madeUp (wsV RL 51 RX1 yX1_madeUp wsX1_madeUp) := goodIn_app (goodIn_of _ (by decide +kernel)) ggL_madeUp_X1_madeUp
theorem dL_madeUp_0 : decode cL_madeUp 0 = .ok (.aload_n 2, 1) := by decide +kernel
theorem dL_madeUp_1 : decode cL_madeUp 1 = .ok (.iconst 0, 1) := by decide +kernel
theorem dL_madeUp_2 : decode cL_madeUp 2 = .ok (.aload_n 0, 1) := by decide +kernel
theorem dL_madeUp_3 : decode cL_madeUp 3 = .ok (.iload_n 1, 1) := by decide +kernel
theorem dL_madeUp_4 : decode cL_madeUp 4 = .ok (.invokevirtual 51, 3) := by decide +kernel
theorem dL_madeUp_7 : decode cL_madeUp 7 = .ok (.i2l, 1) := by decide +kernel
theorem dL_madeUp_8 : decode cL_madeUp 8 = .ok (.lastore, 1) := by decide +kernel
theorem dL_madeUp_9 : decode cL_madeUp 9 = .ok (.goto 9, 3) := by decide +kernel
theorem dL_madeUp_12 : decode cL_madeUp 12 = .ok (.astore_n 3, 1) := by decide +kernel
theorem dL_madeUp_13 : decode cL_madeUp 13 = .ok (.iconst 1, 1) := by decide +kernel
theorem dL_madeUp_14 : decode cL_madeUp 14 = .ok (.ireturn, 1) := by decide +kernel
theorem dL_madeUp_15 : decode cL_madeUp 15 = .ok (.astore_n 3, 1) := by decide +kernel
theorem dL_madeUp_16 : decode cL_madeUp 16 = .ok (.iconst 2, 1) := by decide +kernel
theorem dL_madeUp_17 : decode cL_madeUp 17 = .ok (.ireturn, 1) := by decide +kernel
theorem dL_madeUp_18 : decode cL_madeUp 18 = .ok (.iconst 0, 1) := by decide +kernel
theorem dL_madeUp_19 : decode cL_madeUp 19 = .ok (.ireturn, 1) := by decide +kernel
set_option maxRecDepth 20000 in
theorem ggL_covered_X1_covered : GoodIn wsL_covered wsX1_covered := goodIn_ca (goodIn_ca (goodIn_r _ [7, 8, 9, 10, 11, 6, 12, 13, 14, 15, 16, 17, 18, 19, 20, 21, 22, 23, 24, 25, 26, 27, 28, 29, 30, 31, 32, 33, 34, 35, 36, 37, 38, 39, 40] (by decide +kernel) (by decide +kernel)) (goodIn_sub (fun _ h => List.mem_cons_of_mem _ (List.mem_append_left _ (List.mem_append_right _ h))) (by decide +kernel))) (goodIn_sub (fun _ h => List.mem_cons_of_mem _ (List.mem_append_right _ h)) (by decide +kernel))
set_option maxRecDepth 20000 in
theorem gL_covered_X1_covered : GoodIn wsL_covered (wsV RL 54 RX1 yX1_covered wsX1_covered) := goodIn_app (goodIn_of _ (by decide +kernel)) ggL_covered_X1_covered
theorem dL_covered_0 : decode cL_covered 0 = .ok (.aload_n 2, 1) := by decide +kernel
theorem dL_covered_1 : decode cL_covered 1 = .ok (.iconst 0, 1) := by decide +kernel
theorem dL_covered_2 : decode cL_covered 2 = .ok (.aload_n 0, 1) := by decide +kernel
theorem dL_covered_3 : decode cL_covered 3 = .ok (.iload_n 1, 1) := by decide +kernel
theorem dL_covered_4 : decode cL_covered 4 = .ok (.invokevirtual 54, 3) := by decide +kernel
theorem dL_covered_7 : decode cL_covered 7 = .ok (.i2l, 1) := by decide +kernel
theorem dL_covered_8 : decode cL_covered 8 = .ok (.lastore, 1) := by decide +kernel
theorem dL_covered_9 : decode cL_covered 9 = .ok (.goto 9, 3) := by decide +kernel
theorem dL_covered_12 : decode cL_covered 12 = .ok (.astore_n 3, 1) := by decide +kernel
theorem dL_covered_13 : decode cL_covered 13 = .ok (.iconst 1, 1) := by decide +kernel
theorem dL_covered_14 : decode cL_covered 14 = .ok (.ireturn, 1) := by decide +kernel
theorem dL_covered_15 : decode cL_covered 15 = .ok (.astore_n 3, 1) := by decide +kernel
theorem dL_covered_16 : decode cL_covered 16 = .ok (.iconst 2, 1) := by decide +kernel
theorem dL_covered_17 : decode cL_covered 17 = .ok (.ireturn, 1) := by decide +kernel
theorem dL_covered_18 : decode cL_covered 18 = .ok (.iconst 0, 1) := by decide +kernel
theorem dL_covered_19 : decode cL_covered 19 = .ok (.ireturn, 1) := by decide +kernel
set_option maxRecDepth 20000 in
theorem ggL_surplus_X1_surplus : GoodIn wsL_surplus wsX1_surplus := goodIn_ca (goodIn_ca (goodIn_r _ [7, 8, 9, 10, 11, 6, 12, 13, 14, 15, 16, 17, 18, 19, 20, 21, 22, 23, 24, 25, 26, 27, 28, 29, 30, 31, 32, 33, 34, 35, 36, 37, 38, 39, 40] (by decide +kernel) (by decide +kernel)) (goodIn_sub (fun _ h => List.mem_cons_of_mem _ (List.mem_append_left _ (List.mem_append_right _ h))) (by decide +kernel))) (goodIn_sub (fun _ h => List.mem_cons_of_mem _ (List.mem_append_right _ h)) (by decide +kernel))
set_option maxRecDepth 20000 in
theorem gL_surplus_X1_surplus : GoodIn wsL_surplus (wsV RL 57 RX1 yX1_surplus wsX1_surplus) := goodIn_app (goodIn_of _ (by decide +kernel)) ggL_surplus_X1_surplus
theorem dL_surplus_0 : decode cL_surplus 0 = .ok (.aload_n 2, 1) := by decide +kernel
theorem dL_surplus_1 : decode cL_surplus 1 = .ok (.iconst 0, 1) := by decide +kernel
theorem dL_surplus_2 : decode cL_surplus 2 = .ok (.aload_n 0, 1) := by decide +kernel
theorem dL_surplus_3 : decode cL_surplus 3 = .ok (.iload_n 1, 1) := by decide +kernel
theorem dL_surplus_4 : decode cL_surplus 4 = .ok (.invokevirtual 57, 3) := by decide +kernel
theorem dL_surplus_7 : decode cL_surplus 7 = .ok (.i2l, 1) := by decide +kernel
theorem dL_surplus_8 : decode cL_surplus 8 = .ok (.lastore, 1) := by decide +kernel
theorem dL_surplus_9 : decode cL_surplus 9 = .ok (.goto 9, 3) := by decide +kernel
theorem dL_surplus_12 : decode cL_surplus 12 = .ok (.astore_n 3, 1) := by decide +kernel
theorem dL_surplus_13 : decode cL_surplus 13 = .ok (.iconst 1, 1) := by decide +kernel
theorem dL_surplus_14 : decode cL_surplus 14 = .ok (.ireturn, 1) := by decide +kernel
theorem dL_surplus_15 : decode cL_surplus 15 = .ok (.astore_n 3, 1) := by decide +kernel
theorem dL_surplus_16 : decode cL_surplus 16 = .ok (.iconst 2, 1) := by decide +kernel
theorem dL_surplus_17 : decode cL_surplus 17 = .ok (.ireturn, 1) := by decide +kernel
theorem dL_surplus_18 : decode cL_surplus 18 = .ok (.iconst 0, 1) := by decide +kernel
theorem dL_surplus_19 : decode cL_surplus 19 = .ok (.ireturn, 1) := by decide +kernel
set_option maxRecDepth 20000 in
theorem ggL_due_X1_due : GoodIn wsL_due wsX1_due := goodIn_ca (goodIn_ca (goodIn_r _ [7, 8, 9, 10, 11, 6, 12, 13, 14, 15, 16, 17, 18, 19, 20, 21, 22, 23, 24, 25, 26, 27, 28, 29, 30, 31, 32, 33, 34, 35, 36, 37, 38, 39, 40] (by decide +kernel) (by decide +kernel)) (goodIn_sub (fun _ h => List.mem_cons_of_mem _ (List.mem_append_left _ (List.mem_append_right _ h))) (by decide +kernel))) (goodIn_sub (fun _ h => List.mem_cons_of_mem _ (List.mem_append_right _ h)) (by decide +kernel))
set_option maxRecDepth 20000 in
theorem gL_due_X1_due : GoodIn wsL_due (wsV RL 60 RX1 yX1_due wsX1_due) := goodIn_app (goodIn_of _ (by decide +kernel)) ggL_due_X1_due
theorem dL_due_0 : decode cL_due 0 = .ok (.aload_n 2, 1) := by decide +kernel
theorem dL_due_1 : decode cL_due 1 = .ok (.iconst 0, 1) := by decide +kernel
theorem dL_due_2 : decode cL_due 2 = .ok (.aload_n 0, 1) := by decide +kernel
theorem dL_due_3 : decode cL_due 3 = .ok (.iload_n 1, 1) := by decide +kernel
theorem dL_due_4 : decode cL_due 4 = .ok (.invokevirtual 60, 3) := by decide +kernel
theorem dL_due_7 : decode cL_due 7 = .ok (.lastore, 1) := by decide +kernel
theorem dL_due_8 : decode cL_due 8 = .ok (.goto 9, 3) := by decide +kernel
theorem dL_due_11 : decode cL_due 11 = .ok (.astore_n 3, 1) := by decide +kernel
theorem dL_due_12 : decode cL_due 12 = .ok (.iconst 1, 1) := by decide +kernel
theorem dL_due_13 : decode cL_due 13 = .ok (.ireturn, 1) := by decide +kernel
theorem dL_due_14 : decode cL_due 14 = .ok (.astore_n 3, 1) := by decide +kernel
theorem dL_due_15 : decode cL_due 15 = .ok (.iconst 2, 1) := by decide +kernel
theorem dL_due_16 : decode cL_due 16 = .ok (.ireturn, 1) := by decide +kernel
theorem dL_due_17 : decode cL_due 17 = .ok (.iconst 0, 1) := by decide +kernel
theorem dL_due_18 : decode cL_due 18 = .ok (.ireturn, 1) := by decide +kernel
set_option maxRecDepth 20000 in
theorem ggL_bill_X1_bill : GoodIn wsL_bill wsX1_bill := goodIn_ca (goodIn_ca (goodIn_r _ [7, 8, 9, 10, 11, 6, 12, 13, 14, 15, 16, 17, 18, 19, 20, 21, 22, 23, 24, 25, 26, 27, 28, 29, 30, 31, 32, 33, 34, 35, 36, 37, 38, 39, 40] (by decide +kernel) (by decide +kernel)) (goodIn_sub (fun _ h => List.mem_cons_of_mem _ (List.mem_append_left _ (List.mem_append_right _ h))) (by decide +kernel))) (goodIn_sub (fun _ h => List.mem_cons_of_mem _ (List.mem_append_right _ h)) (by decide +kernel))
set_option maxRecDepth 20000 in
theorem gL_bill_X1_bill : GoodIn wsL_bill (wsV RL 64 RX1 yX1_bill wsX1_bill) := goodIn_app (goodIn_of _ (by decide +kernel)) ggL_bill_X1_bill
theorem dL_bill_0 : decode cL_bill 0 = .ok (.aload_n 2, 1) := by decide +kernel
theorem dL_bill_1 : decode cL_bill 1 = .ok (.iconst 0, 1) := by decide +kernel
theorem dL_bill_2 : decode cL_bill 2 = .ok (.aload_n 0, 1) := by decide +kernel
theorem dL_bill_3 : decode cL_bill 3 = .ok (.iload_n 1, 1) := by decide +kernel
theorem dL_bill_4 : decode cL_bill 4 = .ok (.invokevirtual 64, 3) := by decide +kernel
theorem dL_bill_7 : decode cL_bill 7 = .ok (.lastore, 1) := by decide +kernel
theorem dL_bill_8 : decode cL_bill 8 = .ok (.goto 9, 3) := by decide +kernel
theorem dL_bill_11 : decode cL_bill 11 = .ok (.astore_n 3, 1) := by decide +kernel
theorem dL_bill_12 : decode cL_bill 12 = .ok (.iconst 1, 1) := by decide +kernel
theorem dL_bill_13 : decode cL_bill 13 = .ok (.ireturn, 1) := by decide +kernel
theorem dL_bill_14 : decode cL_bill 14 = .ok (.astore_n 3, 1) := by decide +kernel
theorem dL_bill_15 : decode cL_bill 15 = .ok (.iconst 2, 1) := by decide +kernel
theorem dL_bill_16 : decode cL_bill 16 = .ok (.ireturn, 1) := by decide +kernel
theorem dL_bill_17 : decode cL_bill 17 = .ok (.iconst 0, 1) := by decide +kernel
theorem dL_bill_18 : decode cL_bill 18 = .ok (.ireturn, 1) := by decide +kernel
set_option maxRecDepth 20000 in
theorem ggL_makeUpLeft_X1_makeUpLeft : GoodIn wsL_makeUpLeft wsX1_makeUpLeft := goodIn_ca (goodIn_ca (goodIn_r _ [7, 8, 9, 10, 11, 6, 12, 13, 14, 15, 16, 17, 18, 19, 20, 21, 22, 23, 24, 25, 26, 27, 28, 29, 30, 31, 32, 33, 34, 35, 36, 37, 38, 39, 40, 41, 42, 43, 44, 45, 46, 47, 48, 49] (by decide +kernel) (by decide +kernel)) (goodIn_sub (fun _ h => List.mem_cons_of_mem _ (List.mem_append_left _ (List.mem_append_right _ h))) (by decide +kernel))) (goodIn_sub (fun _ h => List.mem_cons_of_mem _ (List.mem_append_right _ h)) (by decide +kernel))
set_option maxRecDepth 20000 in
theorem gL_makeUpLeft_X1_makeUpLeft : GoodIn wsL_makeUpLeft (wsV RL 67 RX1 yX1_makeUpLeft wsX1_makeUpLeft) := goodIn_app (goodIn_of _ (by decide +kernel)) ggL_makeUpLeft_X1_makeUpLeft
theorem dL_makeUpLeft_0 : decode cL_makeUpLeft 0 = .ok (.aload_n 2, 1) := by decide +kernel
theorem dL_makeUpLeft_1 : decode cL_makeUpLeft 1 = .ok (.iconst 0, 1) := by decide +kernel
theorem dL_makeUpLeft_2 : decode cL_makeUpLeft 2 = .ok (.aload_n 0, 1) := by decide +kernel
theorem dL_makeUpLeft_3 : decode cL_makeUpLeft 3 = .ok (.iload_n 1, 1) := by decide +kernel
theorem dL_makeUpLeft_4 : decode cL_makeUpLeft 4 = .ok (.invokevirtual 67, 3) := by decide +kernel
theorem dL_makeUpLeft_7 : decode cL_makeUpLeft 7 = .ok (.i2l, 1) := by decide +kernel
theorem dL_makeUpLeft_8 : decode cL_makeUpLeft 8 = .ok (.lastore, 1) := by decide +kernel
theorem dL_makeUpLeft_9 : decode cL_makeUpLeft 9 = .ok (.goto 9, 3) := by decide +kernel
theorem dL_makeUpLeft_12 : decode cL_makeUpLeft 12 = .ok (.astore_n 3, 1) := by decide +kernel
theorem dL_makeUpLeft_13 : decode cL_makeUpLeft 13 = .ok (.iconst 1, 1) := by decide +kernel
theorem dL_makeUpLeft_14 : decode cL_makeUpLeft 14 = .ok (.ireturn, 1) := by decide +kernel
theorem dL_makeUpLeft_15 : decode cL_makeUpLeft 15 = .ok (.astore_n 3, 1) := by decide +kernel
theorem dL_makeUpLeft_16 : decode cL_makeUpLeft 16 = .ok (.iconst 2, 1) := by decide +kernel
theorem dL_makeUpLeft_17 : decode cL_makeUpLeft 17 = .ok (.ireturn, 1) := by decide +kernel
theorem dL_makeUpLeft_18 : decode cL_makeUpLeft 18 = .ok (.iconst 0, 1) := by decide +kernel
theorem dL_makeUpLeft_19 : decode cL_makeUpLeft 19 = .ok (.ireturn, 1) := by decide +kernel
set_option maxRecDepth 20000 in
theorem ggL_surplusLeft_X1_surplusLeft : GoodIn wsL_surplusLeft wsX1_surplusLeft := goodIn_ca (goodIn_ca (goodIn_r _ [7, 8, 9, 10, 11, 6, 12, 13, 14, 15, 16, 17, 18, 19, 20, 21, 22, 23, 24, 25, 26, 27, 28, 29, 30, 31, 32, 33, 34, 35, 36, 37, 38, 39, 40, 41, 42, 43, 44, 45, 46, 47, 48, 49] (by decide +kernel) (by decide +kernel)) (goodIn_sub (fun _ h => List.mem_cons_of_mem _ (List.mem_append_left _ (List.mem_append_right _ h))) (by decide +kernel))) (goodIn_sub (fun _ h => List.mem_cons_of_mem _ (List.mem_append_right _ h)) (by decide +kernel))
set_option maxRecDepth 20000 in
theorem gL_surplusLeft_X1_surplusLeft : GoodIn wsL_surplusLeft (wsV RL 70 RX1 yX1_surplusLeft wsX1_surplusLeft) := goodIn_app (goodIn_of _ (by decide +kernel)) ggL_surplusLeft_X1_surplusLeft
theorem dL_surplusLeft_0 : decode cL_surplusLeft 0 = .ok (.aload_n 2, 1) := by decide +kernel
theorem dL_surplusLeft_1 : decode cL_surplusLeft 1 = .ok (.iconst 0, 1) := by decide +kernel
theorem dL_surplusLeft_2 : decode cL_surplusLeft 2 = .ok (.aload_n 0, 1) := by decide +kernel
theorem dL_surplusLeft_3 : decode cL_surplusLeft 3 = .ok (.iload_n 1, 1) := by decide +kernel
theorem dL_surplusLeft_4 : decode cL_surplusLeft 4 = .ok (.invokevirtual 70, 3) := by decide +kernel
theorem dL_surplusLeft_7 : decode cL_surplusLeft 7 = .ok (.i2l, 1) := by decide +kernel
theorem dL_surplusLeft_8 : decode cL_surplusLeft 8 = .ok (.lastore, 1) := by decide +kernel
theorem dL_surplusLeft_9 : decode cL_surplusLeft 9 = .ok (.goto 9, 3) := by decide +kernel
theorem dL_surplusLeft_12 : decode cL_surplusLeft 12 = .ok (.astore_n 3, 1) := by decide +kernel
theorem dL_surplusLeft_13 : decode cL_surplusLeft 13 = .ok (.iconst 1, 1) := by decide +kernel
theorem dL_surplusLeft_14 : decode cL_surplusLeft 14 = .ok (.ireturn, 1) := by decide +kernel
theorem dL_surplusLeft_15 : decode cL_surplusLeft 15 = .ok (.astore_n 3, 1) := by decide +kernel
theorem dL_surplusLeft_16 : decode cL_surplusLeft 16 = .ok (.iconst 2, 1) := by decide +kernel
theorem dL_surplusLeft_17 : decode cL_surplusLeft 17 = .ok (.ireturn, 1) := by decide +kernel
theorem dL_surplusLeft_18 : decode cL_surplusLeft 18 = .ok (.iconst 0, 1) := by decide +kernel
theorem dL_surplusLeft_19 : decode cL_surplusLeft 19 = .ok (.ireturn, 1) := by decide +kernel
set_option maxRecDepth 20000 in
theorem ggL_law_X1_init : GoodIn wsL_law wsX1_init := goodIn_r _ [9, 10, 11, 12, 13, 14, 15, 16, 17, 18, 19, 20, 21, 22, 23, 24, 25, 26, 27, 28, 29, 30, 6, 31, 32, 33, 34, 35, 36, 37, 38, 39, 40, 41, 42, 461, 462, 463, 464, 465, 466, 467, 468, 469, 470, 471, 472, 473, 474, 475, 476, 477, 498, 499, 500] (by decide +kernel) (by decide +kernel)
set_option maxRecDepth 20000 in
theorem gL_law_X1_init : GoodIn wsL_law (wsX1_init) := ggL_law_X1_init
set_option maxRecDepth 20000 in
theorem ggL_law_X2_init : GoodIn wsL_law wsX2_init := goodIn_r _ [45, 46, 11, 12, 47, 48, 49, 50, 51, 52, 17, 53, 54, 55, 56, 6, 57, 58, 59, 60, 61, 62, 63, 64, 478, 479, 480, 481, 482, 483, 484, 485, 486, 487, 488, 489, 490, 491, 492, 493, 494, 495, 496, 497] (by decide +kernel) (by decide +kernel)
set_option maxRecDepth 20000 in
theorem gL_law_X2_init : GoodIn wsL_law (wsX2_init) := ggL_law_X2_init
set_option maxRecDepth 20000 in
theorem ggL_law_L_set : GoodIn wsL_law wsL_set := goodIn_ca (goodIn_ca (goodIn_r _ [68, 69, 70, 71, 72, 73, 2, 74, 75, 14, 15, 16, 25, 26, 76, 77, 78, 79, 80, 81, 82, 83, 84, 85, 86, 87, 21, 88, 89, 90, 24, 91, 42, 461, 462, 463, 464, 465, 466, 467, 468, 469, 470, 471, 472, 473, 474, 475, 476, 477, 498, 499, 500] (by decide +kernel) (by decide +kernel)) (goodIn_sub (fun _ h => List.mem_append_left _ (List.mem_append_right _ h)) (by decide +kernel))) (goodIn_sub (fun _ h => List.mem_append_right _ h) (by decide +kernel))
set_option maxRecDepth 20000 in
theorem gL_law_L_set : GoodIn wsL_law (va_wsS RL 77 yL_set wsL_set) := goodIn_app (goodIn_of _ (by decide +kernel)) ggL_law_L_set
set_option maxRecDepth 20000 in
theorem ggL_law_X2_set : GoodIn wsL_law wsX2_set := goodIn_r _ [95, 96, 97, 56, 48, 49, 50, 51, 52, 98, 99, 5, 100, 101, 102, 103, 104, 105, 478, 479, 480, 481, 482, 483, 484, 485, 486, 487, 488, 489, 490, 491, 492, 493, 494, 495, 496, 497] (by decide +kernel) (by decide +kernel)
set_option maxRecDepth 20000 in
theorem gL_law_X2_set : GoodIn wsL_law (wsV RL 82 RX2 yX2_set wsX2_set) := goodIn_app (goodIn_of _ (by decide +kernel)) ggL_law_X2_set
set_option maxRecDepth 20000 in
theorem ggL_law_X2_thrown : GoodIn wsL_law wsX2_thrown := goodIn_r _ [109, 105, 478, 479, 480, 481, 482, 483, 484, 485, 486, 487, 488, 489, 490, 491, 492, 493, 494, 495, 496, 497] (by decide +kernel) (by decide +kernel)
set_option maxRecDepth 20000 in
theorem gL_law_X2_thrown : GoodIn wsL_law (wsV RL 83 RX2 yX2_thrown wsX2_thrown) := goodIn_app (goodIn_of _ (by decide +kernel)) ggL_law_X2_thrown
set_option maxRecDepth 20000 in
theorem ggL_law_L_review : GoodIn wsL_law wsL_review := goodIn_ca (goodIn_r _ [112, 69, 113, 114, 115, 2, 116, 18, 117, 118, 119, 76, 77, 78, 79, 80, 120, 121, 122, 123, 25, 26, 87, 21, 124, 125, 126, 24, 127, 41, 128, 129, 34, 35, 36, 130, 131, 132, 133, 42, 134, 135, 136, 137, 14, 15, 19, 138, 139, 140, 141, 142, 29, 27, 28, 30, 31, 143, 144, 145, 146, 147, 148, 149, 150, 151, 152, 153, 154, 155, 156, 157, 158, 159, 160, 161, 162, 16, 163, 164, 165, 166, 167, 168, 169, 461, 462, 463, 464, 465, 466, 467, 468, 469, 470, 471, 472, 473, 474, 475, 476, 477, 498, 499, 500] (by decide +kernel) (by decide +kernel)) (goodIn_sub (fun _ h => List.mem_append_left _ (List.mem_append_right _ h)) (by decide +kernel))
set_option maxRecDepth 20000 in
theorem gL_law_L_review : GoodIn wsL_law (va_wsS RL 87 yL_review wsL_review) := goodIn_app (goodIn_of _ (by decide +kernel)) ggL_law_L_review
set_option maxRecDepth 20000 in
theorem ggL_law_X2_review : GoodIn wsL_law wsX2_review := goodIn_r _ [173, 53, 174, 175, 5, 176, 98, 99, 100, 101, 102, 103, 104, 105, 478, 479, 480, 481, 482, 483, 484, 485, 486, 487, 488, 489, 490, 491, 492, 493, 494, 495, 496, 497] (by decide +kernel) (by decide +kernel)
set_option maxRecDepth 20000 in
theorem gL_law_X2_review : GoodIn wsL_law (wsV RL 90 RX2 yX2_review wsX2_review) := goodIn_app (goodIn_of _ (by decide +kernel)) ggL_law_X2_review
set_option maxRecDepth 20000 in
theorem ggL_law_L_excuse : GoodIn wsL_law wsL_excuse := goodIn_ca (goodIn_r _ [179, 69, 180, 181, 182, 2, 183, 19, 117, 118, 119, 76, 77, 78, 79, 80, 120, 121, 122, 123, 25, 26, 87, 21, 124, 125, 126, 24, 127, 41, 128, 129, 34, 35, 36, 130, 131, 132, 133, 42, 134, 135, 136, 137, 14, 15, 138, 139, 140, 141, 142, 29, 27, 28, 30, 31, 18, 143, 144, 145, 146, 147, 148, 149, 150, 151, 152, 153, 154, 155, 156, 157, 158, 159, 160, 161, 162, 16, 163, 164, 165, 166, 167, 168, 169, 461, 462, 463, 464, 465, 466, 467, 468, 469, 470, 471, 472, 473, 474, 475, 476, 477, 498, 499, 500] (by decide +kernel) (by decide +kernel)) (goodIn_sub (fun _ h => List.mem_append_left _ (List.mem_append_right _ h)) (by decide +kernel))
set_option maxRecDepth 20000 in
theorem gL_law_L_excuse : GoodIn wsL_law (va_wsS RL 91 yL_excuse wsL_excuse) := goodIn_app (goodIn_of _ (by decide +kernel)) ggL_law_L_excuse
set_option maxRecDepth 20000 in
theorem ggL_law_X2_excuse : GoodIn wsL_law wsX2_excuse := goodIn_r _ [187, 54, 174, 175, 5, 176, 98, 99, 100, 101, 102, 103, 104, 105, 478, 479, 480, 481, 482, 483, 484, 485, 486, 487, 488, 489, 490, 491, 492, 493, 494, 495, 496, 497] (by decide +kernel) (by decide +kernel)
set_option maxRecDepth 20000 in
theorem gL_law_X2_excuse : GoodIn wsL_law (wsV RL 93 RX2 yX2_excuse wsX2_excuse) := goodIn_app (goodIn_of _ (by decide +kernel)) ggL_law_X2_excuse
set_option maxRecDepth 20000 in
theorem ggL_law_L_take : GoodIn wsL_law wsL_take := goodIn_ca (goodIn_ca (goodIn_r _ [190, 69, 70, 191, 192, 193, 2, 194, 20, 195, 196, 197, 76, 77, 78, 79, 80, 198, 199, 200, 201, 85, 86, 87, 202, 203, 204, 205, 206, 207, 208, 209, 21, 461, 462, 463, 464, 465, 466, 467, 468, 469, 470, 471, 472, 473, 474, 475, 476, 477] (by decide +kernel) (by decide +kernel)) (goodIn_sub (fun _ h => List.mem_append_left _ (List.mem_append_right _ h)) (by decide +kernel))) (goodIn_sub (fun _ h => List.mem_append_right _ h) (by decide +kernel))
set_option maxRecDepth 20000 in
theorem gL_law_L_take : GoodIn wsL_law (va_wsS RL 94 yL_take wsL_take) := goodIn_app (goodIn_of _ (by decide +kernel)) ggL_law_L_take
set_option maxRecDepth 20000 in
theorem ggL_law_X2_take : GoodIn wsL_law wsX2_take := goodIn_r _ [213, 55, 214, 215, 216, 5, 217, 97, 218, 219, 220, 98, 99, 100, 221, 222, 223, 224, 101, 102, 103, 104, 105, 225, 226, 227, 228, 56, 478, 479, 480, 481, 482, 483, 484, 485, 486, 487, 488, 489, 490, 491, 492, 493, 494, 495, 496, 497] (by decide +kernel) (by decide +kernel)
set_option maxRecDepth 20000 in
theorem gL_law_X2_take : GoodIn wsL_law (wsV RL 96 RX2 yX2_take wsX2_take) := goodIn_app (goodIn_of _ (by decide +kernel)) ggL_law_X2_take
set_option maxRecDepth 20000 in
theorem ggL_law_L_takeDaily : GoodIn wsL_law wsL_takeDaily := goodIn_ca (goodIn_ca (goodIn_r _ [231, 69, 70, 232, 233, 234, 2, 235, 21, 87, 236, 237, 238, 195, 196, 197, 76, 77, 78, 79, 80, 198, 199, 200, 201, 85, 86, 202, 203, 204, 205, 20, 206, 207, 208, 209, 461, 462, 463, 464, 465, 466, 467, 468, 469, 470, 471, 472, 473, 474, 475, 476, 477] (by decide +kernel) (by decide +kernel)) (goodIn_sub (fun _ h => List.mem_append_left _ (List.mem_append_right _ h)) (by decide +kernel))) (goodIn_sub (fun _ h => List.mem_append_right _ h) (by decide +kernel))
set_option maxRecDepth 20000 in
theorem gL_law_L_takeDaily : GoodIn wsL_law (va_wsS RL 97 yL_takeDaily wsL_takeDaily) := goodIn_app (goodIn_of _ (by decide +kernel)) ggL_law_L_takeDaily
set_option maxRecDepth 20000 in
theorem ggL_law_X2_takeDaily : GoodIn wsL_law wsX2_takeDaily := goodIn_r _ [242, 56, 97, 214, 215, 216, 5, 217, 218, 219, 220, 98, 99, 100, 221, 222, 223, 224, 55, 101, 102, 103, 104, 105, 225, 226, 227, 228, 478, 479, 480, 481, 482, 483, 484, 485, 486, 487, 488, 489, 490, 491, 492, 493, 494, 495, 496, 497] (by decide +kernel) (by decide +kernel)
set_option maxRecDepth 20000 in
theorem gL_law_X2_takeDaily : GoodIn wsL_law (wsV RL 100 RX2 yX2_takeDaily wsX2_takeDaily) := goodIn_app (goodIn_of _ (by decide +kernel)) ggL_law_X2_takeDaily
set_option maxRecDepth 20000 in
theorem ggL_law_L_close : GoodIn wsL_law wsL_close := goodIn_ca (goodIn_r _ [245, 70, 246, 247, 248, 2, 249, 87, 20, 250, 32, 198, 199, 200, 201, 85, 86, 33, 34, 35, 36, 120, 121, 122, 123, 25, 26, 21, 124, 125, 126, 24, 127, 41, 128, 129, 130, 131, 132, 133, 42, 134, 135, 136, 137, 14, 15, 19, 138, 139, 140, 141, 142, 29, 27, 28, 30, 31, 18, 143, 144, 145, 146, 147, 148, 149, 150, 151, 152, 153, 154, 155, 156, 157, 158, 159, 160, 161, 162, 16, 163, 164, 165, 166, 167, 168, 169, 251, 252, 253, 254, 461, 462, 463, 464, 465, 466, 467, 468, 469, 470, 471, 472, 473, 474, 475, 476, 477, 498, 499, 500] (by decide +kernel) (by decide +kernel)) (goodIn_sub (fun _ h => List.mem_append_right _ h) (by decide +kernel))
set_option maxRecDepth 20000 in
theorem gL_law_L_close : GoodIn wsL_law (va_wsS RL 101 yL_close wsL_close) := goodIn_app (goodIn_of _ (by decide +kernel)) ggL_law_L_close
set_option maxRecDepth 20000 in
theorem ggL_law_X2_close : GoodIn wsL_law wsX2_close := goodIn_r _ [258, 97, 57, 55, 101, 102, 103, 5, 104, 105, 259, 260, 261, 262, 64, 263, 264, 265, 266, 267, 58, 59, 60, 61, 62, 63, 56, 268, 269, 270, 271, 51, 52, 272, 273, 274, 275, 48, 49, 54, 276, 277, 278, 279, 280, 53, 281, 282, 283, 284, 50, 285, 286, 287, 288, 478, 479, 480, 481, 482, 483, 484, 485, 486, 487, 488, 489, 490, 491, 492, 493, 494, 495, 496, 497] (by decide +kernel) (by decide +kernel)
set_option maxRecDepth 20000 in
theorem gL_law_X2_close : GoodIn wsL_law (wsV RL 104 RX2 yX2_close wsX2_close) := goodIn_app (goodIn_of _ (by decide +kernel)) ggL_law_X2_close
set_option maxRecDepth 20000 in
theorem ggL_law_X1_closed : GoodIn wsL_law wsX1_closed := goodIn_r _ [292, 87, 461, 462, 463, 464, 465, 466, 467, 468, 469, 470, 471, 472, 473, 474, 475, 476, 477] (by decide +kernel) (by decide +kernel)
set_option maxRecDepth 20000 in
theorem gL_law_X1_closed : GoodIn wsL_law (wsV RL 105 RX1 yX1_closed wsX1_closed) := goodIn_app (goodIn_of _ (by decide +kernel)) ggL_law_X1_closed
set_option maxRecDepth 20000 in
theorem ggL_law_X2_closed : GoodIn wsL_law wsX2_closed := goodIn_r _ [296, 105, 97, 478, 479, 480, 481, 482, 483, 484, 485, 486, 487, 488, 489, 490, 491, 492, 493, 494, 495, 496, 497] (by decide +kernel) (by decide +kernel)
set_option maxRecDepth 20000 in
theorem gL_law_X2_closed : GoodIn wsL_law (wsV RL 108 RX2 yX2_closed wsX2_closed) := goodIn_app (goodIn_of _ (by decide +kernel)) ggL_law_X2_closed
set_option maxRecDepth 20000 in
theorem ggL_law_L_taken : GoodIn wsL_law wsL_taken := goodIn_ca (goodIn_r _ [299, 69, 300, 301, 302, 2, 303, 21, 117, 118, 119, 76, 77, 78, 79, 80, 461, 462, 463, 464, 465, 466, 467, 468, 469, 470, 471, 472, 473, 474, 475, 476, 477] (by decide +kernel) (by decide +kernel)) (goodIn_sub (fun _ h => List.mem_append_left _ (List.mem_append_right _ h)) (by decide +kernel))
set_option maxRecDepth 20000 in
theorem gL_law_L_taken : GoodIn wsL_law (va_wsS RL 109 yL_taken wsL_taken) := goodIn_app (goodIn_of _ (by decide +kernel)) ggL_law_L_taken
set_option maxRecDepth 20000 in
theorem ggL_law_X2_taken : GoodIn wsL_law wsX2_taken := goodIn_r _ [307, 56, 174, 175, 5, 176, 98, 99, 100, 101, 102, 103, 104, 105, 478, 479, 480, 481, 482, 483, 484, 485, 486, 487, 488, 489, 490, 491, 492, 493, 494, 495, 496, 497] (by decide +kernel) (by decide +kernel)
set_option maxRecDepth 20000 in
theorem gL_law_X2_taken : GoodIn wsL_law (wsV RL 112 RX2 yX2_taken wsX2_taken) := goodIn_app (goodIn_of _ (by decide +kernel)) ggL_law_X2_taken
set_option maxRecDepth 20000 in
theorem ggL_law_L_takenFrom : GoodIn wsL_law wsL_takenFrom := goodIn_ca (goodIn_r _ [310, 69, 311, 312, 313, 2, 314, 20, 236, 237, 238, 195, 196, 197, 76, 77, 78, 79, 80, 461, 462, 463, 464, 465, 466, 467, 468, 469, 470, 471, 472, 473, 474, 475, 476, 477] (by decide +kernel) (by decide +kernel)) (goodIn_sub (fun _ h => List.mem_append_left _ (List.mem_append_right _ h)) (by decide +kernel))
set_option maxRecDepth 20000 in
theorem gL_law_L_takenFrom : GoodIn wsL_law (va_wsS RL 113 yL_takenFrom wsL_takenFrom) := goodIn_app (goodIn_of _ (by decide +kernel)) ggL_law_L_takenFrom
set_option maxRecDepth 20000 in
theorem ggL_law_X2_takenFrom : GoodIn wsL_law wsX2_takenFrom := goodIn_r _ [318, 55, 218, 219, 5, 220, 101, 102, 103, 104, 105, 478, 479, 480, 481, 482, 483, 484, 485, 486, 487, 488, 489, 490, 491, 492, 493, 494, 495, 496, 497] (by decide +kernel) (by decide +kernel)
set_option maxRecDepth 20000 in
theorem gL_law_X2_takenFrom : GoodIn wsL_law (wsV RL 115 RX2 yX2_takenFrom wsX2_takenFrom) := goodIn_app (goodIn_of _ (by decide +kernel)) ggL_law_X2_takenFrom
set_option maxRecDepth 20000 in
theorem ggL_law_L_price : GoodIn wsL_law wsL_price := goodIn_ca (goodIn_r _ [321, 69, 322, 323, 324, 2, 325, 18, 117, 118, 119, 76, 77, 78, 79, 80, 461, 462, 463, 464, 465, 466, 467, 468, 469, 470, 471, 472, 473, 474, 475, 476, 477] (by decide +kernel) (by decide +kernel)) (goodIn_sub (fun _ h => List.mem_append_left _ (List.mem_append_right _ h)) (by decide +kernel))
set_option maxRecDepth 20000 in
theorem gL_law_L_price : GoodIn wsL_law (va_wsS RL 116 yL_price wsL_price) := goodIn_app (goodIn_of _ (by decide +kernel)) ggL_law_L_price
set_option maxRecDepth 20000 in
theorem ggL_law_X2_price : GoodIn wsL_law wsX2_price := goodIn_r _ [329, 53, 174, 175, 5, 176, 98, 99, 100, 101, 102, 103, 104, 105, 478, 479, 480, 481, 482, 483, 484, 485, 486, 487, 488, 489, 490, 491, 492, 493, 494, 495, 496, 497] (by decide +kernel) (by decide +kernel)
set_option maxRecDepth 20000 in
theorem gL_law_X2_price : GoodIn wsL_law (wsV RL 118 RX2 yX2_price wsX2_price) := goodIn_app (goodIn_of _ (by decide +kernel)) ggL_law_X2_price
set_option maxRecDepth 20000 in
theorem ggL_law_L_least : GoodIn wsL_law wsL_least := goodIn_ca (goodIn_r _ [332, 69, 333, 334, 335, 2, 336, 117, 118, 119, 76, 77, 78, 79, 80, 134, 135, 136, 137, 14, 15, 19, 138, 461, 462, 463, 464, 465, 466, 467, 468, 469, 470, 471, 472, 473, 474, 475, 476, 477] (by decide +kernel) (by decide +kernel)) (goodIn_sub (fun _ h => List.mem_append_left _ (List.mem_append_right _ h)) (by decide +kernel))
set_option maxRecDepth 20000 in
theorem gL_law_L_least : GoodIn wsL_law (va_wsS RL 119 yL_least wsL_least) := goodIn_app (goodIn_of _ (by decide +kernel)) ggL_law_L_least
set_option maxRecDepth 20000 in
theorem ggL_law_X2_least : GoodIn wsL_law wsX2_least := goodIn_r _ [340, 174, 175, 5, 176, 98, 99, 100, 101, 102, 103, 104, 105, 272, 273, 274, 275, 48, 49, 54, 276, 478, 479, 480, 481, 482, 483, 484, 485, 486, 487, 488, 489, 490, 491, 492, 493, 494, 495, 496, 497] (by decide +kernel) (by decide +kernel)
set_option maxRecDepth 20000 in
theorem gL_law_X2_least : GoodIn wsL_law (wsV RL 121 RX2 yX2_least wsX2_least) := goodIn_app (goodIn_of _ (by decide +kernel)) ggL_law_X2_least
set_option maxRecDepth 20000 in
theorem ggL_law_L_shortfall : GoodIn wsL_law wsL_shortfall := goodIn_ca (goodIn_ca (goodIn_r _ [343, 69, 70, 344, 345, 346, 2, 347, 27, 348, 349, 350, 351, 85, 86, 87, 117, 118, 119, 76, 77, 78, 79, 80, 461, 462, 463, 464, 465, 466, 467, 468, 469, 470, 471, 472, 473, 474, 475, 476, 477] (by decide +kernel) (by decide +kernel)) (goodIn_sub (fun _ h => List.mem_append_right _ h) (by decide +kernel))) (goodIn_sub (fun _ h => List.mem_append_left _ (List.mem_append_right _ h)) (by decide +kernel))
set_option maxRecDepth 20000 in
theorem gL_law_L_shortfall : GoodIn wsL_law (va_wsS RL 122 yL_shortfall wsL_shortfall) := goodIn_app (goodIn_of _ (by decide +kernel)) ggL_law_L_shortfall
set_option maxRecDepth 20000 in
theorem ggL_law_X2_shortfall : GoodIn wsL_law wsX2_shortfall := goodIn_r _ [355, 58, 356, 357, 358, 5, 359, 97, 174, 175, 176, 98, 99, 100, 101, 102, 103, 104, 105, 263, 264, 265, 266, 267, 59, 60, 61, 62, 63, 56, 268, 269, 270, 271, 51, 52, 272, 273, 274, 275, 48, 49, 54, 276, 277, 278, 279, 280, 64, 53, 281, 282, 283, 284, 50, 285, 286, 287, 288, 478, 479, 480, 481, 482, 483, 484, 485, 486, 487, 488, 489, 490, 491, 492, 493, 494, 495, 496, 497] (by decide +kernel) (by decide +kernel)
set_option maxRecDepth 20000 in
theorem gL_law_X2_shortfall : GoodIn wsL_law (wsV RL 124 RX2 yX2_shortfall wsX2_shortfall) := goodIn_app (goodIn_of _ (by decide +kernel)) ggL_law_X2_shortfall
set_option maxRecDepth 20000 in
theorem ggL_law_L_madeUp : GoodIn wsL_law wsL_madeUp := goodIn_ca (goodIn_ca (goodIn_r _ [362, 69, 70, 363, 364, 365, 2, 366, 28, 348, 349, 350, 351, 85, 86, 87, 117, 118, 119, 76, 77, 78, 79, 80, 461, 462, 463, 464, 465, 466, 467, 468, 469, 470, 471, 472, 473, 474, 475, 476, 477] (by decide +kernel) (by decide +kernel)) (goodIn_sub (fun _ h => List.mem_append_right _ h) (by decide +kernel))) (goodIn_sub (fun _ h => List.mem_append_left _ (List.mem_append_right _ h)) (by decide +kernel))
set_option maxRecDepth 20000 in
theorem gL_law_L_madeUp : GoodIn wsL_law (va_wsS RL 125 yL_madeUp wsL_madeUp) := goodIn_app (goodIn_of _ (by decide +kernel)) ggL_law_L_madeUp
set_option maxRecDepth 20000 in
theorem ggL_law_X2_madeUp : GoodIn wsL_law wsX2_madeUp := goodIn_r _ [370, 62, 356, 357, 358, 5, 359, 97, 174, 175, 176, 98, 99, 100, 101, 102, 103, 104, 105, 263, 264, 265, 266, 267, 58, 59, 60, 61, 63, 56, 268, 269, 270, 271, 51, 52, 272, 273, 274, 275, 48, 49, 54, 276, 277, 278, 279, 280, 64, 53, 281, 282, 283, 284, 50, 285, 286, 287, 288, 478, 479, 480, 481, 482, 483, 484, 485, 486, 487, 488, 489, 490, 491, 492, 493, 494, 495, 496, 497] (by decide +kernel) (by decide +kernel)
set_option maxRecDepth 20000 in
theorem gL_law_X2_madeUp : GoodIn wsL_law (wsV RL 127 RX2 yX2_madeUp wsX2_madeUp) := goodIn_app (goodIn_of _ (by decide +kernel)) ggL_law_X2_madeUp
set_option maxRecDepth 20000 in
theorem ggL_law_L_covered : GoodIn wsL_law wsL_covered := goodIn_ca (goodIn_ca (goodIn_r _ [373, 69, 70, 374, 375, 376, 2, 377, 29, 348, 349, 350, 351, 85, 86, 87, 117, 118, 119, 76, 77, 78, 79, 80, 461, 462, 463, 464, 465, 466, 467, 468, 469, 470, 471, 472, 473, 474, 475, 476, 477] (by decide +kernel) (by decide +kernel)) (goodIn_sub (fun _ h => List.mem_append_right _ h) (by decide +kernel))) (goodIn_sub (fun _ h => List.mem_append_left _ (List.mem_append_right _ h)) (by decide +kernel))
set_option maxRecDepth 20000 in
theorem gL_law_L_covered : GoodIn wsL_law (va_wsS RL 128 yL_covered wsL_covered) := goodIn_app (goodIn_of _ (by decide +kernel)) ggL_law_L_covered
set_option maxRecDepth 20000 in
theorem ggL_law_X2_covered : GoodIn wsL_law wsX2_covered := goodIn_r _ [381, 63, 356, 357, 358, 5, 359, 97, 174, 175, 176, 98, 99, 100, 101, 102, 103, 104, 105, 263, 264, 265, 266, 267, 58, 59, 60, 61, 62, 56, 268, 269, 270, 271, 51, 52, 272, 273, 274, 275, 48, 49, 54, 276, 277, 278, 279, 280, 64, 53, 281, 282, 283, 284, 50, 285, 286, 287, 288, 478, 479, 480, 481, 482, 483, 484, 485, 486, 487, 488, 489, 490, 491, 492, 493, 494, 495, 496, 497] (by decide +kernel) (by decide +kernel)
set_option maxRecDepth 20000 in
theorem gL_law_X2_covered : GoodIn wsL_law (wsV RL 130 RX2 yX2_covered wsX2_covered) := goodIn_app (goodIn_of _ (by decide +kernel)) ggL_law_X2_covered
set_option maxRecDepth 20000 in
theorem ggL_law_L_surplus : GoodIn wsL_law wsL_surplus := goodIn_ca (goodIn_ca (goodIn_r _ [384, 69, 70, 385, 386, 387, 2, 388, 30, 348, 349, 350, 351, 85, 86, 87, 117, 118, 119, 76, 77, 78, 79, 80, 461, 462, 463, 464, 465, 466, 467, 468, 469, 470, 471, 472, 473, 474, 475, 476, 477] (by decide +kernel) (by decide +kernel)) (goodIn_sub (fun _ h => List.mem_append_right _ h) (by decide +kernel))) (goodIn_sub (fun _ h => List.mem_append_left _ (List.mem_append_right _ h)) (by decide +kernel))
set_option maxRecDepth 20000 in
theorem gL_law_L_surplus : GoodIn wsL_law (va_wsS RL 131 yL_surplus wsL_surplus) := goodIn_app (goodIn_of _ (by decide +kernel)) ggL_law_L_surplus
set_option maxRecDepth 20000 in
theorem ggL_law_X2_surplus : GoodIn wsL_law wsX2_surplus := goodIn_r _ [392, 59, 356, 357, 358, 5, 359, 97, 174, 175, 176, 98, 99, 100, 101, 102, 103, 104, 105, 263, 264, 265, 266, 267, 58, 60, 61, 62, 63, 56, 268, 269, 270, 271, 51, 52, 272, 273, 274, 275, 48, 49, 54, 276, 277, 278, 279, 280, 64, 53, 281, 282, 283, 284, 50, 285, 286, 287, 288, 478, 479, 480, 481, 482, 483, 484, 485, 486, 487, 488, 489, 490, 491, 492, 493, 494, 495, 496, 497] (by decide +kernel) (by decide +kernel)
set_option maxRecDepth 20000 in
theorem gL_law_X2_surplus : GoodIn wsL_law (wsV RL 133 RX2 yX2_surplus wsX2_surplus) := goodIn_app (goodIn_of _ (by decide +kernel)) ggL_law_X2_surplus
set_option maxRecDepth 20000 in
theorem ggL_law_L_due : GoodIn wsL_law wsL_due := goodIn_ca (goodIn_ca (goodIn_r _ [395, 69, 70, 396, 397, 398, 2, 399, 31, 348, 349, 350, 351, 85, 86, 87, 117, 118, 119, 76, 77, 78, 79, 80, 461, 462, 463, 464, 465, 466, 467, 468, 469, 470, 471, 472, 473, 474, 475, 476, 477] (by decide +kernel) (by decide +kernel)) (goodIn_sub (fun _ h => List.mem_append_right _ h) (by decide +kernel))) (goodIn_sub (fun _ h => List.mem_append_left _ (List.mem_append_right _ h)) (by decide +kernel))
set_option maxRecDepth 20000 in
theorem gL_law_L_due : GoodIn wsL_law (va_wsS RL 134 yL_due wsL_due) := goodIn_app (goodIn_of _ (by decide +kernel)) ggL_law_L_due
set_option maxRecDepth 20000 in
theorem ggL_law_X2_due : GoodIn wsL_law wsX2_due := goodIn_r _ [403, 64, 356, 357, 358, 5, 359, 97, 174, 175, 176, 98, 99, 100, 101, 102, 103, 104, 105, 263, 264, 265, 266, 267, 58, 59, 60, 61, 62, 63, 56, 268, 269, 270, 271, 51, 52, 272, 273, 274, 275, 48, 49, 54, 276, 277, 278, 279, 280, 53, 281, 282, 283, 284, 50, 285, 286, 287, 288, 478, 479, 480, 481, 482, 483, 484, 485, 486, 487, 488, 489, 490, 491, 492, 493, 494, 495, 496, 497] (by decide +kernel) (by decide +kernel)
set_option maxRecDepth 20000 in
theorem gL_law_X2_due : GoodIn wsL_law (wsV RL 136 RX2 yX2_due wsX2_due) := goodIn_app (goodIn_of _ (by decide +kernel)) ggL_law_X2_due
set_option maxRecDepth 20000 in
theorem ggL_law_L_bill : GoodIn wsL_law wsL_bill := goodIn_ca (goodIn_ca (goodIn_r _ [406, 69, 70, 407, 408, 409, 2, 410, 32, 348, 349, 350, 351, 85, 86, 87, 117, 118, 119, 76, 77, 78, 79, 80, 461, 462, 463, 464, 465, 466, 467, 468, 469, 470, 471, 472, 473, 474, 475, 476, 477] (by decide +kernel) (by decide +kernel)) (goodIn_sub (fun _ h => List.mem_append_right _ h) (by decide +kernel))) (goodIn_sub (fun _ h => List.mem_append_left _ (List.mem_append_right _ h)) (by decide +kernel))
set_option maxRecDepth 20000 in
theorem gL_law_L_bill : GoodIn wsL_law (va_wsS RL 137 yL_bill wsL_bill) := goodIn_app (goodIn_of _ (by decide +kernel)) ggL_law_L_bill
set_option maxRecDepth 20000 in
theorem ggL_law_X2_bill : GoodIn wsL_law wsX2_bill := goodIn_r _ [414, 57, 356, 357, 358, 5, 359, 97, 174, 175, 176, 98, 99, 100, 101, 102, 103, 104, 105, 263, 264, 265, 266, 267, 58, 59, 60, 61, 62, 63, 56, 268, 269, 270, 271, 51, 52, 272, 273, 274, 275, 48, 49, 54, 276, 277, 278, 279, 280, 64, 53, 281, 282, 283, 284, 50, 285, 286, 287, 288, 478, 479, 480, 481, 482, 483, 484, 485, 486, 487, 488, 489, 490, 491, 492, 493, 494, 495, 496, 497] (by decide +kernel) (by decide +kernel)
set_option maxRecDepth 20000 in
theorem gL_law_X2_bill : GoodIn wsL_law (wsV RL 139 RX2 yX2_bill wsX2_bill) := goodIn_app (goodIn_of _ (by decide +kernel)) ggL_law_X2_bill
set_option maxRecDepth 20000 in
theorem ggL_law_L_makeUpLeft : GoodIn wsL_law wsL_makeUpLeft := goodIn_ca (goodIn_ca (goodIn_r _ [417, 69, 70, 418, 419, 420, 2, 421, 25, 348, 349, 350, 351, 85, 86, 87, 117, 118, 119, 76, 77, 78, 79, 80, 422, 423, 424, 24, 425, 41, 461, 462, 463, 464, 465, 466, 467, 468, 469, 470, 471, 472, 473, 474, 475, 476, 477, 498, 499, 500] (by decide +kernel) (by decide +kernel)) (goodIn_sub (fun _ h => List.mem_append_right _ h) (by decide +kernel))) (goodIn_sub (fun _ h => List.mem_append_left _ (List.mem_append_right _ h)) (by decide +kernel))
set_option maxRecDepth 20000 in
theorem gL_law_L_makeUpLeft : GoodIn wsL_law (va_wsS RL 140 yL_makeUpLeft wsL_makeUpLeft) := goodIn_app (goodIn_of _ (by decide +kernel)) ggL_law_L_makeUpLeft
set_option maxRecDepth 20000 in
theorem ggL_law_X2_makeUpLeft : GoodIn wsL_law wsX2_makeUpLeft := goodIn_r _ [429, 60, 356, 357, 358, 5, 359, 97, 174, 175, 176, 98, 99, 100, 101, 102, 103, 104, 105, 263, 264, 265, 266, 267, 58, 59, 61, 62, 63, 56, 268, 269, 270, 271, 51, 52, 272, 273, 274, 275, 48, 49, 54, 276, 277, 278, 279, 280, 64, 53, 281, 282, 283, 284, 50, 285, 286, 287, 288, 478, 479, 480, 481, 482, 483, 484, 485, 486, 487, 488, 489, 490, 491, 492, 493, 494, 495, 496, 497] (by decide +kernel) (by decide +kernel)
set_option maxRecDepth 20000 in
theorem gL_law_X2_makeUpLeft : GoodIn wsL_law (wsV RL 142 RX2 yX2_makeUpLeft wsX2_makeUpLeft) := goodIn_app (goodIn_of _ (by decide +kernel)) ggL_law_X2_makeUpLeft
set_option maxRecDepth 20000 in
theorem ggL_law_L_surplusLeft : GoodIn wsL_law wsL_surplusLeft := goodIn_ca (goodIn_ca (goodIn_r _ [432, 69, 70, 433, 434, 435, 2, 436, 26, 348, 349, 350, 351, 85, 86, 87, 117, 118, 119, 76, 77, 78, 79, 80, 422, 423, 424, 24, 425, 41, 461, 462, 463, 464, 465, 466, 467, 468, 469, 470, 471, 472, 473, 474, 475, 476, 477, 498, 499, 500] (by decide +kernel) (by decide +kernel)) (goodIn_sub (fun _ h => List.mem_append_right _ h) (by decide +kernel))) (goodIn_sub (fun _ h => List.mem_append_left _ (List.mem_append_right _ h)) (by decide +kernel))
set_option maxRecDepth 20000 in
theorem gL_law_L_surplusLeft : GoodIn wsL_law (va_wsS RL 143 yL_surplusLeft wsL_surplusLeft) := goodIn_app (goodIn_of _ (by decide +kernel)) ggL_law_L_surplusLeft
set_option maxRecDepth 20000 in
theorem ggL_law_X2_surplusLeft : GoodIn wsL_law wsX2_surplusLeft := goodIn_r _ [440, 61, 356, 357, 358, 5, 359, 97, 174, 175, 176, 98, 99, 100, 101, 102, 103, 104, 105, 263, 264, 265, 266, 267, 58, 59, 60, 62, 63, 56, 268, 269, 270, 271, 51, 52, 272, 273, 274, 275, 48, 49, 54, 276, 277, 278, 279, 280, 64, 53, 281, 282, 283, 284, 50, 285, 286, 287, 288, 478, 479, 480, 481, 482, 483, 484, 485, 486, 487, 488, 489, 490, 491, 492, 493, 494, 495, 496, 497] (by decide +kernel) (by decide +kernel)
set_option maxRecDepth 20000 in
theorem gL_law_X2_surplusLeft : GoodIn wsL_law (wsV RL 145 RX2 yX2_surplusLeft wsX2_surplusLeft) := goodIn_app (goodIn_of _ (by decide +kernel)) ggL_law_X2_surplusLeft
set_option maxRecDepth 20000 in
theorem ggL_law_X1_lapsed : GoodIn wsL_law wsX1_lapsed := goodIn_r _ [444, 25, 445, 446, 447, 24, 448, 128, 461, 462, 463, 464, 465, 466, 467, 468, 469, 470, 471, 472, 473, 474, 475, 476, 477, 498, 499, 500] (by decide +kernel) (by decide +kernel)
set_option maxRecDepth 20000 in
theorem gL_law_X1_lapsed : GoodIn wsL_law (wsV RL 146 RX1 yX1_lapsed wsX1_lapsed) := goodIn_app (goodIn_of _ (by decide +kernel)) ggL_law_X1_lapsed
set_option maxRecDepth 20000 in
theorem ggL_law_X2_lapsed : GoodIn wsL_law wsX2_lapsed := goodIn_r _ [452, 105, 267, 263, 264, 265, 5, 266, 97, 58, 59, 60, 61, 62, 63, 56, 268, 269, 270, 271, 51, 52, 272, 273, 274, 275, 48, 49, 54, 276, 277, 278, 279, 280, 64, 53, 281, 282, 283, 284, 50, 285, 286, 287, 288, 478, 479, 480, 481, 482, 483, 484, 485, 486, 487, 488, 489, 490, 491, 492, 493, 494, 495, 496, 497] (by decide +kernel) (by decide +kernel)
set_option maxRecDepth 20000 in
theorem gL_law_X2_lapsed : GoodIn wsL_law (wsV RL 149 RX2 yX2_lapsed wsX2_lapsed) := goodIn_app (goodIn_of _ (by decide +kernel)) ggL_law_X2_lapsed
set_option maxRecDepth 20000 in
theorem ggL_law_X1_open : GoodIn wsL_law wsX1_open := goodIn_r _ [456, 250, 251, 252, 253, 2, 254, 87, 31, 461, 462, 463, 464, 465, 466, 467, 468, 469, 470, 471, 472, 473, 474, 475, 476, 477] (by decide +kernel) (by decide +kernel)
set_option maxRecDepth 20000 in
theorem gL_law_X1_open : GoodIn wsL_law (wsV RL 150 RX1 yX1_open wsX1_open) := goodIn_app (goodIn_of _ (by decide +kernel)) ggL_law_X1_open
set_option maxRecDepth 20000 in
theorem ggL_law_X2_open : GoodIn wsL_law wsX2_open := goodIn_r _ [460, 105, 259, 260, 261, 5, 262, 97, 64, 57, 263, 264, 265, 266, 267, 58, 59, 60, 61, 62, 63, 56, 268, 269, 270, 271, 51, 52, 272, 273, 274, 275, 48, 49, 54, 276, 277, 278, 279, 280, 53, 281, 282, 283, 284, 50, 285, 286, 287, 288, 478, 479, 480, 481, 482, 483, 484, 485, 486, 487, 488, 489, 490, 491, 492, 493, 494, 495, 496, 497] (by decide +kernel) (by decide +kernel)
set_option maxRecDepth 20000 in
theorem gL_law_X2_open : GoodIn wsL_law (wsV RL 153 RX2 yX2_open wsX2_open) := goodIn_app (goodIn_of _ (by decide +kernel)) ggL_law_X2_open
theorem dL_law_0 : decode cL_law 0 = .ok (.new 8, 3) := by decide +kernel
theorem dL_law_3 : decode cL_law 3 = .ok (.dup, 1) := by decide +kernel
theorem dL_law_4 : decode cL_law 4 = .ok (.invokespecial 73, 3) := by decide +kernel
theorem dL_law_7 : decode cL_law 7 = .ok (.astore_n 1, 1) := by decide +kernel
theorem dL_law_8 : decode cL_law 8 = .ok (.new 74, 3) := by decide +kernel
theorem dL_law_11 : decode cL_law 11 = .ok (.dup, 1) := by decide +kernel
theorem dL_law_12 : decode cL_law 12 = .ok (.invokespecial 76, 3) := by decide +kernel
theorem dL_law_15 : decode cL_law 15 = .ok (.astore_n 2, 1) := by decide +kernel
theorem dL_law_16 : decode cL_law 16 = .ok (.iconst 1, 1) := by decide +kernel
theorem dL_law_17 : decode cL_law 17 = .ok (.newarray .long, 2) := by decide +kernel
theorem dL_law_19 : decode cL_law 19 = .ok (.astore_n 3, 1) := by decide +kernel
theorem dL_law_20 : decode cL_law 20 = .ok (.iconst 0, 1) := by decide +kernel
theorem dL_law_21 : decode cL_law 21 = .ok (.istore 4, 2) := by decide +kernel
theorem dL_law_23 : decode cL_law 23 = .ok (.iload 4, 2) := by decide +kernel
theorem dL_law_25 : decode cL_law 25 = .ok (.aload_n 0, 1) := by decide +kernel
theorem dL_law_26 : decode cL_law 26 = .ok (.arraylength, 1) := by decide +kernel
theorem dL_law_27 : decode cL_law 27 = .ok (.bipush 6, 2) := by decide +kernel
theorem dL_law_29 : decode cL_law 29 = .ok (.isub, 1) := by decide +kernel
theorem dL_law_30 : decode cL_law 30 = .ok (.if_icmp .gt 1249, 3) := by decide +kernel
theorem dL_law_33 : decode cL_law 33 = .ok (.aload_n 0, 1) := by decide +kernel
theorem dL_law_34 : decode cL_law 34 = .ok (.iload 4, 2) := by decide +kernel
theorem dL_law_36 : decode cL_law 36 = .ok (.iaload, 1) := by decide +kernel
theorem dL_law_37 : decode cL_law 37 = .ok (.bipush 31, 2) := by decide +kernel
theorem dL_law_39 : decode cL_law 39 = .ok (.iand, 1) := by decide +kernel
theorem dL_law_40 : decode cL_law 40 = .ok (.tableswitch 1233 0 20 #[100, 184, 252, 320, 388, 468, 511, 524, 580, 648, 704, 760, 816, 872, 928, 984, 1039, 1094, 1150, 1206, 1219], 100) := by decide +kernel
theorem dL_law_140 : decode cL_law 140 = .ok (.aload_n 1, 1) := by decide +kernel
theorem dL_law_141 : decode cL_law 141 = .ok (.aload_n 0, 1) := by decide +kernel
theorem dL_law_142 : decode cL_law 142 = .ok (.iload 4, 2) := by decide +kernel
theorem dL_law_144 : decode cL_law 144 = .ok (.iconst 1, 1) := by decide +kernel
theorem dL_law_145 : decode cL_law 145 = .ok (.iadd, 1) := by decide +kernel
theorem dL_law_146 : decode cL_law 146 = .ok (.iaload, 1) := by decide +kernel
theorem dL_law_147 : decode cL_law 147 = .ok (.aload_n 0, 1) := by decide +kernel
theorem dL_law_148 : decode cL_law 148 = .ok (.iload 4, 2) := by decide +kernel
theorem dL_law_150 : decode cL_law 150 = .ok (.iconst 2, 1) := by decide +kernel
theorem dL_law_151 : decode cL_law 151 = .ok (.iadd, 1) := by decide +kernel
theorem dL_law_152 : decode cL_law 152 = .ok (.iaload, 1) := by decide +kernel
theorem dL_law_153 : decode cL_law 153 = .ok (.aload_n 0, 1) := by decide +kernel
theorem dL_law_154 : decode cL_law 154 = .ok (.iload 4, 2) := by decide +kernel
theorem dL_law_156 : decode cL_law 156 = .ok (.iconst 3, 1) := by decide +kernel
theorem dL_law_157 : decode cL_law 157 = .ok (.iadd, 1) := by decide +kernel
theorem dL_law_158 : decode cL_law 158 = .ok (.iaload, 1) := by decide +kernel
theorem dL_law_159 : decode cL_law 159 = .ok (.aload_n 0, 1) := by decide +kernel
theorem dL_law_160 : decode cL_law 160 = .ok (.iload 4, 2) := by decide +kernel
theorem dL_law_162 : decode cL_law 162 = .ok (.iconst 4, 1) := by decide +kernel
theorem dL_law_163 : decode cL_law 163 = .ok (.iadd, 1) := by decide +kernel
theorem dL_law_164 : decode cL_law 164 = .ok (.iaload, 1) := by decide +kernel
theorem dL_law_165 : decode cL_law 165 = .ok (.aload_n 0, 1) := by decide +kernel
theorem dL_law_166 : decode cL_law 166 = .ok (.iload 4, 2) := by decide +kernel
theorem dL_law_168 : decode cL_law 168 = .ok (.iconst 5, 1) := by decide +kernel
theorem dL_law_169 : decode cL_law 169 = .ok (.iadd, 1) := by decide +kernel
theorem dL_law_170 : decode cL_law 170 = .ok (.iaload, 1) := by decide +kernel
theorem dL_law_171 : decode cL_law 171 = .ok (.invokestatic 77, 3) := by decide +kernel
theorem dL_law_174 : decode cL_law 174 = .ok (.istore 5, 2) := by decide +kernel
theorem dL_law_176 : decode cL_law 176 = .ok (.aload_n 2, 1) := by decide +kernel
theorem dL_law_177 : decode cL_law 177 = .ok (.aload_n 0, 1) := by decide +kernel
theorem dL_law_178 : decode cL_law 178 = .ok (.iload 4, 2) := by decide +kernel
theorem dL_law_180 : decode cL_law 180 = .ok (.iconst 1, 1) := by decide +kernel
theorem dL_law_181 : decode cL_law 181 = .ok (.iadd, 1) := by decide +kernel
theorem dL_law_182 : decode cL_law 182 = .ok (.iaload, 1) := by decide +kernel
theorem dL_law_183 : decode cL_law 183 = .ok (.aload_n 0, 1) := by decide +kernel
theorem dL_law_184 : decode cL_law 184 = .ok (.iload 4, 2) := by decide +kernel
theorem dL_law_186 : decode cL_law 186 = .ok (.iconst 2, 1) := by decide +kernel
theorem dL_law_187 : decode cL_law 187 = .ok (.iadd, 1) := by decide +kernel
theorem dL_law_188 : decode cL_law 188 = .ok (.iaload, 1) := by decide +kernel
theorem dL_law_189 : decode cL_law 189 = .ok (.aload_n 0, 1) := by decide +kernel
theorem dL_law_190 : decode cL_law 190 = .ok (.iload 4, 2) := by decide +kernel
theorem dL_law_192 : decode cL_law 192 = .ok (.iconst 3, 1) := by decide +kernel
theorem dL_law_193 : decode cL_law 193 = .ok (.iadd, 1) := by decide +kernel
theorem dL_law_194 : decode cL_law 194 = .ok (.iaload, 1) := by decide +kernel
theorem dL_law_195 : decode cL_law 195 = .ok (.aload_n 0, 1) := by decide +kernel
theorem dL_law_196 : decode cL_law 196 = .ok (.iload 4, 2) := by decide +kernel
theorem dL_law_198 : decode cL_law 198 = .ok (.iconst 4, 1) := by decide +kernel
theorem dL_law_199 : decode cL_law 199 = .ok (.iadd, 1) := by decide +kernel
theorem dL_law_200 : decode cL_law 200 = .ok (.iaload, 1) := by decide +kernel
theorem dL_law_201 : decode cL_law 201 = .ok (.aload_n 0, 1) := by decide +kernel
theorem dL_law_202 : decode cL_law 202 = .ok (.iload 4, 2) := by decide +kernel
theorem dL_law_204 : decode cL_law 204 = .ok (.iconst 5, 1) := by decide +kernel
theorem dL_law_205 : decode cL_law 205 = .ok (.iadd, 1) := by decide +kernel
theorem dL_law_206 : decode cL_law 206 = .ok (.iaload, 1) := by decide +kernel
theorem dL_law_207 : decode cL_law 207 = .ok (.invokevirtual 82, 3) := by decide +kernel
theorem dL_law_210 : decode cL_law 210 = .ok (.aload_n 2, 1) := by decide +kernel
theorem dL_law_211 : decode cL_law 211 = .ok (.invokevirtual 83, 3) := by decide +kernel
theorem dL_law_214 : decode cL_law 214 = .ok (.iload 5, 2) := by decide +kernel
theorem dL_law_216 : decode cL_law 216 = .ok (.if_icmp .eq 5, 3) := by decide +kernel
theorem dL_law_219 : decode cL_law 219 = .ok (.iconst 0, 1) := by decide +kernel
theorem dL_law_220 : decode cL_law 220 = .ok (.ireturn, 1) := by decide +kernel
theorem dL_law_221 : decode cL_law 221 = .ok (.goto 1052, 3) := by decide +kernel
theorem dL_law_224 : decode cL_law 224 = .ok (.aload_n 1, 1) := by decide +kernel
theorem dL_law_225 : decode cL_law 225 = .ok (.aload_n 0, 1) := by decide +kernel
theorem dL_law_226 : decode cL_law 226 = .ok (.iload 4, 2) := by decide +kernel
theorem dL_law_228 : decode cL_law 228 = .ok (.iconst 1, 1) := by decide +kernel
theorem dL_law_229 : decode cL_law 229 = .ok (.iadd, 1) := by decide +kernel
theorem dL_law_230 : decode cL_law 230 = .ok (.iaload, 1) := by decide +kernel
theorem dL_law_231 : decode cL_law 231 = .ok (.aload_n 0, 1) := by decide +kernel
theorem dL_law_232 : decode cL_law 232 = .ok (.iload 4, 2) := by decide +kernel
theorem dL_law_234 : decode cL_law 234 = .ok (.iconst 2, 1) := by decide +kernel
theorem dL_law_235 : decode cL_law 235 = .ok (.iadd, 1) := by decide +kernel
theorem dL_law_236 : decode cL_law 236 = .ok (.iaload, 1) := by decide +kernel
theorem dL_law_237 : decode cL_law 237 = .ok (.aload_n 3, 1) := by decide +kernel
theorem dL_law_238 : decode cL_law 238 = .ok (.invokestatic 87, 3) := by decide +kernel
theorem dL_law_241 : decode cL_law 241 = .ok (.istore 5, 2) := by decide +kernel
theorem dL_law_243 : decode cL_law 243 = .ok (.aload_n 2, 1) := by decide +kernel
theorem dL_law_244 : decode cL_law 244 = .ok (.aload_n 0, 1) := by decide +kernel
theorem dL_law_245 : decode cL_law 245 = .ok (.iload 4, 2) := by decide +kernel
theorem dL_law_247 : decode cL_law 247 = .ok (.iconst 1, 1) := by decide +kernel
theorem dL_law_248 : decode cL_law 248 = .ok (.iadd, 1) := by decide +kernel
theorem dL_law_249 : decode cL_law 249 = .ok (.iaload, 1) := by decide +kernel
theorem dL_law_250 : decode cL_law 250 = .ok (.aload_n 0, 1) := by decide +kernel
theorem dL_law_251 : decode cL_law 251 = .ok (.iload 4, 2) := by decide +kernel
theorem dL_law_253 : decode cL_law 253 = .ok (.iconst 2, 1) := by decide +kernel
theorem dL_law_254 : decode cL_law 254 = .ok (.iadd, 1) := by decide +kernel
theorem dL_law_255 : decode cL_law 255 = .ok (.iaload, 1) := by decide +kernel
theorem dL_law_256 : decode cL_law 256 = .ok (.invokevirtual 90, 3) := by decide +kernel
theorem dL_law_259 : decode cL_law 259 = .ok (.istore 6, 2) := by decide +kernel
theorem dL_law_261 : decode cL_law 261 = .ok (.aload_n 2, 1) := by decide +kernel
theorem dL_law_262 : decode cL_law 262 = .ok (.invokevirtual 83, 3) := by decide +kernel
theorem dL_law_265 : decode cL_law 265 = .ok (.iload 5, 2) := by decide +kernel
theorem dL_law_267 : decode cL_law 267 = .ok (.if_icmp .eq 5, 3) := by decide +kernel
theorem dL_law_270 : decode cL_law 270 = .ok (.iconst 0, 1) := by decide +kernel
theorem dL_law_271 : decode cL_law 271 = .ok (.ireturn, 1) := by decide +kernel
theorem dL_law_272 : decode cL_law 272 = .ok (.iload 5, 2) := by decide +kernel
theorem dL_law_274 : decode cL_law 274 = .ok (.ifCond .ne 15, 3) := by decide +kernel
theorem dL_law_277 : decode cL_law 277 = .ok (.aload_n 3, 1) := by decide +kernel
theorem dL_law_278 : decode cL_law 278 = .ok (.iconst 0, 1) := by decide +kernel
theorem dL_law_279 : decode cL_law 279 = .ok (.laload, 1) := by decide +kernel
theorem dL_law_280 : decode cL_law 280 = .ok (.iload 6, 2) := by decide +kernel
theorem dL_law_282 : decode cL_law 282 = .ok (.i2l, 1) := by decide +kernel
theorem dL_law_283 : decode cL_law 283 = .ok (.lcmp, 1) := by decide +kernel
theorem dL_law_284 : decode cL_law 284 = .ok (.ifCond .eq 5, 3) := by decide +kernel
theorem dL_law_287 : decode cL_law 287 = .ok (.iconst 0, 1) := by decide +kernel
theorem dL_law_288 : decode cL_law 288 = .ok (.ireturn, 1) := by decide +kernel
theorem dL_law_289 : decode cL_law 289 = .ok (.goto 984, 3) := by decide +kernel
theorem dL_law_292 : decode cL_law 292 = .ok (.aload_n 1, 1) := by decide +kernel
theorem dL_law_293 : decode cL_law 293 = .ok (.aload_n 0, 1) := by decide +kernel
theorem dL_law_294 : decode cL_law 294 = .ok (.iload 4, 2) := by decide +kernel
theorem dL_law_296 : decode cL_law 296 = .ok (.iconst 1, 1) := by decide +kernel
theorem dL_law_297 : decode cL_law 297 = .ok (.iadd, 1) := by decide +kernel
theorem dL_law_298 : decode cL_law 298 = .ok (.iaload, 1) := by decide +kernel
theorem dL_law_299 : decode cL_law 299 = .ok (.aload_n 0, 1) := by decide +kernel
theorem dL_law_300 : decode cL_law 300 = .ok (.iload 4, 2) := by decide +kernel
theorem dL_law_302 : decode cL_law 302 = .ok (.iconst 2, 1) := by decide +kernel
theorem dL_law_303 : decode cL_law 303 = .ok (.iadd, 1) := by decide +kernel
theorem dL_law_304 : decode cL_law 304 = .ok (.iaload, 1) := by decide +kernel
theorem dL_law_305 : decode cL_law 305 = .ok (.aload_n 3, 1) := by decide +kernel
theorem dL_law_306 : decode cL_law 306 = .ok (.invokestatic 91, 3) := by decide +kernel
theorem dL_law_309 : decode cL_law 309 = .ok (.istore 5, 2) := by decide +kernel
theorem dL_law_311 : decode cL_law 311 = .ok (.aload_n 2, 1) := by decide +kernel
theorem dL_law_312 : decode cL_law 312 = .ok (.aload_n 0, 1) := by decide +kernel
theorem dL_law_313 : decode cL_law 313 = .ok (.iload 4, 2) := by decide +kernel
theorem dL_law_315 : decode cL_law 315 = .ok (.iconst 1, 1) := by decide +kernel
theorem dL_law_316 : decode cL_law 316 = .ok (.iadd, 1) := by decide +kernel
theorem dL_law_317 : decode cL_law 317 = .ok (.iaload, 1) := by decide +kernel
theorem dL_law_318 : decode cL_law 318 = .ok (.aload_n 0, 1) := by decide +kernel
theorem dL_law_319 : decode cL_law 319 = .ok (.iload 4, 2) := by decide +kernel
theorem dL_law_321 : decode cL_law 321 = .ok (.iconst 2, 1) := by decide +kernel
theorem dL_law_322 : decode cL_law 322 = .ok (.iadd, 1) := by decide +kernel
theorem dL_law_323 : decode cL_law 323 = .ok (.iaload, 1) := by decide +kernel
theorem dL_law_324 : decode cL_law 324 = .ok (.invokevirtual 93, 3) := by decide +kernel
theorem dL_law_327 : decode cL_law 327 = .ok (.istore 6, 2) := by decide +kernel
theorem dL_law_329 : decode cL_law 329 = .ok (.aload_n 2, 1) := by decide +kernel
theorem dL_law_330 : decode cL_law 330 = .ok (.invokevirtual 83, 3) := by decide +kernel
theorem dL_law_333 : decode cL_law 333 = .ok (.iload 5, 2) := by decide +kernel
theorem dL_law_335 : decode cL_law 335 = .ok (.if_icmp .eq 5, 3) := by decide +kernel
theorem dL_law_338 : decode cL_law 338 = .ok (.iconst 0, 1) := by decide +kernel
theorem dL_law_339 : decode cL_law 339 = .ok (.ireturn, 1) := by decide +kernel
theorem dL_law_340 : decode cL_law 340 = .ok (.iload 5, 2) := by decide +kernel
theorem dL_law_342 : decode cL_law 342 = .ok (.ifCond .ne 15, 3) := by decide +kernel
theorem dL_law_345 : decode cL_law 345 = .ok (.aload_n 3, 1) := by decide +kernel
theorem dL_law_346 : decode cL_law 346 = .ok (.iconst 0, 1) := by decide +kernel
theorem dL_law_347 : decode cL_law 347 = .ok (.laload, 1) := by decide +kernel
theorem dL_law_348 : decode cL_law 348 = .ok (.iload 6, 2) := by decide +kernel
theorem dL_law_350 : decode cL_law 350 = .ok (.i2l, 1) := by decide +kernel
theorem dL_law_351 : decode cL_law 351 = .ok (.lcmp, 1) := by decide +kernel
theorem dL_law_352 : decode cL_law 352 = .ok (.ifCond .eq 5, 3) := by decide +kernel
theorem dL_law_355 : decode cL_law 355 = .ok (.iconst 0, 1) := by decide +kernel
theorem dL_law_356 : decode cL_law 356 = .ok (.ireturn, 1) := by decide +kernel
theorem dL_law_357 : decode cL_law 357 = .ok (.goto 916, 3) := by decide +kernel
theorem dL_law_360 : decode cL_law 360 = .ok (.aload_n 1, 1) := by decide +kernel
theorem dL_law_361 : decode cL_law 361 = .ok (.aload_n 0, 1) := by decide +kernel
theorem dL_law_362 : decode cL_law 362 = .ok (.iload 4, 2) := by decide +kernel
theorem dL_law_364 : decode cL_law 364 = .ok (.iconst 1, 1) := by decide +kernel
theorem dL_law_365 : decode cL_law 365 = .ok (.iadd, 1) := by decide +kernel
theorem dL_law_366 : decode cL_law 366 = .ok (.iaload, 1) := by decide +kernel
theorem dL_law_367 : decode cL_law 367 = .ok (.aload_n 0, 1) := by decide +kernel
theorem dL_law_368 : decode cL_law 368 = .ok (.iload 4, 2) := by decide +kernel
theorem dL_law_370 : decode cL_law 370 = .ok (.iconst 2, 1) := by decide +kernel
theorem dL_law_371 : decode cL_law 371 = .ok (.iadd, 1) := by decide +kernel
theorem dL_law_372 : decode cL_law 372 = .ok (.iaload, 1) := by decide +kernel
theorem dL_law_373 : decode cL_law 373 = .ok (.aload_n 3, 1) := by decide +kernel
theorem dL_law_374 : decode cL_law 374 = .ok (.invokestatic 94, 3) := by decide +kernel
theorem dL_law_377 : decode cL_law 377 = .ok (.istore 5, 2) := by decide +kernel
theorem dL_law_379 : decode cL_law 379 = .ok (.aload_n 2, 1) := by decide +kernel
theorem dL_law_380 : decode cL_law 380 = .ok (.aload_n 0, 1) := by decide +kernel
theorem dL_law_381 : decode cL_law 381 = .ok (.iload 4, 2) := by decide +kernel
theorem dL_law_383 : decode cL_law 383 = .ok (.iconst 1, 1) := by decide +kernel
theorem dL_law_384 : decode cL_law 384 = .ok (.iadd, 1) := by decide +kernel
theorem dL_law_385 : decode cL_law 385 = .ok (.iaload, 1) := by decide +kernel
theorem dL_law_386 : decode cL_law 386 = .ok (.aload_n 0, 1) := by decide +kernel
theorem dL_law_387 : decode cL_law 387 = .ok (.iload 4, 2) := by decide +kernel
theorem dL_law_389 : decode cL_law 389 = .ok (.iconst 2, 1) := by decide +kernel
theorem dL_law_390 : decode cL_law 390 = .ok (.iadd, 1) := by decide +kernel
theorem dL_law_391 : decode cL_law 391 = .ok (.iaload, 1) := by decide +kernel
theorem dL_law_392 : decode cL_law 392 = .ok (.invokevirtual 96, 3) := by decide +kernel
theorem dL_law_395 : decode cL_law 395 = .ok (.istore 6, 2) := by decide +kernel
theorem dL_law_397 : decode cL_law 397 = .ok (.aload_n 2, 1) := by decide +kernel
theorem dL_law_398 : decode cL_law 398 = .ok (.invokevirtual 83, 3) := by decide +kernel
theorem dL_law_401 : decode cL_law 401 = .ok (.iload 5, 2) := by decide +kernel
theorem dL_law_403 : decode cL_law 403 = .ok (.if_icmp .eq 5, 3) := by decide +kernel
theorem dL_law_406 : decode cL_law 406 = .ok (.iconst 0, 1) := by decide +kernel
theorem dL_law_407 : decode cL_law 407 = .ok (.ireturn, 1) := by decide +kernel
theorem dL_law_408 : decode cL_law 408 = .ok (.iload 5, 2) := by decide +kernel
theorem dL_law_410 : decode cL_law 410 = .ok (.ifCond .ne 15, 3) := by decide +kernel
theorem dL_law_413 : decode cL_law 413 = .ok (.aload_n 3, 1) := by decide +kernel
theorem dL_law_414 : decode cL_law 414 = .ok (.iconst 0, 1) := by decide +kernel
theorem dL_law_415 : decode cL_law 415 = .ok (.laload, 1) := by decide +kernel
theorem dL_law_416 : decode cL_law 416 = .ok (.iload 6, 2) := by decide +kernel
theorem dL_law_418 : decode cL_law 418 = .ok (.i2l, 1) := by decide +kernel
theorem dL_law_419 : decode cL_law 419 = .ok (.lcmp, 1) := by decide +kernel
theorem dL_law_420 : decode cL_law 420 = .ok (.ifCond .eq 5, 3) := by decide +kernel
theorem dL_law_423 : decode cL_law 423 = .ok (.iconst 0, 1) := by decide +kernel
theorem dL_law_424 : decode cL_law 424 = .ok (.ireturn, 1) := by decide +kernel
theorem dL_law_425 : decode cL_law 425 = .ok (.goto 848, 3) := by decide +kernel
theorem dL_law_428 : decode cL_law 428 = .ok (.aload_n 1, 1) := by decide +kernel
theorem dL_law_429 : decode cL_law 429 = .ok (.aload_n 0, 1) := by decide +kernel
theorem dL_law_430 : decode cL_law 430 = .ok (.iload 4, 2) := by decide +kernel
theorem dL_law_432 : decode cL_law 432 = .ok (.iconst 1, 1) := by decide +kernel
theorem dL_law_433 : decode cL_law 433 = .ok (.iadd, 1) := by decide +kernel
theorem dL_law_434 : decode cL_law 434 = .ok (.iaload, 1) := by decide +kernel
theorem dL_law_435 : decode cL_law 435 = .ok (.aload_n 0, 1) := by decide +kernel
theorem dL_law_436 : decode cL_law 436 = .ok (.iload 4, 2) := by decide +kernel
theorem dL_law_438 : decode cL_law 438 = .ok (.iconst 2, 1) := by decide +kernel
theorem dL_law_439 : decode cL_law 439 = .ok (.iadd, 1) := by decide +kernel
theorem dL_law_440 : decode cL_law 440 = .ok (.iaload, 1) := by decide +kernel
theorem dL_law_441 : decode cL_law 441 = .ok (.aload_n 0, 1) := by decide +kernel
theorem dL_law_442 : decode cL_law 442 = .ok (.iload 4, 2) := by decide +kernel
theorem dL_law_444 : decode cL_law 444 = .ok (.iconst 3, 1) := by decide +kernel
theorem dL_law_445 : decode cL_law 445 = .ok (.iadd, 1) := by decide +kernel
theorem dL_law_446 : decode cL_law 446 = .ok (.iaload, 1) := by decide +kernel
theorem dL_law_447 : decode cL_law 447 = .ok (.aload_n 3, 1) := by decide +kernel
theorem dL_law_448 : decode cL_law 448 = .ok (.invokestatic 97, 3) := by decide +kernel
theorem dL_law_451 : decode cL_law 451 = .ok (.istore 5, 2) := by decide +kernel
theorem dL_law_453 : decode cL_law 453 = .ok (.aload_n 2, 1) := by decide +kernel
theorem dL_law_454 : decode cL_law 454 = .ok (.aload_n 0, 1) := by decide +kernel
theorem dL_law_455 : decode cL_law 455 = .ok (.iload 4, 2) := by decide +kernel
theorem dL_law_457 : decode cL_law 457 = .ok (.iconst 1, 1) := by decide +kernel
theorem dL_law_458 : decode cL_law 458 = .ok (.iadd, 1) := by decide +kernel
theorem dL_law_459 : decode cL_law 459 = .ok (.iaload, 1) := by decide +kernel
theorem dL_law_460 : decode cL_law 460 = .ok (.aload_n 0, 1) := by decide +kernel
theorem dL_law_461 : decode cL_law 461 = .ok (.iload 4, 2) := by decide +kernel
theorem dL_law_463 : decode cL_law 463 = .ok (.iconst 2, 1) := by decide +kernel
theorem dL_law_464 : decode cL_law 464 = .ok (.iadd, 1) := by decide +kernel
theorem dL_law_465 : decode cL_law 465 = .ok (.iaload, 1) := by decide +kernel
theorem dL_law_466 : decode cL_law 466 = .ok (.aload_n 0, 1) := by decide +kernel
theorem dL_law_467 : decode cL_law 467 = .ok (.iload 4, 2) := by decide +kernel
theorem dL_law_469 : decode cL_law 469 = .ok (.iconst 3, 1) := by decide +kernel
theorem dL_law_470 : decode cL_law 470 = .ok (.iadd, 1) := by decide +kernel
theorem dL_law_471 : decode cL_law 471 = .ok (.iaload, 1) := by decide +kernel
theorem dL_law_472 : decode cL_law 472 = .ok (.invokevirtual 100, 3) := by decide +kernel
theorem dL_law_475 : decode cL_law 475 = .ok (.istore 6, 2) := by decide +kernel
theorem dL_law_477 : decode cL_law 477 = .ok (.aload_n 2, 1) := by decide +kernel
theorem dL_law_478 : decode cL_law 478 = .ok (.invokevirtual 83, 3) := by decide +kernel
theorem dL_law_481 : decode cL_law 481 = .ok (.iload 5, 2) := by decide +kernel
theorem dL_law_483 : decode cL_law 483 = .ok (.if_icmp .eq 5, 3) := by decide +kernel
theorem dL_law_486 : decode cL_law 486 = .ok (.iconst 0, 1) := by decide +kernel
theorem dL_law_487 : decode cL_law 487 = .ok (.ireturn, 1) := by decide +kernel
theorem dL_law_488 : decode cL_law 488 = .ok (.iload 5, 2) := by decide +kernel
theorem dL_law_490 : decode cL_law 490 = .ok (.ifCond .ne 15, 3) := by decide +kernel
theorem dL_law_493 : decode cL_law 493 = .ok (.aload_n 3, 1) := by decide +kernel
theorem dL_law_494 : decode cL_law 494 = .ok (.iconst 0, 1) := by decide +kernel
theorem dL_law_495 : decode cL_law 495 = .ok (.laload, 1) := by decide +kernel
theorem dL_law_496 : decode cL_law 496 = .ok (.iload 6, 2) := by decide +kernel
theorem dL_law_498 : decode cL_law 498 = .ok (.i2l, 1) := by decide +kernel
theorem dL_law_499 : decode cL_law 499 = .ok (.lcmp, 1) := by decide +kernel
theorem dL_law_500 : decode cL_law 500 = .ok (.ifCond .eq 5, 3) := by decide +kernel
theorem dL_law_503 : decode cL_law 503 = .ok (.iconst 0, 1) := by decide +kernel
theorem dL_law_504 : decode cL_law 504 = .ok (.ireturn, 1) := by decide +kernel
theorem dL_law_505 : decode cL_law 505 = .ok (.goto 768, 3) := by decide +kernel
theorem dL_law_508 : decode cL_law 508 = .ok (.aload_n 1, 1) := by decide +kernel
theorem dL_law_509 : decode cL_law 509 = .ok (.aload_n 3, 1) := by decide +kernel
theorem dL_law_510 : decode cL_law 510 = .ok (.invokestatic 101, 3) := by decide +kernel
theorem dL_law_513 : decode cL_law 513 = .ok (.istore 5, 2) := by decide +kernel
theorem dL_law_515 : decode cL_law 515 = .ok (.aload_n 2, 1) := by decide +kernel
theorem dL_law_516 : decode cL_law 516 = .ok (.invokevirtual 104, 3) := by decide +kernel
theorem dL_law_519 : decode cL_law 519 = .ok (.lstore 6, 2) := by decide +kernel
theorem dL_law_521 : decode cL_law 521 = .ok (.aload_n 2, 1) := by decide +kernel
theorem dL_law_522 : decode cL_law 522 = .ok (.invokevirtual 83, 3) := by decide +kernel
theorem dL_law_525 : decode cL_law 525 = .ok (.iload 5, 2) := by decide +kernel
theorem dL_law_527 : decode cL_law 527 = .ok (.if_icmp .eq 5, 3) := by decide +kernel
theorem dL_law_530 : decode cL_law 530 = .ok (.iconst 0, 1) := by decide +kernel
theorem dL_law_531 : decode cL_law 531 = .ok (.ireturn, 1) := by decide +kernel
theorem dL_law_532 : decode cL_law 532 = .ok (.iload 5, 2) := by decide +kernel
theorem dL_law_534 : decode cL_law 534 = .ok (.ifCond .ne 14, 3) := by decide +kernel
theorem dL_law_537 : decode cL_law 537 = .ok (.aload_n 3, 1) := by decide +kernel
theorem dL_law_538 : decode cL_law 538 = .ok (.iconst 0, 1) := by decide +kernel
theorem dL_law_539 : decode cL_law 539 = .ok (.laload, 1) := by decide +kernel
theorem dL_law_540 : decode cL_law 540 = .ok (.lload 6, 2) := by decide +kernel
theorem dL_law_542 : decode cL_law 542 = .ok (.lcmp, 1) := by decide +kernel
theorem dL_law_543 : decode cL_law 543 = .ok (.ifCond .eq 5, 3) := by decide +kernel
theorem dL_law_546 : decode cL_law 546 = .ok (.iconst 0, 1) := by decide +kernel
theorem dL_law_547 : decode cL_law 547 = .ok (.ireturn, 1) := by decide +kernel
theorem dL_law_548 : decode cL_law 548 = .ok (.goto 725, 3) := by decide +kernel
theorem dL_law_551 : decode cL_law 551 = .ok (.aload_n 1, 1) := by decide +kernel
theorem dL_law_552 : decode cL_law 552 = .ok (.invokevirtual 105, 3) := by decide +kernel
theorem dL_law_555 : decode cL_law 555 = .ok (.aload_n 2, 1) := by decide +kernel
theorem dL_law_556 : decode cL_law 556 = .ok (.invokevirtual 108, 3) := by decide +kernel
theorem dL_law_559 : decode cL_law 559 = .ok (.if_icmp .eq 714, 3) := by decide +kernel
theorem dL_law_562 : decode cL_law 562 = .ok (.iconst 0, 1) := by decide +kernel
theorem dL_law_563 : decode cL_law 563 = .ok (.ireturn, 1) := by decide +kernel
theorem dL_law_564 : decode cL_law 564 = .ok (.aload_n 1, 1) := by decide +kernel
theorem dL_law_565 : decode cL_law 565 = .ok (.aload_n 0, 1) := by decide +kernel
theorem dL_law_566 : decode cL_law 566 = .ok (.iload 4, 2) := by decide +kernel
theorem dL_law_568 : decode cL_law 568 = .ok (.iconst 1, 1) := by decide +kernel
theorem dL_law_569 : decode cL_law 569 = .ok (.iadd, 1) := by decide +kernel
theorem dL_law_570 : decode cL_law 570 = .ok (.iaload, 1) := by decide +kernel
theorem dL_law_571 : decode cL_law 571 = .ok (.aload_n 3, 1) := by decide +kernel
theorem dL_law_572 : decode cL_law 572 = .ok (.invokestatic 109, 3) := by decide +kernel
theorem dL_law_575 : decode cL_law 575 = .ok (.istore 5, 2) := by decide +kernel
theorem dL_law_577 : decode cL_law 577 = .ok (.aload_n 2, 1) := by decide +kernel
theorem dL_law_578 : decode cL_law 578 = .ok (.aload_n 0, 1) := by decide +kernel
theorem dL_law_579 : decode cL_law 579 = .ok (.iload 4, 2) := by decide +kernel
theorem dL_law_581 : decode cL_law 581 = .ok (.iconst 1, 1) := by decide +kernel
theorem dL_law_582 : decode cL_law 582 = .ok (.iadd, 1) := by decide +kernel
theorem dL_law_583 : decode cL_law 583 = .ok (.iaload, 1) := by decide +kernel
theorem dL_law_584 : decode cL_law 584 = .ok (.invokevirtual 112, 3) := by decide +kernel
theorem dL_law_587 : decode cL_law 587 = .ok (.istore 6, 2) := by decide +kernel
theorem dL_law_589 : decode cL_law 589 = .ok (.aload_n 2, 1) := by decide +kernel
theorem dL_law_590 : decode cL_law 590 = .ok (.invokevirtual 83, 3) := by decide +kernel
theorem dL_law_593 : decode cL_law 593 = .ok (.iload 5, 2) := by decide +kernel
theorem dL_law_595 : decode cL_law 595 = .ok (.if_icmp .eq 5, 3) := by decide +kernel
theorem dL_law_598 : decode cL_law 598 = .ok (.iconst 0, 1) := by decide +kernel
theorem dL_law_599 : decode cL_law 599 = .ok (.ireturn, 1) := by decide +kernel
theorem dL_law_600 : decode cL_law 600 = .ok (.iload 5, 2) := by decide +kernel
theorem dL_law_602 : decode cL_law 602 = .ok (.ifCond .ne 15, 3) := by decide +kernel
theorem dL_law_605 : decode cL_law 605 = .ok (.aload_n 3, 1) := by decide +kernel
