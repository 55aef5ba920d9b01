theorem dL_step_438 : decode cL_step 438 = .ok (.if_icmp .ne 48, 3) := by decide +kernel
theorem dL_step_441 : decode cL_step 441 = .ok (.aload_n 0, 1) := by decide +kernel
theorem dL_step_442 : decode cL_step 442 = .ok (.iconst 0, 1) := by decide +kernel
theorem dL_step_443 : decode cL_step 443 = .ok (.sipush 359, 3) := by decide +kernel
theorem dL_step_446 : decode cL_step 446 = .ok (.invokevirtual 48, 3) := by decide +kernel
theorem dL_step_449 : decode cL_step 449 = .ok (.aload_n 1, 1) := by decide +kernel
theorem dL_step_450 : decode cL_step 450 = .ok (.bipush 6, 2) := by decide +kernel
theorem dL_step_452 : decode cL_step 452 = .ok (.iaload, 1) := by decide +kernel
theorem dL_step_453 : decode cL_step 453 = .ok (.if_icmp .ne 33, 3) := by decide +kernel
theorem dL_step_456 : decode cL_step 456 = .ok (.aload_n 0, 1) := by decide +kernel
theorem dL_step_457 : decode cL_step 457 = .ok (.iconst 0, 1) := by decide +kernel
theorem dL_step_458 : decode cL_step 458 = .ok (.iload 5, 2) := by decide +kernel
theorem dL_step_460 : decode cL_step 460 = .ok (.invokevirtual 48, 3) := by decide +kernel
theorem dL_step_463 : decode cL_step 463 = .ok (.aload_n 0, 1) := by decide +kernel
theorem dL_step_464 : decode cL_step 464 = .ok (.iload 5, 2) := by decide +kernel
theorem dL_step_466 : decode cL_step 466 = .ok (.iconst 1, 1) := by decide +kernel
theorem dL_step_467 : decode cL_step 467 = .ok (.iadd, 1) := by decide +kernel
theorem dL_step_468 : decode cL_step 468 = .ok (.sipush 359, 3) := by decide +kernel
theorem dL_step_471 : decode cL_step 471 = .ok (.invokevirtual 48, 3) := by decide +kernel
theorem dL_step_474 : decode cL_step 474 = .ok (.iadd, 1) := by decide +kernel
theorem dL_step_475 : decode cL_step 475 = .ok (.aload_n 1, 1) := by decide +kernel
theorem dL_step_476 : decode cL_step 476 = .ok (.bipush 6, 2) := by decide +kernel
theorem dL_step_478 : decode cL_step 478 = .ok (.iaload, 1) := by decide +kernel
theorem dL_step_479 : decode cL_step 479 = .ok (.if_icmp .ne 7, 3) := by decide +kernel
theorem dL_step_482 : decode cL_step 482 = .ok (.iconst 1, 1) := by decide +kernel
theorem dL_step_483 : decode cL_step 483 = .ok (.goto 4, 3) := by decide +kernel
theorem dL_step_486 : decode cL_step 486 = .ok (.iconst 0, 1) := by decide +kernel
theorem dL_step_487 : decode cL_step 487 = .ok (.ireturn, 1) := by decide +kernel
theorem dL_step_488 : decode cL_step 488 = .ok (.aload_n 1, 1) := by decide +kernel
theorem dL_step_489 : decode cL_step 489 = .ok (.iconst 5, 1) := by decide +kernel
theorem dL_step_490 : decode cL_step 490 = .ok (.iaload, 1) := by decide +kernel
theorem dL_step_491 : decode cL_step 491 = .ok (.bipush 20, 2) := by decide +kernel
theorem dL_step_493 : decode cL_step 493 = .ok (.if_icmp .eq 11, 3) := by decide +kernel
theorem dL_step_496 : decode cL_step 496 = .ok (.aload_n 0, 1) := by decide +kernel
theorem dL_step_497 : decode cL_step 497 = .ok (.aload_n 1, 1) := by decide +kernel
theorem dL_step_498 : decode cL_step 498 = .ok (.invokestatic 51, 3) := by decide +kernel
theorem dL_step_501 : decode cL_step 501 = .ok (.ifCond .eq 7, 3) := by decide +kernel
theorem dL_step_504 : decode cL_step 504 = .ok (.iconst 1, 1) := by decide +kernel
theorem dL_step_505 : decode cL_step 505 = .ok (.goto 4, 3) := by decide +kernel
theorem dL_step_508 : decode cL_step 508 = .ok (.iconst 0, 1) := by decide +kernel
theorem dL_step_509 : decode cL_step 509 = .ok (.ireturn, 1) := by decide +kernel
set_option maxRecDepth 20000 in
theorem ggL_takes_X1_takenFrom : GoodIn wsL_takes wsX1_takenFrom := goodIn_ca (goodIn_r _ [5, 6, 7, 8, 4, 9, 10, 11, 12, 13, 14, 15, 16, 17, 49, 50, 51, 52, 53, 54, 55, 56, 57, 58, 59, 60, 61, 62, 63, 64, 65] (by decide +kernel) (by decide +kernel)) (goodIn_sub (fun _ h => List.mem_cons_of_mem _ (List.mem_append_left _ (List.mem_append_right _ h))) (by decide +kernel))
set_option maxRecDepth 20000 in
theorem gL_takes_X1_takenFrom : GoodIn wsL_takes (wsV RL 48 RX1 yX1_takenFrom wsX1_takenFrom) := goodIn_app (goodIn_of _ (by decide +kernel)) ggL_takes_X1_takenFrom
set_option maxRecDepth 20000 in
theorem ggL_takes_X1_taken : GoodIn wsL_takes wsX1_taken := goodIn_ca (goodIn_r _ [21, 22, 23, 24, 4, 25, 13, 14, 15, 16, 17, 49, 50, 51, 52, 53, 54, 55, 56, 57, 58, 59, 60, 61, 62, 63, 64, 65] (by decide +kernel) (by decide +kernel)) (goodIn_sub (fun _ h => List.mem_cons_of_mem _ (List.mem_append_left _ (List.mem_append_right _ h))) (by decide +kernel))
set_option maxRecDepth 20000 in
theorem gL_takes_X1_taken : GoodIn wsL_takes (wsV RL 45 RX1 yX1_taken wsX1_taken) := goodIn_app (goodIn_of _ (by decide +kernel)) ggL_takes_X1_taken
set_option maxRecDepth 20000 in
theorem ggL_takes_X1_take : GoodIn wsL_takes wsX1_take := goodIn_ca (goodIn_ca (goodIn_r _ [29, 6, 10, 11, 4, 12, 13, 14, 15, 16, 17, 30, 31, 32, 33, 34, 35, 36, 37, 38, 39, 40, 41, 42, 43, 44, 22, 49, 50, 51, 52, 53, 54, 55, 56, 57, 58, 59, 60, 61, 62, 63, 64, 65] (by decide +kernel) (by decide +kernel)) (goodIn_sub (fun _ h => List.mem_cons_of_mem _ (List.mem_append_left _ (List.mem_append_right _ h))) (by decide +kernel))) (goodIn_sub (fun _ h => List.mem_cons_of_mem _ (List.mem_append_right _ h)) (by decide +kernel))
set_option maxRecDepth 20000 in
theorem gL_takes_X1_take : GoodIn wsL_takes (wsV RL 55 RX1 yX1_take wsX1_take) := goodIn_app (goodIn_of _ (by decide +kernel)) ggL_takes_X1_take
set_option maxRecDepth 20000 in
theorem ggL_takes_X1_takeDaily : GoodIn wsL_takes wsX1_takeDaily := goodIn_ca (goodIn_ca (goodIn_r _ [48, 22, 36, 7, 8, 4, 9, 10, 11, 12, 13, 14, 15, 16, 17, 30, 31, 32, 33, 34, 35, 37, 38, 39, 40, 6, 41, 42, 43, 44, 49, 50, 51, 52, 53, 54, 55, 56, 57, 58, 59, 60, 61, 62, 63, 64, 65] (by decide +kernel) (by decide +kernel)) (goodIn_sub (fun _ h => List.mem_cons_of_mem _ (List.mem_append_left _ (List.mem_append_right _ h))) (by decide +kernel))) (goodIn_sub (fun _ h => List.mem_cons_of_mem _ (List.mem_append_right _ h)) (by decide +kernel))
set_option maxRecDepth 20000 in
theorem gL_takes_X1_takeDaily : GoodIn wsL_takes (wsV RL 58 RX1 yX1_takeDaily wsX1_takeDaily) := goodIn_app (goodIn_of _ (by decide +kernel)) ggL_takes_X1_takeDaily
theorem dL_takes_0 : decode cL_takes 0 = .ok (.iload_n 2, 1) := by decide +kernel
theorem dL_takes_1 : decode cL_takes 1 = .ok (.iload_n 3, 1) := by decide +kernel
theorem dL_takes_2 : decode cL_takes 2 = .ok (.iadd, 1) := by decide +kernel
theorem dL_takes_3 : decode cL_takes 3 = .ok (.sipush 359, 3) := by decide +kernel
theorem dL_takes_6 : decode cL_takes 6 = .ok (.if_icmp .le 9, 3) := by decide +kernel
theorem dL_takes_9 : decode cL_takes 9 = .ok (.sipush 359, 3) := by decide +kernel
theorem dL_takes_12 : decode cL_takes 12 = .ok (.goto 6, 3) := by decide +kernel
theorem dL_takes_15 : decode cL_takes 15 = .ok (.iload_n 2, 1) := by decide +kernel
theorem dL_takes_16 : decode cL_takes 16 = .ok (.iload_n 3, 1) := by decide +kernel
theorem dL_takes_17 : decode cL_takes 17 = .ok (.iadd, 1) := by decide +kernel
theorem dL_takes_18 : decode cL_takes 18 = .ok (.istore 5, 2) := by decide +kernel
theorem dL_takes_20 : decode cL_takes 20 = .ok (.aload_n 1, 1) := by decide +kernel
theorem dL_takes_21 : decode cL_takes 21 = .ok (.iconst 5, 1) := by decide +kernel
theorem dL_takes_22 : decode cL_takes 22 = .ok (.iaload, 1) := by decide +kernel
theorem dL_takes_23 : decode cL_takes 23 = .ok (.bipush 20, 2) := by decide +kernel
theorem dL_takes_25 : decode cL_takes 25 = .ok (.if_icmp .ne 19, 3) := by decide +kernel
theorem dL_takes_28 : decode cL_takes 28 = .ok (.aload_n 0, 1) := by decide +kernel
theorem dL_takes_29 : decode cL_takes 29 = .ok (.iload_n 2, 1) := by decide +kernel
theorem dL_takes_30 : decode cL_takes 30 = .ok (.iload 5, 2) := by decide +kernel
theorem dL_takes_32 : decode cL_takes 32 = .ok (.invokevirtual 48, 3) := by decide +kernel
theorem dL_takes_35 : decode cL_takes 35 = .ok (.ifCond .ne 7, 3) := by decide +kernel
theorem dL_takes_38 : decode cL_takes 38 = .ok (.iconst 1, 1) := by decide +kernel
theorem dL_takes_39 : decode cL_takes 39 = .ok (.goto 4, 3) := by decide +kernel
theorem dL_takes_42 : decode cL_takes 42 = .ok (.iconst 0, 1) := by decide +kernel
theorem dL_takes_43 : decode cL_takes 43 = .ok (.ireturn, 1) := by decide +kernel
theorem dL_takes_44 : decode cL_takes 44 = .ok (.iload_n 2, 1) := by decide +kernel
theorem dL_takes_45 : decode cL_takes 45 = .ok (.istore 6, 2) := by decide +kernel
theorem dL_takes_47 : decode cL_takes 47 = .ok (.iload 6, 2) := by decide +kernel
theorem dL_takes_49 : decode cL_takes 49 = .ok (.iload 5, 2) := by decide +kernel
theorem dL_takes_51 : decode cL_takes 51 = .ok (.if_icmp .gt 46, 3) := by decide +kernel
theorem dL_takes_54 : decode cL_takes 54 = .ok (.aload_n 0, 1) := by decide +kernel
theorem dL_takes_55 : decode cL_takes 55 = .ok (.iload 6, 2) := by decide +kernel
theorem dL_takes_57 : decode cL_takes 57 = .ok (.iload 6, 2) := by decide +kernel
theorem dL_takes_59 : decode cL_takes 59 = .ok (.invokevirtual 48, 3) := by decide +kernel
theorem dL_takes_62 : decode cL_takes 62 = .ok (.iload 4, 2) := by decide +kernel
theorem dL_takes_64 : decode cL_takes 64 = .ok (.iadd, 1) := by decide +kernel
theorem dL_takes_65 : decode cL_takes 65 = .ok (.sipush 500, 3) := by decide +kernel
theorem dL_takes_68 : decode cL_takes 68 = .ok (.if_icmp .le 23, 3) := by decide +kernel
theorem dL_takes_71 : decode cL_takes 71 = .ok (.aload_n 0, 1) := by decide +kernel
theorem dL_takes_72 : decode cL_takes 72 = .ok (.aload_n 1, 1) := by decide +kernel
theorem dL_takes_73 : decode cL_takes 73 = .ok (.iconst 5, 1) := by decide +kernel
theorem dL_takes_74 : decode cL_takes 74 = .ok (.iaload, 1) := by decide +kernel
theorem dL_takes_75 : decode cL_takes 75 = .ok (.invokevirtual 45, 3) := by decide +kernel
theorem dL_takes_78 : decode cL_takes 78 = .ok (.aload_n 1, 1) := by decide +kernel
theorem dL_takes_79 : decode cL_takes 79 = .ok (.bipush 6, 2) := by decide +kernel
theorem dL_takes_81 : decode cL_takes 81 = .ok (.iaload, 1) := by decide +kernel
theorem dL_takes_82 : decode cL_takes 82 = .ok (.if_icmp .ne 7, 3) := by decide +kernel
theorem dL_takes_85 : decode cL_takes 85 = .ok (.iconst 1, 1) := by decide +kernel
theorem dL_takes_86 : decode cL_takes 86 = .ok (.goto 4, 3) := by decide +kernel
theorem dL_takes_89 : decode cL_takes 89 = .ok (.iconst 0, 1) := by decide +kernel
theorem dL_takes_90 : decode cL_takes 90 = .ok (.ireturn, 1) := by decide +kernel
theorem dL_takes_91 : decode cL_takes 91 = .ok (.iinc 6 1, 3) := by decide +kernel
theorem dL_takes_94 : decode cL_takes 94 = .ok (.goto (-47), 3) := by decide +kernel
theorem dL_takes_97 : decode cL_takes 97 = .ok (.aload_n 0, 1) := by decide +kernel
theorem dL_takes_98 : decode cL_takes 98 = .ok (.iload_n 2, 1) := by decide +kernel
theorem dL_takes_99 : decode cL_takes 99 = .ok (.iload 5, 2) := by decide +kernel
theorem dL_takes_101 : decode cL_takes 101 = .ok (.invokevirtual 48, 3) := by decide +kernel
theorem dL_takes_104 : decode cL_takes 104 = .ok (.istore 6, 2) := by decide +kernel
theorem dL_takes_106 : decode cL_takes 106 = .ok (.aload_n 1, 1) := by decide +kernel
theorem dL_takes_107 : decode cL_takes 107 = .ok (.bipush 6, 2) := by decide +kernel
theorem dL_takes_109 : decode cL_takes 109 = .ok (.dup2, 1) := by decide +kernel
theorem dL_takes_110 : decode cL_takes 110 = .ok (.iaload, 1) := by decide +kernel
theorem dL_takes_111 : decode cL_takes 111 = .ok (.iload 5, 2) := by decide +kernel
theorem dL_takes_113 : decode cL_takes 113 = .ok (.iload_n 2, 1) := by decide +kernel
theorem dL_takes_114 : decode cL_takes 114 = .ok (.isub, 1) := by decide +kernel
theorem dL_takes_115 : decode cL_takes 115 = .ok (.iconst 1, 1) := by decide +kernel
theorem dL_takes_116 : decode cL_takes 116 = .ok (.iadd, 1) := by decide +kernel
theorem dL_takes_117 : decode cL_takes 117 = .ok (.iload 4, 2) := by decide +kernel
theorem dL_takes_119 : decode cL_takes 119 = .ok (.imul, 1) := by decide +kernel
theorem dL_takes_120 : decode cL_takes 120 = .ok (.iadd, 1) := by decide +kernel
theorem dL_takes_121 : decode cL_takes 121 = .ok (.iastore, 1) := by decide +kernel
theorem dL_takes_122 : decode cL_takes 122 = .ok (.iload 5, 2) := by decide +kernel
theorem dL_takes_124 : decode cL_takes 124 = .ok (.iload_n 2, 1) := by decide +kernel
theorem dL_takes_125 : decode cL_takes 125 = .ok (.if_icmp .ne 26, 3) := by decide +kernel
theorem dL_takes_128 : decode cL_takes 128 = .ok (.aload_n 0, 1) := by decide +kernel
theorem dL_takes_129 : decode cL_takes 129 = .ok (.iload_n 2, 1) := by decide +kernel
theorem dL_takes_130 : decode cL_takes 130 = .ok (.iload 4, 2) := by decide +kernel
theorem dL_takes_132 : decode cL_takes 132 = .ok (.invokevirtual 55, 3) := by decide +kernel
theorem dL_takes_135 : decode cL_takes 135 = .ok (.iload 6, 2) := by decide +kernel
theorem dL_takes_137 : decode cL_takes 137 = .ok (.iload 4, 2) := by decide +kernel
theorem dL_takes_139 : decode cL_takes 139 = .ok (.iadd, 1) := by decide +kernel
theorem dL_takes_140 : decode cL_takes 140 = .ok (.if_icmp .ne 7, 3) := by decide +kernel
theorem dL_takes_143 : decode cL_takes 143 = .ok (.iconst 1, 1) := by decide +kernel
theorem dL_takes_144 : decode cL_takes 144 = .ok (.goto 28, 3) := by decide +kernel
theorem dL_takes_147 : decode cL_takes 147 = .ok (.iconst 0, 1) := by decide +kernel
theorem dL_takes_148 : decode cL_takes 148 = .ok (.goto 24, 3) := by decide +kernel
theorem dL_takes_151 : decode cL_takes 151 = .ok (.aload_n 0, 1) := by decide +kernel
theorem dL_takes_152 : decode cL_takes 152 = .ok (.iload_n 2, 1) := by decide +kernel
theorem dL_takes_153 : decode cL_takes 153 = .ok (.iload 5, 2) := by decide +kernel
theorem dL_takes_155 : decode cL_takes 155 = .ok (.iload 4, 2) := by decide +kernel
theorem dL_takes_157 : decode cL_takes 157 = .ok (.invokevirtual 58, 3) := by decide +kernel
theorem dL_takes_160 : decode cL_takes 160 = .ok (.aload_n 1, 1) := by decide +kernel
theorem dL_takes_161 : decode cL_takes 161 = .ok (.bipush 6, 2) := by decide +kernel
theorem dL_takes_163 : decode cL_takes 163 = .ok (.iaload, 1) := by decide +kernel
theorem dL_takes_164 : decode cL_takes 164 = .ok (.if_icmp .ne 7, 3) := by decide +kernel
theorem dL_takes_167 : decode cL_takes 167 = .ok (.iconst 1, 1) := by decide +kernel
theorem dL_takes_168 : decode cL_takes 168 = .ok (.goto 4, 3) := by decide +kernel
theorem dL_takes_171 : decode cL_takes 171 = .ok (.iconst 0, 1) := by decide +kernel
theorem dL_takes_172 : decode cL_takes 172 = .ok (.istore 7, 2) := by decide +kernel
theorem dL_takes_174 : decode cL_takes 174 = .ok (.iload 7, 2) := by decide +kernel
theorem dL_takes_176 : decode cL_takes 176 = .ok (.ifCond .eq 43, 3) := by decide +kernel
theorem dL_takes_179 : decode cL_takes 179 = .ok (.aload_n 0, 1) := by decide +kernel
theorem dL_takes_180 : decode cL_takes 180 = .ok (.aload_n 1, 1) := by decide +kernel
theorem dL_takes_181 : decode cL_takes 181 = .ok (.iconst 5, 1) := by decide +kernel
theorem dL_takes_182 : decode cL_takes 182 = .ok (.iaload, 1) := by decide +kernel
theorem dL_takes_183 : decode cL_takes 183 = .ok (.invokevirtual 45, 3) := by decide +kernel
theorem dL_takes_186 : decode cL_takes 186 = .ok (.aload_n 1, 1) := by decide +kernel
theorem dL_takes_187 : decode cL_takes 187 = .ok (.bipush 6, 2) := by decide +kernel
theorem dL_takes_189 : decode cL_takes 189 = .ok (.iaload, 1) := by decide +kernel
theorem dL_takes_190 : decode cL_takes 190 = .ok (.if_icmp .ne 29, 3) := by decide +kernel
theorem dL_takes_193 : decode cL_takes 193 = .ok (.aload_n 0, 1) := by decide +kernel
theorem dL_takes_194 : decode cL_takes 194 = .ok (.iload_n 2, 1) := by decide +kernel
theorem dL_takes_195 : decode cL_takes 195 = .ok (.iload 5, 2) := by decide +kernel
theorem dL_takes_197 : decode cL_takes 197 = .ok (.invokevirtual 48, 3) := by decide +kernel
theorem dL_takes_200 : decode cL_takes 200 = .ok (.iload 6, 2) := by decide +kernel
theorem dL_takes_202 : decode cL_takes 202 = .ok (.iload 5, 2) := by decide +kernel
theorem dL_takes_204 : decode cL_takes 204 = .ok (.iload_n 2, 1) := by decide +kernel
theorem dL_takes_205 : decode cL_takes 205 = .ok (.isub, 1) := by decide +kernel
theorem dL_takes_206 : decode cL_takes 206 = .ok (.iconst 1, 1) := by decide +kernel
theorem dL_takes_207 : decode cL_takes 207 = .ok (.iadd, 1) := by decide +kernel
theorem dL_takes_208 : decode cL_takes 208 = .ok (.iload 4, 2) := by decide +kernel
theorem dL_takes_210 : decode cL_takes 210 = .ok (.imul, 1) := by decide +kernel
theorem dL_takes_211 : decode cL_takes 211 = .ok (.iadd, 1) := by decide +kernel
theorem dL_takes_212 : decode cL_takes 212 = .ok (.if_icmp .ne 7, 3) := by decide +kernel
theorem dL_takes_215 : decode cL_takes 215 = .ok (.iconst 1, 1) := by decide +kernel
theorem dL_takes_216 : decode cL_takes 216 = .ok (.goto 4, 3) := by decide +kernel
theorem dL_takes_219 : decode cL_takes 219 = .ok (.iconst 0, 1) := by decide +kernel
theorem dL_takes_220 : decode cL_takes 220 = .ok (.ireturn, 1) := by decide +kernel
set_option maxRecDepth 20000 in
theorem ggL_closes_X1_open : GoodIn wsL_closes wsX1_open := goodIn_r _ [5, 6, 7, 8, 9, 4, 10, 11, 12, 128, 129, 130, 131, 132, 133, 134, 135, 136, 137, 138, 139, 140, 141, 142, 143, 144] (by decide +kernel) (by decide +kernel)
set_option maxRecDepth 20000 in
theorem gL_closes_X1_open : GoodIn wsL_closes (wsV RL 62 RX1 yX1_open wsX1_open) := goodIn_app (goodIn_of _ (by decide +kernel)) ggL_closes_X1_open
set_option maxRecDepth 20000 in
theorem ggL_closes_X1_close : GoodIn wsL_closes wsX1_close := goodIn_ca (goodIn_r _ [16, 11, 17, 6, 18, 19, 20, 21, 4, 22, 23, 24, 25, 26, 27, 28, 29, 30, 31, 32, 33, 34, 35, 36, 37, 38, 39, 40, 41, 42, 43, 44, 45, 46, 47, 48, 49, 50, 51, 52, 53, 54, 55, 56, 57, 58, 59, 60, 61, 62, 63, 64, 12, 65, 66, 67, 68, 69, 70, 71, 72, 73, 74, 75, 76, 77, 78, 79, 80, 81, 82, 83, 84, 85, 86, 87, 88, 89, 90, 91, 92, 93, 7, 8, 9, 10, 128, 129, 130, 131, 132, 133, 134, 135, 136, 137, 138, 139, 140, 141, 142, 143, 144, 145, 146, 147] (by decide +kernel) (by decide +kernel)) (goodIn_sub (fun _ h => List.mem_cons_of_mem _ (List.mem_append_left _ (List.mem_append_right _ h))) (by decide +kernel))
set_option maxRecDepth 20000 in
theorem gL_closes_X1_close : GoodIn wsL_closes (wsV RL 66 RX1 yX1_close wsX1_close) := goodIn_app (goodIn_of _ (by decide +kernel)) ggL_closes_X1_close
set_option maxRecDepth 20000 in
theorem ggL_closes_X1_closed : GoodIn wsL_closes wsX1_closed := goodIn_r _ [97, 11, 128, 129, 130, 131, 132, 133, 134, 135, 136, 137, 138, 139, 140, 141, 142, 143, 144] (by decide +kernel) (by decide +kernel)
set_option maxRecDepth 20000 in
theorem gL_closes_X1_closed : GoodIn wsL_closes (wsV RL 10 RX1 yX1_closed wsX1_closed) := goodIn_app (goodIn_of _ (by decide +kernel)) ggL_closes_X1_closed
set_option maxRecDepth 20000 in
theorem ggL_closes_X1_bill : GoodIn wsL_closes wsX1_bill := goodIn_ca (goodIn_ca (goodIn_r _ [101, 18, 102, 103, 104, 4, 105, 23, 24, 11, 106, 107, 108, 109, 110, 111, 112, 113, 128, 129, 130, 131, 132, 133, 134, 135, 136, 137, 138, 139, 140, 141, 142, 143, 144] (by decide +kernel) (by decide +kernel)) (goodIn_sub (fun _ h => List.mem_cons_of_mem _ (List.mem_append_left _ (List.mem_append_right _ h))) (by decide +kernel))) (goodIn_sub (fun _ h => List.mem_cons_of_mem _ (List.mem_append_right _ h)) (by decide +kernel))
set_option maxRecDepth 20000 in
theorem gL_closes_X1_bill : GoodIn wsL_closes (wsV RL 69 RX1 yX1_bill wsX1_bill) := goodIn_app (goodIn_of _ (by decide +kernel)) ggL_closes_X1_bill
set_option maxRecDepth 20000 in
theorem ggL_closes_X1_due : GoodIn wsL_closes wsX1_due := goodIn_ca (goodIn_ca (goodIn_r _ [117, 12, 102, 103, 104, 4, 105, 23, 24, 11, 106, 107, 108, 109, 110, 111, 112, 113, 128, 129, 130, 131, 132, 133, 134, 135, 136, 137, 138, 139, 140, 141, 142, 143, 144] (by decide +kernel) (by decide +kernel)) (goodIn_sub (fun _ h => List.mem_cons_of_mem _ (List.mem_append_left _ (List.mem_append_right _ h))) (by decide +kernel))) (goodIn_sub (fun _ h => List.mem_cons_of_mem _ (List.mem_append_right _ h)) (by decide +kernel))
set_option maxRecDepth 20000 in
theorem gL_closes_X1_due : GoodIn wsL_closes (wsV RL 73 RX1 yX1_due wsX1_due) := goodIn_app (goodIn_of _ (by decide +kernel)) ggL_closes_X1_due
set_option maxRecDepth 20000 in
theorem ggL_closes_X1_takenFrom : GoodIn wsL_closes wsX1_takenFrom := goodIn_ca (goodIn_r _ [121, 17, 122, 123, 4, 124, 125, 126, 127, 109, 110, 111, 112, 113, 128, 129, 130, 131, 132, 133, 134, 135, 136, 137, 138, 139, 140, 141, 142, 143, 144] (by decide +kernel) (by decide +kernel)) (goodIn_sub (fun _ h => List.mem_cons_of_mem _ (List.mem_append_right _ h)) (by decide +kernel))
set_option maxRecDepth 20000 in
theorem gL_closes_X1_takenFrom : GoodIn wsL_closes (wsV RL 48 RX1 yX1_takenFrom wsX1_takenFrom) := goodIn_app (goodIn_of _ (by decide +kernel)) ggL_closes_X1_takenFrom
theorem dL_closes_0 : decode cL_closes 0 = .ok (.aload_n 0, 1) := by decide +kernel
theorem dL_closes_1 : decode cL_closes 1 = .ok (.invokevirtual 62, 3) := by decide +kernel
theorem dL_closes_4 : decode cL_closes 4 = .ok (.lstore_n 2, 1) := by decide +kernel
theorem dL_closes_5 : decode cL_closes 5 = .ok (.aload_n 1, 1) := by decide +kernel
theorem dL_closes_6 : decode cL_closes 6 = .ok (.iconst 5, 1) := by decide +kernel
theorem dL_closes_7 : decode cL_closes 7 = .ok (.iaload, 1) := by decide +kernel
theorem dL_closes_8 : decode cL_closes 8 = .ok (.istore 4, 2) := by decide +kernel
theorem dL_closes_10 : decode cL_closes 10 = .ok (.aload_n 1, 1) := by decide +kernel
theorem dL_closes_11 : decode cL_closes 11 = .ok (.iconst 5, 1) := by decide +kernel
theorem dL_closes_12 : decode cL_closes 12 = .ok (.dup2, 1) := by decide +kernel
theorem dL_closes_13 : decode cL_closes 13 = .ok (.iaload, 1) := by decide +kernel
theorem dL_closes_14 : decode cL_closes 14 = .ok (.iconst 1, 1) := by decide +kernel
theorem dL_closes_15 : decode cL_closes 15 = .ok (.iadd, 1) := by decide +kernel
theorem dL_closes_16 : decode cL_closes 16 = .ok (.iastore, 1) := by decide +kernel
theorem dL_closes_17 : decode cL_closes 17 = .ok (.aload_n 1, 1) := by decide +kernel
theorem dL_closes_18 : decode cL_closes 18 = .ok (.bipush 6, 2) := by decide +kernel
theorem dL_closes_20 : decode cL_closes 20 = .ok (.iconst 0, 1) := by decide +kernel
theorem dL_closes_21 : decode cL_closes 21 = .ok (.iastore, 1) := by decide +kernel
theorem dL_closes_22 : decode cL_closes 22 = .ok (.aload_n 0, 1) := by decide +kernel
theorem dL_closes_23 : decode cL_closes 23 = .ok (.invokevirtual 66, 3) := by decide +kernel
theorem dL_closes_26 : decode cL_closes 26 = .ok (.lstore 5, 2) := by decide +kernel
theorem dL_closes_28 : decode cL_closes 28 = .ok (.aload_n 0, 1) := by decide +kernel
theorem dL_closes_29 : decode cL_closes 29 = .ok (.invokevirtual 10, 3) := by decide +kernel
theorem dL_closes_32 : decode cL_closes 32 = .ok (.aload_n 1, 1) := by decide +kernel
theorem dL_closes_33 : decode cL_closes 33 = .ok (.iconst 5, 1) := by decide +kernel
theorem dL_closes_34 : decode cL_closes 34 = .ok (.iaload, 1) := by decide +kernel
theorem dL_closes_35 : decode cL_closes 35 = .ok (.if_icmp .ne 53, 3) := by decide +kernel
theorem dL_closes_38 : decode cL_closes 38 = .ok (.aload_n 0, 1) := by decide +kernel
theorem dL_closes_39 : decode cL_closes 39 = .ok (.iload 4, 2) := by decide +kernel
theorem dL_closes_41 : decode cL_closes 41 = .ok (.invokevirtual 69, 3) := by decide +kernel
theorem dL_closes_44 : decode cL_closes 44 = .ok (.lload 5, 2) := by decide +kernel
theorem dL_closes_46 : decode cL_closes 46 = .ok (.lcmp, 1) := by decide +kernel
theorem dL_closes_47 : decode cL_closes 47 = .ok (.ifCond .ne 41, 3) := by decide +kernel
theorem dL_closes_50 : decode cL_closes 50 = .ok (.aload_n 0, 1) := by decide +kernel
theorem dL_closes_51 : decode cL_closes 51 = .ok (.invokevirtual 62, 3) := by decide +kernel
theorem dL_closes_54 : decode cL_closes 54 = .ok (.lconst 0, 1) := by decide +kernel
theorem dL_closes_55 : decode cL_closes 55 = .ok (.lcmp, 1) := by decide +kernel
theorem dL_closes_56 : decode cL_closes 56 = .ok (.ifCond .ne 32, 3) := by decide +kernel
theorem dL_closes_59 : decode cL_closes 59 = .ok (.lload 5, 2) := by decide +kernel
theorem dL_closes_61 : decode cL_closes 61 = .ok (.lload_n 2, 1) := by decide +kernel
theorem dL_closes_62 : decode cL_closes 62 = .ok (.aload_n 0, 1) := by decide +kernel
theorem dL_closes_63 : decode cL_closes 63 = .ok (.iload 4, 2) := by decide +kernel
theorem dL_closes_65 : decode cL_closes 65 = .ok (.invokevirtual 73, 3) := by decide +kernel
theorem dL_closes_68 : decode cL_closes 68 = .ok (.ladd, 1) := by decide +kernel
theorem dL_closes_69 : decode cL_closes 69 = .ok (.lcmp, 1) := by decide +kernel
theorem dL_closes_70 : decode cL_closes 70 = .ok (.ifCond .ne 18, 3) := by decide +kernel
theorem dL_closes_73 : decode cL_closes 73 = .ok (.aload_n 0, 1) := by decide +kernel
theorem dL_closes_74 : decode cL_closes 74 = .ok (.iconst 0, 1) := by decide +kernel
theorem dL_closes_75 : decode cL_closes 75 = .ok (.sipush 359, 3) := by decide +kernel
theorem dL_closes_78 : decode cL_closes 78 = .ok (.invokevirtual 48, 3) := by decide +kernel
theorem dL_closes_81 : decode cL_closes 81 = .ok (.ifCond .ne 7, 3) := by decide +kernel
theorem dL_closes_84 : decode cL_closes 84 = .ok (.iconst 1, 1) := by decide +kernel
theorem dL_closes_85 : decode cL_closes 85 = .ok (.goto 4, 3) := by decide +kernel
theorem dL_closes_88 : decode cL_closes 88 = .ok (.iconst 0, 1) := by decide +kernel
theorem dL_closes_89 : decode cL_closes 89 = .ok (.ireturn, 1) := by decide +kernel
set_option maxRecDepth 20000 in
theorem ggL_isYear_X1_taken : GoodIn wsL_isYear wsX1_taken := goodIn_ca (goodIn_r _ [5, 6, 7, 8, 4, 9, 10, 11, 12, 13, 14, 80, 81, 82, 83, 84, 85, 86, 87, 88, 89, 90, 91, 92, 93, 94, 95, 96] (by decide +kernel) (by decide +kernel)) (goodIn_sub (fun _ h => List.mem_cons_of_mem _ (List.mem_append_left _ (List.mem_append_right _ h))) (by decide +kernel))
set_option maxRecDepth 20000 in
theorem gL_isYear_X1_taken : GoodIn wsL_isYear (wsV RL 45 RX1 yX1_taken wsX1_taken) := goodIn_app (goodIn_of _ (by decide +kernel)) ggL_isYear_X1_taken
set_option maxRecDepth 20000 in
theorem ggL_isYear_X1_least : GoodIn wsL_isYear wsX1_least := goodIn_ca (goodIn_r _ [18, 7, 8, 4, 9, 10, 11, 12, 13, 14, 19, 20, 21, 22, 23, 24, 25, 26, 80, 81, 82, 83, 84, 85, 86, 87, 88, 89, 90, 91, 92, 93, 94, 95, 96] (by decide +kernel) (by decide +kernel)) (goodIn_sub (fun _ h => List.mem_cons_of_mem _ (List.mem_append_left _ (List.mem_append_right _ h))) (by decide +kernel))
set_option maxRecDepth 20000 in
theorem gL_isYear_X1_least : GoodIn wsL_isYear (wsV RL 21 RX1 yX1_least wsX1_least) := goodIn_app (goodIn_of _ (by decide +kernel)) ggL_isYear_X1_least
set_option maxRecDepth 20000 in
theorem ggL_isYear_X1_price : GoodIn wsL_isYear wsX1_price := goodIn_ca (goodIn_r _ [30, 31, 7, 8, 4, 9, 10, 11, 12, 13, 14, 80, 81, 82, 83, 84, 85, 86, 87, 88, 89, 90, 91, 92, 93, 94, 95, 96] (by decide +kernel) (by decide +kernel)) (goodIn_sub (fun _ h => List.mem_cons_of_mem _ (List.mem_append_left _ (List.mem_append_right _ h))) (by decide +kernel))
set_option maxRecDepth 20000 in
theorem gL_isYear_X1_price : GoodIn wsL_isYear (wsV RL 27 RX1 yX1_price wsX1_price) := goodIn_app (goodIn_of _ (by decide +kernel)) ggL_isYear_X1_price
set_option maxRecDepth 20000 in
theorem ggL_isYear_X1_makeUpLeft : GoodIn wsL_isYear wsX1_makeUpLeft := goodIn_ca (goodIn_ca (goodIn_r _ [35, 36, 37, 38, 39, 4, 40, 41, 42, 43, 7, 8, 9, 10, 11, 12, 13, 14, 44, 45, 46, 47, 48, 49, 80, 81, 82, 83, 84, 85, 86, 87, 88, 89, 90, 91, 92, 93, 94, 95, 96, 97, 98, 99] (by decide +kernel) (by decide +kernel)) (goodIn_sub (fun _ h => List.mem_cons_of_mem _ (List.mem_append_right _ h)) (by decide +kernel))) (goodIn_sub (fun _ h => List.mem_cons_of_mem _ (List.mem_append_left _ (List.mem_append_right _ h))) (by decide +kernel))
set_option maxRecDepth 20000 in
theorem gL_isYear_X1_makeUpLeft : GoodIn wsL_isYear (wsV RL 76 RX1 yX1_makeUpLeft wsX1_makeUpLeft) := goodIn_app (goodIn_of _ (by decide +kernel)) ggL_isYear_X1_makeUpLeft
set_option maxRecDepth 20000 in
theorem ggL_isYear_X1_shortfall : GoodIn wsL_isYear wsX1_shortfall := goodIn_ca (goodIn_ca (goodIn_r _ [53, 54, 37, 38, 39, 4, 40, 41, 42, 43, 7, 8, 9, 10, 11, 12, 13, 14, 80, 81, 82, 83, 84, 85, 86, 87, 88, 89, 90, 91, 92, 93, 94, 95, 96] (by decide +kernel) (by decide +kernel)) (goodIn_sub (fun _ h => List.mem_cons_of_mem _ (List.mem_append_right _ h)) (by decide +kernel))) (goodIn_sub (fun _ h => List.mem_cons_of_mem _ (List.mem_append_left _ (List.mem_append_right _ h))) (by decide +kernel))
set_option maxRecDepth 20000 in
theorem gL_isYear_X1_shortfall : GoodIn wsL_isYear (wsV RL 79 RX1 yX1_shortfall wsX1_shortfall) := goodIn_app (goodIn_of _ (by decide +kernel)) ggL_isYear_X1_shortfall
set_option maxRecDepth 20000 in
theorem ggL_isYear_X1_surplusLeft : GoodIn wsL_isYear wsX1_surplusLeft := goodIn_ca (goodIn_ca (goodIn_r _ [58, 59, 37, 38, 39, 4, 40, 41, 42, 43, 7, 8, 9, 10, 11, 12, 13, 14, 44, 45, 46, 47, 48, 49, 80, 81, 82, 83, 84, 85, 86, 87, 88, 89, 90, 91, 92, 93, 94, 95, 96, 97, 98, 99] (by decide +kernel) (by decide +kernel)) (goodIn_sub (fun _ h => List.mem_cons_of_mem _ (List.mem_append_right _ h)) (by decide +kernel))) (goodIn_sub (fun _ h => List.mem_cons_of_mem _ (List.mem_append_left _ (List.mem_append_right _ h))) (by decide +kernel))
set_option maxRecDepth 20000 in
theorem gL_isYear_X1_surplusLeft : GoodIn wsL_isYear (wsV RL 82 RX1 yX1_surplusLeft wsX1_surplusLeft) := goodIn_app (goodIn_of _ (by decide +kernel)) ggL_isYear_X1_surplusLeft
set_option maxRecDepth 20000 in
theorem ggL_isYear_X1_surplus : GoodIn wsL_isYear wsX1_surplus := goodIn_ca (goodIn_ca (goodIn_r _ [63, 64, 37, 38, 39, 4, 40, 41, 42, 43, 7, 8, 9, 10, 11, 12, 13, 14, 80, 81, 82, 83, 84, 85, 86, 87, 88, 89, 90, 91, 92, 93, 94, 95, 96] (by decide +kernel) (by decide +kernel)) (goodIn_sub (fun _ h => List.mem_cons_of_mem _ (List.mem_append_right _ h)) (by decide +kernel))) (goodIn_sub (fun _ h => List.mem_cons_of_mem _ (List.mem_append_left _ (List.mem_append_right _ h))) (by decide +kernel))
set_option maxRecDepth 20000 in
theorem gL_isYear_X1_surplus : GoodIn wsL_isYear (wsV RL 85 RX1 yX1_surplus wsX1_surplus) := goodIn_app (goodIn_of _ (by decide +kernel)) ggL_isYear_X1_surplus
set_option maxRecDepth 20000 in
theorem ggL_isYear_X1_covered : GoodIn wsL_isYear wsX1_covered := goodIn_ca (goodIn_ca (goodIn_r _ [68, 69, 37, 38, 39, 4, 40, 41, 42, 43, 7, 8, 9, 10, 11, 12, 13, 14, 80, 81, 82, 83, 84, 85, 86, 87, 88, 89, 90, 91, 92, 93, 94, 95, 96] (by decide +kernel) (by decide +kernel)) (goodIn_sub (fun _ h => List.mem_cons_of_mem _ (List.mem_append_right _ h)) (by decide +kernel))) (goodIn_sub (fun _ h => List.mem_cons_of_mem _ (List.mem_append_left _ (List.mem_append_right _ h))) (by decide +kernel))
set_option maxRecDepth 20000 in
theorem gL_isYear_X1_covered : GoodIn wsL_isYear (wsV RL 88 RX1 yX1_covered wsX1_covered) := goodIn_app (goodIn_of _ (by decide +kernel)) ggL_isYear_X1_covered
set_option maxRecDepth 20000 in
theorem ggL_isYear_X1_madeUp : GoodIn wsL_isYear wsX1_madeUp := goodIn_ca (goodIn_ca (goodIn_r _ [73, 74, 37, 38, 39, 4, 40, 41, 42, 43, 7, 8, 9, 10, 11, 12, 13, 14, 80, 81, 82, 83, 84, 85, 86, 87, 88, 89, 90, 91, 92, 93, 94, 95, 96] (by decide +kernel) (by decide +kernel)) (goodIn_sub (fun _ h => List.mem_cons_of_mem _ (List.mem_append_right _ h)) (by decide +kernel))) (goodIn_sub (fun _ h => List.mem_cons_of_mem _ (List.mem_append_left _ (List.mem_append_right _ h))) (by decide +kernel))
set_option maxRecDepth 20000 in
theorem gL_isYear_X1_madeUp : GoodIn wsL_isYear (wsV RL 91 RX1 yX1_madeUp wsX1_madeUp) := goodIn_app (goodIn_of _ (by decide +kernel)) ggL_isYear_X1_madeUp
set_option maxRecDepth 20000 in
theorem ggL_isYear_X1_due : GoodIn wsL_isYear wsX1_due := goodIn_ca (goodIn_ca (goodIn_r _ [78, 79, 37, 38, 39, 4, 40, 41, 42, 43, 7, 8, 9, 10, 11, 12, 13, 14, 80, 81, 82, 83, 84, 85, 86, 87, 88, 89, 90, 91, 92, 93, 94, 95, 96] (by decide +kernel) (by decide +kernel)) (goodIn_sub (fun _ h => List.mem_cons_of_mem _ (List.mem_append_right _ h)) (by decide +kernel))) (goodIn_sub (fun _ h => List.mem_cons_of_mem _ (List.mem_append_left _ (List.mem_append_right _ h))) (by decide +kernel))
set_option maxRecDepth 20000 in
theorem gL_isYear_X1_due : GoodIn wsL_isYear (wsV RL 73 RX1 yX1_due wsX1_due) := goodIn_app (goodIn_of _ (by decide +kernel)) ggL_isYear_X1_due
theorem dL_isYear_0 : decode cL_isYear 0 = .ok (.aload_n 0, 1) := by decide +kernel
theorem dL_isYear_1 : decode cL_isYear 1 = .ok (.iload_n 2, 1) := by decide +kernel
theorem dL_isYear_2 : decode cL_isYear 2 = .ok (.invokevirtual 45, 3) := by decide +kernel
theorem dL_isYear_5 : decode cL_isYear 5 = .ok (.istore_n 3, 1) := by decide +kernel
theorem dL_isYear_6 : decode cL_isYear 6 = .ok (.aload_n 0, 1) := by decide +kernel
theorem dL_isYear_7 : decode cL_isYear 7 = .ok (.iload_n 2, 1) := by decide +kernel
theorem dL_isYear_8 : decode cL_isYear 8 = .ok (.invokevirtual 21, 3) := by decide +kernel
theorem dL_isYear_11 : decode cL_isYear 11 = .ok (.iload_n 3, 1) := by decide +kernel
theorem dL_isYear_12 : decode cL_isYear 12 = .ok (.isub, 1) := by decide +kernel
theorem dL_isYear_13 : decode cL_isYear 13 = .ok (.istore 4, 2) := by decide +kernel
theorem dL_isYear_15 : decode cL_isYear 15 = .ok (.aload_n 0, 1) := by decide +kernel
theorem dL_isYear_16 : decode cL_isYear 16 = .ok (.iload_n 2, 1) := by decide +kernel
theorem dL_isYear_17 : decode cL_isYear 17 = .ok (.invokevirtual 27, 3) := by decide +kernel
theorem dL_isYear_20 : decode cL_isYear 20 = .ok (.aload_n 1, 1) := by decide +kernel
theorem dL_isYear_21 : decode cL_isYear 21 = .ok (.iconst 2, 1) := by decide +kernel
theorem dL_isYear_22 : decode cL_isYear 22 = .ok (.iaload, 1) := by decide +kernel
theorem dL_isYear_23 : decode cL_isYear 23 = .ok (.imul, 1) := by decide +kernel
theorem dL_isYear_24 : decode cL_isYear 24 = .ok (.bipush 100, 2) := by decide +kernel
theorem dL_isYear_26 : decode cL_isYear 26 = .ok (.idiv, 1) := by decide +kernel
theorem dL_isYear_27 : decode cL_isYear 27 = .ok (.istore 5, 2) := by decide +kernel
theorem dL_isYear_29 : decode cL_isYear 29 = .ok (.aload_n 0, 1) := by decide +kernel
theorem dL_isYear_30 : decode cL_isYear 30 = .ok (.iload_n 2, 1) := by decide +kernel
theorem dL_isYear_31 : decode cL_isYear 31 = .ok (.invokevirtual 76, 3) := by decide +kernel
theorem dL_isYear_34 : decode cL_isYear 34 = .ok (.ifCond .lt 41, 3) := by decide +kernel
theorem dL_isYear_37 : decode cL_isYear 37 = .ok (.aload_n 0, 1) := by decide +kernel
theorem dL_isYear_38 : decode cL_isYear 38 = .ok (.iload_n 2, 1) := by decide +kernel
theorem dL_isYear_39 : decode cL_isYear 39 = .ok (.invokevirtual 76, 3) := by decide +kernel
theorem dL_isYear_42 : decode cL_isYear 42 = .ok (.aload_n 0, 1) := by decide +kernel
theorem dL_isYear_43 : decode cL_isYear 43 = .ok (.iload_n 2, 1) := by decide +kernel
theorem dL_isYear_44 : decode cL_isYear 44 = .ok (.invokevirtual 79, 3) := by decide +kernel
theorem dL_isYear_47 : decode cL_isYear 47 = .ok (.if_icmp .gt 28, 3) := by decide +kernel
theorem dL_isYear_50 : decode cL_isYear 50 = .ok (.aload_n 0, 1) := by decide +kernel
theorem dL_isYear_51 : decode cL_isYear 51 = .ok (.iload_n 2, 1) := by decide +kernel
theorem dL_isYear_52 : decode cL_isYear 52 = .ok (.invokevirtual 82, 3) := by decide +kernel
theorem dL_isYear_55 : decode cL_isYear 55 = .ok (.ifCond .lt 20, 3) := by decide +kernel
theorem dL_isYear_58 : decode cL_isYear 58 = .ok (.aload_n 0, 1) := by decide +kernel
theorem dL_isYear_59 : decode cL_isYear 59 = .ok (.iload_n 2, 1) := by decide +kernel
theorem dL_isYear_60 : decode cL_isYear 60 = .ok (.invokevirtual 82, 3) := by decide +kernel
theorem dL_isYear_63 : decode cL_isYear 63 = .ok (.aload_n 0, 1) := by decide +kernel
theorem dL_isYear_64 : decode cL_isYear 64 = .ok (.iload_n 2, 1) := by decide +kernel
theorem dL_isYear_65 : decode cL_isYear 65 = .ok (.invokevirtual 85, 3) := by decide +kernel
theorem dL_isYear_68 : decode cL_isYear 68 = .ok (.if_icmp .gt 7, 3) := by decide +kernel
theorem dL_isYear_71 : decode cL_isYear 71 = .ok (.iconst 1, 1) := by decide +kernel
theorem dL_isYear_72 : decode cL_isYear 72 = .ok (.goto 4, 3) := by decide +kernel
theorem dL_isYear_75 : decode cL_isYear 75 = .ok (.iconst 0, 1) := by decide +kernel
theorem dL_isYear_76 : decode cL_isYear 76 = .ok (.istore 6, 2) := by decide +kernel
theorem dL_isYear_78 : decode cL_isYear 78 = .ok (.iload 4, 2) := by decide +kernel
theorem dL_isYear_80 : decode cL_isYear 80 = .ok (.ifCond .le 83, 3) := by decide +kernel
theorem dL_isYear_83 : decode cL_isYear 83 = .ok (.iload 6, 2) := by decide +kernel
theorem dL_isYear_85 : decode cL_isYear 85 = .ok (.ifCond .eq 76, 3) := by decide +kernel
theorem dL_isYear_88 : decode cL_isYear 88 = .ok (.aload_n 0, 1) := by decide +kernel
theorem dL_isYear_89 : decode cL_isYear 89 = .ok (.iload_n 2, 1) := by decide +kernel
theorem dL_isYear_90 : decode cL_isYear 90 = .ok (.invokevirtual 88, 3) := by decide +kernel
theorem dL_isYear_93 : decode cL_isYear 93 = .ok (.ifCond .lt 68, 3) := by decide +kernel
theorem dL_isYear_96 : decode cL_isYear 96 = .ok (.aload_n 0, 1) := by decide +kernel
theorem dL_isYear_97 : decode cL_isYear 97 = .ok (.iload_n 2, 1) := by decide +kernel
theorem dL_isYear_98 : decode cL_isYear 98 = .ok (.invokevirtual 88, 3) := by decide +kernel
theorem dL_isYear_101 : decode cL_isYear 101 = .ok (.aload_n 0, 1) := by decide +kernel
theorem dL_isYear_102 : decode cL_isYear 102 = .ok (.iload_n 2, 1) := by decide +kernel
theorem dL_isYear_103 : decode cL_isYear 103 = .ok (.invokevirtual 79, 3) := by decide +kernel
theorem dL_isYear_106 : decode cL_isYear 106 = .ok (.iadd, 1) := by decide +kernel
theorem dL_isYear_107 : decode cL_isYear 107 = .ok (.iload 4, 2) := by decide +kernel
theorem dL_isYear_109 : decode cL_isYear 109 = .ok (.if_icmp .ne 52, 3) := by decide +kernel
theorem dL_isYear_112 : decode cL_isYear 112 = .ok (.aload_n 0, 1) := by decide +kernel
theorem dL_isYear_113 : decode cL_isYear 113 = .ok (.iload_n 2, 1) := by decide +kernel
theorem dL_isYear_114 : decode cL_isYear 114 = .ok (.invokevirtual 91, 3) := by decide +kernel
theorem dL_isYear_117 : decode cL_isYear 117 = .ok (.ifCond .ne 44, 3) := by decide +kernel
theorem dL_isYear_120 : decode cL_isYear 120 = .ok (.aload_n 0, 1) := by decide +kernel
theorem dL_isYear_121 : decode cL_isYear 121 = .ok (.iload_n 2, 1) := by decide +kernel
theorem dL_isYear_122 : decode cL_isYear 122 = .ok (.invokevirtual 85, 3) := by decide +kernel
theorem dL_isYear_125 : decode cL_isYear 125 = .ok (.ifCond .ne 36, 3) := by decide +kernel
theorem dL_isYear_128 : decode cL_isYear 128 = .ok (.aload_n 0, 1) := by decide +kernel
theorem dL_isYear_129 : decode cL_isYear 129 = .ok (.iload_n 2, 1) := by decide +kernel
theorem dL_isYear_130 : decode cL_isYear 130 = .ok (.invokevirtual 73, 3) := by decide +kernel
theorem dL_isYear_133 : decode cL_isYear 133 = .ok (.iload_n 3, 1) := by decide +kernel
theorem dL_isYear_134 : decode cL_isYear 134 = .ok (.i2l, 1) := by decide +kernel
theorem dL_isYear_135 : decode cL_isYear 135 = .ok (.aload_n 0, 1) := by decide +kernel
theorem dL_isYear_136 : decode cL_isYear 136 = .ok (.iload_n 2, 1) := by decide +kernel
theorem dL_isYear_137 : decode cL_isYear 137 = .ok (.invokevirtual 27, 3) := by decide +kernel
theorem dL_isYear_140 : decode cL_isYear 140 = .ok (.i2l, 1) := by decide +kernel
theorem dL_isYear_141 : decode cL_isYear 141 = .ok (.lmul, 1) := by decide +kernel
theorem dL_isYear_142 : decode cL_isYear 142 = .ok (.aload_n 0, 1) := by decide +kernel
theorem dL_isYear_143 : decode cL_isYear 143 = .ok (.iload_n 2, 1) := by decide +kernel
theorem dL_isYear_144 : decode cL_isYear 144 = .ok (.invokevirtual 79, 3) := by decide +kernel
theorem dL_isYear_147 : decode cL_isYear 147 = .ok (.i2l, 1) := by decide +kernel
theorem dL_isYear_148 : decode cL_isYear 148 = .ok (.iload 5, 2) := by decide +kernel
theorem dL_isYear_150 : decode cL_isYear 150 = .ok (.i2l, 1) := by decide +kernel
theorem dL_isYear_151 : decode cL_isYear 151 = .ok (.lmul, 1) := by decide +kernel
theorem dL_isYear_152 : decode cL_isYear 152 = .ok (.ladd, 1) := by decide +kernel
theorem dL_isYear_153 : decode cL_isYear 153 = .ok (.lcmp, 1) := by decide +kernel
theorem dL_isYear_154 : decode cL_isYear 154 = .ok (.ifCond .ne 7, 3) := by decide +kernel
theorem dL_isYear_157 : decode cL_isYear 157 = .ok (.iconst 1, 1) := by decide +kernel
theorem dL_isYear_158 : decode cL_isYear 158 = .ok (.goto 4, 3) := by decide +kernel
theorem dL_isYear_161 : decode cL_isYear 161 = .ok (.iconst 0, 1) := by decide +kernel
theorem dL_isYear_162 : decode cL_isYear 162 = .ok (.ireturn, 1) := by decide +kernel
theorem dL_isYear_163 : decode cL_isYear 163 = .ok (.iload_n 3, 1) := by decide +kernel
theorem dL_isYear_164 : decode cL_isYear 164 = .ok (.aload_n 0, 1) := by decide +kernel
theorem dL_isYear_165 : decode cL_isYear 165 = .ok (.iload_n 2, 1) := by decide +kernel
theorem dL_isYear_166 : decode cL_isYear 166 = .ok (.invokevirtual 91, 3) := by decide +kernel
theorem dL_isYear_169 : decode cL_isYear 169 = .ok (.isub, 1) := by decide +kernel
theorem dL_isYear_170 : decode cL_isYear 170 = .ok (.istore 7, 2) := by decide +kernel
theorem dL_isYear_172 : decode cL_isYear 172 = .ok (.iload 7, 2) := by decide +kernel
theorem dL_isYear_174 : decode cL_isYear 174 = .ok (.aload_n 1, 1) := by decide +kernel
theorem dL_isYear_175 : decode cL_isYear 175 = .ok (.iconst 0, 1) := by decide +kernel
theorem dL_isYear_176 : decode cL_isYear 176 = .ok (.iaload, 1) := by decide +kernel
theorem dL_isYear_177 : decode cL_isYear 177 = .ok (.if_icmp .le 12, 3) := by decide +kernel
theorem dL_isYear_180 : decode cL_isYear 180 = .ok (.iload 7, 2) := by decide +kernel
theorem dL_isYear_182 : decode cL_isYear 182 = .ok (.aload_n 1, 1) := by decide +kernel
theorem dL_isYear_183 : decode cL_isYear 183 = .ok (.iconst 0, 1) := by decide +kernel
theorem dL_isYear_184 : decode cL_isYear 184 = .ok (.iaload, 1) := by decide +kernel
theorem dL_isYear_185 : decode cL_isYear 185 = .ok (.isub, 1) := by decide +kernel
theorem dL_isYear_186 : decode cL_isYear 186 = .ok (.goto 4, 3) := by decide +kernel
theorem dL_isYear_189 : decode cL_isYear 189 = .ok (.iconst 0, 1) := by decide +kernel
theorem dL_isYear_190 : decode cL_isYear 190 = .ok (.istore 8, 2) := by decide +kernel
theorem dL_isYear_192 : decode cL_isYear 192 = .ok (.iload 6, 2) := by decide +kernel
theorem dL_isYear_194 : decode cL_isYear 194 = .ok (.ifCond .eq 89, 3) := by decide +kernel
theorem dL_isYear_197 : decode cL_isYear 197 = .ok (.aload_n 0, 1) := by decide +kernel
theorem dL_isYear_198 : decode cL_isYear 198 = .ok (.iload_n 2, 1) := by decide +kernel
theorem dL_isYear_199 : decode cL_isYear 199 = .ok (.invokevirtual 88, 3) := by decide +kernel
theorem dL_isYear_202 : decode cL_isYear 202 = .ok (.ifCond .ne 81, 3) := by decide +kernel
theorem dL_isYear_205 : decode cL_isYear 205 = .ok (.aload_n 0, 1) := by decide +kernel
theorem dL_isYear_206 : decode cL_isYear 206 = .ok (.iload_n 2, 1) := by decide +kernel
theorem dL_isYear_207 : decode cL_isYear 207 = .ok (.invokevirtual 79, 3) := by decide +kernel
theorem dL_isYear_210 : decode cL_isYear 210 = .ok (.ifCond .ne 73, 3) := by decide +kernel
theorem dL_isYear_213 : decode cL_isYear 213 = .ok (.aload_n 0, 1) := by decide +kernel
theorem dL_isYear_214 : decode cL_isYear 214 = .ok (.iload_n 2, 1) := by decide +kernel
theorem dL_isYear_215 : decode cL_isYear 215 = .ok (.invokevirtual 91, 3) := by decide +kernel
theorem dL_isYear_218 : decode cL_isYear 218 = .ok (.ifCond .lt 65, 3) := by decide +kernel
theorem dL_isYear_221 : decode cL_isYear 221 = .ok (.aload_n 0, 1) := by decide +kernel
theorem dL_isYear_222 : decode cL_isYear 222 = .ok (.iload_n 2, 1) := by decide +kernel
theorem dL_isYear_223 : decode cL_isYear 223 = .ok (.invokevirtual 91, 3) := by decide +kernel
theorem dL_isYear_226 : decode cL_isYear 226 = .ok (.iload 4, 2) := by decide +kernel
theorem dL_isYear_228 : decode cL_isYear 228 = .ok (.ineg, 1) := by decide +kernel
theorem dL_isYear_229 : decode cL_isYear 229 = .ok (.if_icmp .gt 54, 3) := by decide +kernel
theorem dL_isYear_232 : decode cL_isYear 232 = .ok (.aload_n 0, 1) := by decide +kernel
theorem dL_isYear_233 : decode cL_isYear 233 = .ok (.iload_n 2, 1) := by decide +kernel
theorem dL_isYear_234 : decode cL_isYear 234 = .ok (.invokevirtual 85, 3) := by decide +kernel
theorem dL_isYear_237 : decode cL_isYear 237 = .ok (.iload 8, 2) := by decide +kernel
theorem dL_isYear_239 : decode cL_isYear 239 = .ok (.if_icmp .ne 44, 3) := by decide +kernel
theorem dL_isYear_242 : decode cL_isYear 242 = .ok (.aload_n 0, 1) := by decide +kernel
theorem dL_isYear_243 : decode cL_isYear 243 = .ok (.iload_n 2, 1) := by decide +kernel
theorem dL_isYear_244 : decode cL_isYear 244 = .ok (.invokevirtual 73, 3) := by decide +kernel
theorem dL_isYear_247 : decode cL_isYear 247 = .ok (.iload 7, 2) := by decide +kernel
theorem dL_isYear_249 : decode cL_isYear 249 = .ok (.i2l, 1) := by decide +kernel
theorem dL_isYear_250 : decode cL_isYear 250 = .ok (.aload_n 0, 1) := by decide +kernel
theorem dL_isYear_251 : decode cL_isYear 251 = .ok (.iload_n 2, 1) := by decide +kernel
theorem dL_isYear_252 : decode cL_isYear 252 = .ok (.invokevirtual 27, 3) := by decide +kernel
theorem dL_isYear_255 : decode cL_isYear 255 = .ok (.i2l, 1) := by decide +kernel
theorem dL_isYear_256 : decode cL_isYear 256 = .ok (.lmul, 1) := by decide +kernel
theorem dL_isYear_257 : decode cL_isYear 257 = .ok (.lcmp, 1) := by decide +kernel
theorem dL_isYear_258 : decode cL_isYear 258 = .ok (.ifCond .lt 25, 3) := by decide +kernel
theorem dL_isYear_261 : decode cL_isYear 261 = .ok (.aload_n 0, 1) := by decide +kernel
theorem dL_isYear_262 : decode cL_isYear 262 = .ok (.iload_n 2, 1) := by decide +kernel
theorem dL_isYear_263 : decode cL_isYear 263 = .ok (.invokevirtual 73, 3) := by decide +kernel
theorem dL_isYear_266 : decode cL_isYear 266 = .ok (.iload_n 3, 1) := by decide +kernel
theorem dL_isYear_267 : decode cL_isYear 267 = .ok (.i2l, 1) := by decide +kernel
theorem dL_isYear_268 : decode cL_isYear 268 = .ok (.aload_n 0, 1) := by decide +kernel
theorem dL_isYear_269 : decode cL_isYear 269 = .ok (.iload_n 2, 1) := by decide +kernel
theorem dL_isYear_270 : decode cL_isYear 270 = .ok (.invokevirtual 27, 3) := by decide +kernel
theorem dL_isYear_273 : decode cL_isYear 273 = .ok (.i2l, 1) := by decide +kernel
theorem dL_isYear_274 : decode cL_isYear 274 = .ok (.lmul, 1) := by decide +kernel
theorem dL_isYear_275 : decode cL_isYear 275 = .ok (.lcmp, 1) := by decide +kernel
theorem dL_isYear_276 : decode cL_isYear 276 = .ok (.ifCond .gt 7, 3) := by decide +kernel
theorem dL_isYear_279 : decode cL_isYear 279 = .ok (.iconst 1, 1) := by decide +kernel
theorem dL_isYear_280 : decode cL_isYear 280 = .ok (.goto 4, 3) := by decide +kernel
theorem dL_isYear_283 : decode cL_isYear 283 = .ok (.iconst 0, 1) := by decide +kernel
theorem dL_isYear_284 : decode cL_isYear 284 = .ok (.ireturn, 1) := by decide +kernel
set_option maxRecDepth 20000 in
theorem ggL_areYears_X1_closed : GoodIn wsL_areYears wsX1_closed := goodIn_r _ [5, 6, 111, 112, 113, 114, 115, 116, 117, 118, 119, 120, 121, 122, 123, 124, 125, 126, 127] (by decide +kernel) (by decide +kernel)
set_option maxRecDepth 20000 in
theorem gL_areYears_X1_closed : GoodIn wsL_areYears (wsV RL 10 RX1 yX1_closed wsX1_closed) := goodIn_app (goodIn_of _ (by decide +kernel)) ggL_areYears_X1_closed
set_option maxRecDepth 20000 in
theorem ggL_areYears_L_isYear : GoodIn wsL_areYears wsL_isYear := goodIn_ca (goodIn_ca (goodIn_r _ [10, 11, 12, 13, 4, 14, 15, 16, 17, 18, 19, 20, 21, 22, 23, 24, 25, 26, 27, 28, 29, 30, 31, 32, 33, 34, 35, 36, 37, 38, 39, 40, 41, 42, 43, 44, 45, 46, 47, 48, 49, 50, 51, 6, 52, 53, 54, 55, 56, 57, 58, 59, 60, 61, 62, 63, 64, 65, 66, 67, 68, 69, 70, 71, 72, 73, 74, 75, 76, 77, 78, 79, 80, 81, 82, 83, 84, 85, 86, 87, 111, 112, 113, 114, 115, 116, 117, 118, 119, 120, 121, 122, 123, 124, 125, 126, 127, 128, 129, 130] (by decide +kernel) (by decide +kernel)) (goodIn_sub (fun _ h => List.mem_cons_of_mem _ (List.mem_append_left _ (List.mem_append_right _ h))) (by decide +kernel))) (goodIn_sub (fun _ h => List.mem_cons_of_mem _ (List.mem_append_right _ h)) (by decide +kernel))
set_option maxRecDepth 20000 in
theorem gL_areYears_L_isYear : GoodIn wsL_areYears (va_wsS RL 94 yL_isYear wsL_isYear) := goodIn_app (goodIn_of _ (by decide +kernel)) ggL_areYears_L_isYear
set_option maxRecDepth 20000 in
theorem ggL_areYears_X1_shortfall : GoodIn wsL_areYears wsX1_shortfall := goodIn_ca (goodIn_ca (goodIn_r _ [61, 62, 46, 47, 48, 4, 49, 50, 51, 6, 16, 17, 18, 19, 20, 21, 22, 23, 111, 112, 113, 114, 115, 116, 117, 118, 119, 120, 121, 122, 123, 124, 125, 126, 127] (by decide +kernel) (by decide +kernel)) (goodIn_sub (fun _ h => List.mem_cons_of_mem _ (List.mem_append_right _ h)) (by decide +kernel))) (goodIn_sub (fun _ h => List.mem_cons_of_mem _ (List.mem_append_left _ (List.mem_append_right _ h))) (by decide +kernel))
set_option maxRecDepth 20000 in
theorem gL_areYears_X1_shortfall : GoodIn wsL_areYears (wsV RL 79 RX1 yX1_shortfall wsX1_shortfall) := goodIn_app (goodIn_of _ (by decide +kernel)) ggL_areYears_X1_shortfall
set_option maxRecDepth 20000 in
theorem ggL_areYears_X1_madeUp : GoodIn wsL_areYears wsX1_madeUp := goodIn_ca (goodIn_ca (goodIn_r _ [81, 82, 46, 47, 48, 4, 49, 50, 51, 6, 16, 17, 18, 19, 20, 21, 22, 23, 111, 112, 113, 114, 115, 116, 117, 118, 119, 120, 121, 122, 123, 124, 125, 126, 127] (by decide +kernel) (by decide +kernel)) (goodIn_sub (fun _ h => List.mem_cons_of_mem _ (List.mem_append_right _ h)) (by decide +kernel))) (goodIn_sub (fun _ h => List.mem_cons_of_mem _ (List.mem_append_left _ (List.mem_append_right _ h))) (by decide +kernel))
set_option maxRecDepth 20000 in
theorem gL_areYears_X1_madeUp : GoodIn wsL_areYears (wsV RL 91 RX1 yX1_madeUp wsX1_madeUp) := goodIn_app (goodIn_of _ (by decide +kernel)) ggL_areYears_X1_madeUp
set_option maxRecDepth 20000 in
theorem ggL_areYears_X1_makeUpLeft : GoodIn wsL_areYears wsX1_makeUpLeft := goodIn_ca (goodIn_ca (goodIn_r _ [44, 45, 46, 47, 48, 4, 49, 50, 51, 6, 16, 17, 18, 19, 20, 21, 22, 23, 52, 53, 54, 55, 56, 57, 111, 112, 113, 114, 115, 116, 117, 118, 119, 120, 121, 122, 123, 124, 125, 126, 127, 128, 129, 130] (by decide +kernel) (by decide +kernel)) (goodIn_sub (fun _ h => List.mem_cons_of_mem _ (List.mem_append_right _ h)) (by decide +kernel))) (goodIn_sub (fun _ h => List.mem_cons_of_mem _ (List.mem_append_left _ (List.mem_append_right _ h))) (by decide +kernel))
set_option maxRecDepth 20000 in
theorem gL_areYears_X1_makeUpLeft : GoodIn wsL_areYears (wsV RL 76 RX1 yX1_makeUpLeft wsX1_makeUpLeft) := goodIn_app (goodIn_of _ (by decide +kernel)) ggL_areYears_X1_makeUpLeft
set_option maxRecDepth 20000 in
theorem ggL_areYears_X1_surplus : GoodIn wsL_areYears wsX1_surplus := goodIn_ca (goodIn_ca (goodIn_r _ [71, 72, 46, 47, 48, 4, 49, 50, 51, 6, 16, 17, 18, 19, 20, 21, 22, 23, 111, 112, 113, 114, 115, 116, 117, 118, 119, 120, 121, 122, 123, 124, 125, 126, 127] (by decide +kernel) (by decide +kernel)) (goodIn_sub (fun _ h => List.mem_cons_of_mem _ (List.mem_append_right _ h)) (by decide +kernel))) (goodIn_sub (fun _ h => List.mem_cons_of_mem _ (List.mem_append_left _ (List.mem_append_right _ h))) (by decide +kernel))
set_option maxRecDepth 20000 in
theorem gL_areYears_X1_surplus : GoodIn wsL_areYears (wsV RL 85 RX1 yX1_surplus wsX1_surplus) := goodIn_app (goodIn_of _ (by decide +kernel)) ggL_areYears_X1_surplus
set_option maxRecDepth 20000 in
theorem ggL_areYears_X1_covered : GoodIn wsL_areYears wsX1_covered := goodIn_ca (goodIn_ca (goodIn_r _ [76, 77, 46, 47, 48, 4, 49, 50, 51, 6, 16, 17, 18, 19, 20, 21, 22, 23, 111, 112, 113, 114, 115, 116, 117, 118, 119, 120, 121, 122, 123, 124, 125, 126, 127] (by decide +kernel) (by decide +kernel)) (goodIn_sub (fun _ h => List.mem_cons_of_mem _ (List.mem_append_right _ h)) (by decide +kernel))) (goodIn_sub (fun _ h => List.mem_cons_of_mem _ (List.mem_append_left _ (List.mem_append_right _ h))) (by decide +kernel))
set_option maxRecDepth 20000 in
theorem gL_areYears_X1_covered : GoodIn wsL_areYears (wsV RL 88 RX1 yX1_covered wsX1_covered) := goodIn_app (goodIn_of _ (by decide +kernel)) ggL_areYears_X1_covered
set_option maxRecDepth 20000 in
theorem ggL_areYears_X1_surplusLeft : GoodIn wsL_areYears wsX1_surplusLeft := goodIn_ca (goodIn_ca (goodIn_r _ [66, 67, 46, 47, 48, 4, 49, 50, 51, 6, 16, 17, 18, 19, 20, 21, 22, 23, 52, 53, 54, 55, 56, 57, 111, 112, 113, 114, 115, 116, 117, 118, 119, 120, 121, 122, 123, 124, 125, 126, 127, 128, 129, 130] (by decide +kernel) (by decide +kernel)) (goodIn_sub (fun _ h => List.mem_cons_of_mem _ (List.mem_append_right _ h)) (by decide +kernel))) (goodIn_sub (fun _ h => List.mem_cons_of_mem _ (List.mem_append_left _ (List.mem_append_right _ h))) (by decide +kernel))
set_option maxRecDepth 20000 in
theorem gL_areYears_X1_surplusLeft : GoodIn wsL_areYears (wsV RL 82 RX1 yX1_surplusLeft wsX1_surplusLeft) := goodIn_app (goodIn_of _ (by decide +kernel)) ggL_areYears_X1_surplusLeft
set_option maxRecDepth 20000 in
theorem ggL_areYears_X1_due : GoodIn wsL_areYears wsX1_due := goodIn_ca (goodIn_ca (goodIn_r _ [86, 87, 46, 47, 48, 4, 49, 50, 51, 6, 16, 17, 18, 19, 20, 21, 22, 23, 111, 112, 113, 114, 115, 116, 117, 118, 119, 120, 121, 122, 123, 124, 125, 126, 127] (by decide +kernel) (by decide +kernel)) (goodIn_sub (fun _ h => List.mem_cons_of_mem _ (List.mem_append_right _ h)) (by decide +kernel))) (goodIn_sub (fun _ h => List.mem_cons_of_mem _ (List.mem_append_left _ (List.mem_append_right _ h))) (by decide +kernel))
set_option maxRecDepth 20000 in
theorem gL_areYears_X1_due : GoodIn wsL_areYears (wsV RL 73 RX1 yX1_due wsX1_due) := goodIn_app (goodIn_of _ (by decide +kernel)) ggL_areYears_X1_due
set_option maxRecDepth 20000 in
theorem ggL_areYears_X1_bill : GoodIn wsL_areYears wsX1_bill := goodIn_ca (goodIn_ca (goodIn_r _ [91, 92, 46, 47, 48, 4, 49, 50, 51, 6, 16, 17, 18, 19, 20, 21, 22, 23, 111, 112, 113, 114, 115, 116, 117, 118, 119, 120, 121, 122, 123, 124, 125, 126, 127] (by decide +kernel) (by decide +kernel)) (goodIn_sub (fun _ h => List.mem_cons_of_mem _ (List.mem_append_right _ h)) (by decide +kernel))) (goodIn_sub (fun _ h => List.mem_cons_of_mem _ (List.mem_append_left _ (List.mem_append_right _ h))) (by decide +kernel))
set_option maxRecDepth 20000 in
theorem gL_areYears_X1_bill : GoodIn wsL_areYears (wsV RL 69 RX1 yX1_bill wsX1_bill) := goodIn_app (goodIn_of _ (by decide +kernel)) ggL_areYears_X1_bill
set_option maxRecDepth 20000 in
theorem ggL_areYears_X1_lapsed : GoodIn wsL_areYears wsX1_lapsed := goodIn_r _ [96, 45, 97, 98, 99, 55, 100, 101, 111, 112, 113, 114, 115, 116, 117, 118, 119, 120, 121, 122, 123, 124, 125, 126, 127, 128, 129, 130] (by decide +kernel) (by decide +kernel)
set_option maxRecDepth 20000 in
theorem gL_areYears_X1_lapsed : GoodIn wsL_areYears (wsV RL 98 RX1 yX1_lapsed wsX1_lapsed) := goodIn_app (goodIn_of _ (by decide +kernel)) ggL_areYears_X1_lapsed
set_option maxRecDepth 20000 in
theorem ggL_areYears_X1_open : GoodIn wsL_areYears wsX1_open := goodIn_r _ [105, 106, 107, 108, 109, 4, 110, 6, 87, 111, 112, 113, 114, 115, 116, 117, 118, 119, 120, 121, 122, 123, 124, 125, 126, 127] (by decide +kernel) (by decide +kernel)
set_option maxRecDepth 20000 in
theorem gL_areYears_X1_open : GoodIn wsL_areYears (wsV RL 62 RX1 yX1_open wsX1_open) := goodIn_app (goodIn_of _ (by decide +kernel)) ggL_areYears_X1_open
theorem dL_areYears_0 : decode cL_areYears 0 = .ok (.iconst 0, 1) := by decide +kernel
theorem dL_areYears_1 : decode cL_areYears 1 = .ok (.istore_n 2, 1) := by decide +kernel
theorem dL_areYears_2 : decode cL_areYears 2 = .ok (.iconst 0, 1) := by decide +kernel
theorem dL_areYears_3 : decode cL_areYears 3 = .ok (.istore_n 3, 1) := by decide +kernel
theorem dL_areYears_4 : decode cL_areYears 4 = .ok (.iconst 0, 1) := by decide +kernel
theorem dL_areYears_5 : decode cL_areYears 5 = .ok (.istore 4, 2) := by decide +kernel
theorem dL_areYears_7 : decode cL_areYears 7 = .ok (.iconst 0, 1) := by decide +kernel
theorem dL_areYears_8 : decode cL_areYears 8 = .ok (.istore 5, 2) := by decide +kernel
theorem dL_areYears_10 : decode cL_areYears 10 = .ok (.lconst 0, 1) := by decide +kernel
theorem dL_areYears_11 : decode cL_areYears 11 = .ok (.lstore 6, 2) := by decide +kernel
theorem dL_areYears_13 : decode cL_areYears 13 = .ok (.lconst 0, 1) := by decide +kernel
theorem dL_areYears_14 : decode cL_areYears 14 = .ok (.lstore 8, 2) := by decide +kernel
theorem dL_areYears_16 : decode cL_areYears 16 = .ok (.aload_n 0, 1) := by decide +kernel
theorem dL_areYears_17 : decode cL_areYears 17 = .ok (.invokevirtual 10, 3) := by decide +kernel
theorem dL_areYears_20 : decode cL_areYears 20 = .ok (.aload_n 1, 1) := by decide +kernel
theorem dL_areYears_21 : decode cL_areYears 21 = .ok (.iconst 5, 1) := by decide +kernel
theorem dL_areYears_22 : decode cL_areYears 22 = .ok (.iaload, 1) := by decide +kernel
theorem dL_areYears_23 : decode cL_areYears 23 = .ok (.if_icmp .ne 7, 3) := by decide +kernel
theorem dL_areYears_26 : decode cL_areYears 26 = .ok (.iconst 1, 1) := by decide +kernel
theorem dL_areYears_27 : decode cL_areYears 27 = .ok (.goto 4, 3) := by decide +kernel
theorem dL_areYears_30 : decode cL_areYears 30 = .ok (.iconst 0, 1) := by decide +kernel
theorem dL_areYears_31 : decode cL_areYears 31 = .ok (.istore 10, 2) := by decide +kernel
theorem dL_areYears_33 : decode cL_areYears 33 = .ok (.iconst 0, 1) := by decide +kernel
theorem dL_areYears_34 : decode cL_areYears 34 = .ok (.istore 11, 2) := by decide +kernel
theorem dL_areYears_36 : decode cL_areYears 36 = .ok (.iload 11, 2) := by decide +kernel
theorem dL_areYears_38 : decode cL_areYears 38 = .ok (.aload_n 1, 1) := by decide +kernel
theorem dL_areYears_39 : decode cL_areYears 39 = .ok (.iconst 5, 1) := by decide +kernel
theorem dL_areYears_40 : decode cL_areYears 40 = .ok (.iaload, 1) := by decide +kernel
theorem dL_areYears_41 : decode cL_areYears 41 = .ok (.if_icmp .ge 157, 3) := by decide +kernel
theorem dL_areYears_44 : decode cL_areYears 44 = .ok (.iload 10, 2) := by decide +kernel
theorem dL_areYears_46 : decode cL_areYears 46 = .ok (.ifCond .eq 152, 3) := by decide +kernel
theorem dL_areYears_49 : decode cL_areYears 49 = .ok (.aload_n 0, 1) := by decide +kernel
theorem dL_areYears_50 : decode cL_areYears 50 = .ok (.aload_n 1, 1) := by decide +kernel
theorem dL_areYears_51 : decode cL_areYears 51 = .ok (.iload 11, 2) := by decide +kernel
theorem dL_areYears_53 : decode cL_areYears 53 = .ok (.invokestatic 94, 3) := by decide +kernel
theorem dL_areYears_56 : decode cL_areYears 56 = .ok (.istore 10, 2) := by decide +kernel
theorem dL_areYears_58 : decode cL_areYears 58 = .ok (.iload_n 2, 1) := by decide +kernel
theorem dL_areYears_59 : decode cL_areYears 59 = .ok (.aload_n 0, 1) := by decide +kernel
theorem dL_areYears_60 : decode cL_areYears 60 = .ok (.iload 11, 2) := by decide +kernel
theorem dL_areYears_62 : decode cL_areYears 62 = .ok (.invokevirtual 79, 3) := by decide +kernel
theorem dL_areYears_65 : decode cL_areYears 65 = .ok (.iadd, 1) := by decide +kernel
theorem dL_areYears_66 : decode cL_areYears 66 = .ok (.istore_n 2, 1) := by decide +kernel
theorem dL_areYears_67 : decode cL_areYears 67 = .ok (.iload_n 3, 1) := by decide +kernel
theorem dL_areYears_68 : decode cL_areYears 68 = .ok (.aload_n 0, 1) := by decide +kernel
theorem dL_areYears_69 : decode cL_areYears 69 = .ok (.iload 11, 2) := by decide +kernel
theorem dL_areYears_71 : decode cL_areYears 71 = .ok (.invokevirtual 91, 3) := by decide +kernel
theorem dL_areYears_74 : decode cL_areYears 74 = .ok (.aload_n 0, 1) := by decide +kernel
theorem dL_areYears_75 : decode cL_areYears 75 = .ok (.iload 11, 2) := by decide +kernel
theorem dL_areYears_77 : decode cL_areYears 77 = .ok (.invokevirtual 76, 3) := by decide +kernel
theorem dL_areYears_80 : decode cL_areYears 80 = .ok (.iadd, 1) := by decide +kernel
theorem dL_areYears_81 : decode cL_areYears 81 = .ok (.iadd, 1) := by decide +kernel
theorem dL_areYears_82 : decode cL_areYears 82 = .ok (.istore_n 3, 1) := by decide +kernel
theorem dL_areYears_83 : decode cL_areYears 83 = .ok (.iload 4, 2) := by decide +kernel
theorem dL_areYears_85 : decode cL_areYears 85 = .ok (.aload_n 0, 1) := by decide +kernel
theorem dL_areYears_86 : decode cL_areYears 86 = .ok (.iload 11, 2) := by decide +kernel
theorem dL_areYears_88 : decode cL_areYears 88 = .ok (.invokevirtual 85, 3) := by decide +kernel
theorem dL_areYears_91 : decode cL_areYears 91 = .ok (.iadd, 1) := by decide +kernel
theorem dL_areYears_92 : decode cL_areYears 92 = .ok (.istore 4, 2) := by decide +kernel
theorem dL_areYears_94 : decode cL_areYears 94 = .ok (.iload 5, 2) := by decide +kernel
theorem dL_areYears_96 : decode cL_areYears 96 = .ok (.aload_n 0, 1) := by decide +kernel
theorem dL_areYears_97 : decode cL_areYears 97 = .ok (.iload 11, 2) := by decide +kernel
theorem dL_areYears_99 : decode cL_areYears 99 = .ok (.invokevirtual 88, 3) := by decide +kernel
theorem dL_areYears_102 : decode cL_areYears 102 = .ok (.aload_n 0, 1) := by decide +kernel
theorem dL_areYears_103 : decode cL_areYears 103 = .ok (.iload 11, 2) := by decide +kernel
theorem dL_areYears_105 : decode cL_areYears 105 = .ok (.invokevirtual 82, 3) := by decide +kernel
theorem dL_areYears_108 : decode cL_areYears 108 = .ok (.iadd, 1) := by decide +kernel
theorem dL_areYears_109 : decode cL_areYears 109 = .ok (.iadd, 1) := by decide +kernel
theorem dL_areYears_110 : decode cL_areYears 110 = .ok (.istore 5, 2) := by decide +kernel
theorem dL_areYears_112 : decode cL_areYears 112 = .ok (.lload 6, 2) := by decide +kernel
theorem dL_areYears_114 : decode cL_areYears 114 = .ok (.aload_n 0, 1) := by decide +kernel
theorem dL_areYears_115 : decode cL_areYears 115 = .ok (.iload 11, 2) := by decide +kernel
theorem dL_areYears_117 : decode cL_areYears 117 = .ok (.invokevirtual 73, 3) := by decide +kernel
theorem dL_areYears_120 : decode cL_areYears 120 = .ok (.ladd, 1) := by decide +kernel
theorem dL_areYears_121 : decode cL_areYears 121 = .ok (.lstore 6, 2) := by decide +kernel
theorem dL_areYears_123 : decode cL_areYears 123 = .ok (.lload 8, 2) := by decide +kernel
theorem dL_areYears_125 : decode cL_areYears 125 = .ok (.aload_n 0, 1) := by decide +kernel
theorem dL_areYears_126 : decode cL_areYears 126 = .ok (.iload 11, 2) := by decide +kernel
theorem dL_areYears_128 : decode cL_areYears 128 = .ok (.invokevirtual 69, 3) := by decide +kernel
theorem dL_areYears_131 : decode cL_areYears 131 = .ok (.ladd, 1) := by decide +kernel
theorem dL_areYears_132 : decode cL_areYears 132 = .ok (.lstore 8, 2) := by decide +kernel
theorem dL_areYears_134 : decode cL_areYears 134 = .ok (.iload 10, 2) := by decide +kernel
theorem dL_areYears_136 : decode cL_areYears 136 = .ok (.ifCond .eq 53, 3) := by decide +kernel
theorem dL_areYears_139 : decode cL_areYears 139 = .ok (.aload_n 1, 1) := by decide +kernel
theorem dL_areYears_140 : decode cL_areYears 140 = .ok (.iconst 5, 1) := by decide +kernel
theorem dL_areYears_141 : decode cL_areYears 141 = .ok (.iaload, 1) := by decide +kernel
theorem dL_areYears_142 : decode cL_areYears 142 = .ok (.iconst 1, 1) := by decide +kernel
theorem dL_areYears_143 : decode cL_areYears 143 = .ok (.isub, 1) := by decide +kernel
theorem dL_areYears_144 : decode cL_areYears 144 = .ok (.iload 11, 2) := by decide +kernel
theorem dL_areYears_146 : decode cL_areYears 146 = .ok (.aload_n 1, 1) := by decide +kernel
theorem dL_areYears_147 : decode cL_areYears 147 = .ok (.iconst 3, 1) := by decide +kernel
theorem dL_areYears_148 : decode cL_areYears 148 = .ok (.iaload, 1) := by decide +kernel
theorem dL_areYears_149 : decode cL_areYears 149 = .ok (.iadd, 1) := by decide +kernel
theorem dL_areYears_150 : decode cL_areYears 150 = .ok (.if_icmp .le 12, 3) := by decide +kernel
theorem dL_areYears_153 : decode cL_areYears 153 = .ok (.aload_n 0, 1) := by decide +kernel
theorem dL_areYears_154 : decode cL_areYears 154 = .ok (.iload 11, 2) := by decide +kernel
theorem dL_areYears_156 : decode cL_areYears 156 = .ok (.invokevirtual 76, 3) := by decide +kernel
theorem dL_areYears_159 : decode cL_areYears 159 = .ok (.ifCond .ne 30, 3) := by decide +kernel
theorem dL_areYears_162 : decode cL_areYears 162 = .ok (.aload_n 1, 1) := by decide +kernel
theorem dL_areYears_163 : decode cL_areYears 163 = .ok (.iconst 5, 1) := by decide +kernel
theorem dL_areYears_164 : decode cL_areYears 164 = .ok (.iaload, 1) := by decide +kernel
theorem dL_areYears_165 : decode cL_areYears 165 = .ok (.iconst 1, 1) := by decide +kernel
theorem dL_areYears_166 : decode cL_areYears 166 = .ok (.isub, 1) := by decide +kernel
theorem dL_areYears_167 : decode cL_areYears 167 = .ok (.iload 11, 2) := by decide +kernel
theorem dL_areYears_169 : decode cL_areYears 169 = .ok (.aload_n 1, 1) := by decide +kernel
theorem dL_areYears_170 : decode cL_areYears 170 = .ok (.iconst 4, 1) := by decide +kernel
theorem dL_areYears_171 : decode cL_areYears 171 = .ok (.iaload, 1) := by decide +kernel
theorem dL_areYears_172 : decode cL_areYears 172 = .ok (.iadd, 1) := by decide +kernel
theorem dL_areYears_173 : decode cL_areYears 173 = .ok (.if_icmp .le 12, 3) := by decide +kernel
theorem dL_areYears_176 : decode cL_areYears 176 = .ok (.aload_n 0, 1) := by decide +kernel
theorem dL_areYears_177 : decode cL_areYears 177 = .ok (.iload 11, 2) := by decide +kernel
theorem dL_areYears_179 : decode cL_areYears 179 = .ok (.invokevirtual 82, 3) := by decide +kernel
theorem dL_areYears_182 : decode cL_areYears 182 = .ok (.ifCond .ne 7, 3) := by decide +kernel
theorem dL_areYears_185 : decode cL_areYears 185 = .ok (.iconst 1, 1) := by decide +kernel
theorem dL_areYears_186 : decode cL_areYears 186 = .ok (.goto 4, 3) := by decide +kernel
theorem dL_areYears_189 : decode cL_areYears 189 = .ok (.iconst 0, 1) := by decide +kernel
theorem dL_areYears_190 : decode cL_areYears 190 = .ok (.istore 10, 2) := by decide +kernel
theorem dL_areYears_192 : decode cL_areYears 192 = .ok (.iinc 11 1, 3) := by decide +kernel
theorem dL_areYears_195 : decode cL_areYears 195 = .ok (.goto (-159), 3) := by decide +kernel
theorem dL_areYears_198 : decode cL_areYears 198 = .ok (.iload 10, 2) := by decide +kernel
theorem dL_areYears_200 : decode cL_areYears 200 = .ok (.ifCond .eq 44, 3) := by decide +kernel
theorem dL_areYears_203 : decode cL_areYears 203 = .ok (.iload_n 2, 1) := by decide +kernel
theorem dL_areYears_204 : decode cL_areYears 204 = .ok (.iload_n 3, 1) := by decide +kernel
theorem dL_areYears_205 : decode cL_areYears 205 = .ok (.aload_n 0, 1) := by decide +kernel
theorem dL_areYears_206 : decode cL_areYears 206 = .ok (.invokevirtual 98, 3) := by decide +kernel
theorem dL_areYears_209 : decode cL_areYears 209 = .ok (.iadd, 1) := by decide +kernel
theorem dL_areYears_210 : decode cL_areYears 210 = .ok (.if_icmp .ne 34, 3) := by decide +kernel
theorem dL_areYears_213 : decode cL_areYears 213 = .ok (.aload_n 0, 1) := by decide +kernel
theorem dL_areYears_214 : decode cL_areYears 214 = .ok (.invokevirtual 98, 3) := by decide +kernel
theorem dL_areYears_217 : decode cL_areYears 217 = .ok (.ifCond .lt 27, 3) := by decide +kernel
theorem dL_areYears_220 : decode cL_areYears 220 = .ok (.iload 5, 2) := by decide +kernel
theorem dL_areYears_222 : decode cL_areYears 222 = .ok (.iload 4, 2) := by decide +kernel
theorem dL_areYears_224 : decode cL_areYears 224 = .ok (.if_icmp .gt 20, 3) := by decide +kernel
theorem dL_areYears_227 : decode cL_areYears 227 = .ok (.aload_n 0, 1) := by decide +kernel
theorem dL_areYears_228 : decode cL_areYears 228 = .ok (.invokevirtual 62, 3) := by decide +kernel
theorem dL_areYears_231 : decode cL_areYears 231 = .ok (.lload 6, 2) := by decide +kernel
theorem dL_areYears_233 : decode cL_areYears 233 = .ok (.lload 8, 2) := by decide +kernel
theorem dL_areYears_235 : decode cL_areYears 235 = .ok (.lsub, 1) := by decide +kernel
theorem dL_areYears_236 : decode cL_areYears 236 = .ok (.lcmp, 1) := by decide +kernel
theorem dL_areYears_237 : decode cL_areYears 237 = .ok (.ifCond .ne 7, 3) := by decide +kernel
theorem dL_areYears_240 : decode cL_areYears 240 = .ok (.iconst 1, 1) := by decide +kernel
theorem dL_areYears_241 : decode cL_areYears 241 = .ok (.goto 4, 3) := by decide +kernel
theorem dL_areYears_244 : decode cL_areYears 244 = .ok (.iconst 0, 1) := by decide +kernel
theorem dL_areYears_245 : decode cL_areYears 245 = .ok (.ireturn, 1) := by decide +kernel
set_option maxRecDepth 20000 in
theorem ggL_law_X1_init : GoodIn wsL_law wsX1_init := goodIn_r _ [7, 8, 9, 10, 11, 12, 13, 14, 3, 15, 16, 17, 18, 19, 20, 21, 22, 23, 24, 25, 26, 27, 28, 29, 30, 31, 32, 33, 34, 35, 36, 37, 38, 39, 40, 255, 256, 257, 258, 259, 260, 261, 262, 263, 264, 265, 266, 267, 268, 269, 270, 271, 272, 273, 274] (by decide +kernel) (by decide +kernel)
set_option maxRecDepth 20000 in
theorem gL_law_X1_init : GoodIn wsL_law (wsX1_init) := ggL_law_X1_init
set_option maxRecDepth 20000 in
theorem ggL_law_X1_closed : GoodIn wsL_law wsX1_closed := goodIn_r _ [44, 45, 255, 256, 257, 258, 259, 260, 261, 262, 263, 264, 265, 266, 267, 268, 269, 270, 271] (by decide +kernel) (by decide +kernel)
set_option maxRecDepth 20000 in
theorem gL_law_X1_closed : GoodIn wsL_law (wsV RL 10 RX1 yX1_closed wsX1_closed) := goodIn_app (goodIn_of _ (by decide +kernel)) ggL_law_X1_closed
set_option maxRecDepth 20000 in
theorem ggL_law_X1_open : GoodIn wsL_law wsX1_open := goodIn_r _ [49, 50, 51, 52, 53, 2, 54, 45, 29, 255, 256, 257, 258, 259, 260, 261, 262, 263, 264, 265, 266, 267, 268, 269, 270, 271] (by decide +kernel) (by decide +kernel)
set_option maxRecDepth 20000 in
theorem gL_law_X1_open : GoodIn wsL_law (wsV RL 62 RX1 yX1_open wsX1_open) := goodIn_app (goodIn_of _ (by decide +kernel)) ggL_law_X1_open
set_option maxRecDepth 20000 in
theorem ggL_law_X1_lapsed : GoodIn wsL_law wsX1_lapsed := goodIn_r _ [58, 22, 59, 60, 61, 21, 62, 63, 255, 256, 257, 258, 259, 260, 261, 262, 263, 264, 265, 266, 267, 268, 269, 270, 271, 272, 273, 274] (by decide +kernel) (by decide +kernel)
set_option maxRecDepth 20000 in
theorem gL_law_X1_lapsed : GoodIn wsL_law (wsV RL 98 RX1 yX1_lapsed wsX1_lapsed) := goodIn_app (goodIn_of _ (by decide +kernel)) ggL_law_X1_lapsed
set_option maxRecDepth 20000 in
theorem ggL_law_X1_least : GoodIn wsL_law wsX1_least := goodIn_ca (goodIn_r _ [67, 68, 69, 2, 70, 71, 72, 73, 74, 75, 76, 77, 78, 79, 12, 13, 16, 80, 255, 256, 257, 258, 259, 260, 261, 262, 263, 264, 265, 266, 267, 268, 269, 270, 271] (by decide +kernel) (by decide +kernel)) (goodIn_sub (fun _ h => List.mem_append_left _ (List.mem_append_right _ h)) (by decide +kernel))
set_option maxRecDepth 20000 in
theorem gL_law_X1_least : GoodIn wsL_law (wsV RL 21 RX1 yX1_least wsX1_least) := goodIn_app (goodIn_of _ (by decide +kernel)) ggL_law_X1_least
set_option maxRecDepth 20000 in
theorem ggL_law_X1_price : GoodIn wsL_law wsX1_price := goodIn_ca (goodIn_r _ [84, 15, 68, 69, 2, 70, 71, 72, 73, 74, 75, 255, 256, 257, 258, 259, 260, 261, 262, 263, 264, 265, 266, 267, 268, 269, 270, 271] (by decide +kernel) (by decide +kernel)) (goodIn_sub (fun _ h => List.mem_append_left _ (List.mem_append_right _ h)) (by decide +kernel))
set_option maxRecDepth 20000 in
theorem gL_law_X1_price : GoodIn wsL_law (wsV RL 27 RX1 yX1_price wsX1_price) := goodIn_app (goodIn_of _ (by decide +kernel)) ggL_law_X1_price
set_option maxRecDepth 20000 in
theorem ggL_law_L_draw : GoodIn wsL_law wsL_draw := goodIn_r _ [88, 89, 90, 91] (by decide +kernel) (by decide +kernel)
theorem dL_law_0 : decode cL_law 0 = .ok (.new 11, 3) := by decide +kernel
theorem dL_law_3 : decode cL_law 3 = .ok (.dup, 1) := by decide +kernel
theorem dL_law_4 : decode cL_law 4 = .ok (.invokespecial 101, 3) := by decide +kernel
theorem dL_law_7 : decode cL_law 7 = .ok (.astore_n 1, 1) := by decide +kernel
theorem dL_law_8 : decode cL_law 8 = .ok (.bipush 7, 2) := by decide +kernel
theorem dL_law_10 : decode cL_law 10 = .ok (.newarray .int, 2) := by decide +kernel
theorem dL_law_12 : decode cL_law 12 = .ok (.astore_n 2, 1) := by decide +kernel
theorem dL_law_13 : decode cL_law 13 = .ok (.aload_n 2, 1) := by decide +kernel
theorem dL_law_14 : decode cL_law 14 = .ok (.iconst 0, 1) := by decide +kernel
theorem dL_law_15 : decode cL_law 15 = .ok (.ldc 102, 2) := by decide +kernel
theorem dL_law_17 : decode cL_law 17 = .ok (.iastore, 1) := by decide +kernel
theorem dL_law_18 : decode cL_law 18 = .ok (.aload_n 2, 1) := by decide +kernel
theorem dL_law_19 : decode cL_law 19 = .ok (.iconst 1, 1) := by decide +kernel
theorem dL_law_20 : decode cL_law 20 = .ok (.bipush 80, 2) := by decide +kernel
theorem dL_law_22 : decode cL_law 22 = .ok (.iastore, 1) := by decide +kernel
theorem dL_law_23 : decode cL_law 23 = .ok (.aload_n 2, 1) := by decide +kernel
theorem dL_law_24 : decode cL_law 24 = .ok (.iconst 2, 1) := by decide +kernel
theorem dL_law_25 : decode cL_law 25 = .ok (.bipush 100, 2) := by decide +kernel
theorem dL_law_27 : decode cL_law 27 = .ok (.iastore, 1) := by decide +kernel
theorem dL_law_28 : decode cL_law 28 = .ok (.aload_n 2, 1) := by decide +kernel
theorem dL_law_29 : decode cL_law 29 = .ok (.iconst 3, 1) := by decide +kernel
theorem dL_law_30 : decode cL_law 30 = .ok (.iconst 3, 1) := by decide +kernel
theorem dL_law_31 : decode cL_law 31 = .ok (.iastore, 1) := by decide +kernel
theorem dL_law_32 : decode cL_law 32 = .ok (.aload_n 2, 1) := by decide +kernel
theorem dL_law_33 : decode cL_law 33 = .ok (.iconst 4, 1) := by decide +kernel
theorem dL_law_34 : decode cL_law 34 = .ok (.iconst 2, 1) := by decide +kernel
theorem dL_law_35 : decode cL_law 35 = .ok (.iastore, 1) := by decide +kernel
theorem dL_law_36 : decode cL_law 36 = .ok (.aload_n 1, 1) := by decide +kernel
theorem dL_law_37 : decode cL_law 37 = .ok (.invokevirtual 10, 3) := by decide +kernel
