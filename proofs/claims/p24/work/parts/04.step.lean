theorem gs_step0 : GoodIn wsL_law [.code yL_step cL_step 10 (some .boolean)] := goodIn_r _ [94] (by decide +kernel) (by decide +kernel)
set_option maxRecDepth 20000 in
theorem gwsL_step_r1 : GoodIn wsL_law wsL_step_r1 := goodIn_r _ [95, 96, 97, 41, 42, 43, 2, 44, 45, 98, 99, 100, 101, 102, 12, 13, 14, 22, 23, 71, 72, 73, 74, 75] (by decide +kernel) (by decide +kernel)
set_option maxRecDepth 20000 in
theorem gwsL_step_r2 : GoodIn wsL_law wsL_step_r2 := goodIn_r _ [103, 104, 105, 106, 107, 108, 18, 109, 110, 111, 21, 112, 40, 64, 65, 66, 67, 68, 69, 70, 76, 77, 78, 79] (by decide +kernel) (by decide +kernel)
set_option maxRecDepth 20000 in
theorem gwsL_step_r3 : GoodIn wsL_law wsL_step_r3 := goodIn_r _ [16, 80, 81, 82, 83, 84, 15, 113, 114, 115, 116, 117, 118, 119, 120, 121, 122, 123, 124, 39, 63, 125, 32, 33] (by decide +kernel) (by decide +kernel)
set_option maxRecDepth 20000 in
theorem gwsL_step_r4 : GoodIn wsL_law wsL_step_r4 := goodIn_r _ [34, 126, 127, 128, 129, 130, 131, 132, 133, 26, 24, 25, 27, 29, 134, 135, 136, 137, 138, 139, 140, 141, 142, 143] (by decide +kernel) (by decide +kernel)
set_option maxRecDepth 20000 in
theorem gwsL_step_r5 : GoodIn wsL_law wsL_step_r5 := goodIn_r _ [144, 145, 146, 147, 148, 149, 150, 151, 152, 153, 154, 155, 156, 157, 158, 159, 160, 161, 162, 163, 164, 165, 166, 87] (by decide +kernel) (by decide +kernel)
set_option maxRecDepth 20000 in
theorem gwsL_step_r6 : GoodIn wsL_law wsL_step_r6 := goodIn_r _ [167, 168, 169, 170, 171, 17, 172, 173, 174, 175, 176, 177, 178, 179, 180, 181, 182, 183, 184, 185, 186, 187, 188, 189] (by decide +kernel) (by decide +kernel)
set_option maxRecDepth 20000 in
theorem gwsL_step_r7 : GoodIn wsL_law wsL_step_r7 := goodIn_r _ [190, 191, 192, 193, 194, 195, 196, 197, 198, 199, 200, 201, 202, 203, 204, 46, 47, 48, 49, 50, 51, 52, 53, 54] (by decide +kernel) (by decide +kernel)
set_option maxRecDepth 20000 in
theorem gwsL_step_r8 : GoodIn wsL_law wsL_step_r8 := goodIn_r _ [205, 206, 207, 208, 30, 31, 209, 210, 211, 212, 213, 214, 215, 216, 217, 218, 219, 220] (by decide +kernel) (by decide +kernel)
set_option maxRecDepth 20000 in
theorem gs_step1 : GoodIn wsL_law (((wsL_step_r1 ++ (wsL_step_r2 ++ (wsL_step_r3 ++ (wsL_step_r4 ++ (wsL_step_r5 ++ (wsL_step_r6 ++ (wsL_step_r7 ++ wsL_step_r8))))))) ++ wsX10 ++ wsX00 ++ (vx_atS RX1 132 "java/lang/IllegalArgumentException" ["java/lang/RuntimeException", "java/lang/Exception"]).filter goodWord ++ (vx_atS RX1 139 "java/lang/IllegalStateException" ["java/lang/RuntimeException", "java/lang/Exception"]).filter goodWord)) := goodIn_app (goodIn_app (goodIn_app (goodIn_app (goodIn_app gwsL_step_r1 (goodIn_app gwsL_step_r2 (goodIn_app gwsL_step_r3 (goodIn_app gwsL_step_r4 (goodIn_app gwsL_step_r5 (goodIn_app gwsL_step_r6 (goodIn_app gwsL_step_r7 gwsL_step_r8))))))) (goodIn_sub inlX1 (by decide +kernel))) (goodIn_sub inlX0 (by decide +kernel))) (goodIn_sub (fun _ h => List.mem_append_left _ (List.mem_append_right _ h)) (by decide +kernel))) (goodIn_sub (fun _ h => List.mem_append_right _ h) (by decide +kernel))
theorem ggL_law_L_step : GoodIn wsL_law wsL_step := fun w h => (List.mem_cons.mp h).elim (fun e => gs_step0 w (List.mem_cons.mpr (Or.inl e))) (fun h => gs_step1 w h)
theorem gs_areYears0 : GoodIn wsL_law [.code yL_areYears cL_areYears 12 (some .boolean)] := goodIn_r _ [223] (by decide +kernel) (by decide +kernel)
set_option maxRecDepth 20000 in
theorem gwsL_areYears_r1 : GoodIn wsL_law wsL_areYears_r1 := goodIn_r _ [41, 42, 43, 2, 44, 45, 224, 225, 87, 226, 178, 179, 180, 181, 18, 68, 69, 70, 71, 72, 73, 74, 75, 64] (by decide +kernel) (by decide +kernel)
set_option maxRecDepth 20000 in
theorem gwsL_areYears_r2 : GoodIn wsL_law wsL_areYears_r2 := goodIn_r _ [65, 66, 67, 76, 77, 78, 79, 12, 13, 16, 80, 81, 82, 83, 84, 15, 227, 228, 229, 230, 22, 213, 214, 215] (by decide +kernel) (by decide +kernel)
set_option maxRecDepth 20000 in
theorem gwsL_areYears_r3 : GoodIn wsL_law wsL_areYears_r3 := goodIn_r _ [216, 107, 108, 231, 232, 233, 21, 234, 39, 235, 236, 237, 238, 24, 239, 240, 241, 242, 23, 243, 244, 245, 246, 27] (by decide +kernel) (by decide +kernel)
set_option maxRecDepth 20000 in
theorem gwsL_areYears_r4 : GoodIn wsL_law wsL_areYears_r4 := goodIn_r _ [247, 248, 249, 250, 26, 251, 252, 253, 254, 25, 217, 218, 219, 220, 29, 209, 210, 211, 212, 30, 55, 56, 57, 58] (by decide +kernel) (by decide +kernel)
set_option maxRecDepth 20000 in
theorem gwsL_areYears_r5 : GoodIn wsL_law wsL_areYears_r5 := goodIn_r _ [59, 60, 61, 62, 63, 46, 47, 48, 49, 50, 51, 52, 53, 54] (by decide +kernel) (by decide +kernel)
set_option maxRecDepth 20000 in
theorem gs_areYears1 : GoodIn wsL_law (((wsL_areYears_r1 ++ (wsL_areYears_r2 ++ (wsL_areYears_r3 ++ (wsL_areYears_r4 ++ wsL_areYears_r5)))) ++ wsX10 ++ wsX00 ++ (vx_atS RX1 132 "java/lang/IllegalArgumentException" ["java/lang/RuntimeException", "java/lang/Exception"]).filter goodWord ++ (vx_atS RX1 139 "java/lang/IllegalStateException" ["java/lang/RuntimeException", "java/lang/Exception"]).filter goodWord)) := goodIn_app (goodIn_app (goodIn_app (goodIn_app (goodIn_app gwsL_areYears_r1 (goodIn_app gwsL_areYears_r2 (goodIn_app gwsL_areYears_r3 (goodIn_app gwsL_areYears_r4 gwsL_areYears_r5)))) (goodIn_sub inlX1 (by decide +kernel))) (goodIn_sub inlX0 (by decide +kernel))) (goodIn_sub (fun _ h => List.mem_append_left _ (List.mem_append_right _ h)) (by decide +kernel))) (goodIn_sub (fun _ h => List.mem_append_right _ h) (by decide +kernel))
theorem ggL_law_L_areYears : GoodIn wsL_law wsL_areYears := fun w h => (List.mem_cons.mp h).elim (fun e => gs_areYears0 w (List.mem_cons.mpr (Or.inl e))) (fun h => gs_areYears1 w h)
set_option maxRecDepth 20000 in
theorem gL_law_L_draw : GoodIn wsL_law (va_wsS RL 103 yL_draw wsL_draw) := goodIn_app (goodIn_of _ (by decide +kernel)) ggL_law_L_draw
set_option maxRecDepth 20000 in
theorem gL_law_L_step : GoodIn wsL_law (va_wsS RL 107 yL_step wsL_step) := goodIn_app (goodIn_of _ (by decide +kernel)) ggL_law_L_step
set_option maxRecDepth 20000 in
theorem gL_law_L_areYears : GoodIn wsL_law (va_wsS RL 110 yL_areYears wsL_areYears) := goodIn_app (goodIn_of _ (by decide +kernel)) ggL_law_L_areYears
