theorem dL_part_0 : decode cL_part 0 = .ok (.iload_n 1, 1) := by decide +kernel
theorem dL_part_1 : decode cL_part 1 = .ok (.aload_n 0, 1) := by decide +kernel
theorem dL_part_2 : decode cL_part 2 = .ok (.arraylength, 1) := by decide +kernel
theorem dL_part_3 : decode cL_part 3 = .ok (.if_icmp .ge 9, 3) := by decide +kernel
theorem dL_part_6 : decode cL_part 6 = .ok (.aload_n 0, 1) := by decide +kernel
theorem dL_part_7 : decode cL_part 7 = .ok (.iload_n 1, 1) := by decide +kernel
theorem dL_part_8 : decode cL_part 8 = .ok (.iaload, 1) := by decide +kernel
theorem dL_part_9 : decode cL_part 9 = .ok (.goto 16, 3) := by decide +kernel
theorem dL_part_12 : decode cL_part 12 = .ok (.sipush 1013, 3) := by decide +kernel
theorem dL_part_15 : decode cL_part 15 = .ok (.iload_n 1, 1) := by decide +kernel
theorem dL_part_16 : decode cL_part 16 = .ok (.imul, 1) := by decide +kernel
theorem dL_part_17 : decode cL_part 17 = .ok (.sipush 883, 3) := by decide +kernel
theorem dL_part_20 : decode cL_part 20 = .ok (.iload_n 1, 1) := by decide +kernel
theorem dL_part_21 : decode cL_part 21 = .ok (.imul, 1) := by decide +kernel
theorem dL_part_22 : decode cL_part 22 = .ok (.iload_n 1, 1) := by decide +kernel
theorem dL_part_23 : decode cL_part 23 = .ok (.imul, 1) := by decide +kernel
theorem dL_part_24 : decode cL_part 24 = .ok (.iadd, 1) := by decide +kernel
theorem dL_part_25 : decode cL_part 25 = .ok (.istore_n 3, 1) := by decide +kernel
theorem dL_part_26 : decode cL_part 26 = .ok (.iload_n 3, 1) := by decide +kernel
theorem dL_part_27 : decode cL_part 27 = .ok (.ldc 7, 2) := by decide +kernel
theorem dL_part_29 : decode cL_part 29 = .ok (.iand, 1) := by decide +kernel
theorem dL_part_30 : decode cL_part 30 = .ok (.iload_n 2, 1) := by decide +kernel
theorem dL_part_31 : decode cL_part 31 = .ok (.irem, 1) := by decide +kernel
theorem dL_part_32 : decode cL_part 32 = .ok (.ireturn, 1) := by decide +kernel
set_option maxRecDepth 20000 in
theorem ggL_does_X7_knows : GoodIn wsL_does wsX7_knows := goodIn_ca (goodIn_r _ [11, 12, 13, 14, 10, 15, 16, 17, 18, 19, 20, 21, 22, 23, 24, 25, 26, 27, 28, 29, 30, 31, 32, 33, 34, 35, 36, 280, 281, 282, 283, 284, 285, 286, 287, 288, 289, 290, 291, 292, 293, 294, 295, 296, 297] (by decide +kernel) (by decide +kernel)) (goodIn_sub (fun _ h => List.mem_cons_of_mem _ (List.mem_append_left _ (List.mem_append_left _ (List.mem_append_right _ h)))) (by decide +kernel))
set_option maxRecDepth 20000 in
theorem gL_does_X7_knows : GoodIn wsL_does (wsV RL 8 RX7 yX7_knows wsX7_knows) := goodIn_app (goodIn_of _ (by decide +kernel)) ggL_does_X7_knows
set_option maxRecDepth 20000 in
theorem ggL_does_X7_has : GoodIn wsL_does wsX7_has := goodIn_ca (goodIn_r _ [40, 12, 41, 42, 43, 10, 44, 16, 17, 13, 14, 15, 280, 281, 282, 283, 284, 285, 286, 287, 288, 289, 290, 291, 292, 293, 294, 295, 296, 297] (by decide +kernel) (by decide +kernel)) (goodIn_sub (fun _ h => List.mem_cons_of_mem _ (List.mem_append_left _ (List.mem_append_left _ (List.mem_append_right _ h)))) (by decide +kernel))
set_option maxRecDepth 20000 in
theorem gL_does_X7_has : GoodIn wsL_does (wsV RL 14 RX7 yX7_has wsX7_has) := goodIn_app (goodIn_of _ (by decide +kernel)) ggL_does_X7_has
set_option maxRecDepth 20000 in
theorem ggL_does_X7_step : GoodIn wsL_does wsX7_step := goodIn_ca (goodIn_ca (goodIn_ca (goodIn_r _ [48, 49, 50, 51, 52, 13, 14, 10, 15, 16, 17, 18, 19, 20, 53, 54, 55, 56, 57, 58, 59, 60, 61, 62, 63, 64, 65, 66, 67, 68, 69, 70, 71, 72, 73, 74, 75, 280, 281, 282, 283, 284, 285, 286, 287, 288, 289, 290, 291, 292, 293, 294, 295, 298, 299, 300, 301, 302] (by decide +kernel) (by decide +kernel)) (goodIn_sub (fun _ h => List.mem_cons_of_mem _ (List.mem_append_left _ (List.mem_append_right _ h))) (by decide +kernel))) (goodIn_sub (fun _ h => List.mem_cons_of_mem _ (List.mem_append_left _ (List.mem_append_left _ (List.mem_append_right _ h)))) (by decide +kernel))) (goodIn_sub (fun _ h => List.mem_cons_of_mem _ (List.mem_append_right _ h)) (by decide +kernel))
set_option maxRecDepth 20000 in
theorem gL_does_X7_step : GoodIn wsL_does (wsV RL 18 RX7 yX7_step wsX7_step) := goodIn_app (goodIn_of _ (by decide +kernel)) ggL_does_X7_step
set_option maxRecDepth 20000 in
theorem ggL_does_X7_tear : GoodIn wsL_does wsX7_tear := goodIn_ca (goodIn_r _ [79, 51, 52, 61, 62, 63, 10, 64, 49, 50, 65, 280, 281, 282, 283, 284, 285, 286, 287, 288, 289, 290, 291, 292, 293, 294, 295, 298, 299, 300, 301, 302] (by decide +kernel) (by decide +kernel)) (goodIn_sub (fun _ h => List.mem_cons_of_mem _ (List.mem_append_left _ (List.mem_append_right _ h))) (by decide +kernel))
set_option maxRecDepth 20000 in
theorem gL_does_X7_tear : GoodIn wsL_does (wsV RL 22 RX7 yX7_tear wsX7_tear) := goodIn_app (goodIn_of _ (by decide +kernel)) ggL_does_X7_tear
set_option maxRecDepth 20000 in
theorem ggL_does_X7_ill : GoodIn wsL_does wsX7_ill := goodIn_ca (goodIn_r _ [83, 84, 85, 86, 13, 14, 10, 15, 16, 17, 87, 27, 28, 280, 281, 282, 283, 284, 285, 286, 287, 288, 289, 290, 291, 292, 293, 294, 295, 303, 304, 305, 306] (by decide +kernel) (by decide +kernel)) (goodIn_sub (fun _ h => List.mem_cons_of_mem _ (List.mem_append_left _ (List.mem_append_left _ (List.mem_append_right _ h)))) (by decide +kernel))
set_option maxRecDepth 20000 in
theorem gL_does_X7_ill : GoodIn wsL_does (wsV RL 26 RX7 yX7_ill wsX7_ill) := goodIn_app (goodIn_of _ (by decide +kernel)) ggL_does_X7_ill
set_option maxRecDepth 20000 in
theorem ggL_does_X7_ban : GoodIn wsL_does wsX7_ban := goodIn_ca (goodIn_r _ [91, 84, 92, 18, 19, 10, 20, 16, 17, 87, 27, 28, 280, 281, 282, 283, 284, 285, 286, 287, 288, 289, 290, 291, 292, 293, 294, 295, 303, 304, 305, 306] (by decide +kernel) (by decide +kernel)) (goodIn_sub (fun _ h => List.mem_cons_of_mem _ (List.mem_append_left _ (List.mem_append_left _ (List.mem_append_right _ h)))) (by decide +kernel))
set_option maxRecDepth 20000 in
theorem gL_does_X7_ban : GoodIn wsL_does (wsV RL 30 RX7 yX7_ban wsX7_ban) := goodIn_app (goodIn_of _ (by decide +kernel)) ggL_does_X7_ban
set_option maxRecDepth 20000 in
theorem ggL_does_L_travelled : GoodIn wsL_does wsL_travelled := goodIn_ca (goodIn_r _ [96, 97, 98, 99, 10, 100, 84, 92, 101, 61, 62, 63, 64, 49, 50, 65, 102, 103, 104, 105, 106, 107, 108, 109, 110, 111, 280, 281, 282, 283, 284, 285, 286, 287, 288, 289, 290, 291, 292, 293, 294, 295, 303, 304, 305, 306, 307, 308, 309, 310, 311] (by decide +kernel) (by decide +kernel)) (goodIn_sub (fun _ h => List.mem_cons_of_mem _ (List.mem_append_left _ (List.mem_append_right _ h))) (by decide +kernel))
set_option maxRecDepth 20000 in
theorem gL_does_L_travelled : GoodIn wsL_does (va_wsS RL 33 yL_travelled wsL_travelled) := goodIn_app (goodIn_of _ (by decide +kernel)) ggL_does_L_travelled
set_option maxRecDepth 20000 in
theorem ggL_does_X7_gag : GoodIn wsL_does wsX7_gag := goodIn_ca (goodIn_ca (goodIn_ca (goodIn_r _ [115, 49, 50, 101, 116, 42, 43, 10, 44, 16, 17, 53, 54, 55, 56, 57, 117, 118, 119, 105, 120, 121, 122, 123, 124, 280, 281, 282, 283, 284, 285, 286, 287, 288, 289, 290, 291, 292, 293, 294, 295, 307, 308, 309, 310, 311] (by decide +kernel) (by decide +kernel)) (goodIn_sub (fun _ h => List.mem_cons_of_mem _ (List.mem_append_left _ (List.mem_append_right _ h))) (by decide +kernel))) (goodIn_sub (fun _ h => List.mem_cons_of_mem _ (List.mem_append_left _ (List.mem_append_left _ (List.mem_append_right _ h)))) (by decide +kernel))) (goodIn_sub (fun _ h => List.mem_cons_of_mem _ (List.mem_append_right _ h)) (by decide +kernel))
set_option maxRecDepth 20000 in
theorem gL_does_X7_gag : GoodIn wsL_does (wsV RL 39 RX7 yX7_gag wsX7_gag) := goodIn_app (goodIn_of _ (by decide +kernel)) ggL_does_X7_gag
set_option maxRecDepth 20000 in
theorem ggL_does_X7_points : GoodIn wsL_does wsX7_points := goodIn_ca (goodIn_ca (goodIn_r _ [128, 129, 13, 14, 10, 15, 16, 17, 53, 54, 55, 56, 57, 280, 281, 282, 283, 284, 285, 286, 287, 288, 289, 290, 291, 292, 293, 294, 295] (by decide +kernel) (by decide +kernel)) (goodIn_sub (fun _ h => List.mem_cons_of_mem _ (List.mem_append_left _ (List.mem_append_left _ (List.mem_append_right _ h)))) (by decide +kernel))) (goodIn_sub (fun _ h => List.mem_cons_of_mem _ (List.mem_append_right _ h)) (by decide +kernel))
set_option maxRecDepth 20000 in
theorem gL_does_X7_points : GoodIn wsL_does (wsV RL 43 RX7 yX7_points wsX7_points) := goodIn_app (goodIn_of _ (by decide +kernel)) ggL_does_X7_points
set_option maxRecDepth 20000 in
theorem ggL_does_L_begun : GoodIn wsL_does wsL_begun := goodIn_ca (goodIn_ca (goodIn_r _ [132, 133, 134, 135, 10, 136, 49, 50, 51, 52, 137, 138, 139, 140, 84, 86, 141, 12, 65, 53, 54, 55, 56, 57, 61, 62, 63, 64, 142, 143, 144, 24, 145, 26, 146, 147, 148, 149, 150, 280, 281, 282, 283, 284, 285, 286, 287, 288, 289, 290, 291, 292, 293, 294, 295, 298, 299, 300, 301, 302, 303, 304, 305, 306, 296, 297] (by decide +kernel) (by decide +kernel)) (goodIn_sub (fun _ h => List.mem_cons_of_mem _ (List.mem_append_left _ (List.mem_append_right _ h))) (by decide +kernel))) (goodIn_sub (fun _ h => List.mem_cons_of_mem _ (List.mem_append_right _ h)) (by decide +kernel))
set_option maxRecDepth 20000 in
theorem gL_does_L_begun : GoodIn wsL_does (va_wsS RL 46 yL_begun wsL_begun) := goodIn_app (goodIn_of _ (by decide +kernel)) ggL_does_L_begun
set_option maxRecDepth 20000 in
theorem ggL_does_X7_enter : GoodIn wsL_does wsX7_enter := goodIn_ca (goodIn_ca (goodIn_r _ [154, 49, 50, 84, 85, 86, 51, 140, 13, 14, 10, 15, 16, 17, 155, 156, 157, 158, 65, 87, 27, 28, 159, 160, 161, 69, 162, 71, 72, 73, 74, 75, 163, 164, 165, 166, 139, 52, 167, 168, 169, 170, 171, 138, 137, 172, 280, 281, 282, 283, 284, 285, 286, 287, 288, 289, 290, 291, 292, 293, 294, 295, 303, 304, 305, 306, 298, 299, 300, 301, 302] (by decide +kernel) (by decide +kernel)) (goodIn_sub (fun _ h => List.mem_cons_of_mem _ (List.mem_append_left _ (List.mem_append_right _ h))) (by decide +kernel))) (goodIn_sub (fun _ h => List.mem_cons_of_mem _ (List.mem_append_left _ (List.mem_append_left _ (List.mem_append_right _ h)))) (by decide +kernel))
set_option maxRecDepth 20000 in
theorem gL_does_X7_enter : GoodIn wsL_does (wsV RL 50 RX7 yX7_enter wsX7_enter) := goodIn_app (goodIn_of _ (by decide +kernel)) ggL_does_X7_enter
set_option maxRecDepth 20000 in
theorem ggL_does_X7_exit : GoodIn wsL_does wsX7_exit := goodIn_ca (goodIn_ca (goodIn_r _ [176, 51, 140, 84, 86, 13, 14, 10, 15, 16, 17, 155, 156, 157, 158, 49, 50, 65, 177, 178, 179, 180, 87, 27, 28, 159, 160, 161, 69, 162, 71, 72, 73, 74, 75, 163, 164, 165, 166, 139, 52, 167, 168, 169, 170, 171, 138, 137, 172, 280, 281, 282, 283, 284, 285, 286, 287, 288, 289, 290, 291, 292, 293, 294, 295, 303, 304, 305, 306, 298, 299, 300, 301, 302] (by decide +kernel) (by decide +kernel)) (goodIn_sub (fun _ h => List.mem_cons_of_mem _ (List.mem_append_left _ (List.mem_append_left _ (List.mem_append_right _ h)))) (by decide +kernel))) (goodIn_sub (fun _ h => List.mem_cons_of_mem _ (List.mem_append_left _ (List.mem_append_right _ h))) (by decide +kernel))
set_option maxRecDepth 20000 in
theorem gL_does_X7_exit : GoodIn wsL_does (wsV RL 54 RX7 yX7_exit wsX7_exit) := goodIn_app (goodIn_of _ (by decide +kernel)) ggL_does_X7_exit
set_option maxRecDepth 20000 in
theorem ggL_does_X7_tell : GoodIn wsL_does wsX7_tell := goodIn_ca (goodIn_ca (goodIn_ca (goodIn_r _ [184, 49, 50, 84, 141, 92, 51, 140, 13, 14, 10, 15, 16, 17, 18, 19, 20, 58, 59, 60, 56, 57, 155, 156, 157, 158, 65, 177, 178, 179, 180, 86, 87, 27, 28, 21, 22, 23, 24, 25, 26, 159, 160, 161, 69, 162, 71, 72, 73, 74, 75, 185, 186, 187, 188, 189, 190, 191, 192, 193, 194, 195, 196, 197, 198, 199, 200, 201, 202, 203, 204, 143, 144, 145, 146, 147, 148, 149, 150, 205, 206, 207, 208, 209, 210, 211, 212, 213, 214, 215, 216, 217, 218, 219, 220, 221, 222, 223, 224, 225, 226, 227, 228, 229, 230, 30, 31, 32, 231, 232, 233, 234, 235, 29, 33, 34, 35, 36, 163, 164, 165, 166, 139, 52, 167, 168, 169, 170, 171, 138, 137, 172, 280, 281, 282, 283, 284, 285, 286, 287, 288, 289, 290, 291, 292, 293, 294, 295, 303, 304, 305, 306, 296, 297, 298, 299, 300, 301, 302, 312, 313, 314] (by decide +kernel) (by decide +kernel)) (goodIn_sub (fun _ h => List.mem_cons_of_mem _ (List.mem_append_left _ (List.mem_append_right _ h))) (by decide +kernel))) (goodIn_sub (fun _ h => List.mem_cons_of_mem _ (List.mem_append_left _ (List.mem_append_left _ (List.mem_append_right _ h)))) (by decide +kernel))) (goodIn_sub (fun _ h => List.mem_cons_of_mem _ (List.mem_append_right _ h)) (by decide +kernel))
set_option maxRecDepth 20000 in
theorem gL_does_X7_tell : GoodIn wsL_does (wsV RL 57 RX7 yX7_tell wsX7_tell) := goodIn_app (goodIn_of _ (by decide +kernel)) ggL_does_X7_tell
set_option maxRecDepth 20000 in
theorem ggL_does_X7_give : GoodIn wsL_does wsX7_give := goodIn_ca (goodIn_ca (goodIn_ca (goodIn_r _ [239, 49, 50, 84, 141, 41, 51, 140, 13, 14, 10, 15, 16, 17, 42, 43, 44, 58, 59, 60, 56, 57, 155, 156, 157, 158, 65, 177, 178, 179, 180, 86, 87, 27, 28, 159, 160, 161, 69, 162, 71, 72, 73, 74, 75, 163, 164, 165, 166, 139, 52, 167, 168, 169, 170, 171, 138, 137, 172, 280, 281, 282, 283, 284, 285, 286, 287, 288, 289, 290, 291, 292, 293, 294, 295, 303, 304, 305, 306, 296, 297, 298, 299, 300, 301, 302] (by decide +kernel) (by decide +kernel)) (goodIn_sub (fun _ h => List.mem_cons_of_mem _ (List.mem_append_left _ (List.mem_append_right _ h))) (by decide +kernel))) (goodIn_sub (fun _ h => List.mem_cons_of_mem _ (List.mem_append_left _ (List.mem_append_left _ (List.mem_append_right _ h)))) (by decide +kernel))) (goodIn_sub (fun _ h => List.mem_cons_of_mem _ (List.mem_append_right _ h)) (by decide +kernel))
set_option maxRecDepth 20000 in
theorem gL_does_X7_give : GoodIn wsL_does (wsV RL 60 RX7 yX7_give wsX7_give) := goodIn_app (goodIn_of _ (by decide +kernel)) ggL_does_X7_give
set_option maxRecDepth 20000 in
theorem ggL_does_X7_take : GoodIn wsL_does wsX7_take := goodIn_ca (goodIn_ca (goodIn_r _ [243, 49, 50, 84, 141, 41, 13, 14, 10, 15, 16, 17, 42, 43, 44, 155, 156, 157, 158, 65, 177, 178, 179, 180, 86, 87, 27, 28, 163, 164, 165, 166, 139, 140, 51, 52, 167, 168, 169, 170, 171, 138, 137, 172, 280, 281, 282, 283, 284, 285, 286, 287, 288, 289, 290, 291, 292, 293, 294, 295, 303, 304, 305, 306, 296, 297, 298, 299, 300, 301, 302] (by decide +kernel) (by decide +kernel)) (goodIn_sub (fun _ h => List.mem_cons_of_mem _ (List.mem_append_left _ (List.mem_append_right _ h))) (by decide +kernel))) (goodIn_sub (fun _ h => List.mem_cons_of_mem _ (List.mem_append_left _ (List.mem_append_left _ (List.mem_append_right _ h)))) (by decide +kernel))
set_option maxRecDepth 20000 in
theorem gL_does_X7_take : GoodIn wsL_does (wsV RL 63 RX7 yX7_take wsX7_take) := goodIn_app (goodIn_of _ (by decide +kernel)) ggL_does_X7_take
set_option maxRecDepth 20000 in
theorem ggL_does_X7_greet : GoodIn wsL_does wsX7_greet := goodIn_ca (goodIn_ca (goodIn_ca (goodIn_r _ [247, 51, 140, 13, 14, 10, 15, 16, 17, 58, 59, 60, 56, 57, 155, 156, 157, 158, 49, 50, 65, 177, 178, 179, 180, 84, 86, 87, 27, 28, 159, 160, 161, 69, 162, 71, 72, 73, 74, 75, 163, 164, 165, 166, 139, 52, 167, 168, 169, 170, 171, 138, 137, 172, 280, 281, 282, 283, 284, 285, 286, 287, 288, 289, 290, 291, 292, 293, 294, 295, 303, 304, 305, 306, 298, 299, 300, 301, 302] (by decide +kernel) (by decide +kernel)) (goodIn_sub (fun _ h => List.mem_cons_of_mem _ (List.mem_append_left _ (List.mem_append_left _ (List.mem_append_right _ h)))) (by decide +kernel))) (goodIn_sub (fun _ h => List.mem_cons_of_mem _ (List.mem_append_right _ h)) (by decide +kernel))) (goodIn_sub (fun _ h => List.mem_cons_of_mem _ (List.mem_append_left _ (List.mem_append_right _ h))) (by decide +kernel))
set_option maxRecDepth 20000 in
theorem gL_does_X7_greet : GoodIn wsL_does (wsV RL 66 RX7 yX7_greet wsX7_greet) := goodIn_app (goodIn_of _ (by decide +kernel)) ggL_does_X7_greet
set_option maxRecDepth 20000 in
theorem ggL_does_X7_play : GoodIn wsL_does wsX7_play := goodIn_ca (goodIn_ca (goodIn_r _ [251, 16, 17, 49, 50, 101, 116, 252, 84, 141, 41, 253, 254, 255, 137, 138, 256, 257, 200, 258, 13, 14, 10, 15, 155, 156, 157, 158, 65, 177, 178, 179, 180, 86, 87, 27, 28, 259, 260, 261, 105, 262, 123, 107, 263, 168, 169, 170, 171, 172, 280, 281, 282, 283, 284, 285, 286, 287, 288, 289, 290, 291, 292, 293, 294, 295, 307, 308, 309, 310, 311, 303, 304, 305, 306, 296, 297] (by decide +kernel) (by decide +kernel)) (goodIn_sub (fun _ h => List.mem_cons_of_mem _ (List.mem_append_left _ (List.mem_append_left _ (List.mem_append_right _ h)))) (by decide +kernel))) (goodIn_sub (fun _ h => List.mem_cons_of_mem _ (List.mem_append_left _ (List.mem_append_right _ h))) (by decide +kernel))
set_option maxRecDepth 20000 in
theorem gL_does_X7_play : GoodIn wsL_does (wsV RL 69 RX7 yX7_play wsX7_play) := goodIn_app (goodIn_of _ (by decide +kernel)) ggL_does_X7_play
set_option maxRecDepth 20000 in
theorem ggL_does_X7_isKnown : GoodIn wsL_does wsX7_isKnown := goodIn_ca (goodIn_r _ [267, 13, 14, 10, 15, 16, 17, 18, 19, 20, 268, 269, 270, 271, 65, 12, 84, 141, 21, 22, 23, 24, 25, 26, 27, 28, 280, 281, 282, 283, 284, 285, 286, 287, 288, 289, 290, 291, 292, 293, 294, 295, 303, 304, 305, 306, 296, 297] (by decide +kernel) (by decide +kernel)) (goodIn_sub (fun _ h => List.mem_cons_of_mem _ (List.mem_append_left _ (List.mem_append_left _ (List.mem_append_right _ h)))) (by decide +kernel))
set_option maxRecDepth 20000 in
theorem gL_does_X7_isKnown : GoodIn wsL_does (wsV RL 72 RX7 yX7_isKnown wsX7_isKnown) := goodIn_app (goodIn_of _ (by decide +kernel)) ggL_does_X7_isKnown
set_option maxRecDepth 20000 in
theorem ggL_does_X7_holder : GoodIn wsL_does wsX7_holder := goodIn_ca (goodIn_r _ [275, 41, 42, 43, 10, 44, 16, 17, 268, 269, 270, 271, 65, 12, 84, 141, 296, 297, 280, 281, 282, 283, 284, 285, 286, 287, 288, 289, 290, 291, 292, 293, 294, 295, 303, 304, 305, 306] (by decide +kernel) (by decide +kernel)) (goodIn_sub (fun _ h => List.mem_cons_of_mem _ (List.mem_append_left _ (List.mem_append_left _ (List.mem_append_right _ h)))) (by decide +kernel))
set_option maxRecDepth 20000 in
theorem gL_does_X7_holder : GoodIn wsL_does (wsV RL 76 RX7 yX7_holder wsX7_holder) := goodIn_app (goodIn_of _ (by decide +kernel)) ggL_does_X7_holder
set_option maxRecDepth 20000 in
theorem ggL_does_X7_count : GoodIn wsL_does wsX7_count := goodIn_ca (goodIn_r _ [279, 56, 57, 138, 254, 167, 172, 84, 86, 139, 280, 281, 282, 283, 284, 285, 286, 287, 288, 289, 290, 291, 292, 293, 294, 295, 303, 304, 305, 306] (by decide +kernel) (by decide +kernel)) (goodIn_sub (fun _ h => List.mem_cons_of_mem _ (List.mem_append_right _ h)) (by decide +kernel))
set_option maxRecDepth 20000 in
theorem gL_does_X7_count : GoodIn wsL_does (wsV RL 79 RX7 yX7_count wsX7_count) := goodIn_app (goodIn_of _ (by decide +kernel)) ggL_does_X7_count
theorem dL_does_0 : decode cL_does 0 = .ok (.iload_n 1, 1) := by decide +kernel
theorem dL_does_1 : decode cL_does 1 = .ok (.ifCond .ne 31, 3) := by decide +kernel
theorem dL_does_4 : decode cL_does 4 = .ok (.aload_n 0, 1) := by decide +kernel
theorem dL_does_5 : decode cL_does 5 = .ok (.iload_n 2, 1) := by decide +kernel
theorem dL_does_6 : decode cL_does 6 = .ok (.iload_n 3, 1) := by decide +kernel
theorem dL_does_7 : decode cL_does 7 = .ok (.iload 4, 2) := by decide +kernel
theorem dL_does_9 : decode cL_does 9 = .ok (.iconst 1, 1) := by decide +kernel
theorem dL_does_10 : decode cL_does 10 = .ok (.if_icmp .ne 7, 3) := by decide +kernel
theorem dL_does_13 : decode cL_does 13 = .ok (.iconst 1, 1) := by decide +kernel
theorem dL_does_14 : decode cL_does 14 = .ok (.goto 4, 3) := by decide +kernel
theorem dL_does_17 : decode cL_does 17 = .ok (.iconst 0, 1) := by decide +kernel
theorem dL_does_18 : decode cL_does 18 = .ok (.invokevirtual 8, 3) := by decide +kernel
theorem dL_does_21 : decode cL_does 21 = .ok (.ifCond .eq 7, 3) := by decide +kernel
theorem dL_does_24 : decode cL_does 24 = .ok (.iconst 1, 1) := by decide +kernel
theorem dL_does_25 : decode cL_does 25 = .ok (.goto 301, 3) := by decide +kernel
theorem dL_does_28 : decode cL_does 28 = .ok (.iconst 0, 1) := by decide +kernel
theorem dL_does_29 : decode cL_does 29 = .ok (.goto 297, 3) := by decide +kernel
theorem dL_does_32 : decode cL_does 32 = .ok (.iload_n 1, 1) := by decide +kernel
theorem dL_does_33 : decode cL_does 33 = .ok (.iconst 1, 1) := by decide +kernel
theorem dL_does_34 : decode cL_does 34 = .ok (.if_icmp .ne 12, 3) := by decide +kernel
theorem dL_does_37 : decode cL_does 37 = .ok (.aload_n 0, 1) := by decide +kernel
theorem dL_does_38 : decode cL_does 38 = .ok (.iload_n 2, 1) := by decide +kernel
theorem dL_does_39 : decode cL_does 39 = .ok (.iload_n 3, 1) := by decide +kernel
theorem dL_does_40 : decode cL_does 40 = .ok (.invokevirtual 14, 3) := by decide +kernel
theorem dL_does_43 : decode cL_does 43 = .ok (.goto 283, 3) := by decide +kernel
theorem dL_does_46 : decode cL_does 46 = .ok (.iload_n 1, 1) := by decide +kernel
theorem dL_does_47 : decode cL_does 47 = .ok (.iconst 2, 1) := by decide +kernel
theorem dL_does_48 : decode cL_does 48 = .ok (.if_icmp .ne 16, 3) := by decide +kernel
theorem dL_does_51 : decode cL_does 51 = .ok (.aload_n 0, 1) := by decide +kernel
theorem dL_does_52 : decode cL_does 52 = .ok (.iload_n 2, 1) := by decide +kernel
theorem dL_does_53 : decode cL_does 53 = .ok (.iload_n 3, 1) := by decide +kernel
theorem dL_does_54 : decode cL_does 54 = .ok (.iload 4, 2) := by decide +kernel
theorem dL_does_56 : decode cL_does 56 = .ok (.iload 5, 2) := by decide +kernel
theorem dL_does_58 : decode cL_does 58 = .ok (.invokevirtual 18, 3) := by decide +kernel
theorem dL_does_61 : decode cL_does 61 = .ok (.goto 265, 3) := by decide +kernel
theorem dL_does_64 : decode cL_does 64 = .ok (.iload_n 1, 1) := by decide +kernel
theorem dL_does_65 : decode cL_does 65 = .ok (.iconst 3, 1) := by decide +kernel
theorem dL_does_66 : decode cL_does 66 = .ok (.if_icmp .ne 10, 3) := by decide +kernel
theorem dL_does_69 : decode cL_does 69 = .ok (.aload_n 0, 1) := by decide +kernel
theorem dL_does_70 : decode cL_does 70 = .ok (.invokevirtual 22, 3) := by decide +kernel
theorem dL_does_73 : decode cL_does 73 = .ok (.goto 253, 3) := by decide +kernel
theorem dL_does_76 : decode cL_does 76 = .ok (.iload_n 1, 1) := by decide +kernel
theorem dL_does_77 : decode cL_does 77 = .ok (.iconst 4, 1) := by decide +kernel
theorem dL_does_78 : decode cL_does 78 = .ok (.if_icmp .ne 19, 3) := by decide +kernel
theorem dL_does_81 : decode cL_does 81 = .ok (.aload_n 0, 1) := by decide +kernel
theorem dL_does_82 : decode cL_does 82 = .ok (.iload_n 2, 1) := by decide +kernel
theorem dL_does_83 : decode cL_does 83 = .ok (.invokevirtual 26, 3) := by decide +kernel
theorem dL_does_86 : decode cL_does 86 = .ok (.ifCond .eq 7, 3) := by decide +kernel
theorem dL_does_89 : decode cL_does 89 = .ok (.iconst 1, 1) := by decide +kernel
theorem dL_does_90 : decode cL_does 90 = .ok (.goto 236, 3) := by decide +kernel
theorem dL_does_93 : decode cL_does 93 = .ok (.iconst 0, 1) := by decide +kernel
theorem dL_does_94 : decode cL_does 94 = .ok (.goto 232, 3) := by decide +kernel
theorem dL_does_97 : decode cL_does 97 = .ok (.iload_n 1, 1) := by decide +kernel
theorem dL_does_98 : decode cL_does 98 = .ok (.iconst 5, 1) := by decide +kernel
theorem dL_does_99 : decode cL_does 99 = .ok (.if_icmp .ne 19, 3) := by decide +kernel
theorem dL_does_102 : decode cL_does 102 = .ok (.aload_n 0, 1) := by decide +kernel
theorem dL_does_103 : decode cL_does 103 = .ok (.iload_n 2, 1) := by decide +kernel
theorem dL_does_104 : decode cL_does 104 = .ok (.invokevirtual 30, 3) := by decide +kernel
theorem dL_does_107 : decode cL_does 107 = .ok (.ifCond .eq 7, 3) := by decide +kernel
theorem dL_does_110 : decode cL_does 110 = .ok (.iconst 1, 1) := by decide +kernel
theorem dL_does_111 : decode cL_does 111 = .ok (.goto 215, 3) := by decide +kernel
theorem dL_does_114 : decode cL_does 114 = .ok (.iconst 0, 1) := by decide +kernel
theorem dL_does_115 : decode cL_does 115 = .ok (.goto 211, 3) := by decide +kernel
theorem dL_does_118 : decode cL_does 118 = .ok (.iload_n 1, 1) := by decide +kernel
theorem dL_does_119 : decode cL_does 119 = .ok (.bipush 6, 2) := by decide +kernel
theorem dL_does_121 : decode cL_does 121 = .ok (.if_icmp .ne 10, 3) := by decide +kernel
theorem dL_does_124 : decode cL_does 124 = .ok (.aload_n 0, 1) := by decide +kernel
theorem dL_does_125 : decode cL_does 125 = .ok (.invokestatic 33, 3) := by decide +kernel
theorem dL_does_128 : decode cL_does 128 = .ok (.goto 198, 3) := by decide +kernel
theorem dL_does_131 : decode cL_does 131 = .ok (.iload_n 1, 1) := by decide +kernel
theorem dL_does_132 : decode cL_does 132 = .ok (.bipush 7, 2) := by decide +kernel
theorem dL_does_134 : decode cL_does 134 = .ok (.if_icmp .ne 14, 3) := by decide +kernel
theorem dL_does_137 : decode cL_does 137 = .ok (.aload_n 0, 1) := by decide +kernel
theorem dL_does_138 : decode cL_does 138 = .ok (.iload_n 2, 1) := by decide +kernel
theorem dL_does_139 : decode cL_does 139 = .ok (.iload_n 3, 1) := by decide +kernel
theorem dL_does_140 : decode cL_does 140 = .ok (.iload 4, 2) := by decide +kernel
theorem dL_does_142 : decode cL_does 142 = .ok (.invokevirtual 39, 3) := by decide +kernel
theorem dL_does_145 : decode cL_does 145 = .ok (.goto 181, 3) := by decide +kernel
theorem dL_does_148 : decode cL_does 148 = .ok (.iload_n 1, 1) := by decide +kernel
theorem dL_does_149 : decode cL_does 149 = .ok (.bipush 8, 2) := by decide +kernel
theorem dL_does_151 : decode cL_does 151 = .ok (.if_icmp .ne 12, 3) := by decide +kernel
theorem dL_does_154 : decode cL_does 154 = .ok (.aload_n 0, 1) := by decide +kernel
theorem dL_does_155 : decode cL_does 155 = .ok (.iload_n 2, 1) := by decide +kernel
theorem dL_does_156 : decode cL_does 156 = .ok (.iload_n 3, 1) := by decide +kernel
theorem dL_does_157 : decode cL_does 157 = .ok (.invokevirtual 43, 3) := by decide +kernel
theorem dL_does_160 : decode cL_does 160 = .ok (.goto 166, 3) := by decide +kernel
theorem dL_does_163 : decode cL_does 163 = .ok (.iload_n 1, 1) := by decide +kernel
theorem dL_does_164 : decode cL_does 164 = .ok (.bipush 9, 2) := by decide +kernel
theorem dL_does_166 : decode cL_does 166 = .ok (.if_icmp .ne 11, 3) := by decide +kernel
theorem dL_does_169 : decode cL_does 169 = .ok (.aload_n 0, 1) := by decide +kernel
theorem dL_does_170 : decode cL_does 170 = .ok (.iload_n 2, 1) := by decide +kernel
theorem dL_does_171 : decode cL_does 171 = .ok (.invokestatic 46, 3) := by decide +kernel
theorem dL_does_174 : decode cL_does 174 = .ok (.goto 152, 3) := by decide +kernel
theorem dL_does_177 : decode cL_does 177 = .ok (.iload_n 1, 1) := by decide +kernel
theorem dL_does_178 : decode cL_does 178 = .ok (.bipush 10, 2) := by decide +kernel
theorem dL_does_180 : decode cL_does 180 = .ok (.if_icmp .ne 11, 3) := by decide +kernel
theorem dL_does_183 : decode cL_does 183 = .ok (.aload_n 0, 1) := by decide +kernel
theorem dL_does_184 : decode cL_does 184 = .ok (.iload_n 2, 1) := by decide +kernel
theorem dL_does_185 : decode cL_does 185 = .ok (.invokevirtual 50, 3) := by decide +kernel
theorem dL_does_188 : decode cL_does 188 = .ok (.goto 138, 3) := by decide +kernel
theorem dL_does_191 : decode cL_does 191 = .ok (.iload_n 1, 1) := by decide +kernel
theorem dL_does_192 : decode cL_does 192 = .ok (.bipush 11, 2) := by decide +kernel
theorem dL_does_194 : decode cL_does 194 = .ok (.if_icmp .ne 11, 3) := by decide +kernel
theorem dL_does_197 : decode cL_does 197 = .ok (.aload_n 0, 1) := by decide +kernel
theorem dL_does_198 : decode cL_does 198 = .ok (.iload_n 2, 1) := by decide +kernel
theorem dL_does_199 : decode cL_does 199 = .ok (.invokevirtual 54, 3) := by decide +kernel
theorem dL_does_202 : decode cL_does 202 = .ok (.goto 124, 3) := by decide +kernel
theorem dL_does_205 : decode cL_does 205 = .ok (.iload_n 1, 1) := by decide +kernel
theorem dL_does_206 : decode cL_does 206 = .ok (.bipush 12, 2) := by decide +kernel
theorem dL_does_208 : decode cL_does 208 = .ok (.if_icmp .ne 14, 3) := by decide +kernel
theorem dL_does_211 : decode cL_does 211 = .ok (.aload_n 0, 1) := by decide +kernel
theorem dL_does_212 : decode cL_does 212 = .ok (.iload_n 2, 1) := by decide +kernel
theorem dL_does_213 : decode cL_does 213 = .ok (.iload_n 3, 1) := by decide +kernel
theorem dL_does_214 : decode cL_does 214 = .ok (.iload 4, 2) := by decide +kernel
theorem dL_does_216 : decode cL_does 216 = .ok (.invokevirtual 57, 3) := by decide +kernel
theorem dL_does_219 : decode cL_does 219 = .ok (.goto 107, 3) := by decide +kernel
theorem dL_does_222 : decode cL_does 222 = .ok (.iload_n 1, 1) := by decide +kernel
theorem dL_does_223 : decode cL_does 223 = .ok (.bipush 13, 2) := by decide +kernel
theorem dL_does_225 : decode cL_does 225 = .ok (.if_icmp .ne 14, 3) := by decide +kernel
theorem dL_does_228 : decode cL_does 228 = .ok (.aload_n 0, 1) := by decide +kernel
theorem dL_does_229 : decode cL_does 229 = .ok (.iload_n 2, 1) := by decide +kernel
theorem dL_does_230 : decode cL_does 230 = .ok (.iload_n 3, 1) := by decide +kernel
theorem dL_does_231 : decode cL_does 231 = .ok (.iload 4, 2) := by decide +kernel
theorem dL_does_233 : decode cL_does 233 = .ok (.invokevirtual 60, 3) := by decide +kernel
theorem dL_does_236 : decode cL_does 236 = .ok (.goto 90, 3) := by decide +kernel
theorem dL_does_239 : decode cL_does 239 = .ok (.iload_n 1, 1) := by decide +kernel
theorem dL_does_240 : decode cL_does 240 = .ok (.bipush 14, 2) := by decide +kernel
theorem dL_does_242 : decode cL_does 242 = .ok (.if_icmp .ne 12, 3) := by decide +kernel
theorem dL_does_245 : decode cL_does 245 = .ok (.aload_n 0, 1) := by decide +kernel
theorem dL_does_246 : decode cL_does 246 = .ok (.iload_n 2, 1) := by decide +kernel
theorem dL_does_247 : decode cL_does 247 = .ok (.iload_n 3, 1) := by decide +kernel
theorem dL_does_248 : decode cL_does 248 = .ok (.invokevirtual 63, 3) := by decide +kernel
theorem dL_does_251 : decode cL_does 251 = .ok (.goto 75, 3) := by decide +kernel
theorem dL_does_254 : decode cL_does 254 = .ok (.iload_n 1, 1) := by decide +kernel
theorem dL_does_255 : decode cL_does 255 = .ok (.bipush 15, 2) := by decide +kernel
theorem dL_does_257 : decode cL_does 257 = .ok (.if_icmp .ne 12, 3) := by decide +kernel
theorem dL_does_260 : decode cL_does 260 = .ok (.aload_n 0, 1) := by decide +kernel
theorem dL_does_261 : decode cL_does 261 = .ok (.iload_n 2, 1) := by decide +kernel
theorem dL_does_262 : decode cL_does 262 = .ok (.iload_n 3, 1) := by decide +kernel
theorem dL_does_263 : decode cL_does 263 = .ok (.invokevirtual 66, 3) := by decide +kernel
theorem dL_does_266 : decode cL_does 266 = .ok (.goto 60, 3) := by decide +kernel
theorem dL_does_269 : decode cL_does 269 = .ok (.iload_n 1, 1) := by decide +kernel
theorem dL_does_270 : decode cL_does 270 = .ok (.bipush 16, 2) := by decide +kernel
theorem dL_does_272 : decode cL_does 272 = .ok (.if_icmp .ne 12, 3) := by decide +kernel
theorem dL_does_275 : decode cL_does 275 = .ok (.aload_n 0, 1) := by decide +kernel
theorem dL_does_276 : decode cL_does 276 = .ok (.iload_n 2, 1) := by decide +kernel
theorem dL_does_277 : decode cL_does 277 = .ok (.iload_n 3, 1) := by decide +kernel
theorem dL_does_278 : decode cL_does 278 = .ok (.invokevirtual 69, 3) := by decide +kernel
theorem dL_does_281 : decode cL_does 281 = .ok (.goto 45, 3) := by decide +kernel
theorem dL_does_284 : decode cL_does 284 = .ok (.iload_n 1, 1) := by decide +kernel
theorem dL_does_285 : decode cL_does 285 = .ok (.bipush 17, 2) := by decide +kernel
theorem dL_does_287 : decode cL_does 287 = .ok (.if_icmp .ne 20, 3) := by decide +kernel
theorem dL_does_290 : decode cL_does 290 = .ok (.aload_n 0, 1) := by decide +kernel
theorem dL_does_291 : decode cL_does 291 = .ok (.iload_n 2, 1) := by decide +kernel
theorem dL_does_292 : decode cL_does 292 = .ok (.iload_n 3, 1) := by decide +kernel
theorem dL_does_293 : decode cL_does 293 = .ok (.invokevirtual 72, 3) := by decide +kernel
theorem dL_does_296 : decode cL_does 296 = .ok (.ifCond .eq 7, 3) := by decide +kernel
theorem dL_does_299 : decode cL_does 299 = .ok (.iconst 1, 1) := by decide +kernel
theorem dL_does_300 : decode cL_does 300 = .ok (.goto 26, 3) := by decide +kernel
theorem dL_does_303 : decode cL_does 303 = .ok (.iconst 0, 1) := by decide +kernel
theorem dL_does_304 : decode cL_does 304 = .ok (.goto 22, 3) := by decide +kernel
theorem dL_does_307 : decode cL_does 307 = .ok (.iload_n 1, 1) := by decide +kernel
theorem dL_does_308 : decode cL_does 308 = .ok (.bipush 18, 2) := by decide +kernel
theorem dL_does_310 : decode cL_does 310 = .ok (.if_icmp .ne 11, 3) := by decide +kernel
theorem dL_does_313 : decode cL_does 313 = .ok (.aload_n 0, 1) := by decide +kernel
theorem dL_does_314 : decode cL_does 314 = .ok (.iload_n 2, 1) := by decide +kernel
theorem dL_does_315 : decode cL_does 315 = .ok (.invokevirtual 76, 3) := by decide +kernel
theorem dL_does_318 : decode cL_does 318 = .ok (.goto 8, 3) := by decide +kernel
theorem dL_does_321 : decode cL_does 321 = .ok (.aload_n 0, 1) := by decide +kernel
theorem dL_does_322 : decode cL_does 322 = .ok (.iload_n 2, 1) := by decide +kernel
theorem dL_does_323 : decode cL_does 323 = .ok (.invokevirtual 79, 3) := by decide +kernel
theorem dL_does_326 : decode cL_does 326 = .ok (.ireturn, 1) := by decide +kernel
theorem dL_does_327 : decode cL_does 327 = .ok (.astore 6, 2) := by decide +kernel
theorem dL_does_329 : decode cL_does 329 = .ok (.ldc 84, 2) := by decide +kernel
theorem dL_does_331 : decode cL_does 331 = .ok (.ireturn, 1) := by decide +kernel
theorem dL_does_332 : decode cL_does 332 = .ok (.astore 6, 2) := by decide +kernel
theorem dL_does_334 : decode cL_does 334 = .ok (.ldc 87, 2) := by decide +kernel
theorem dL_does_336 : decode cL_does 336 = .ok (.ireturn, 1) := by decide +kernel
theorem dL_does_337 : decode cL_does 337 = .ok (.astore 6, 2) := by decide +kernel
theorem dL_does_339 : decode cL_does 339 = .ok (.ldc 90, 2) := by decide +kernel
theorem dL_does_341 : decode cL_does 341 = .ok (.ireturn, 1) := by decide +kernel
set_option maxRecDepth 20000 in
theorem ggL_travelled_X7_travel : GoodIn wsL_travelled wsX7_travel := goodIn_ca (goodIn_r _ [5, 6, 7, 8, 9, 10, 11, 4, 12, 13, 14, 15, 16, 17, 18, 19, 20, 21, 22, 23, 24, 25, 26, 27, 28, 29, 30, 31, 32, 33, 34, 35, 36, 37, 38, 39, 40, 41, 42, 43, 44, 45, 46, 47, 48, 49, 50] (by decide +kernel) (by decide +kernel)) (goodIn_sub (fun _ h => List.mem_cons_of_mem _ (List.mem_append_right _ h)) (by decide +kernel))
set_option maxRecDepth 20000 in
theorem gL_travelled_X7_travel : GoodIn wsL_travelled (wsV RL 91 RX7 yX7_travel wsX7_travel) := goodIn_app (goodIn_of _ (by decide +kernel)) ggL_travelled_X7_travel
theorem dL_travelled_0 : decode cL_travelled 0 = .ok (.aload_n 0, 1) := by decide +kernel
theorem dL_travelled_1 : decode cL_travelled 1 = .ok (.invokevirtual 91, 3) := by decide +kernel
theorem dL_travelled_4 : decode cL_travelled 4 = .ok (.iconst 0, 1) := by decide +kernel
theorem dL_travelled_5 : decode cL_travelled 5 = .ok (.ireturn, 1) := by decide +kernel
set_option maxRecDepth 20000 in
theorem ggL_begun_X7_night : GoodIn wsL_begun wsX7_night := goodIn_ca (goodIn_ca (goodIn_r _ [5, 6, 7, 8, 9, 10, 11, 12, 13, 14, 15, 16, 17, 18, 19, 20, 4, 21, 22, 23, 24, 25, 26, 27, 28, 29, 30, 31, 32, 33, 34, 35, 36, 37, 38, 39, 40, 41, 42, 43, 44, 45, 46, 47, 48, 49, 50, 51, 52, 53, 54, 55, 56, 57, 58, 59, 60, 61, 62, 63, 64, 65] (by decide +kernel) (by decide +kernel)) (goodIn_sub (fun _ h => List.mem_cons_of_mem _ (List.mem_append_left _ (List.mem_append_right _ h))) (by decide +kernel))) (goodIn_sub (fun _ h => List.mem_cons_of_mem _ (List.mem_append_right _ h)) (by decide +kernel))
set_option maxRecDepth 20000 in
theorem gL_begun_X7_night : GoodIn wsL_begun (wsV RL 94 RX7 yX7_night wsX7_night) := goodIn_app (goodIn_of _ (by decide +kernel)) ggL_begun_X7_night
theorem dL_begun_0 : decode cL_begun 0 = .ok (.aload_n 0, 1) := by decide +kernel
theorem dL_begun_1 : decode cL_begun 1 = .ok (.iload_n 1, 1) := by decide +kernel
theorem dL_begun_2 : decode cL_begun 2 = .ok (.invokevirtual 94, 3) := by decide +kernel
theorem dL_begun_5 : decode cL_begun 5 = .ok (.iconst 0, 1) := by decide +kernel
theorem dL_begun_6 : decode cL_begun 6 = .ok (.ireturn, 1) := by decide +kernel
theorem dL_isIn_0 : decode cL_isIn 0 = .ok (.iload_n 0, 1) := by decide +kernel
theorem dL_isIn_1 : decode cL_isIn 1 = .ok (.iload_n 1, 1) := by decide +kernel
theorem dL_isIn_2 : decode cL_isIn 2 = .ok (.ishr, 1) := by decide +kernel
theorem dL_isIn_3 : decode cL_isIn 3 = .ok (.iconst 1, 1) := by decide +kernel
theorem dL_isIn_4 : decode cL_isIn 4 = .ok (.iand, 1) := by decide +kernel
theorem dL_isIn_5 : decode cL_isIn 5 = .ok (.iconst 1, 1) := by decide +kernel
theorem dL_isIn_6 : decode cL_isIn 6 = .ok (.if_icmp .ne 7, 3) := by decide +kernel
theorem dL_isIn_9 : decode cL_isIn 9 = .ok (.iconst 1, 1) := by decide +kernel
theorem dL_isIn_10 : decode cL_isIn 10 = .ok (.goto 4, 3) := by decide +kernel
theorem dL_isIn_13 : decode cL_isIn 13 = .ok (.iconst 0, 1) := by decide +kernel
theorem dL_isIn_14 : decode cL_isIn 14 = .ok (.ireturn, 1) := by decide +kernel
set_option maxRecDepth 20000 in
theorem ggL_closes_L_isIn : GoodIn wsL_closes wsL_isIn := goodIn_r _ [5] (by decide +kernel) (by decide +kernel)
set_option maxRecDepth 20000 in
theorem gL_closes_L_isIn : GoodIn wsL_closes (va_wsS RL 98 yL_isIn wsL_isIn) := goodIn_app (goodIn_of _ (by decide +kernel)) ggL_closes_L_isIn
theorem dL_closes_0 : decode cL_closes 0 = .ok (.bipush 24, 2) := by decide +kernel
theorem dL_closes_2 : decode cL_closes 2 = .ok (.newarray .int, 2) := by decide +kernel
theorem dL_closes_4 : decode cL_closes 4 = .ok (.astore 5, 2) := by decide +kernel
theorem dL_closes_6 : decode cL_closes 6 = .ok (.iconst 4, 1) := by decide +kernel
theorem dL_closes_7 : decode cL_closes 7 = .ok (.newarray .int, 2) := by decide +kernel
theorem dL_closes_9 : decode cL_closes 9 = .ok (.astore 6, 2) := by decide +kernel
theorem dL_closes_11 : decode cL_closes 11 = .ok (.iconst 0, 1) := by decide +kernel
theorem dL_closes_12 : decode cL_closes 12 = .ok (.istore 7, 2) := by decide +kernel
theorem dL_closes_14 : decode cL_closes 14 = .ok (.iload 7, 2) := by decide +kernel
theorem dL_closes_16 : decode cL_closes 16 = .ok (.bipush 24, 2) := by decide +kernel
theorem dL_closes_18 : decode cL_closes 18 = .ok (.if_icmp .ge 36, 3) := by decide +kernel
theorem dL_closes_21 : decode cL_closes 21 = .ok (.aload 5, 2) := by decide +kernel
theorem dL_closes_23 : decode cL_closes 23 = .ok (.iload 7, 2) := by decide +kernel
theorem dL_closes_25 : decode cL_closes 25 = .ok (.aload_n 0, 1) := by decide +kernel
theorem dL_closes_26 : decode cL_closes 26 = .ok (.bipush 24, 2) := by decide +kernel
theorem dL_closes_28 : decode cL_closes 28 = .ok (.iload 7, 2) := by decide +kernel
theorem dL_closes_30 : decode cL_closes 30 = .ok (.iadd, 1) := by decide +kernel
theorem dL_closes_31 : decode cL_closes 31 = .ok (.iaload, 1) := by decide +kernel
theorem dL_closes_32 : decode cL_closes 32 = .ok (.iastore, 1) := by decide +kernel
theorem dL_closes_33 : decode cL_closes 33 = .ok (.aload 6, 2) := by decide +kernel
theorem dL_closes_35 : decode cL_closes 35 = .ok (.iload 7, 2) := by decide +kernel
theorem dL_closes_37 : decode cL_closes 37 = .ok (.iconst 4, 1) := by decide +kernel
theorem dL_closes_38 : decode cL_closes 38 = .ok (.irem, 1) := by decide +kernel
theorem dL_closes_39 : decode cL_closes 39 = .ok (.aload_n 1, 1) := by decide +kernel
theorem dL_closes_40 : decode cL_closes 40 = .ok (.iconst 4, 1) := by decide +kernel
theorem dL_closes_41 : decode cL_closes 41 = .ok (.iload 7, 2) := by decide +kernel
theorem dL_closes_43 : decode cL_closes 43 = .ok (.iconst 4, 1) := by decide +kernel
theorem dL_closes_44 : decode cL_closes 44 = .ok (.irem, 1) := by decide +kernel
theorem dL_closes_45 : decode cL_closes 45 = .ok (.iadd, 1) := by decide +kernel
theorem dL_closes_46 : decode cL_closes 46 = .ok (.iaload, 1) := by decide +kernel
theorem dL_closes_47 : decode cL_closes 47 = .ok (.iastore, 1) := by decide +kernel
theorem dL_closes_48 : decode cL_closes 48 = .ok (.iinc 7 1, 3) := by decide +kernel
theorem dL_closes_51 : decode cL_closes 51 = .ok (.goto (-37), 3) := by decide +kernel
theorem dL_closes_54 : decode cL_closes 54 = .ok (.iload 4, 2) := by decide +kernel
theorem dL_closes_56 : decode cL_closes 56 = .ok (.istore 7, 2) := by decide +kernel
theorem dL_closes_58 : decode cL_closes 58 = .ok (.iload 7, 2) := by decide +kernel
theorem dL_closes_60 : decode cL_closes 60 = .ok (.aload_n 3, 1) := by decide +kernel
theorem dL_closes_61 : decode cL_closes 61 = .ok (.iconst 0, 1) := by decide +kernel
theorem dL_closes_62 : decode cL_closes 62 = .ok (.iaload, 1) := by decide +kernel
theorem dL_closes_63 : decode cL_closes 63 = .ok (.if_icmp .ge 330, 3) := by decide +kernel
theorem dL_closes_66 : decode cL_closes 66 = .ok (.aload_n 2, 1) := by decide +kernel
theorem dL_closes_67 : decode cL_closes 67 = .ok (.iload 7, 2) := by decide +kernel
theorem dL_closes_69 : decode cL_closes 69 = .ok (.iaload, 1) := by decide +kernel
theorem dL_closes_70 : decode cL_closes 70 = .ok (.bipush 8, 2) := by decide +kernel
theorem dL_closes_72 : decode cL_closes 72 = .ok (.irem, 1) := by decide +kernel
theorem dL_closes_73 : decode cL_closes 73 = .ok (.istore 8, 2) := by decide +kernel
theorem dL_closes_75 : decode cL_closes 75 = .ok (.aload_n 2, 1) := by decide +kernel
theorem dL_closes_76 : decode cL_closes 76 = .ok (.iload 7, 2) := by decide +kernel
theorem dL_closes_78 : decode cL_closes 78 = .ok (.iaload, 1) := by decide +kernel
theorem dL_closes_79 : decode cL_closes 79 = .ok (.bipush 8, 2) := by decide +kernel
theorem dL_closes_81 : decode cL_closes 81 = .ok (.idiv, 1) := by decide +kernel
theorem dL_closes_82 : decode cL_closes 82 = .ok (.bipush 8, 2) := by decide +kernel
theorem dL_closes_84 : decode cL_closes 84 = .ok (.irem, 1) := by decide +kernel
theorem dL_closes_85 : decode cL_closes 85 = .ok (.istore 9, 2) := by decide +kernel
theorem dL_closes_87 : decode cL_closes 87 = .ok (.aload_n 2, 1) := by decide +kernel
theorem dL_closes_88 : decode cL_closes 88 = .ok (.iload 7, 2) := by decide +kernel
theorem dL_closes_90 : decode cL_closes 90 = .ok (.iaload, 1) := by decide +kernel
theorem dL_closes_91 : decode cL_closes 91 = .ok (.bipush 64, 2) := by decide +kernel
theorem dL_closes_93 : decode cL_closes 93 = .ok (.idiv, 1) := by decide +kernel
theorem dL_closes_94 : decode cL_closes 94 = .ok (.bipush 8, 2) := by decide +kernel
theorem dL_closes_96 : decode cL_closes 96 = .ok (.irem, 1) := by decide +kernel
theorem dL_closes_97 : decode cL_closes 97 = .ok (.istore 10, 2) := by decide +kernel
theorem dL_closes_99 : decode cL_closes 99 = .ok (.aload_n 2, 1) := by decide +kernel
theorem dL_closes_100 : decode cL_closes 100 = .ok (.iload 7, 2) := by decide +kernel
theorem dL_closes_102 : decode cL_closes 102 = .ok (.iaload, 1) := by decide +kernel
theorem dL_closes_103 : decode cL_closes 103 = .ok (.sipush 512, 3) := by decide +kernel
theorem dL_closes_106 : decode cL_closes 106 = .ok (.idiv, 1) := by decide +kernel
theorem dL_closes_107 : decode cL_closes 107 = .ok (.istore 11, 2) := by decide +kernel
theorem dL_closes_109 : decode cL_closes 109 = .ok (.aload_n 3, 1) := by decide +kernel
theorem dL_closes_110 : decode cL_closes 110 = .ok (.iconst 1, 1) := by decide +kernel
theorem dL_closes_111 : decode cL_closes 111 = .ok (.iaload, 1) := by decide +kernel
theorem dL_closes_112 : decode cL_closes 112 = .ok (.iload 9, 2) := by decide +kernel
theorem dL_closes_114 : decode cL_closes 114 = .ok (.invokestatic 98, 3) := by decide +kernel
theorem dL_closes_117 : decode cL_closes 117 = .ok (.ifCond .ne 26, 3) := by decide +kernel
theorem dL_closes_120 : decode cL_closes 120 = .ok (.aload_n 3, 1) := by decide +kernel
theorem dL_closes_121 : decode cL_closes 121 = .ok (.iconst 1, 1) := by decide +kernel
theorem dL_closes_122 : decode cL_closes 122 = .ok (.iaload, 1) := by decide +kernel
theorem dL_closes_123 : decode cL_closes 123 = .ok (.iload 10, 2) := by decide +kernel
theorem dL_closes_125 : decode cL_closes 125 = .ok (.invokestatic 98, 3) := by decide +kernel
theorem dL_closes_128 : decode cL_closes 128 = .ok (.ifCond .eq 17, 3) := by decide +kernel
theorem dL_closes_131 : decode cL_closes 131 = .ok (.iload 8, 2) := by decide +kernel
theorem dL_closes_133 : decode cL_closes 133 = .ok (.iconst 2, 1) := by decide +kernel
theorem dL_closes_134 : decode cL_closes 134 = .ok (.if_icmp .eq 11, 3) := by decide +kernel
theorem dL_closes_137 : decode cL_closes 137 = .ok (.iload 8, 2) := by decide +kernel
theorem dL_closes_139 : decode cL_closes 139 = .ok (.iconst 3, 1) := by decide +kernel
theorem dL_closes_140 : decode cL_closes 140 = .ok (.if_icmp .eq 5, 3) := by decide +kernel
theorem dL_closes_143 : decode cL_closes 143 = .ok (.iconst 0, 1) := by decide +kernel
theorem dL_closes_144 : decode cL_closes 144 = .ok (.ireturn, 1) := by decide +kernel
theorem dL_closes_145 : decode cL_closes 145 = .ok (.iload 8, 2) := by decide +kernel
theorem dL_closes_147 : decode cL_closes 147 = .ok (.ifCond .ne 199, 3) := by decide +kernel
theorem dL_closes_150 : decode cL_closes 150 = .ok (.iconst 0, 1) := by decide +kernel
theorem dL_closes_151 : decode cL_closes 151 = .ok (.istore 12, 2) := by decide +kernel
theorem dL_closes_153 : decode cL_closes 153 = .ok (.iconst 0, 1) := by decide +kernel
theorem dL_closes_154 : decode cL_closes 154 = .ok (.istore 13, 2) := by decide +kernel
theorem dL_closes_156 : decode cL_closes 156 = .ok (.iload 13, 2) := by decide +kernel
theorem dL_closes_158 : decode cL_closes 158 = .ok (.bipush 6, 2) := by decide +kernel
theorem dL_closes_160 : decode cL_closes 160 = .ok (.if_icmp .ge 46, 3) := by decide +kernel
theorem dL_closes_163 : decode cL_closes 163 = .ok (.iload 12, 2) := by decide +kernel
theorem dL_closes_165 : decode cL_closes 165 = .ok (.ifCond .ne 28, 3) := by decide +kernel
theorem dL_closes_168 : decode cL_closes 168 = .ok (.aload 5, 2) := by decide +kernel
theorem dL_closes_170 : decode cL_closes 170 = .ok (.iconst 4, 1) := by decide +kernel
theorem dL_closes_171 : decode cL_closes 171 = .ok (.iload 13, 2) := by decide +kernel
theorem dL_closes_173 : decode cL_closes 173 = .ok (.imul, 1) := by decide +kernel
theorem dL_closes_174 : decode cL_closes 174 = .ok (.iload 11, 2) := by decide +kernel
theorem dL_closes_176 : decode cL_closes 176 = .ok (.iadd, 1) := by decide +kernel
theorem dL_closes_177 : decode cL_closes 177 = .ok (.iaload, 1) := by decide +kernel
theorem dL_closes_178 : decode cL_closes 178 = .ok (.iconst 1, 1) := by decide +kernel
theorem dL_closes_179 : decode cL_closes 179 = .ok (.if_icmp .ne 18, 3) := by decide +kernel
theorem dL_closes_182 : decode cL_closes 182 = .ok (.aload_n 3, 1) := by decide +kernel
theorem dL_closes_183 : decode cL_closes 183 = .ok (.iconst 1, 1) := by decide +kernel
theorem dL_closes_184 : decode cL_closes 184 = .ok (.iaload, 1) := by decide +kernel
theorem dL_closes_185 : decode cL_closes 185 = .ok (.iload 13, 2) := by decide +kernel
theorem dL_closes_187 : decode cL_closes 187 = .ok (.invokestatic 98, 3) := by decide +kernel
theorem dL_closes_190 : decode cL_closes 190 = .ok (.ifCond .ne 7, 3) := by decide +kernel
theorem dL_closes_193 : decode cL_closes 193 = .ok (.iconst 1, 1) := by decide +kernel
theorem dL_closes_194 : decode cL_closes 194 = .ok (.goto 4, 3) := by decide +kernel
theorem dL_closes_197 : decode cL_closes 197 = .ok (.iconst 0, 1) := by decide +kernel
theorem dL_closes_198 : decode cL_closes 198 = .ok (.istore 12, 2) := by decide +kernel
theorem dL_closes_200 : decode cL_closes 200 = .ok (.iinc 13 1, 3) := by decide +kernel
theorem dL_closes_203 : decode cL_closes 203 = .ok (.goto (-47), 3) := by decide +kernel
theorem dL_closes_206 : decode cL_closes 206 = .ok (.iload 7, 2) := by decide +kernel
theorem dL_closes_208 : decode cL_closes 208 = .ok (.iconst 1, 1) := by decide +kernel
theorem dL_closes_209 : decode cL_closes 209 = .ok (.iadd, 1) := by decide +kernel
theorem dL_closes_210 : decode cL_closes 210 = .ok (.istore 13, 2) := by decide +kernel
theorem dL_closes_212 : decode cL_closes 212 = .ok (.iload 13, 2) := by decide +kernel
theorem dL_closes_214 : decode cL_closes 214 = .ok (.aload_n 3, 1) := by decide +kernel
theorem dL_closes_215 : decode cL_closes 215 = .ok (.iconst 0, 1) := by decide +kernel
theorem dL_closes_216 : decode cL_closes 216 = .ok (.iaload, 1) := by decide +kernel
theorem dL_closes_217 : decode cL_closes 217 = .ok (.if_icmp .ge 59, 3) := by decide +kernel
theorem dL_closes_220 : decode cL_closes 220 = .ok (.iload 12, 2) := by decide +kernel
theorem dL_closes_222 : decode cL_closes 222 = .ok (.ifCond .eq 45, 3) := by decide +kernel
theorem dL_closes_225 : decode cL_closes 225 = .ok (.aload_n 2, 1) := by decide +kernel
theorem dL_closes_226 : decode cL_closes 226 = .ok (.iload 13, 2) := by decide +kernel
theorem dL_closes_228 : decode cL_closes 228 = .ok (.iaload, 1) := by decide +kernel
theorem dL_closes_229 : decode cL_closes 229 = .ok (.bipush 8, 2) := by decide +kernel
theorem dL_closes_231 : decode cL_closes 231 = .ok (.irem, 1) := by decide +kernel
theorem dL_closes_232 : decode cL_closes 232 = .ok (.ifCond .ne 31, 3) := by decide +kernel
theorem dL_closes_235 : decode cL_closes 235 = .ok (.aload_n 2, 1) := by decide +kernel
theorem dL_closes_236 : decode cL_closes 236 = .ok (.iload 13, 2) := by decide +kernel
theorem dL_closes_238 : decode cL_closes 238 = .ok (.iaload, 1) := by decide +kernel
theorem dL_closes_239 : decode cL_closes 239 = .ok (.bipush 64, 2) := by decide +kernel
theorem dL_closes_241 : decode cL_closes 241 = .ok (.idiv, 1) := by decide +kernel
theorem dL_closes_242 : decode cL_closes 242 = .ok (.bipush 8, 2) := by decide +kernel
theorem dL_closes_244 : decode cL_closes 244 = .ok (.irem, 1) := by decide +kernel
theorem dL_closes_245 : decode cL_closes 245 = .ok (.iload 9, 2) := by decide +kernel
theorem dL_closes_247 : decode cL_closes 247 = .ok (.if_icmp .ne 16, 3) := by decide +kernel
theorem dL_closes_250 : decode cL_closes 250 = .ok (.aload_n 2, 1) := by decide +kernel
theorem dL_closes_251 : decode cL_closes 251 = .ok (.iload 13, 2) := by decide +kernel
theorem dL_closes_253 : decode cL_closes 253 = .ok (.iaload, 1) := by decide +kernel
theorem dL_closes_254 : decode cL_closes 254 = .ok (.sipush 512, 3) := by decide +kernel
theorem dL_closes_257 : decode cL_closes 257 = .ok (.idiv, 1) := by decide +kernel
theorem dL_closes_258 : decode cL_closes 258 = .ok (.iload 11, 2) := by decide +kernel
theorem dL_closes_260 : decode cL_closes 260 = .ok (.if_icmp .eq 7, 3) := by decide +kernel
theorem dL_closes_263 : decode cL_closes 263 = .ok (.iconst 1, 1) := by decide +kernel
theorem dL_closes_264 : decode cL_closes 264 = .ok (.goto 4, 3) := by decide +kernel
theorem dL_closes_267 : decode cL_closes 267 = .ok (.iconst 0, 1) := by decide +kernel
theorem dL_closes_268 : decode cL_closes 268 = .ok (.istore 12, 2) := by decide +kernel
theorem dL_closes_270 : decode cL_closes 270 = .ok (.iinc 13 1, 3) := by decide +kernel
theorem dL_closes_273 : decode cL_closes 273 = .ok (.goto (-61), 3) := by decide +kernel
theorem dL_closes_276 : decode cL_closes 276 = .ok (.aload_n 3, 1) := by decide +kernel
theorem dL_closes_277 : decode cL_closes 277 = .ok (.iconst 2, 1) := by decide +kernel
theorem dL_closes_278 : decode cL_closes 278 = .ok (.iaload, 1) := by decide +kernel
theorem dL_closes_279 : decode cL_closes 279 = .ok (.iload 11, 2) := by decide +kernel
theorem dL_closes_281 : decode cL_closes 281 = .ok (.invokestatic 98, 3) := by decide +kernel
theorem dL_closes_284 : decode cL_closes 284 = .ok (.ifCond .ne 35, 3) := by decide +kernel
theorem dL_closes_287 : decode cL_closes 287 = .ok (.aload 5, 2) := by decide +kernel
theorem dL_closes_289 : decode cL_closes 289 = .ok (.iconst 4, 1) := by decide +kernel
theorem dL_closes_290 : decode cL_closes 290 = .ok (.iload 10, 2) := by decide +kernel
theorem dL_closes_292 : decode cL_closes 292 = .ok (.imul, 1) := by decide +kernel
theorem dL_closes_293 : decode cL_closes 293 = .ok (.iload 11, 2) := by decide +kernel
theorem dL_closes_295 : decode cL_closes 295 = .ok (.iadd, 1) := by decide +kernel
theorem dL_closes_296 : decode cL_closes 296 = .ok (.iaload, 1) := by decide +kernel
theorem dL_closes_297 : decode cL_closes 297 = .ok (.iconst 1, 1) := by decide +kernel
theorem dL_closes_298 : decode cL_closes 298 = .ok (.if_icmp .eq 21, 3) := by decide +kernel
theorem dL_closes_301 : decode cL_closes 301 = .ok (.aload 5, 2) := by decide +kernel
theorem dL_closes_303 : decode cL_closes 303 = .ok (.iconst 4, 1) := by decide +kernel
theorem dL_closes_304 : decode cL_closes 304 = .ok (.iload 9, 2) := by decide +kernel
theorem dL_closes_306 : decode cL_closes 306 = .ok (.imul, 1) := by decide +kernel
theorem dL_closes_307 : decode cL_closes 307 = .ok (.iload 11, 2) := by decide +kernel
theorem dL_closes_309 : decode cL_closes 309 = .ok (.iadd, 1) := by decide +kernel
theorem dL_closes_310 : decode cL_closes 310 = .ok (.iaload, 1) := by decide +kernel
theorem dL_closes_311 : decode cL_closes 311 = .ok (.ifCond .ne 10, 3) := by decide +kernel
theorem dL_closes_314 : decode cL_closes 314 = .ok (.iload 12, 2) := by decide +kernel
theorem dL_closes_316 : decode cL_closes 316 = .ok (.ifCond .ne 5, 3) := by decide +kernel
theorem dL_closes_319 : decode cL_closes 319 = .ok (.iconst 0, 1) := by decide +kernel
theorem dL_closes_320 : decode cL_closes 320 = .ok (.ireturn, 1) := by decide +kernel
theorem dL_closes_321 : decode cL_closes 321 = .ok (.aload 5, 2) := by decide +kernel
theorem dL_closes_323 : decode cL_closes 323 = .ok (.iconst 4, 1) := by decide +kernel
theorem dL_closes_324 : decode cL_closes 324 = .ok (.iload 9, 2) := by decide +kernel
theorem dL_closes_326 : decode cL_closes 326 = .ok (.imul, 1) := by decide +kernel
theorem dL_closes_327 : decode cL_closes 327 = .ok (.iload 11, 2) := by decide +kernel
theorem dL_closes_329 : decode cL_closes 329 = .ok (.iadd, 1) := by decide +kernel
theorem dL_closes_330 : decode cL_closes 330 = .ok (.iconst 1, 1) := by decide +kernel
theorem dL_closes_331 : decode cL_closes 331 = .ok (.iastore, 1) := by decide +kernel
theorem dL_closes_332 : decode cL_closes 332 = .ok (.aload 5, 2) := by decide +kernel
theorem dL_closes_334 : decode cL_closes 334 = .ok (.iconst 4, 1) := by decide +kernel
theorem dL_closes_335 : decode cL_closes 335 = .ok (.iload 10, 2) := by decide +kernel
theorem dL_closes_337 : decode cL_closes 337 = .ok (.imul, 1) := by decide +kernel
theorem dL_closes_338 : decode cL_closes 338 = .ok (.iload 11, 2) := by decide +kernel
theorem dL_closes_340 : decode cL_closes 340 = .ok (.iadd, 1) := by decide +kernel
theorem dL_closes_341 : decode cL_closes 341 = .ok (.iconst 1, 1) := by decide +kernel
theorem dL_closes_342 : decode cL_closes 342 = .ok (.iastore, 1) := by decide +kernel
theorem dL_closes_343 : decode cL_closes 343 = .ok (.goto 44, 3) := by decide +kernel
theorem dL_closes_346 : decode cL_closes 346 = .ok (.iload 8, 2) := by decide +kernel
theorem dL_closes_348 : decode cL_closes 348 = .ok (.iconst 1, 1) := by decide +kernel
theorem dL_closes_349 : decode cL_closes 349 = .ok (.if_icmp .ne 38, 3) := by decide +kernel
theorem dL_closes_352 : decode cL_closes 352 = .ok (.aload 6, 2) := by decide +kernel
theorem dL_closes_354 : decode cL_closes 354 = .ok (.iload 11, 2) := by decide +kernel
theorem dL_closes_356 : decode cL_closes 356 = .ok (.iaload, 1) := by decide +kernel
theorem dL_closes_357 : decode cL_closes 357 = .ok (.ifCond .le 21, 3) := by decide +kernel
theorem dL_closes_360 : decode cL_closes 360 = .ok (.aload_n 3, 1) := by decide +kernel
theorem dL_closes_361 : decode cL_closes 361 = .ok (.iconst 1, 1) := by decide +kernel
theorem dL_closes_362 : decode cL_closes 362 = .ok (.iaload, 1) := by decide +kernel
theorem dL_closes_363 : decode cL_closes 363 = .ok (.aload 6, 2) := by decide +kernel
theorem dL_closes_365 : decode cL_closes 365 = .ok (.iload 11, 2) := by decide +kernel
theorem dL_closes_367 : decode cL_closes 367 = .ok (.iaload, 1) := by decide +kernel
theorem dL_closes_368 : decode cL_closes 368 = .ok (.iconst 1, 1) := by decide +kernel
theorem dL_closes_369 : decode cL_closes 369 = .ok (.isub, 1) := by decide +kernel
theorem dL_closes_370 : decode cL_closes 370 = .ok (.invokestatic 98, 3) := by decide +kernel
theorem dL_closes_373 : decode cL_closes 373 = .ok (.ifCond .eq 5, 3) := by decide +kernel
theorem dL_closes_376 : decode cL_closes 376 = .ok (.iconst 0, 1) := by decide +kernel
theorem dL_closes_377 : decode cL_closes 377 = .ok (.ireturn, 1) := by decide +kernel
theorem dL_closes_378 : decode cL_closes 378 = .ok (.aload 6, 2) := by decide +kernel
theorem dL_closes_380 : decode cL_closes 380 = .ok (.iload 11, 2) := by decide +kernel
theorem dL_closes_382 : decode cL_closes 382 = .ok (.iload 10, 2) := by decide +kernel
theorem dL_closes_384 : decode cL_closes 384 = .ok (.iconst 1, 1) := by decide +kernel
theorem dL_closes_385 : decode cL_closes 385 = .ok (.iadd, 1) := by decide +kernel
theorem dL_closes_386 : decode cL_closes 386 = .ok (.iastore, 1) := by decide +kernel
theorem dL_closes_387 : decode cL_closes 387 = .ok (.iinc 7 1, 3) := by decide +kernel
theorem dL_closes_390 : decode cL_closes 390 = .ok (.goto (-332), 3) := by decide +kernel
theorem dL_closes_393 : decode cL_closes 393 = .ok (.iconst 1, 1) := by decide +kernel
theorem dL_closes_394 : decode cL_closes 394 = .ok (.ireturn, 1) := by decide +kernel
set_option maxRecDepth 20000 in
theorem ggL_way_L_closes : GoodIn wsL_way wsL_closes := goodIn_r _ [4, 5, 6, 7, 3, 8] (by decide +kernel) (by decide +kernel)
set_option maxRecDepth 20000 in
theorem gL_way_L_closes : GoodIn wsL_way (va_wsS RL 101 yL_closes wsL_closes) := goodIn_app (goodIn_of _ (by decide +kernel)) ggL_way_L_closes
set_option maxRecDepth 20000 in
theorem ggL_way_L_isIn : GoodIn wsL_way wsL_isIn := goodIn_r _ [8] (by decide +kernel) (by decide +kernel)
set_option maxRecDepth 20000 in
theorem gL_way_L_isIn : GoodIn wsL_way (va_wsS RL 98 yL_isIn wsL_isIn) := goodIn_app (goodIn_of _ (by decide +kernel)) ggL_way_L_isIn
theorem dL_way_0 : decode cL_way 0 = .ok (.aload_n 3, 1) := by decide +kernel
theorem dL_way_1 : decode cL_way 1 = .ok (.iconst 4, 1) := by decide +kernel
theorem dL_way_2 : decode cL_way 2 = .ok (.iaload, 1) := by decide +kernel
theorem dL_way_3 : decode cL_way 3 = .ok (.iconst 1, 1) := by decide +kernel
theorem dL_way_4 : decode cL_way 4 = .ok (.if_icmp .ne 17, 3) := by decide +kernel
theorem dL_way_7 : decode cL_way 7 = .ok (.aload_n 0, 1) := by decide +kernel
theorem dL_way_8 : decode cL_way 8 = .ok (.aload_n 1, 1) := by decide +kernel
theorem dL_way_9 : decode cL_way 9 = .ok (.aload_n 2, 1) := by decide +kernel
theorem dL_way_10 : decode cL_way 10 = .ok (.aload_n 3, 1) := by decide +kernel
theorem dL_way_11 : decode cL_way 11 = .ok (.aload_n 3, 1) := by decide +kernel
theorem dL_way_12 : decode cL_way 12 = .ok (.bipush 7, 2) := by decide +kernel
theorem dL_way_14 : decode cL_way 14 = .ok (.iaload, 1) := by decide +kernel
theorem dL_way_15 : decode cL_way 15 = .ok (.invokestatic 101, 3) := by decide +kernel
theorem dL_way_18 : decode cL_way 18 = .ok (.ifCond .ne 5, 3) := by decide +kernel
theorem dL_way_21 : decode cL_way 21 = .ok (.iconst (-1), 1) := by decide +kernel
theorem dL_way_22 : decode cL_way 22 = .ok (.ireturn, 1) := by decide +kernel
theorem dL_way_23 : decode cL_way 23 = .ok (.aload_n 2, 1) := by decide +kernel
theorem dL_way_24 : decode cL_way 24 = .ok (.aload_n 3, 1) := by decide +kernel
theorem dL_way_25 : decode cL_way 25 = .ok (.bipush 7, 2) := by decide +kernel
theorem dL_way_27 : decode cL_way 27 = .ok (.iaload, 1) := by decide +kernel
theorem dL_way_28 : decode cL_way 28 = .ok (.iaload, 1) := by decide +kernel
theorem dL_way_29 : decode cL_way 29 = .ok (.bipush 8, 2) := by decide +kernel
theorem dL_way_31 : decode cL_way 31 = .ok (.irem, 1) := by decide +kernel
theorem dL_way_32 : decode cL_way 32 = .ok (.istore 4, 2) := by decide +kernel
theorem dL_way_34 : decode cL_way 34 = .ok (.aload_n 2, 1) := by decide +kernel
theorem dL_way_35 : decode cL_way 35 = .ok (.aload_n 3, 1) := by decide +kernel
theorem dL_way_36 : decode cL_way 36 = .ok (.bipush 7, 2) := by decide +kernel
theorem dL_way_38 : decode cL_way 38 = .ok (.iaload, 1) := by decide +kernel
theorem dL_way_39 : decode cL_way 39 = .ok (.iaload, 1) := by decide +kernel
theorem dL_way_40 : decode cL_way 40 = .ok (.bipush 8, 2) := by decide +kernel
theorem dL_way_42 : decode cL_way 42 = .ok (.idiv, 1) := by decide +kernel
theorem dL_way_43 : decode cL_way 43 = .ok (.bipush 8, 2) := by decide +kernel
theorem dL_way_45 : decode cL_way 45 = .ok (.irem, 1) := by decide +kernel
theorem dL_way_46 : decode cL_way 46 = .ok (.istore 5, 2) := by decide +kernel
theorem dL_way_48 : decode cL_way 48 = .ok (.aload_n 2, 1) := by decide +kernel
theorem dL_way_49 : decode cL_way 49 = .ok (.aload_n 3, 1) := by decide +kernel
theorem dL_way_50 : decode cL_way 50 = .ok (.bipush 7, 2) := by decide +kernel
theorem dL_way_52 : decode cL_way 52 = .ok (.iaload, 1) := by decide +kernel
theorem dL_way_53 : decode cL_way 53 = .ok (.iaload, 1) := by decide +kernel
theorem dL_way_54 : decode cL_way 54 = .ok (.bipush 64, 2) := by decide +kernel
theorem dL_way_56 : decode cL_way 56 = .ok (.idiv, 1) := by decide +kernel
theorem dL_way_57 : decode cL_way 57 = .ok (.bipush 8, 2) := by decide +kernel
theorem dL_way_59 : decode cL_way 59 = .ok (.irem, 1) := by decide +kernel
theorem dL_way_60 : decode cL_way 60 = .ok (.istore 6, 2) := by decide +kernel
theorem dL_way_62 : decode cL_way 62 = .ok (.aload_n 2, 1) := by decide +kernel
theorem dL_way_63 : decode cL_way 63 = .ok (.aload_n 3, 1) := by decide +kernel
theorem dL_way_64 : decode cL_way 64 = .ok (.bipush 7, 2) := by decide +kernel
theorem dL_way_66 : decode cL_way 66 = .ok (.iaload, 1) := by decide +kernel
theorem dL_way_67 : decode cL_way 67 = .ok (.iaload, 1) := by decide +kernel
theorem dL_way_68 : decode cL_way 68 = .ok (.sipush 512, 3) := by decide +kernel
theorem dL_way_71 : decode cL_way 71 = .ok (.idiv, 1) := by decide +kernel
theorem dL_way_72 : decode cL_way 72 = .ok (.istore 7, 2) := by decide +kernel
theorem dL_way_74 : decode cL_way 74 = .ok (.aload_n 3, 1) := by decide +kernel
theorem dL_way_75 : decode cL_way 75 = .ok (.bipush 9, 2) := by decide +kernel
theorem dL_way_77 : decode cL_way 77 = .ok (.iaload, 1) := by decide +kernel
theorem dL_way_78 : decode cL_way 78 = .ok (.iload 5, 2) := by decide +kernel
theorem dL_way_80 : decode cL_way 80 = .ok (.invokestatic 98, 3) := by decide +kernel
theorem dL_way_83 : decode cL_way 83 = .ok (.ifCond .eq 7, 3) := by decide +kernel
theorem dL_way_86 : decode cL_way 86 = .ok (.iconst 0, 1) := by decide +kernel
theorem dL_way_87 : decode cL_way 87 = .ok (.goto 4, 3) := by decide +kernel
theorem dL_way_90 : decode cL_way 90 = .ok (.iconst 1, 1) := by decide +kernel
theorem dL_way_91 : decode cL_way 91 = .ok (.istore 8, 2) := by decide +kernel
theorem dL_way_93 : decode cL_way 93 = .ok (.aload_n 3, 1) := by decide +kernel
theorem dL_way_94 : decode cL_way 94 = .ok (.bipush 9, 2) := by decide +kernel
theorem dL_way_96 : decode cL_way 96 = .ok (.iaload, 1) := by decide +kernel
theorem dL_way_97 : decode cL_way 97 = .ok (.iload 6, 2) := by decide +kernel
theorem dL_way_99 : decode cL_way 99 = .ok (.invokestatic 98, 3) := by decide +kernel
theorem dL_way_102 : decode cL_way 102 = .ok (.ifCond .eq 7, 3) := by decide +kernel
theorem dL_way_105 : decode cL_way 105 = .ok (.iconst 0, 1) := by decide +kernel
theorem dL_way_106 : decode cL_way 106 = .ok (.goto 4, 3) := by decide +kernel
theorem dL_way_109 : decode cL_way 109 = .ok (.iconst 1, 1) := by decide +kernel
theorem dL_way_110 : decode cL_way 110 = .ok (.istore 9, 2) := by decide +kernel
theorem dL_way_112 : decode cL_way 112 = .ok (.iload 4, 2) := by decide +kernel
theorem dL_way_114 : decode cL_way 114 = .ok (.iconst 2, 1) := by decide +kernel
theorem dL_way_115 : decode cL_way 115 = .ok (.if_icmp .eq 9, 3) := by decide +kernel
theorem dL_way_118 : decode cL_way 118 = .ok (.iload 4, 2) := by decide +kernel
theorem dL_way_120 : decode cL_way 120 = .ok (.iconst 3, 1) := by decide +kernel
theorem dL_way_121 : decode cL_way 121 = .ok (.if_icmp .ne 21, 3) := by decide +kernel
theorem dL_way_124 : decode cL_way 124 = .ok (.iload 4, 2) := by decide +kernel
theorem dL_way_126 : decode cL_way 126 = .ok (.iconst 2, 1) := by decide +kernel
theorem dL_way_127 : decode cL_way 127 = .ok (.if_icmp .ne 10, 3) := by decide +kernel
theorem dL_way_130 : decode cL_way 130 = .ok (.iconst 2, 1) := by decide +kernel
theorem dL_way_131 : decode cL_way 131 = .ok (.iload 8, 2) := by decide +kernel
theorem dL_way_133 : decode cL_way 133 = .ok (.isub, 1) := by decide +kernel
theorem dL_way_134 : decode cL_way 134 = .ok (.goto 7, 3) := by decide +kernel
theorem dL_way_137 : decode cL_way 137 = .ok (.iconst 1, 1) := by decide +kernel
theorem dL_way_138 : decode cL_way 138 = .ok (.iload 8, 2) := by decide +kernel
theorem dL_way_140 : decode cL_way 140 = .ok (.iadd, 1) := by decide +kernel
theorem dL_way_141 : decode cL_way 141 = .ok (.ireturn, 1) := by decide +kernel
theorem dL_way_142 : decode cL_way 142 = .ok (.iconst 0, 1) := by decide +kernel
theorem dL_way_143 : decode cL_way 143 = .ok (.istore 10, 2) := by decide +kernel
theorem dL_way_145 : decode cL_way 145 = .ok (.iload 4, 2) := by decide +kernel
theorem dL_way_147 : decode cL_way 147 = .ok (.iconst 1, 1) := by decide +kernel
theorem dL_way_148 : decode cL_way 148 = .ok (.if_icmp .ne 57, 3) := by decide +kernel
theorem dL_way_151 : decode cL_way 151 = .ok (.aload_n 1, 1) := by decide +kernel
theorem dL_way_152 : decode cL_way 152 = .ok (.iconst 4, 1) := by decide +kernel
theorem dL_way_153 : decode cL_way 153 = .ok (.iload 7, 2) := by decide +kernel
theorem dL_way_155 : decode cL_way 155 = .ok (.iadd, 1) := by decide +kernel
theorem dL_way_156 : decode cL_way 156 = .ok (.iaload, 1) := by decide +kernel
theorem dL_way_157 : decode cL_way 157 = .ok (.iload 5, 2) := by decide +kernel
theorem dL_way_159 : decode cL_way 159 = .ok (.iconst 1, 1) := by decide +kernel
theorem dL_way_160 : decode cL_way 160 = .ok (.iadd, 1) := by decide +kernel
theorem dL_way_161 : decode cL_way 161 = .ok (.if_icmp .eq 44, 3) := by decide +kernel
theorem dL_way_164 : decode cL_way 164 = .ok (.aload_n 1, 1) := by decide +kernel
theorem dL_way_165 : decode cL_way 165 = .ok (.iconst 4, 1) := by decide +kernel
theorem dL_way_166 : decode cL_way 166 = .ok (.iload 7, 2) := by decide +kernel
theorem dL_way_168 : decode cL_way 168 = .ok (.iadd, 1) := by decide +kernel
theorem dL_way_169 : decode cL_way 169 = .ok (.iaload, 1) := by decide +kernel
theorem dL_way_170 : decode cL_way 170 = .ok (.iconst 1, 1) := by decide +kernel
theorem dL_way_171 : decode cL_way 171 = .ok (.isub, 1) := by decide +kernel
theorem dL_way_172 : decode cL_way 172 = .ok (.istore 11, 2) := by decide +kernel
theorem dL_way_174 : decode cL_way 174 = .ok (.iload 11, 2) := by decide +kernel
theorem dL_way_176 : decode cL_way 176 = .ok (.ifCond .lt 22, 3) := by decide +kernel
theorem dL_way_179 : decode cL_way 179 = .ok (.iload 11, 2) := by decide +kernel
theorem dL_way_181 : decode cL_way 181 = .ok (.iload 6, 2) := by decide +kernel
theorem dL_way_183 : decode cL_way 183 = .ok (.if_icmp .eq 15, 3) := by decide +kernel
theorem dL_way_186 : decode cL_way 186 = .ok (.aload_n 3, 1) := by decide +kernel
theorem dL_way_187 : decode cL_way 187 = .ok (.bipush 9, 2) := by decide +kernel
theorem dL_way_189 : decode cL_way 189 = .ok (.iaload, 1) := by decide +kernel
theorem dL_way_190 : decode cL_way 190 = .ok (.iload 11, 2) := by decide +kernel
theorem dL_way_192 : decode cL_way 192 = .ok (.invokestatic 98, 3) := by decide +kernel
theorem dL_way_195 : decode cL_way 195 = .ok (.ifCond .eq 7, 3) := by decide +kernel
theorem dL_way_198 : decode cL_way 198 = .ok (.iconst 1, 1) := by decide +kernel
theorem dL_way_199 : decode cL_way 199 = .ok (.goto 4, 3) := by decide +kernel
theorem dL_way_202 : decode cL_way 202 = .ok (.iconst 2, 1) := by decide +kernel
theorem dL_way_203 : decode cL_way 203 = .ok (.istore 10, 2) := by decide +kernel
theorem dL_way_205 : decode cL_way 205 = .ok (.iload 4, 2) := by decide +kernel
theorem dL_way_207 : decode cL_way 207 = .ok (.ifCond .ne 73, 3) := by decide +kernel
theorem dL_way_210 : decode cL_way 210 = .ok (.aload_n 0, 1) := by decide +kernel
theorem dL_way_211 : decode cL_way 211 = .ok (.bipush 24, 2) := by decide +kernel
theorem dL_way_213 : decode cL_way 213 = .ok (.iconst 4, 1) := by decide +kernel
theorem dL_way_214 : decode cL_way 214 = .ok (.iload 5, 2) := by decide +kernel
theorem dL_way_216 : decode cL_way 216 = .ok (.imul, 1) := by decide +kernel
theorem dL_way_217 : decode cL_way 217 = .ok (.iadd, 1) := by decide +kernel
theorem dL_way_218 : decode cL_way 218 = .ok (.iload 7, 2) := by decide +kernel
theorem dL_way_220 : decode cL_way 220 = .ok (.iadd, 1) := by decide +kernel
theorem dL_way_221 : decode cL_way 221 = .ok (.iaload, 1) := by decide +kernel
theorem dL_way_222 : decode cL_way 222 = .ok (.ifCond .ne 58, 3) := by decide +kernel
theorem dL_way_225 : decode cL_way 225 = .ok (.iconst 2, 1) := by decide +kernel
theorem dL_way_226 : decode cL_way 226 = .ok (.istore 10, 2) := by decide +kernel
theorem dL_way_228 : decode cL_way 228 = .ok (.iconst 0, 1) := by decide +kernel
theorem dL_way_229 : decode cL_way 229 = .ok (.istore 11, 2) := by decide +kernel
theorem dL_way_231 : decode cL_way 231 = .ok (.iload 11, 2) := by decide +kernel
theorem dL_way_233 : decode cL_way 233 = .ok (.bipush 6, 2) := by decide +kernel
theorem dL_way_235 : decode cL_way 235 = .ok (.if_icmp .ge 45, 3) := by decide +kernel
theorem dL_way_238 : decode cL_way 238 = .ok (.aload_n 0, 1) := by decide +kernel
theorem dL_way_239 : decode cL_way 239 = .ok (.bipush 24, 2) := by decide +kernel
theorem dL_way_241 : decode cL_way 241 = .ok (.iconst 4, 1) := by decide +kernel
theorem dL_way_242 : decode cL_way 242 = .ok (.iload 11, 2) := by decide +kernel
theorem dL_way_244 : decode cL_way 244 = .ok (.imul, 1) := by decide +kernel
theorem dL_way_245 : decode cL_way 245 = .ok (.iadd, 1) := by decide +kernel
theorem dL_way_246 : decode cL_way 246 = .ok (.iload 7, 2) := by decide +kernel
theorem dL_way_248 : decode cL_way 248 = .ok (.iadd, 1) := by decide +kernel
theorem dL_way_249 : decode cL_way 249 = .ok (.iaload, 1) := by decide +kernel
theorem dL_way_250 : decode cL_way 250 = .ok (.iconst 1, 1) := by decide +kernel
theorem dL_way_251 : decode cL_way 251 = .ok (.if_icmp .ne 19, 3) := by decide +kernel
theorem dL_way_254 : decode cL_way 254 = .ok (.aload_n 3, 1) := by decide +kernel
theorem dL_way_255 : decode cL_way 255 = .ok (.bipush 9, 2) := by decide +kernel
theorem dL_way_257 : decode cL_way 257 = .ok (.iaload, 1) := by decide +kernel
theorem dL_way_258 : decode cL_way 258 = .ok (.iload 11, 2) := by decide +kernel
theorem dL_way_260 : decode cL_way 260 = .ok (.invokestatic 98, 3) := by decide +kernel
theorem dL_way_263 : decode cL_way 263 = .ok (.ifCond .eq 7, 3) := by decide +kernel
theorem dL_way_266 : decode cL_way 266 = .ok (.iconst 1, 1) := by decide +kernel
theorem dL_way_267 : decode cL_way 267 = .ok (.goto 5, 3) := by decide +kernel
theorem dL_way_270 : decode cL_way 270 = .ok (.iload 10, 2) := by decide +kernel
theorem dL_way_272 : decode cL_way 272 = .ok (.istore 10, 2) := by decide +kernel
theorem dL_way_274 : decode cL_way 274 = .ok (.iinc 11 1, 3) := by decide +kernel
theorem dL_way_277 : decode cL_way 277 = .ok (.goto (-46), 3) := by decide +kernel
theorem dL_way_280 : decode cL_way 280 = .ok (.iconst 1, 1) := by decide +kernel
theorem dL_way_281 : decode cL_way 281 = .ok (.iload 8, 2) := by decide +kernel
theorem dL_way_283 : decode cL_way 283 = .ok (.iadd, 1) := by decide +kernel
theorem dL_way_284 : decode cL_way 284 = .ok (.iload 9, 2) := by decide +kernel
theorem dL_way_286 : decode cL_way 286 = .ok (.iadd, 1) := by decide +kernel
theorem dL_way_287 : decode cL_way 287 = .ok (.iload 10, 2) := by decide +kernel
theorem dL_way_289 : decode cL_way 289 = .ok (.iadd, 1) := by decide +kernel
theorem dL_way_290 : decode cL_way 290 = .ok (.ireturn, 1) := by decide +kernel
theorem dL_passes_0 : decode cL_passes 0 = .ok (.aload_n 0, 1) := by decide +kernel
theorem dL_passes_1 : decode cL_passes 1 = .ok (.bipush 6, 2) := by decide +kernel
theorem dL_passes_3 : decode cL_passes 3 = .ok (.dup2, 1) := by decide +kernel
theorem dL_passes_4 : decode cL_passes 4 = .ok (.iaload, 1) := by decide +kernel
theorem dL_passes_5 : decode cL_passes 5 = .ok (.iload_n 1, 1) := by decide +kernel
theorem dL_passes_6 : decode cL_passes 6 = .ok (.iadd, 1) := by decide +kernel
theorem dL_passes_7 : decode cL_passes 7 = .ok (.iastore, 1) := by decide +kernel
theorem dL_passes_8 : decode cL_passes 8 = .ok (.aload_n 0, 1) := by decide +kernel
theorem dL_passes_9 : decode cL_passes 9 = .ok (.bipush 7, 2) := by decide +kernel
theorem dL_passes_11 : decode cL_passes 11 = .ok (.iaload, 1) := by decide +kernel
theorem dL_passes_12 : decode cL_passes 12 = .ok (.aload_n 0, 1) := by decide +kernel
theorem dL_passes_13 : decode cL_passes 13 = .ok (.iconst 0, 1) := by decide +kernel
theorem dL_passes_14 : decode cL_passes 14 = .ok (.iaload, 1) := by decide +kernel
theorem dL_passes_15 : decode cL_passes 15 = .ok (.if_icmp .ne 7, 3) := by decide +kernel
theorem dL_passes_18 : decode cL_passes 18 = .ok (.iconst 1, 1) := by decide +kernel
theorem dL_passes_19 : decode cL_passes 19 = .ok (.goto 4, 3) := by decide +kernel
theorem dL_passes_22 : decode cL_passes 22 = .ok (.iconst 0, 1) := by decide +kernel
theorem dL_passes_23 : decode cL_passes 23 = .ok (.istore_n 2, 1) := by decide +kernel
theorem dL_passes_24 : decode cL_passes 24 = .ok (.iload_n 2, 1) := by decide +kernel
theorem dL_passes_25 : decode cL_passes 25 = .ok (.ifCond .ne 17, 3) := by decide +kernel
theorem dL_passes_28 : decode cL_passes 28 = .ok (.aload_n 0, 1) := by decide +kernel
theorem dL_passes_29 : decode cL_passes 29 = .ok (.bipush 6, 2) := by decide +kernel
theorem dL_passes_31 : decode cL_passes 31 = .ok (.iaload, 1) := by decide +kernel
theorem dL_passes_32 : decode cL_passes 32 = .ok (.aload_n 0, 1) := by decide +kernel
theorem dL_passes_33 : decode cL_passes 33 = .ok (.iconst 5, 1) := by decide +kernel
theorem dL_passes_34 : decode cL_passes 34 = .ok (.iaload, 1) := by decide +kernel
theorem dL_passes_35 : decode cL_passes 35 = .ok (.if_icmp .lt 7, 3) := by decide +kernel
theorem dL_passes_38 : decode cL_passes 38 = .ok (.iconst 1, 1) := by decide +kernel
theorem dL_passes_39 : decode cL_passes 39 = .ok (.goto 4, 3) := by decide +kernel
theorem dL_passes_42 : decode cL_passes 42 = .ok (.iconst 0, 1) := by decide +kernel
theorem dL_passes_43 : decode cL_passes 43 = .ok (.istore_n 3, 1) := by decide +kernel
theorem dL_passes_44 : decode cL_passes 44 = .ok (.aload_n 0, 1) := by decide +kernel
theorem dL_passes_45 : decode cL_passes 45 = .ok (.bipush 11, 2) := by decide +kernel
theorem dL_passes_47 : decode cL_passes 47 = .ok (.dup2, 1) := by decide +kernel
theorem dL_passes_48 : decode cL_passes 48 = .ok (.iaload, 1) := by decide +kernel
theorem dL_passes_49 : decode cL_passes 49 = .ok (.iload_n 2, 1) := by decide +kernel
theorem dL_passes_50 : decode cL_passes 50 = .ok (.ifCond .eq 7, 3) := by decide +kernel
theorem dL_passes_53 : decode cL_passes 53 = .ok (.iconst 1, 1) := by decide +kernel
theorem dL_passes_54 : decode cL_passes 54 = .ok (.goto 4, 3) := by decide +kernel
theorem dL_passes_57 : decode cL_passes 57 = .ok (.iconst 0, 1) := by decide +kernel
theorem dL_passes_58 : decode cL_passes 58 = .ok (.iadd, 1) := by decide +kernel
theorem dL_passes_59 : decode cL_passes 59 = .ok (.iastore, 1) := by decide +kernel
theorem dL_passes_60 : decode cL_passes 60 = .ok (.aload_n 0, 1) := by decide +kernel
theorem dL_passes_61 : decode cL_passes 61 = .ok (.bipush 12, 2) := by decide +kernel
theorem dL_passes_63 : decode cL_passes 63 = .ok (.dup2, 1) := by decide +kernel
theorem dL_passes_64 : decode cL_passes 64 = .ok (.iaload, 1) := by decide +kernel
theorem dL_passes_65 : decode cL_passes 65 = .ok (.iload_n 3, 1) := by decide +kernel
theorem dL_passes_66 : decode cL_passes 66 = .ok (.ifCond .eq 7, 3) := by decide +kernel
theorem dL_passes_69 : decode cL_passes 69 = .ok (.iconst 1, 1) := by decide +kernel
theorem dL_passes_70 : decode cL_passes 70 = .ok (.goto 4, 3) := by decide +kernel
theorem dL_passes_73 : decode cL_passes 73 = .ok (.iconst 0, 1) := by decide +kernel
theorem dL_passes_74 : decode cL_passes 74 = .ok (.iadd, 1) := by decide +kernel
theorem dL_passes_75 : decode cL_passes 75 = .ok (.iastore, 1) := by decide +kernel
theorem dL_passes_76 : decode cL_passes 76 = .ok (.aload_n 0, 1) := by decide +kernel
theorem dL_passes_77 : decode cL_passes 77 = .ok (.iconst 4, 1) := by decide +kernel
theorem dL_passes_78 : decode cL_passes 78 = .ok (.iload_n 2, 1) := by decide +kernel
theorem dL_passes_79 : decode cL_passes 79 = .ok (.ifCond .eq 7, 3) := by decide +kernel
theorem dL_passes_82 : decode cL_passes 82 = .ok (.iconst 2, 1) := by decide +kernel
theorem dL_passes_83 : decode cL_passes 83 = .ok (.goto 12, 3) := by decide +kernel
theorem dL_passes_86 : decode cL_passes 86 = .ok (.iload_n 3, 1) := by decide +kernel
theorem dL_passes_87 : decode cL_passes 87 = .ok (.ifCond .eq 7, 3) := by decide +kernel
theorem dL_passes_90 : decode cL_passes 90 = .ok (.iconst 3, 1) := by decide +kernel
theorem dL_passes_91 : decode cL_passes 91 = .ok (.goto 4, 3) := by decide +kernel
theorem dL_passes_94 : decode cL_passes 94 = .ok (.iconst 1, 1) := by decide +kernel
theorem dL_passes_95 : decode cL_passes 95 = .ok (.iastore, 1) := by decide +kernel
theorem dL_passes_96 : decode cL_passes 96 = .ok (.return_, 1) := by decide +kernel
set_option maxRecDepth 20000 in
theorem ggL_moves_L_passes : GoodIn wsL_moves wsL_passes := goodIn_r _ [4] (by decide +kernel) (by decide +kernel)
set_option maxRecDepth 20000 in
theorem gL_moves_L_passes : GoodIn wsL_moves (va_wsS RL 105 yL_passes wsL_passes) := goodIn_app (goodIn_of _ (by decide +kernel)) ggL_moves_L_passes
theorem dL_moves_0 : decode cL_moves 0 = .ok (.aload_n 0, 1) := by decide +kernel
theorem dL_moves_1 : decode cL_moves 1 = .ok (.bipush 7, 2) := by decide +kernel
theorem dL_moves_3 : decode cL_moves 3 = .ok (.dup2, 1) := by decide +kernel
theorem dL_moves_4 : decode cL_moves 4 = .ok (.iaload, 1) := by decide +kernel
theorem dL_moves_5 : decode cL_moves 5 = .ok (.iload_n 1, 1) := by decide +kernel
theorem dL_moves_6 : decode cL_moves 6 = .ok (.ifCond .eq 7, 3) := by decide +kernel
theorem dL_moves_9 : decode cL_moves 9 = .ok (.iconst 1, 1) := by decide +kernel
theorem dL_moves_10 : decode cL_moves 10 = .ok (.goto 4, 3) := by decide +kernel
theorem dL_moves_13 : decode cL_moves 13 = .ok (.iconst 0, 1) := by decide +kernel
theorem dL_moves_14 : decode cL_moves 14 = .ok (.iadd, 1) := by decide +kernel
theorem dL_moves_15 : decode cL_moves 15 = .ok (.iastore, 1) := by decide +kernel
theorem dL_moves_16 : decode cL_moves 16 = .ok (.aload_n 0, 1) := by decide +kernel
theorem dL_moves_17 : decode cL_moves 17 = .ok (.bipush 8, 2) := by decide +kernel
theorem dL_moves_19 : decode cL_moves 19 = .ok (.dup2, 1) := by decide +kernel
theorem dL_moves_20 : decode cL_moves 20 = .ok (.iaload, 1) := by decide +kernel
theorem dL_moves_21 : decode cL_moves 21 = .ok (.iconst 1, 1) := by decide +kernel
theorem dL_moves_22 : decode cL_moves 22 = .ok (.iadd, 1) := by decide +kernel
theorem dL_moves_23 : decode cL_moves 23 = .ok (.iastore, 1) := by decide +kernel
theorem dL_moves_24 : decode cL_moves 24 = .ok (.aload_n 0, 1) := by decide +kernel
theorem dL_moves_25 : decode cL_moves 25 = .ok (.iconst 1, 1) := by decide +kernel
theorem dL_moves_26 : decode cL_moves 26 = .ok (.invokestatic 105, 3) := by decide +kernel
theorem dL_moves_29 : decode cL_moves 29 = .ok (.iload_n 1, 1) := by decide +kernel
theorem dL_moves_30 : decode cL_moves 30 = .ok (.ifCond .eq 7, 3) := by decide +kernel
theorem dL_moves_33 : decode cL_moves 33 = .ok (.iconst 2, 1) := by decide +kernel
theorem dL_moves_34 : decode cL_moves 34 = .ok (.goto 4, 3) := by decide +kernel
theorem dL_moves_37 : decode cL_moves 37 = .ok (.iconst 1, 1) := by decide +kernel
theorem dL_moves_38 : decode cL_moves 38 = .ok (.ireturn, 1) := by decide +kernel
set_option maxRecDepth 20000 in
theorem ggL_isSo_L_way : GoodIn wsL_isSo wsL_way := goodIn_r _ [4, 5, 6, 3, 7, 8, 9, 10, 11] (by decide +kernel) (by decide +kernel)
set_option maxRecDepth 20000 in
theorem gL_isSo_L_way : GoodIn wsL_isSo (va_wsS RL 109 yL_way wsL_way) := goodIn_app (goodIn_of _ (by decide +kernel)) ggL_isSo_L_way
set_option maxRecDepth 20000 in
theorem ggL_isSo_X7_state : GoodIn wsL_isSo wsX7_state := goodIn_r _ [16, 17, 236, 237, 238, 239, 240, 241, 242, 243, 244, 245, 246, 247, 248, 249, 250, 251] (by decide +kernel) (by decide +kernel)
set_option maxRecDepth 20000 in
theorem gL_isSo_X7_state : GoodIn wsL_isSo (wsV RL 113 RX7 yX7_state wsX7_state) := goodIn_app (goodIn_of _ (by decide +kernel)) ggL_isSo_X7_state
set_option maxRecDepth 20000 in
theorem ggL_isSo_X7_next : GoodIn wsL_isSo wsX7_next := goodIn_r _ [21, 22, 236, 237, 238, 239, 240, 241, 242, 243, 244, 245, 246, 247, 248, 249, 250, 251] (by decide +kernel) (by decide +kernel)
set_option maxRecDepth 20000 in
theorem gL_isSo_X7_next : GoodIn wsL_isSo (wsV RL 116 RX7 yX7_next wsX7_next) := goodIn_app (goodIn_of _ (by decide +kernel)) ggL_isSo_X7_next
set_option maxRecDepth 20000 in
theorem ggL_isSo_X7_can : GoodIn wsL_isSo wsX7_can := goodIn_r _ [26, 17, 27, 22, 28, 29, 30, 31, 32, 33, 34, 35, 36, 37, 38, 39, 40, 41, 42, 43, 44, 45, 46, 47, 48, 49, 50, 51, 52, 53, 54, 55, 56, 57, 58, 59, 60, 61, 15, 62, 63, 64, 65, 66, 67, 68, 69, 70, 71, 72, 73, 74, 75, 76, 77, 78, 79, 80, 81, 82, 83, 84, 85, 86, 87, 88, 89, 90, 91, 92, 93, 94, 95, 96, 236, 237, 238, 239, 240, 241, 242, 243, 244, 245, 246, 247, 248, 249, 250, 251, 252, 253, 254, 255, 256, 257, 258, 259, 260, 261, 262, 263, 264, 265] (by decide +kernel) (by decide +kernel)
set_option maxRecDepth 20000 in
theorem gL_isSo_X7_can : GoodIn wsL_isSo (wsV RL 119 RX7 yX7_can wsX7_can) := goodIn_app (goodIn_of _ (by decide +kernel)) ggL_isSo_X7_can
set_option maxRecDepth 20000 in
theorem ggL_isSo_X7_way : GoodIn wsL_isSo wsX7_way := goodIn_r _ [100, 101, 22, 102, 24, 25, 15, 26, 17, 27, 28, 29, 30, 31, 32, 33, 34, 35, 36, 37, 38, 39, 40, 41, 42, 43, 44, 45, 46, 47, 48, 49, 50, 51, 52, 53, 54, 55, 56, 57, 58, 59, 60, 61, 62, 63, 64, 65, 66, 67, 68, 69, 70, 71, 72, 73, 74, 75, 76, 77, 78, 79, 80, 81, 82, 83, 84, 85, 86, 87, 88, 89, 90, 91, 92, 93, 94, 95, 96, 103, 104, 105, 106, 107, 108, 109, 110, 111, 112, 113, 114, 115, 116, 117, 118, 119, 120, 121, 122, 123, 124, 125, 126, 127, 128, 129, 130, 236, 237, 238, 239, 240, 241, 242, 243, 244, 245, 246, 247, 248, 249, 250, 251, 252, 253, 254, 255, 256, 257, 258, 259, 260, 261, 262, 263, 264, 265, 266, 267] (by decide +kernel) (by decide +kernel)
set_option maxRecDepth 20000 in
theorem gL_isSo_X7_way : GoodIn wsL_isSo (wsV RL 123 RX7 yX7_way wsX7_way) := goodIn_app (goodIn_of _ (by decide +kernel)) ggL_isSo_X7_way
set_option maxRecDepth 20000 in
theorem ggL_isSo_X7_wayAnew : GoodIn wsL_isSo wsX7_wayAnew := goodIn_r _ [134, 135, 22, 102, 24, 25, 15, 26, 17, 27, 28, 29, 30, 31, 32, 33, 34, 35, 36, 37, 38, 39, 40, 41, 42, 43, 44, 45, 46, 47, 48, 49, 50, 51, 52, 53, 54, 55, 56, 57, 58, 59, 60, 61, 62, 63, 64, 65, 66, 67, 68, 69, 70, 71, 72, 73, 74, 75, 76, 77, 78, 79, 80, 81, 82, 83, 84, 85, 86, 87, 88, 89, 90, 91, 92, 93, 94, 95, 96, 136, 137, 138, 139, 140, 141, 142, 143, 144, 145, 146, 147, 148, 149, 150, 151, 152, 153, 154, 155, 156, 157, 158, 159, 160, 161, 162, 163, 164, 165, 166, 167, 168, 169, 170, 171, 172, 173, 174, 175, 176, 177, 178, 179, 180, 181, 182, 183, 184, 185, 186, 187, 188, 189, 190, 236, 237, 238, 239, 240, 241, 242, 243, 244, 245, 246, 247, 248, 249, 250, 251, 252, 253, 254, 255, 256, 257, 258, 259, 260, 261, 262, 263, 264, 265, 268, 269, 270, 271] (by decide +kernel) (by decide +kernel)
set_option maxRecDepth 20000 in
theorem gL_isSo_X7_wayAnew : GoodIn wsL_isSo (wsV RL 125 RX7 yX7_wayAnew wsX7_wayAnew) := goodIn_app (goodIn_of _ (by decide +kernel)) ggL_isSo_X7_wayAnew
set_option maxRecDepth 20000 in
theorem ggL_isSo_X7_isKnown : GoodIn wsL_isSo wsX7_isKnown := goodIn_ca (goodIn_r _ [194, 195, 196, 15, 197, 198, 199, 200, 201, 202, 203, 204, 205, 206, 17, 207, 208, 209, 210, 70, 71, 45, 72, 47, 61, 62, 236, 237, 238, 239, 240, 241, 242, 243, 244, 245, 246, 247, 248, 249, 250, 251, 255, 256, 257, 258, 264, 265] (by decide +kernel) (by decide +kernel)) (goodIn_sub (fun _ h => List.mem_cons_of_mem _ (List.mem_append_left _ (List.mem_append_right _ h))) (by decide +kernel))
set_option maxRecDepth 20000 in
theorem gL_isSo_X7_isKnown : GoodIn wsL_isSo (wsV RL 72 RX7 yX7_isKnown wsX7_isKnown) := goodIn_app (goodIn_of _ (by decide +kernel)) ggL_isSo_X7_isKnown
set_option maxRecDepth 20000 in
theorem ggL_isSo_X7_holder : GoodIn wsL_isSo wsX7_holder := goodIn_ca (goodIn_r _ [214, 215, 216, 217, 15, 218, 198, 199, 203, 204, 205, 206, 17, 207, 208, 209, 264, 265, 236, 237, 238, 239, 240, 241, 242, 243, 244, 245, 246, 247, 248, 249, 250, 251, 255, 256, 257, 258] (by decide +kernel) (by decide +kernel)) (goodIn_sub (fun _ h => List.mem_cons_of_mem _ (List.mem_append_left _ (List.mem_append_right _ h))) (by decide +kernel))
set_option maxRecDepth 20000 in
theorem gL_isSo_X7_holder : GoodIn wsL_isSo (wsV RL 76 RX7 yX7_holder wsX7_holder) := goodIn_app (goodIn_of _ (by decide +kernel)) ggL_isSo_X7_holder
set_option maxRecDepth 20000 in
theorem ggL_isSo_X7_count : GoodIn wsL_isSo wsX7_count := goodIn_ca (goodIn_r _ [222, 223, 224, 225, 226, 227, 228, 208, 229, 230, 236, 237, 238, 239, 240, 241, 242, 243, 244, 245, 246, 247, 248, 249, 250, 251, 255, 256, 257, 258] (by decide +kernel) (by decide +kernel)) (goodIn_sub (fun _ h => List.mem_cons_of_mem _ (List.mem_append_right _ h)) (by decide +kernel))
set_option maxRecDepth 20000 in
theorem gL_isSo_X7_count : GoodIn wsL_isSo (wsV RL 79 RX7 yX7_count wsX7_count) := goodIn_app (goodIn_of _ (by decide +kernel)) ggL_isSo_X7_count
set_option maxRecDepth 20000 in
theorem ggL_isSo_X7_share : GoodIn wsL_isSo wsX7_share := goodIn_ca (goodIn_r _ [234, 235, 226, 195, 196, 15, 197, 198, 199, 236, 237, 238, 239, 240, 241, 242, 243, 244, 245, 246, 247, 248, 249, 250, 251] (by decide +kernel) (by decide +kernel)) (goodIn_sub (fun _ h => List.mem_cons_of_mem _ (List.mem_append_left _ (List.mem_append_right _ h))) (by decide +kernel))
set_option maxRecDepth 20000 in
theorem gL_isSo_X7_share : GoodIn wsL_isSo (wsV RL 128 RX7 yX7_share wsX7_share) := goodIn_app (goodIn_of _ (by decide +kernel)) ggL_isSo_X7_share
theorem dL_isSo_0 : decode cL_isSo 0 = .ok (.aload_n 1, 1) := by decide +kernel
theorem dL_isSo_1 : decode cL_isSo 1 = .ok (.aload_n 2, 1) := by decide +kernel
theorem dL_isSo_2 : decode cL_isSo 2 = .ok (.aload_n 3, 1) := by decide +kernel
theorem dL_isSo_3 : decode cL_isSo 3 = .ok (.aload 5, 2) := by decide +kernel
theorem dL_isSo_5 : decode cL_isSo 5 = .ok (.invokestatic 109, 3) := by decide +kernel
theorem dL_isSo_8 : decode cL_isSo 8 = .ok (.istore 7, 2) := by decide +kernel
theorem dL_isSo_10 : decode cL_isSo 10 = .ok (.aload_n 0, 1) := by decide +kernel
theorem dL_isSo_11 : decode cL_isSo 11 = .ok (.invokevirtual 113, 3) := by decide +kernel
theorem dL_isSo_14 : decode cL_isSo 14 = .ok (.aload 5, 2) := by decide +kernel
theorem dL_isSo_16 : decode cL_isSo 16 = .ok (.iconst 4, 1) := by decide +kernel
theorem dL_isSo_17 : decode cL_isSo 17 = .ok (.iaload, 1) := by decide +kernel
theorem dL_isSo_18 : decode cL_isSo 18 = .ok (.if_icmp .ne 61, 3) := by decide +kernel
theorem dL_isSo_21 : decode cL_isSo 21 = .ok (.aload_n 0, 1) := by decide +kernel
theorem dL_isSo_22 : decode cL_isSo 22 = .ok (.invokevirtual 116, 3) := by decide +kernel
theorem dL_isSo_25 : decode cL_isSo 25 = .ok (.aload 5, 2) := by decide +kernel
theorem dL_isSo_27 : decode cL_isSo 27 = .ok (.bipush 7, 2) := by decide +kernel
theorem dL_isSo_29 : decode cL_isSo 29 = .ok (.iaload, 1) := by decide +kernel
theorem dL_isSo_30 : decode cL_isSo 30 = .ok (.if_icmp .ne 49, 3) := by decide +kernel
theorem dL_isSo_33 : decode cL_isSo 33 = .ok (.aload_n 0, 1) := by decide +kernel
theorem dL_isSo_34 : decode cL_isSo 34 = .ok (.invokevirtual 119, 3) := by decide +kernel
theorem dL_isSo_37 : decode cL_isSo 37 = .ok (.iload 7, 2) := by decide +kernel
theorem dL_isSo_39 : decode cL_isSo 39 = .ok (.ifCond .le 7, 3) := by decide +kernel
theorem dL_isSo_42 : decode cL_isSo 42 = .ok (.iconst 1, 1) := by decide +kernel
theorem dL_isSo_43 : decode cL_isSo 43 = .ok (.goto 4, 3) := by decide +kernel
theorem dL_isSo_46 : decode cL_isSo 46 = .ok (.iconst 0, 1) := by decide +kernel
theorem dL_isSo_47 : decode cL_isSo 47 = .ok (.if_icmp .ne 32, 3) := by decide +kernel
theorem dL_isSo_50 : decode cL_isSo 50 = .ok (.aload_n 0, 1) := by decide +kernel
theorem dL_isSo_51 : decode cL_isSo 51 = .ok (.invokevirtual 123, 3) := by decide +kernel
theorem dL_isSo_54 : decode cL_isSo 54 = .ok (.iload 7, 2) := by decide +kernel
theorem dL_isSo_56 : decode cL_isSo 56 = .ok (.if_icmp .ne 23, 3) := by decide +kernel
