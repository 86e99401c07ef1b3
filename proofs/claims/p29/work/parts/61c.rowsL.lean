theorem dL_isNight_13 : decode cL_isNight 13 = .ok (.bipush 102, 2) := by decide +kernel
theorem dL_isNight_15 : decode cL_isNight 15 = .ok (.irem, 1) := by decide +kernel
theorem dL_isNight_16 : decode cL_isNight 16 = .ok (.goto 11, 3) := by decide +kernel
theorem dL_isNight_19 : decode cL_isNight 19 = .ok (.bipush 20, 2) := by decide +kernel
theorem dL_isNight_21 : decode cL_isNight 21 = .ok (.iload 4, 2) := by decide +kernel
theorem dL_isNight_23 : decode cL_isNight 23 = .ok (.bipush 60, 2) := by decide +kernel
theorem dL_isNight_25 : decode cL_isNight 25 = .ok (.irem, 1) := by decide +kernel
theorem dL_isNight_26 : decode cL_isNight 26 = .ok (.iadd, 1) := by decide +kernel
theorem dL_isNight_27 : decode cL_isNight 27 = .ok (.istore 5, 2) := by decide +kernel
theorem dL_isNight_29 : decode cL_isNight 29 = .ok (.iload 5, 2) := by decide +kernel
theorem dL_isNight_31 : decode cL_isNight 31 = .ok (.ifCond .le 14, 3) := by decide +kernel
theorem dL_isNight_34 : decode cL_isNight 34 = .ok (.iload 5, 2) := by decide +kernel
theorem dL_isNight_36 : decode cL_isNight 36 = .ok (.bipush 101, 2) := by decide +kernel
theorem dL_isNight_38 : decode cL_isNight 38 = .ok (.if_icmp .ge 7, 3) := by decide +kernel
theorem dL_isNight_41 : decode cL_isNight 41 = .ok (.iconst 1, 1) := by decide +kernel
theorem dL_isNight_42 : decode cL_isNight 42 = .ok (.goto 4, 3) := by decide +kernel
theorem dL_isNight_45 : decode cL_isNight 45 = .ok (.iconst 0, 1) := by decide +kernel
theorem dL_isNight_46 : decode cL_isNight 46 = .ok (.istore 6, 2) := by decide +kernel
theorem dL_isNight_48 : decode cL_isNight 48 = .ok (.iload 6, 2) := by decide +kernel
theorem dL_isNight_50 : decode cL_isNight 50 = .ok (.ifCond .eq 20, 3) := by decide +kernel
theorem dL_isNight_53 : decode cL_isNight 53 = .ok (.aload_n 3, 1) := by decide +kernel
theorem dL_isNight_54 : decode cL_isNight 54 = .ok (.iconst 4, 1) := by decide +kernel
theorem dL_isNight_55 : decode cL_isNight 55 = .ok (.iaload, 1) := by decide +kernel
theorem dL_isNight_56 : decode cL_isNight 56 = .ok (.iconst 1, 1) := by decide +kernel
theorem dL_isNight_57 : decode cL_isNight 57 = .ok (.if_icmp .eq 13, 3) := by decide +kernel
theorem dL_isNight_60 : decode cL_isNight 60 = .ok (.aload_n 3, 1) := by decide +kernel
theorem dL_isNight_61 : decode cL_isNight 61 = .ok (.iconst 0, 1) := by decide +kernel
theorem dL_isNight_62 : decode cL_isNight 62 = .ok (.iaload, 1) := by decide +kernel
theorem dL_isNight_63 : decode cL_isNight 63 = .ok (.ifCond .le 7, 3) := by decide +kernel
theorem dL_isNight_66 : decode cL_isNight 66 = .ok (.iconst 1, 1) := by decide +kernel
theorem dL_isNight_67 : decode cL_isNight 67 = .ok (.goto 4, 3) := by decide +kernel
theorem dL_isNight_70 : decode cL_isNight 70 = .ok (.iconst 0, 1) := by decide +kernel
theorem dL_isNight_71 : decode cL_isNight 71 = .ok (.istore 7, 2) := by decide +kernel
theorem dL_isNight_73 : decode cL_isNight 73 = .ok (.iload 7, 2) := by decide +kernel
theorem dL_isNight_75 : decode cL_isNight 75 = .ok (.ifCond .eq 73, 3) := by decide +kernel
theorem dL_isNight_78 : decode cL_isNight 78 = .ok (.aload_n 3, 1) := by decide +kernel
theorem dL_isNight_79 : decode cL_isNight 79 = .ok (.iconst 4, 1) := by decide +kernel
theorem dL_isNight_80 : decode cL_isNight 80 = .ok (.iconst 1, 1) := by decide +kernel
theorem dL_isNight_81 : decode cL_isNight 81 = .ok (.iastore, 1) := by decide +kernel
theorem dL_isNight_82 : decode cL_isNight 82 = .ok (.aload_n 3, 1) := by decide +kernel
theorem dL_isNight_83 : decode cL_isNight 83 = .ok (.iconst 5, 1) := by decide +kernel
theorem dL_isNight_84 : decode cL_isNight 84 = .ok (.iload 5, 2) := by decide +kernel
theorem dL_isNight_86 : decode cL_isNight 86 = .ok (.iastore, 1) := by decide +kernel
theorem dL_isNight_87 : decode cL_isNight 87 = .ok (.aload_n 3, 1) := by decide +kernel
theorem dL_isNight_88 : decode cL_isNight 88 = .ok (.bipush 6, 2) := by decide +kernel
theorem dL_isNight_90 : decode cL_isNight 90 = .ok (.iconst 0, 1) := by decide +kernel
theorem dL_isNight_91 : decode cL_isNight 91 = .ok (.iastore, 1) := by decide +kernel
theorem dL_isNight_92 : decode cL_isNight 92 = .ok (.aload_n 3, 1) := by decide +kernel
theorem dL_isNight_93 : decode cL_isNight 93 = .ok (.bipush 7, 2) := by decide +kernel
theorem dL_isNight_95 : decode cL_isNight 95 = .ok (.iconst 0, 1) := by decide +kernel
theorem dL_isNight_96 : decode cL_isNight 96 = .ok (.iastore, 1) := by decide +kernel
theorem dL_isNight_97 : decode cL_isNight 97 = .ok (.aload_n 3, 1) := by decide +kernel
theorem dL_isNight_98 : decode cL_isNight 98 = .ok (.bipush 8, 2) := by decide +kernel
theorem dL_isNight_100 : decode cL_isNight 100 = .ok (.iconst 0, 1) := by decide +kernel
theorem dL_isNight_101 : decode cL_isNight 101 = .ok (.iastore, 1) := by decide +kernel
theorem dL_isNight_102 : decode cL_isNight 102 = .ok (.aload_n 3, 1) := by decide +kernel
theorem dL_isNight_103 : decode cL_isNight 103 = .ok (.bipush 9, 2) := by decide +kernel
theorem dL_isNight_105 : decode cL_isNight 105 = .ok (.iconst 0, 1) := by decide +kernel
theorem dL_isNight_106 : decode cL_isNight 106 = .ok (.iastore, 1) := by decide +kernel
theorem dL_isNight_107 : decode cL_isNight 107 = .ok (.iconst 0, 1) := by decide +kernel
theorem dL_isNight_108 : decode cL_isNight 108 = .ok (.istore 8, 2) := by decide +kernel
theorem dL_isNight_110 : decode cL_isNight 110 = .ok (.iload 8, 2) := by decide +kernel
theorem dL_isNight_112 : decode cL_isNight 112 = .ok (.bipush 24, 2) := by decide +kernel
theorem dL_isNight_114 : decode cL_isNight 114 = .ok (.if_icmp .ge 34, 3) := by decide +kernel
theorem dL_isNight_117 : decode cL_isNight 117 = .ok (.aload_n 1, 1) := by decide +kernel
theorem dL_isNight_118 : decode cL_isNight 118 = .ok (.bipush 24, 2) := by decide +kernel
theorem dL_isNight_120 : decode cL_isNight 120 = .ok (.iload 8, 2) := by decide +kernel
theorem dL_isNight_122 : decode cL_isNight 122 = .ok (.iadd, 1) := by decide +kernel
theorem dL_isNight_123 : decode cL_isNight 123 = .ok (.aload_n 1, 1) := by decide +kernel
theorem dL_isNight_124 : decode cL_isNight 124 = .ok (.iload 8, 2) := by decide +kernel
theorem dL_isNight_126 : decode cL_isNight 126 = .ok (.iaload, 1) := by decide +kernel
theorem dL_isNight_127 : decode cL_isNight 127 = .ok (.iastore, 1) := by decide +kernel
theorem dL_isNight_128 : decode cL_isNight 128 = .ok (.aload_n 2, 1) := by decide +kernel
theorem dL_isNight_129 : decode cL_isNight 129 = .ok (.iconst 4, 1) := by decide +kernel
theorem dL_isNight_130 : decode cL_isNight 130 = .ok (.iload 8, 2) := by decide +kernel
theorem dL_isNight_132 : decode cL_isNight 132 = .ok (.iconst 4, 1) := by decide +kernel
theorem dL_isNight_133 : decode cL_isNight 133 = .ok (.irem, 1) := by decide +kernel
theorem dL_isNight_134 : decode cL_isNight 134 = .ok (.iadd, 1) := by decide +kernel
theorem dL_isNight_135 : decode cL_isNight 135 = .ok (.aload_n 2, 1) := by decide +kernel
theorem dL_isNight_136 : decode cL_isNight 136 = .ok (.iload 8, 2) := by decide +kernel
theorem dL_isNight_138 : decode cL_isNight 138 = .ok (.iconst 4, 1) := by decide +kernel
theorem dL_isNight_139 : decode cL_isNight 139 = .ok (.irem, 1) := by decide +kernel
theorem dL_isNight_140 : decode cL_isNight 140 = .ok (.iaload, 1) := by decide +kernel
theorem dL_isNight_141 : decode cL_isNight 141 = .ok (.iastore, 1) := by decide +kernel
theorem dL_isNight_142 : decode cL_isNight 142 = .ok (.iinc 8 1, 3) := by decide +kernel
theorem dL_isNight_145 : decode cL_isNight 145 = .ok (.goto (-35), 3) := by decide +kernel
theorem dL_isNight_148 : decode cL_isNight 148 = .ok (.aload_n 0, 1) := by decide +kernel
theorem dL_isNight_149 : decode cL_isNight 149 = .ok (.bipush 9, 2) := by decide +kernel
theorem dL_isNight_151 : decode cL_isNight 151 = .ok (.iload 5, 2) := by decide +kernel
theorem dL_isNight_153 : decode cL_isNight 153 = .ok (.iconst 0, 1) := by decide +kernel
theorem dL_isNight_154 : decode cL_isNight 154 = .ok (.iconst 0, 1) := by decide +kernel
theorem dL_isNight_155 : decode cL_isNight 155 = .ok (.iconst 0, 1) := by decide +kernel
theorem dL_isNight_156 : decode cL_isNight 156 = .ok (.invokestatic 132, 3) := by decide +kernel
theorem dL_isNight_159 : decode cL_isNight 159 = .ok (.iload 6, 2) := by decide +kernel
theorem dL_isNight_161 : decode cL_isNight 161 = .ok (.ifCond .ne 8, 3) := by decide +kernel
theorem dL_isNight_164 : decode cL_isNight 164 = .ok (.ldc 87, 2) := by decide +kernel
theorem dL_isNight_166 : decode cL_isNight 166 = .ok (.goto 14, 3) := by decide +kernel
theorem dL_isNight_169 : decode cL_isNight 169 = .ok (.iload 7, 2) := by decide +kernel
theorem dL_isNight_171 : decode cL_isNight 171 = .ok (.ifCond .eq 7, 3) := by decide +kernel
theorem dL_isNight_174 : decode cL_isNight 174 = .ok (.iconst 0, 1) := by decide +kernel
theorem dL_isNight_175 : decode cL_isNight 175 = .ok (.goto 5, 3) := by decide +kernel
theorem dL_isNight_178 : decode cL_isNight 178 = .ok (.ldc 90, 2) := by decide +kernel
theorem dL_isNight_180 : decode cL_isNight 180 = .ok (.if_icmp .ne 7, 3) := by decide +kernel
theorem dL_isNight_183 : decode cL_isNight 183 = .ok (.iconst 1, 1) := by decide +kernel
theorem dL_isNight_184 : decode cL_isNight 184 = .ok (.goto 4, 3) := by decide +kernel
theorem dL_isNight_187 : decode cL_isNight 187 = .ok (.iconst 0, 1) := by decide +kernel
theorem dL_isNight_188 : decode cL_isNight 188 = .ok (.ireturn, 1) := by decide +kernel
set_option maxRecDepth 20000 in
theorem ggL_isMove_L_isIn : GoodIn wsL_isMove wsL_isIn := goodIn_r _ [8] (by decide +kernel) (by decide +kernel)
set_option maxRecDepth 20000 in
theorem gL_isMove_L_isIn : GoodIn wsL_isMove (va_wsS RL 98 yL_isIn wsL_isIn) := goodIn_app (goodIn_of _ (by decide +kernel)) ggL_isMove_L_isIn
set_option maxRecDepth 20000 in
theorem ggL_isMove_L_does : GoodIn wsL_isMove wsL_does := goodIn_ca (goodIn_ca (goodIn_ca (goodIn_r _ [11, 12, 13, 14, 1, 3, 2, 15, 16, 17, 18, 19, 20, 21, 22, 23, 24, 25, 26, 27, 28, 29, 30, 31, 32, 33, 34, 35, 36, 37, 38, 39, 40, 41, 42, 43, 44, 45, 46, 47, 48, 49, 50, 51, 52, 53, 54, 55, 56, 57, 58, 59, 60, 61, 62, 63, 64, 65, 66, 67, 68, 69, 70, 71, 72, 73, 74, 75, 76, 77, 78, 79, 80, 81, 82, 83, 84, 85, 86, 87, 88, 89, 90, 91, 92, 93, 94, 95, 96, 97, 98, 99, 100, 101, 102, 7, 103, 104, 105, 106, 107, 108, 109, 110, 111, 112, 113, 114, 115, 116, 117, 118, 119, 120, 121, 122, 123, 124, 125, 126, 127, 128, 129, 130, 131, 132, 133, 134, 135, 136, 137, 138, 139, 140, 141, 142, 143, 144, 145, 146, 147, 148, 149, 150, 151, 152, 153, 154, 155, 156, 157, 158, 159, 160, 161, 162, 163, 164, 165, 166, 167, 168, 169, 170, 171, 172, 173, 174, 175, 176, 177, 178, 179, 180, 181, 182, 183, 184, 185, 186, 187, 188, 189, 190, 191, 192, 193, 194, 195, 196, 197, 198, 199, 200, 201, 202, 203, 204, 205, 206, 207, 208, 209, 210, 211, 212, 213, 214, 215, 216, 217, 218, 219, 220, 221, 222, 223, 224, 225, 226, 227, 228, 229, 230, 231, 232, 233, 234, 235, 236, 237, 238, 239, 240, 241, 242, 243, 244, 245, 246, 247, 248, 249, 250, 251, 252, 253, 254, 255, 256, 257, 258, 259, 260, 261, 262, 263, 264, 265, 266, 267, 268, 269, 270, 271, 272, 273, 274, 275, 276, 277, 278, 279, 280, 281, 282, 283, 284, 285, 286, 297, 298, 299, 300, 301, 302, 303, 304, 305, 306, 307, 308, 309, 310, 311, 312, 313, 314, 315, 316, 317, 318, 319, 320, 321, 322, 323, 324, 325, 326, 327, 328, 329, 330, 331] (by decide +kernel) (by decide +kernel)) (goodIn_sub (fun _ h => List.mem_cons_of_mem _ (List.mem_append_left _ (List.mem_append_left _ (List.mem_append_right _ h)))) (by decide +kernel))) (goodIn_sub (fun _ h => List.mem_cons_of_mem _ (List.mem_append_left _ (List.mem_append_right _ h))) (by decide +kernel))) (goodIn_sub (fun _ h => List.mem_cons_of_mem _ (List.mem_append_right _ h)) (by decide +kernel))
set_option maxRecDepth 20000 in
theorem gL_isMove_L_does : GoodIn wsL_isMove (va_wsS RL 132 yL_does wsL_does) := goodIn_app (goodIn_of _ (by decide +kernel)) ggL_isMove_L_does
set_option maxRecDepth 20000 in
theorem ggL_isMove_L_moves : GoodIn wsL_isMove wsL_moves := goodIn_r _ [289, 290, 291, 7, 292] (by decide +kernel) (by decide +kernel)
set_option maxRecDepth 20000 in
theorem gL_isMove_L_moves : GoodIn wsL_isMove (va_wsS RL 137 yL_moves wsL_moves) := goodIn_app (goodIn_of _ (by decide +kernel)) ggL_isMove_L_moves
set_option maxRecDepth 20000 in
theorem ggL_isMove_L_closes : GoodIn wsL_isMove wsL_closes := goodIn_r _ [295, 296, 5, 6, 7, 8] (by decide +kernel) (by decide +kernel)
set_option maxRecDepth 20000 in
theorem gL_isMove_L_closes : GoodIn wsL_isMove (va_wsS RL 101 yL_closes wsL_closes) := goodIn_app (goodIn_of _ (by decide +kernel)) ggL_isMove_L_closes
set_option maxRecDepth 20000 in
theorem ggL_isMove_L_passes : GoodIn wsL_isMove wsL_passes := goodIn_r _ [292] (by decide +kernel) (by decide +kernel)
set_option maxRecDepth 20000 in
theorem gL_isMove_L_passes : GoodIn wsL_isMove (va_wsS RL 105 yL_passes wsL_passes) := goodIn_app (goodIn_of _ (by decide +kernel)) ggL_isMove_L_passes
theorem dL_isMove_0 : decode cL_isMove 0 = .ok (.aload 5, 2) := by decide +kernel
theorem dL_isMove_2 : decode cL_isMove 2 = .ok (.iconst 4, 1) := by decide +kernel
theorem dL_isMove_3 : decode cL_isMove 3 = .ok (.iaload, 1) := by decide +kernel
theorem dL_isMove_4 : decode cL_isMove 4 = .ok (.iconst 1, 1) := by decide +kernel
theorem dL_isMove_5 : decode cL_isMove 5 = .ok (.if_icmp .ne 7, 3) := by decide +kernel
theorem dL_isMove_8 : decode cL_isMove 8 = .ok (.iconst 1, 1) := by decide +kernel
theorem dL_isMove_9 : decode cL_isMove 9 = .ok (.goto 4, 3) := by decide +kernel
theorem dL_isMove_12 : decode cL_isMove 12 = .ok (.iconst 0, 1) := by decide +kernel
theorem dL_isMove_13 : decode cL_isMove 13 = .ok (.istore 9, 2) := by decide +kernel
theorem dL_isMove_15 : decode cL_isMove 15 = .ok (.iload 9, 2) := by decide +kernel
theorem dL_isMove_17 : decode cL_isMove 17 = .ok (.ifCond .eq 13, 3) := by decide +kernel
theorem dL_isMove_20 : decode cL_isMove 20 = .ok (.aload_n 3, 1) := by decide +kernel
theorem dL_isMove_21 : decode cL_isMove 21 = .ok (.aload 5, 2) := by decide +kernel
theorem dL_isMove_23 : decode cL_isMove 23 = .ok (.bipush 7, 2) := by decide +kernel
theorem dL_isMove_25 : decode cL_isMove 25 = .ok (.iaload, 1) := by decide +kernel
theorem dL_isMove_26 : decode cL_isMove 26 = .ok (.iaload, 1) := by decide +kernel
theorem dL_isMove_27 : decode cL_isMove 27 = .ok (.goto 4, 3) := by decide +kernel
theorem dL_isMove_30 : decode cL_isMove 30 = .ok (.iconst 5, 1) := by decide +kernel
theorem dL_isMove_31 : decode cL_isMove 31 = .ok (.istore 10, 2) := by decide +kernel
theorem dL_isMove_33 : decode cL_isMove 33 = .ok (.iload 9, 2) := by decide +kernel
theorem dL_isMove_35 : decode cL_isMove 35 = .ok (.ifCond .eq 14, 3) := by decide +kernel
theorem dL_isMove_38 : decode cL_isMove 38 = .ok (.iload 8, 2) := by decide +kernel
theorem dL_isMove_40 : decode cL_isMove 40 = .ok (.iconst 4, 1) := by decide +kernel
theorem dL_isMove_41 : decode cL_isMove 41 = .ok (.irem, 1) := by decide +kernel
theorem dL_isMove_42 : decode cL_isMove 42 = .ok (.ifCond .le 7, 3) := by decide +kernel
theorem dL_isMove_45 : decode cL_isMove 45 = .ok (.iconst 1, 1) := by decide +kernel
theorem dL_isMove_46 : decode cL_isMove 46 = .ok (.goto 4, 3) := by decide +kernel
theorem dL_isMove_49 : decode cL_isMove 49 = .ok (.iconst 0, 1) := by decide +kernel
theorem dL_isMove_50 : decode cL_isMove 50 = .ok (.istore 11, 2) := by decide +kernel
theorem dL_isMove_52 : decode cL_isMove 52 = .ok (.iload 11, 2) := by decide +kernel
theorem dL_isMove_54 : decode cL_isMove 54 = .ok (.ifCond .eq 14, 3) := by decide +kernel
theorem dL_isMove_57 : decode cL_isMove 57 = .ok (.iload 10, 2) := by decide +kernel
theorem dL_isMove_59 : decode cL_isMove 59 = .ok (.bipush 8, 2) := by decide +kernel
theorem dL_isMove_61 : decode cL_isMove 61 = .ok (.idiv, 1) := by decide +kernel
theorem dL_isMove_62 : decode cL_isMove 62 = .ok (.bipush 8, 2) := by decide +kernel
theorem dL_isMove_64 : decode cL_isMove 64 = .ok (.irem, 1) := by decide +kernel
theorem dL_isMove_65 : decode cL_isMove 65 = .ok (.goto 23, 3) := by decide +kernel
theorem dL_isMove_68 : decode cL_isMove 68 = .ok (.iload 7, 2) := by decide +kernel
theorem dL_isMove_70 : decode cL_isMove 70 = .ok (.bipush 13, 2) := by decide +kernel
theorem dL_isMove_72 : decode cL_isMove 72 = .ok (.irem, 1) := by decide +kernel
theorem dL_isMove_73 : decode cL_isMove 73 = .ok (.bipush 12, 2) := by decide +kernel
theorem dL_isMove_75 : decode cL_isMove 75 = .ok (.if_icmp .ne 8, 3) := by decide +kernel
theorem dL_isMove_78 : decode cL_isMove 78 = .ok (.bipush 6, 2) := by decide +kernel
theorem dL_isMove_80 : decode cL_isMove 80 = .ok (.goto 8, 3) := by decide +kernel
theorem dL_isMove_83 : decode cL_isMove 83 = .ok (.iload 7, 2) := by decide +kernel
theorem dL_isMove_85 : decode cL_isMove 85 = .ok (.bipush 6, 2) := by decide +kernel
theorem dL_isMove_87 : decode cL_isMove 87 = .ok (.irem, 1) := by decide +kernel
theorem dL_isMove_88 : decode cL_isMove 88 = .ok (.istore 12, 2) := by decide +kernel
theorem dL_isMove_90 : decode cL_isMove 90 = .ok (.iload 11, 2) := by decide +kernel
theorem dL_isMove_92 : decode cL_isMove 92 = .ok (.ifCond .eq 14, 3) := by decide +kernel
theorem dL_isMove_95 : decode cL_isMove 95 = .ok (.iload 10, 2) := by decide +kernel
theorem dL_isMove_97 : decode cL_isMove 97 = .ok (.bipush 64, 2) := by decide +kernel
theorem dL_isMove_99 : decode cL_isMove 99 = .ok (.idiv, 1) := by decide +kernel
theorem dL_isMove_100 : decode cL_isMove 100 = .ok (.bipush 8, 2) := by decide +kernel
theorem dL_isMove_102 : decode cL_isMove 102 = .ok (.irem, 1) := by decide +kernel
theorem dL_isMove_103 : decode cL_isMove 103 = .ok (.goto 11, 3) := by decide +kernel
theorem dL_isMove_106 : decode cL_isMove 106 = .ok (.iload 7, 2) := by decide +kernel
theorem dL_isMove_108 : decode cL_isMove 108 = .ok (.bipush 13, 2) := by decide +kernel
theorem dL_isMove_110 : decode cL_isMove 110 = .ok (.idiv, 1) := by decide +kernel
theorem dL_isMove_111 : decode cL_isMove 111 = .ok (.bipush 6, 2) := by decide +kernel
theorem dL_isMove_113 : decode cL_isMove 113 = .ok (.irem, 1) := by decide +kernel
theorem dL_isMove_114 : decode cL_isMove 114 = .ok (.istore 13, 2) := by decide +kernel
theorem dL_isMove_116 : decode cL_isMove 116 = .ok (.iload 11, 2) := by decide +kernel
theorem dL_isMove_118 : decode cL_isMove 118 = .ok (.ifCond .eq 12, 3) := by decide +kernel
theorem dL_isMove_121 : decode cL_isMove 121 = .ok (.iload 10, 2) := by decide +kernel
theorem dL_isMove_123 : decode cL_isMove 123 = .ok (.sipush 512, 3) := by decide +kernel
theorem dL_isMove_126 : decode cL_isMove 126 = .ok (.idiv, 1) := by decide +kernel
theorem dL_isMove_127 : decode cL_isMove 127 = .ok (.goto 27, 3) := by decide +kernel
theorem dL_isMove_130 : decode cL_isMove 130 = .ok (.iload 7, 2) := by decide +kernel
theorem dL_isMove_132 : decode cL_isMove 132 = .ok (.bipush 78, 2) := by decide +kernel
theorem dL_isMove_134 : decode cL_isMove 134 = .ok (.idiv, 1) := by decide +kernel
theorem dL_isMove_135 : decode cL_isMove 135 = .ok (.bipush 9, 2) := by decide +kernel
theorem dL_isMove_137 : decode cL_isMove 137 = .ok (.irem, 1) := by decide +kernel
theorem dL_isMove_138 : decode cL_isMove 138 = .ok (.bipush 8, 2) := by decide +kernel
theorem dL_isMove_140 : decode cL_isMove 140 = .ok (.if_icmp .ne 7, 3) := by decide +kernel
theorem dL_isMove_143 : decode cL_isMove 143 = .ok (.iconst 4, 1) := by decide +kernel
theorem dL_isMove_144 : decode cL_isMove 144 = .ok (.goto 10, 3) := by decide +kernel
theorem dL_isMove_147 : decode cL_isMove 147 = .ok (.iload 7, 2) := by decide +kernel
theorem dL_isMove_149 : decode cL_isMove 149 = .ok (.bipush 78, 2) := by decide +kernel
theorem dL_isMove_151 : decode cL_isMove 151 = .ok (.idiv, 1) := by decide +kernel
theorem dL_isMove_152 : decode cL_isMove 152 = .ok (.iconst 4, 1) := by decide +kernel
theorem dL_isMove_153 : decode cL_isMove 153 = .ok (.irem, 1) := by decide +kernel
theorem dL_isMove_154 : decode cL_isMove 154 = .ok (.istore 14, 2) := by decide +kernel
theorem dL_isMove_156 : decode cL_isMove 156 = .ok (.iload 12, 2) := by decide +kernel
theorem dL_isMove_158 : decode cL_isMove 158 = .ok (.bipush 6, 2) := by decide +kernel
theorem dL_isMove_160 : decode cL_isMove 160 = .ok (.if_icmp .ge 20, 3) := by decide +kernel
theorem dL_isMove_163 : decode cL_isMove 163 = .ok (.aload 5, 2) := by decide +kernel
theorem dL_isMove_165 : decode cL_isMove 165 = .ok (.bipush 9, 2) := by decide +kernel
theorem dL_isMove_167 : decode cL_isMove 167 = .ok (.iaload, 1) := by decide +kernel
theorem dL_isMove_168 : decode cL_isMove 168 = .ok (.iload 12, 2) := by decide +kernel
theorem dL_isMove_170 : decode cL_isMove 170 = .ok (.invokestatic 98, 3) := by decide +kernel
theorem dL_isMove_173 : decode cL_isMove 173 = .ok (.ifCond .eq 7, 3) := by decide +kernel
theorem dL_isMove_176 : decode cL_isMove 176 = .ok (.iconst 1, 1) := by decide +kernel
theorem dL_isMove_177 : decode cL_isMove 177 = .ok (.goto 4, 3) := by decide +kernel
theorem dL_isMove_180 : decode cL_isMove 180 = .ok (.iconst 0, 1) := by decide +kernel
theorem dL_isMove_181 : decode cL_isMove 181 = .ok (.istore 15, 2) := by decide +kernel
theorem dL_isMove_183 : decode cL_isMove 183 = .ok (.aload 5, 2) := by decide +kernel
theorem dL_isMove_185 : decode cL_isMove 185 = .ok (.bipush 9, 2) := by decide +kernel
theorem dL_isMove_187 : decode cL_isMove 187 = .ok (.iaload, 1) := by decide +kernel
theorem dL_isMove_188 : decode cL_isMove 188 = .ok (.iload 13, 2) := by decide +kernel
theorem dL_isMove_190 : decode cL_isMove 190 = .ok (.invokestatic 98, 3) := by decide +kernel
theorem dL_isMove_193 : decode cL_isMove 193 = .ok (.istore 16, 2) := by decide +kernel
theorem dL_isMove_195 : decode cL_isMove 195 = .ok (.iload 6, 2) := by decide +kernel
theorem dL_isMove_197 : decode cL_isMove 197 = .ok (.iconst 3, 1) := by decide +kernel
theorem dL_isMove_198 : decode cL_isMove 198 = .ok (.if_icmp .ge 167, 3) := by decide +kernel
theorem dL_isMove_201 : decode cL_isMove 201 = .ok (.iload 11, 2) := by decide +kernel
theorem dL_isMove_203 : decode cL_isMove 203 = .ok (.ifCond .eq 13, 3) := by decide +kernel
theorem dL_isMove_206 : decode cL_isMove 206 = .ok (.iload 15, 2) := by decide +kernel
theorem dL_isMove_208 : decode cL_isMove 208 = .ok (.ifCond .eq 8, 3) := by decide +kernel
theorem dL_isMove_211 : decode cL_isMove 211 = .ok (.iload 13, 2) := by decide +kernel
theorem dL_isMove_213 : decode cL_isMove 213 = .ok (.goto 5, 3) := by decide +kernel
theorem dL_isMove_216 : decode cL_isMove 216 = .ok (.iload 12, 2) := by decide +kernel
theorem dL_isMove_218 : decode cL_isMove 218 = .ok (.istore 17, 2) := by decide +kernel
theorem dL_isMove_220 : decode cL_isMove 220 = .ok (.iload 17, 2) := by decide +kernel
theorem dL_isMove_222 : decode cL_isMove 222 = .ok (.bipush 6, 2) := by decide +kernel
theorem dL_isMove_224 : decode cL_isMove 224 = .ok (.if_icmp .ge 7, 3) := by decide +kernel
theorem dL_isMove_227 : decode cL_isMove 227 = .ok (.iconst 1, 1) := by decide +kernel
theorem dL_isMove_228 : decode cL_isMove 228 = .ok (.goto 4, 3) := by decide +kernel
theorem dL_isMove_231 : decode cL_isMove 231 = .ok (.iconst 0, 1) := by decide +kernel
theorem dL_isMove_232 : decode cL_isMove 232 = .ok (.istore 18, 2) := by decide +kernel
theorem dL_isMove_234 : decode cL_isMove 234 = .ok (.iload 18, 2) := by decide +kernel
theorem dL_isMove_236 : decode cL_isMove 236 = .ok (.ifCond .eq 37, 3) := by decide +kernel
theorem dL_isMove_239 : decode cL_isMove 239 = .ok (.iload 9, 2) := by decide +kernel
theorem dL_isMove_241 : decode cL_isMove 241 = .ok (.ifCond .eq 32, 3) := by decide +kernel
theorem dL_isMove_244 : decode cL_isMove 244 = .ok (.aload 5, 2) := by decide +kernel
theorem dL_isMove_246 : decode cL_isMove 246 = .ok (.iconst 1, 1) := by decide +kernel
theorem dL_isMove_247 : decode cL_isMove 247 = .ok (.iaload, 1) := by decide +kernel
theorem dL_isMove_248 : decode cL_isMove 248 = .ok (.iload 17, 2) := by decide +kernel
theorem dL_isMove_250 : decode cL_isMove 250 = .ok (.invokestatic 98, 3) := by decide +kernel
theorem dL_isMove_253 : decode cL_isMove 253 = .ok (.ifCond .ne 20, 3) := by decide +kernel
theorem dL_isMove_256 : decode cL_isMove 256 = .ok (.aload 5, 2) := by decide +kernel
theorem dL_isMove_258 : decode cL_isMove 258 = .ok (.bipush 9, 2) := by decide +kernel
theorem dL_isMove_260 : decode cL_isMove 260 = .ok (.iaload, 1) := by decide +kernel
theorem dL_isMove_261 : decode cL_isMove 261 = .ok (.iload 17, 2) := by decide +kernel
theorem dL_isMove_263 : decode cL_isMove 263 = .ok (.invokestatic 98, 3) := by decide +kernel
theorem dL_isMove_266 : decode cL_isMove 266 = .ok (.ifCond .ne 7, 3) := by decide +kernel
theorem dL_isMove_269 : decode cL_isMove 269 = .ok (.iconst 1, 1) := by decide +kernel
theorem dL_isMove_270 : decode cL_isMove 270 = .ok (.goto 4, 3) := by decide +kernel
theorem dL_isMove_273 : decode cL_isMove 273 = .ok (.iconst 0, 1) := by decide +kernel
theorem dL_isMove_274 : decode cL_isMove 274 = .ok (.istore 19, 2) := by decide +kernel
theorem dL_isMove_276 : decode cL_isMove 276 = .ok (.iload 19, 2) := by decide +kernel
theorem dL_isMove_278 : decode cL_isMove 278 = .ok (.ifCond .eq 15, 3) := by decide +kernel
theorem dL_isMove_281 : decode cL_isMove 281 = .ok (.aload 5, 2) := by decide +kernel
theorem dL_isMove_283 : decode cL_isMove 283 = .ok (.bipush 9, 2) := by decide +kernel
theorem dL_isMove_285 : decode cL_isMove 285 = .ok (.dup2, 1) := by decide +kernel
theorem dL_isMove_286 : decode cL_isMove 286 = .ok (.iaload, 1) := by decide +kernel
theorem dL_isMove_287 : decode cL_isMove 287 = .ok (.iconst 1, 1) := by decide +kernel
theorem dL_isMove_288 : decode cL_isMove 288 = .ok (.iload 17, 2) := by decide +kernel
theorem dL_isMove_290 : decode cL_isMove 290 = .ok (.ishl, 1) := by decide +kernel
theorem dL_isMove_291 : decode cL_isMove 291 = .ok (.ior, 1) := by decide +kernel
theorem dL_isMove_292 : decode cL_isMove 292 = .ok (.iastore, 1) := by decide +kernel
theorem dL_isMove_293 : decode cL_isMove 293 = .ok (.aload_n 0, 1) := by decide +kernel
theorem dL_isMove_294 : decode cL_isMove 294 = .ok (.bipush 10, 2) := by decide +kernel
theorem dL_isMove_296 : decode cL_isMove 296 = .ok (.iload 17, 2) := by decide +kernel
theorem dL_isMove_298 : decode cL_isMove 298 = .ok (.iconst 0, 1) := by decide +kernel
theorem dL_isMove_299 : decode cL_isMove 299 = .ok (.iconst 0, 1) := by decide +kernel
theorem dL_isMove_300 : decode cL_isMove 300 = .ok (.iconst 0, 1) := by decide +kernel
theorem dL_isMove_301 : decode cL_isMove 301 = .ok (.invokestatic 132, 3) := by decide +kernel
theorem dL_isMove_304 : decode cL_isMove 304 = .ok (.iload 18, 2) := by decide +kernel
theorem dL_isMove_306 : decode cL_isMove 306 = .ok (.ifCond .ne 8, 3) := by decide +kernel
theorem dL_isMove_309 : decode cL_isMove 309 = .ok (.ldc 84, 2) := by decide +kernel
theorem dL_isMove_311 : decode cL_isMove 311 = .ok (.goto 45, 3) := by decide +kernel
theorem dL_isMove_314 : decode cL_isMove 314 = .ok (.iload 19, 2) := by decide +kernel
theorem dL_isMove_316 : decode cL_isMove 316 = .ok (.ifCond .eq 38, 3) := by decide +kernel
theorem dL_isMove_319 : decode cL_isMove 319 = .ok (.aload 5, 2) := by decide +kernel
theorem dL_isMove_321 : decode cL_isMove 321 = .ok (.iload 10, 2) := by decide +kernel
theorem dL_isMove_323 : decode cL_isMove 323 = .ok (.bipush 8, 2) := by decide +kernel
theorem dL_isMove_325 : decode cL_isMove 325 = .ok (.irem, 1) := by decide +kernel
theorem dL_isMove_326 : decode cL_isMove 326 = .ok (.iconst 2, 1) := by decide +kernel
theorem dL_isMove_327 : decode cL_isMove 327 = .ok (.if_icmp .ne 20, 3) := by decide +kernel
theorem dL_isMove_330 : decode cL_isMove 330 = .ok (.iload 10, 2) := by decide +kernel
theorem dL_isMove_332 : decode cL_isMove 332 = .ok (.bipush 8, 2) := by decide +kernel
theorem dL_isMove_334 : decode cL_isMove 334 = .ok (.idiv, 1) := by decide +kernel
theorem dL_isMove_335 : decode cL_isMove 335 = .ok (.bipush 8, 2) := by decide +kernel
theorem dL_isMove_337 : decode cL_isMove 337 = .ok (.irem, 1) := by decide +kernel
theorem dL_isMove_338 : decode cL_isMove 338 = .ok (.iload 17, 2) := by decide +kernel
theorem dL_isMove_340 : decode cL_isMove 340 = .ok (.if_icmp .ne 7, 3) := by decide +kernel
theorem dL_isMove_343 : decode cL_isMove 343 = .ok (.iconst 1, 1) := by decide +kernel
theorem dL_isMove_344 : decode cL_isMove 344 = .ok (.goto 4, 3) := by decide +kernel
theorem dL_isMove_347 : decode cL_isMove 347 = .ok (.iconst 0, 1) := by decide +kernel
theorem dL_isMove_348 : decode cL_isMove 348 = .ok (.invokestatic 137, 3) := by decide +kernel
theorem dL_isMove_351 : decode cL_isMove 351 = .ok (.goto 5, 3) := by decide +kernel
theorem dL_isMove_354 : decode cL_isMove 354 = .ok (.ldc 90, 2) := by decide +kernel
theorem dL_isMove_356 : decode cL_isMove 356 = .ok (.if_icmp .ne 7, 3) := by decide +kernel
theorem dL_isMove_359 : decode cL_isMove 359 = .ok (.iconst 1, 1) := by decide +kernel
theorem dL_isMove_360 : decode cL_isMove 360 = .ok (.goto 4, 3) := by decide +kernel
theorem dL_isMove_363 : decode cL_isMove 363 = .ok (.iconst 0, 1) := by decide +kernel
theorem dL_isMove_364 : decode cL_isMove 364 = .ok (.ireturn, 1) := by decide +kernel
theorem dL_isMove_365 : decode cL_isMove 365 = .ok (.iload 6, 2) := by decide +kernel
theorem dL_isMove_367 : decode cL_isMove 367 = .ok (.iconst 3, 1) := by decide +kernel
theorem dL_isMove_368 : decode cL_isMove 368 = .ok (.if_icmp .ne 117, 3) := by decide +kernel
theorem dL_isMove_371 : decode cL_isMove 371 = .ok (.iload 9, 2) := by decide +kernel
theorem dL_isMove_373 : decode cL_isMove 373 = .ok (.ifCond .eq 12, 3) := by decide +kernel
theorem dL_isMove_376 : decode cL_isMove 376 = .ok (.iload 15, 2) := by decide +kernel
theorem dL_isMove_378 : decode cL_isMove 378 = .ok (.ifCond .eq 7, 3) := by decide +kernel
theorem dL_isMove_381 : decode cL_isMove 381 = .ok (.iconst 1, 1) := by decide +kernel
theorem dL_isMove_382 : decode cL_isMove 382 = .ok (.goto 4, 3) := by decide +kernel
theorem dL_isMove_385 : decode cL_isMove 385 = .ok (.iconst 0, 1) := by decide +kernel
theorem dL_isMove_386 : decode cL_isMove 386 = .ok (.istore 17, 2) := by decide +kernel
theorem dL_isMove_388 : decode cL_isMove 388 = .ok (.aload 5, 2) := by decide +kernel
theorem dL_isMove_390 : decode cL_isMove 390 = .ok (.bipush 9, 2) := by decide +kernel
theorem dL_isMove_392 : decode cL_isMove 392 = .ok (.dup2, 1) := by decide +kernel
theorem dL_isMove_393 : decode cL_isMove 393 = .ok (.iaload, 1) := by decide +kernel
theorem dL_isMove_394 : decode cL_isMove 394 = .ok (.iload 17, 2) := by decide +kernel
theorem dL_isMove_396 : decode cL_isMove 396 = .ok (.ifCond .eq 12, 3) := by decide +kernel
theorem dL_isMove_399 : decode cL_isMove 399 = .ok (.iconst 1, 1) := by decide +kernel
theorem dL_isMove_400 : decode cL_isMove 400 = .ok (.iload 12, 2) := by decide +kernel
theorem dL_isMove_402 : decode cL_isMove 402 = .ok (.ishl, 1) := by decide +kernel
theorem dL_isMove_403 : decode cL_isMove 403 = .ok (.iconst (-1), 1) := by decide +kernel
theorem dL_isMove_404 : decode cL_isMove 404 = .ok (.ixor, 1) := by decide +kernel
theorem dL_isMove_405 : decode cL_isMove 405 = .ok (.goto 4, 3) := by decide +kernel
theorem dL_isMove_408 : decode cL_isMove 408 = .ok (.iconst (-1), 1) := by decide +kernel
theorem dL_isMove_409 : decode cL_isMove 409 = .ok (.iand, 1) := by decide +kernel
theorem dL_isMove_410 : decode cL_isMove 410 = .ok (.iastore, 1) := by decide +kernel
theorem dL_isMove_411 : decode cL_isMove 411 = .ok (.aload_n 0, 1) := by decide +kernel
theorem dL_isMove_412 : decode cL_isMove 412 = .ok (.bipush 11, 2) := by decide +kernel
theorem dL_isMove_414 : decode cL_isMove 414 = .ok (.iload 12, 2) := by decide +kernel
theorem dL_isMove_416 : decode cL_isMove 416 = .ok (.iconst 0, 1) := by decide +kernel
theorem dL_isMove_417 : decode cL_isMove 417 = .ok (.iconst 0, 1) := by decide +kernel
theorem dL_isMove_418 : decode cL_isMove 418 = .ok (.iconst 0, 1) := by decide +kernel
theorem dL_isMove_419 : decode cL_isMove 419 = .ok (.invokestatic 132, 3) := by decide +kernel
theorem dL_isMove_422 : decode cL_isMove 422 = .ok (.iload 12, 2) := by decide +kernel
theorem dL_isMove_424 : decode cL_isMove 424 = .ok (.bipush 6, 2) := by decide +kernel
theorem dL_isMove_426 : decode cL_isMove 426 = .ok (.if_icmp .ne 8, 3) := by decide +kernel
theorem dL_isMove_429 : decode cL_isMove 429 = .ok (.ldc 84, 2) := by decide +kernel
theorem dL_isMove_431 : decode cL_isMove 431 = .ok (.goto 45, 3) := by decide +kernel
theorem dL_isMove_434 : decode cL_isMove 434 = .ok (.iload 17, 2) := by decide +kernel
theorem dL_isMove_436 : decode cL_isMove 436 = .ok (.ifCond .eq 38, 3) := by decide +kernel
theorem dL_isMove_439 : decode cL_isMove 439 = .ok (.aload 5, 2) := by decide +kernel
theorem dL_isMove_441 : decode cL_isMove 441 = .ok (.iload 10, 2) := by decide +kernel
theorem dL_isMove_443 : decode cL_isMove 443 = .ok (.bipush 8, 2) := by decide +kernel
theorem dL_isMove_445 : decode cL_isMove 445 = .ok (.irem, 1) := by decide +kernel
theorem dL_isMove_446 : decode cL_isMove 446 = .ok (.iconst 3, 1) := by decide +kernel
theorem dL_isMove_447 : decode cL_isMove 447 = .ok (.if_icmp .ne 20, 3) := by decide +kernel
theorem dL_isMove_450 : decode cL_isMove 450 = .ok (.iload 10, 2) := by decide +kernel
theorem dL_isMove_452 : decode cL_isMove 452 = .ok (.bipush 8, 2) := by decide +kernel
theorem dL_isMove_454 : decode cL_isMove 454 = .ok (.idiv, 1) := by decide +kernel
theorem dL_isMove_455 : decode cL_isMove 455 = .ok (.bipush 8, 2) := by decide +kernel
theorem dL_isMove_457 : decode cL_isMove 457 = .ok (.irem, 1) := by decide +kernel
theorem dL_isMove_458 : decode cL_isMove 458 = .ok (.iload 12, 2) := by decide +kernel
theorem dL_isMove_460 : decode cL_isMove 460 = .ok (.if_icmp .ne 7, 3) := by decide +kernel
theorem dL_isMove_463 : decode cL_isMove 463 = .ok (.iconst 1, 1) := by decide +kernel
theorem dL_isMove_464 : decode cL_isMove 464 = .ok (.goto 4, 3) := by decide +kernel
theorem dL_isMove_467 : decode cL_isMove 467 = .ok (.iconst 0, 1) := by decide +kernel
theorem dL_isMove_468 : decode cL_isMove 468 = .ok (.invokestatic 137, 3) := by decide +kernel
theorem dL_isMove_471 : decode cL_isMove 471 = .ok (.goto 5, 3) := by decide +kernel
theorem dL_isMove_474 : decode cL_isMove 474 = .ok (.ldc 90, 2) := by decide +kernel
theorem dL_isMove_476 : decode cL_isMove 476 = .ok (.if_icmp .ne 7, 3) := by decide +kernel
theorem dL_isMove_479 : decode cL_isMove 479 = .ok (.iconst 1, 1) := by decide +kernel
theorem dL_isMove_480 : decode cL_isMove 480 = .ok (.goto 4, 3) := by decide +kernel
theorem dL_isMove_483 : decode cL_isMove 483 = .ok (.iconst 0, 1) := by decide +kernel
theorem dL_isMove_484 : decode cL_isMove 484 = .ok (.ireturn, 1) := by decide +kernel
theorem dL_isMove_485 : decode cL_isMove 485 = .ok (.iload 6, 2) := by decide +kernel
theorem dL_isMove_487 : decode cL_isMove 487 = .ok (.bipush 6, 2) := by decide +kernel
theorem dL_isMove_489 : decode cL_isMove 489 = .ok (.if_icmp .ge 313, 3) := by decide +kernel
theorem dL_isMove_492 : decode cL_isMove 492 = .ok (.iload 12, 2) := by decide +kernel
theorem dL_isMove_494 : decode cL_isMove 494 = .ok (.bipush 6, 2) := by decide +kernel
theorem dL_isMove_496 : decode cL_isMove 496 = .ok (.if_icmp .ge 13, 3) := by decide +kernel
theorem dL_isMove_499 : decode cL_isMove 499 = .ok (.iload 14, 2) := by decide +kernel
theorem dL_isMove_501 : decode cL_isMove 501 = .ok (.iconst 4, 1) := by decide +kernel
theorem dL_isMove_502 : decode cL_isMove 502 = .ok (.if_icmp .ge 7, 3) := by decide +kernel
theorem dL_isMove_505 : decode cL_isMove 505 = .ok (.iconst 1, 1) := by decide +kernel
theorem dL_isMove_506 : decode cL_isMove 506 = .ok (.goto 4, 3) := by decide +kernel
theorem dL_isMove_509 : decode cL_isMove 509 = .ok (.iconst 0, 1) := by decide +kernel
theorem dL_isMove_510 : decode cL_isMove 510 = .ok (.istore 17, 2) := by decide +kernel
theorem dL_isMove_512 : decode cL_isMove 512 = .ok (.iload 12, 2) := by decide +kernel
theorem dL_isMove_514 : decode cL_isMove 514 = .ok (.iload 13, 2) := by decide +kernel
theorem dL_isMove_516 : decode cL_isMove 516 = .ok (.if_icmp .eq 7, 3) := by decide +kernel
theorem dL_isMove_519 : decode cL_isMove 519 = .ok (.iconst 1, 1) := by decide +kernel
theorem dL_isMove_520 : decode cL_isMove 520 = .ok (.goto 4, 3) := by decide +kernel
theorem dL_isMove_523 : decode cL_isMove 523 = .ok (.iconst 0, 1) := by decide +kernel
theorem dL_isMove_524 : decode cL_isMove 524 = .ok (.istore 18, 2) := by decide +kernel
theorem dL_isMove_526 : decode cL_isMove 526 = .ok (.iload 17, 2) := by decide +kernel
theorem dL_isMove_528 : decode cL_isMove 528 = .ok (.ifCond .eq 55, 3) := by decide +kernel
theorem dL_isMove_531 : decode cL_isMove 531 = .ok (.iload 18, 2) := by decide +kernel
theorem dL_isMove_533 : decode cL_isMove 533 = .ok (.ifCond .eq 50, 3) := by decide +kernel
theorem dL_isMove_536 : decode cL_isMove 536 = .ok (.iload 9, 2) := by decide +kernel
theorem dL_isMove_538 : decode cL_isMove 538 = .ok (.ifCond .eq 45, 3) := by decide +kernel
theorem dL_isMove_541 : decode cL_isMove 541 = .ok (.iload 15, 2) := by decide +kernel
theorem dL_isMove_543 : decode cL_isMove 543 = .ok (.ifCond .eq 40, 3) := by decide +kernel
theorem dL_isMove_546 : decode cL_isMove 546 = .ok (.iload 16, 2) := by decide +kernel
theorem dL_isMove_548 : decode cL_isMove 548 = .ok (.ifCond .eq 35, 3) := by decide +kernel
theorem dL_isMove_551 : decode cL_isMove 551 = .ok (.aload_n 1, 1) := by decide +kernel
theorem dL_isMove_552 : decode cL_isMove 552 = .ok (.bipush 24, 2) := by decide +kernel
theorem dL_isMove_554 : decode cL_isMove 554 = .ok (.iconst 4, 1) := by decide +kernel
theorem dL_isMove_555 : decode cL_isMove 555 = .ok (.iload 12, 2) := by decide +kernel
theorem dL_isMove_557 : decode cL_isMove 557 = .ok (.imul, 1) := by decide +kernel
theorem dL_isMove_558 : decode cL_isMove 558 = .ok (.iadd, 1) := by decide +kernel
theorem dL_isMove_559 : decode cL_isMove 559 = .ok (.iload 14, 2) := by decide +kernel
theorem dL_isMove_561 : decode cL_isMove 561 = .ok (.iadd, 1) := by decide +kernel
theorem dL_isMove_562 : decode cL_isMove 562 = .ok (.iaload, 1) := by decide +kernel
theorem dL_isMove_563 : decode cL_isMove 563 = .ok (.iconst 1, 1) := by decide +kernel
theorem dL_isMove_564 : decode cL_isMove 564 = .ok (.if_icmp .ne 19, 3) := by decide +kernel
theorem dL_isMove_567 : decode cL_isMove 567 = .ok (.aload 5, 2) := by decide +kernel
theorem dL_isMove_569 : decode cL_isMove 569 = .ok (.iconst 2, 1) := by decide +kernel
theorem dL_isMove_570 : decode cL_isMove 570 = .ok (.iaload, 1) := by decide +kernel
theorem dL_isMove_571 : decode cL_isMove 571 = .ok (.iload 14, 2) := by decide +kernel
theorem dL_isMove_573 : decode cL_isMove 573 = .ok (.invokestatic 98, 3) := by decide +kernel
theorem dL_isMove_576 : decode cL_isMove 576 = .ok (.ifCond .ne 7, 3) := by decide +kernel
theorem dL_isMove_579 : decode cL_isMove 579 = .ok (.iconst 1, 1) := by decide +kernel
theorem dL_isMove_580 : decode cL_isMove 580 = .ok (.goto 4, 3) := by decide +kernel
theorem dL_isMove_583 : decode cL_isMove 583 = .ok (.iconst 0, 1) := by decide +kernel
theorem dL_isMove_584 : decode cL_isMove 584 = .ok (.istore 19, 2) := by decide +kernel
theorem dL_isMove_586 : decode cL_isMove 586 = .ok (.iload 19, 2) := by decide +kernel
theorem dL_isMove_588 : decode cL_isMove 588 = .ok (.ifCond .ne 47, 3) := by decide +kernel
theorem dL_isMove_591 : decode cL_isMove 591 = .ok (.aload_n 0, 1) := by decide +kernel
theorem dL_isMove_592 : decode cL_isMove 592 = .ok (.bipush 12, 2) := by decide +kernel
theorem dL_isMove_594 : decode cL_isMove 594 = .ok (.iload 12, 2) := by decide +kernel
theorem dL_isMove_596 : decode cL_isMove 596 = .ok (.iload 13, 2) := by decide +kernel
theorem dL_isMove_598 : decode cL_isMove 598 = .ok (.iload 14, 2) := by decide +kernel
theorem dL_isMove_600 : decode cL_isMove 600 = .ok (.iconst 0, 1) := by decide +kernel
theorem dL_isMove_601 : decode cL_isMove 601 = .ok (.invokestatic 132, 3) := by decide +kernel
theorem dL_isMove_604 : decode cL_isMove 604 = .ok (.iload 17, 2) := by decide +kernel
theorem dL_isMove_606 : decode cL_isMove 606 = .ok (.ifCond .ne 8, 3) := by decide +kernel
theorem dL_isMove_609 : decode cL_isMove 609 = .ok (.ldc 84, 2) := by decide +kernel
theorem dL_isMove_611 : decode cL_isMove 611 = .ok (.goto 15, 3) := by decide +kernel
theorem dL_isMove_614 : decode cL_isMove 614 = .ok (.iload 18, 2) := by decide +kernel
theorem dL_isMove_616 : decode cL_isMove 616 = .ok (.ifCond .ne 8, 3) := by decide +kernel
theorem dL_isMove_619 : decode cL_isMove 619 = .ok (.ldc 87, 2) := by decide +kernel
theorem dL_isMove_621 : decode cL_isMove 621 = .ok (.goto 5, 3) := by decide +kernel
theorem dL_isMove_624 : decode cL_isMove 624 = .ok (.ldc 90, 2) := by decide +kernel
theorem dL_isMove_626 : decode cL_isMove 626 = .ok (.if_icmp .ne 7, 3) := by decide +kernel
theorem dL_isMove_629 : decode cL_isMove 629 = .ok (.iconst 1, 1) := by decide +kernel
theorem dL_isMove_630 : decode cL_isMove 630 = .ok (.goto 4, 3) := by decide +kernel
theorem dL_isMove_633 : decode cL_isMove 633 = .ok (.iconst 0, 1) := by decide +kernel
theorem dL_isMove_634 : decode cL_isMove 634 = .ok (.ireturn, 1) := by decide +kernel
theorem dL_isMove_635 : decode cL_isMove 635 = .ok (.bipush 24, 2) := by decide +kernel
theorem dL_isMove_637 : decode cL_isMove 637 = .ok (.iconst 4, 1) := by decide +kernel
theorem dL_isMove_638 : decode cL_isMove 638 = .ok (.iload 13, 2) := by decide +kernel
theorem dL_isMove_640 : decode cL_isMove 640 = .ok (.imul, 1) := by decide +kernel
theorem dL_isMove_641 : decode cL_isMove 641 = .ok (.iadd, 1) := by decide +kernel
theorem dL_isMove_642 : decode cL_isMove 642 = .ok (.iload 14, 2) := by decide +kernel
theorem dL_isMove_644 : decode cL_isMove 644 = .ok (.iadd, 1) := by decide +kernel
theorem dL_isMove_645 : decode cL_isMove 645 = .ok (.istore 20, 2) := by decide +kernel
theorem dL_isMove_647 : decode cL_isMove 647 = .ok (.iload 10, 2) := by decide +kernel
theorem dL_isMove_649 : decode cL_isMove 649 = .ok (.bipush 8, 2) := by decide +kernel
theorem dL_isMove_651 : decode cL_isMove 651 = .ok (.iload 12, 2) := by decide +kernel
theorem dL_isMove_653 : decode cL_isMove 653 = .ok (.imul, 1) := by decide +kernel
theorem dL_isMove_654 : decode cL_isMove 654 = .ok (.bipush 64, 2) := by decide +kernel
theorem dL_isMove_656 : decode cL_isMove 656 = .ok (.iload 13, 2) := by decide +kernel
theorem dL_isMove_658 : decode cL_isMove 658 = .ok (.imul, 1) := by decide +kernel
theorem dL_isMove_659 : decode cL_isMove 659 = .ok (.iadd, 1) := by decide +kernel
theorem dL_isMove_660 : decode cL_isMove 660 = .ok (.sipush 512, 3) := by decide +kernel
theorem dL_isMove_663 : decode cL_isMove 663 = .ok (.iload 14, 2) := by decide +kernel
theorem dL_isMove_665 : decode cL_isMove 665 = .ok (.imul, 1) := by decide +kernel
theorem dL_isMove_666 : decode cL_isMove 666 = .ok (.iadd, 1) := by decide +kernel
theorem dL_isMove_667 : decode cL_isMove 667 = .ok (.if_icmp .ne 14, 3) := by decide +kernel
theorem dL_isMove_670 : decode cL_isMove 670 = .ok (.aload_n 1, 1) := by decide +kernel
theorem dL_isMove_671 : decode cL_isMove 671 = .ok (.iload 20, 2) := by decide +kernel
theorem dL_isMove_673 : decode cL_isMove 673 = .ok (.iaload, 1) := by decide +kernel
theorem dL_isMove_674 : decode cL_isMove 674 = .ok (.ifCond .ne 7, 3) := by decide +kernel
theorem dL_isMove_677 : decode cL_isMove 677 = .ok (.iconst 1, 1) := by decide +kernel
theorem dL_isMove_678 : decode cL_isMove 678 = .ok (.goto 4, 3) := by decide +kernel
theorem dL_isMove_681 : decode cL_isMove 681 = .ok (.iconst 0, 1) := by decide +kernel
theorem dL_isMove_682 : decode cL_isMove 682 = .ok (.istore 21, 2) := by decide +kernel
theorem dL_isMove_684 : decode cL_isMove 684 = .ok (.aload_n 1, 1) := by decide +kernel
theorem dL_isMove_685 : decode cL_isMove 685 = .ok (.aload_n 2, 1) := by decide +kernel
theorem dL_isMove_686 : decode cL_isMove 686 = .ok (.aload_n 3, 1) := by decide +kernel
theorem dL_isMove_687 : decode cL_isMove 687 = .ok (.aload 5, 2) := by decide +kernel
theorem dL_isMove_689 : decode cL_isMove 689 = .ok (.aload 5, 2) := by decide +kernel
theorem dL_isMove_691 : decode cL_isMove 691 = .ok (.bipush 7, 2) := by decide +kernel
theorem dL_isMove_693 : decode cL_isMove 693 = .ok (.iaload, 1) := by decide +kernel
theorem dL_isMove_694 : decode cL_isMove 694 = .ok (.invokestatic 101, 3) := by decide +kernel
theorem dL_isMove_697 : decode cL_isMove 697 = .ok (.istore 22, 2) := by decide +kernel
theorem dL_isMove_699 : decode cL_isMove 699 = .ok (.aload_n 1, 1) := by decide +kernel
theorem dL_isMove_700 : decode cL_isMove 700 = .ok (.iload 20, 2) := by decide +kernel
theorem dL_isMove_702 : decode cL_isMove 702 = .ok (.iaload, 1) := by decide +kernel
theorem dL_isMove_703 : decode cL_isMove 703 = .ok (.istore 23, 2) := by decide +kernel
theorem dL_isMove_705 : decode cL_isMove 705 = .ok (.aload_n 1, 1) := by decide +kernel
theorem dL_isMove_706 : decode cL_isMove 706 = .ok (.iload 20, 2) := by decide +kernel
theorem dL_isMove_708 : decode cL_isMove 708 = .ok (.iconst 1, 1) := by decide +kernel
theorem dL_isMove_709 : decode cL_isMove 709 = .ok (.iastore, 1) := by decide +kernel
theorem dL_isMove_710 : decode cL_isMove 710 = .ok (.iload 22, 2) := by decide +kernel
theorem dL_isMove_712 : decode cL_isMove 712 = .ok (.ifCond .eq 34, 3) := by decide +kernel
theorem dL_isMove_715 : decode cL_isMove 715 = .ok (.aload_n 1, 1) := by decide +kernel
theorem dL_isMove_716 : decode cL_isMove 716 = .ok (.aload_n 2, 1) := by decide +kernel
theorem dL_isMove_717 : decode cL_isMove 717 = .ok (.aload_n 3, 1) := by decide +kernel
theorem dL_isMove_718 : decode cL_isMove 718 = .ok (.aload 5, 2) := by decide +kernel
theorem dL_isMove_720 : decode cL_isMove 720 = .ok (.aload 5, 2) := by decide +kernel
theorem dL_isMove_722 : decode cL_isMove 722 = .ok (.bipush 7, 2) := by decide +kernel
theorem dL_isMove_724 : decode cL_isMove 724 = .ok (.iaload, 1) := by decide +kernel
theorem dL_isMove_725 : decode cL_isMove 725 = .ok (.iload 21, 2) := by decide +kernel
theorem dL_isMove_727 : decode cL_isMove 727 = .ok (.ifCond .eq 7, 3) := by decide +kernel
theorem dL_isMove_730 : decode cL_isMove 730 = .ok (.iconst 1, 1) := by decide +kernel
theorem dL_isMove_731 : decode cL_isMove 731 = .ok (.goto 4, 3) := by decide +kernel
theorem dL_isMove_734 : decode cL_isMove 734 = .ok (.iconst 0, 1) := by decide +kernel
theorem dL_isMove_735 : decode cL_isMove 735 = .ok (.iadd, 1) := by decide +kernel
theorem dL_isMove_736 : decode cL_isMove 736 = .ok (.invokestatic 101, 3) := by decide +kernel
theorem dL_isMove_739 : decode cL_isMove 739 = .ok (.ifCond .ne 7, 3) := by decide +kernel
theorem dL_isMove_742 : decode cL_isMove 742 = .ok (.iconst 1, 1) := by decide +kernel
theorem dL_isMove_743 : decode cL_isMove 743 = .ok (.goto 4, 3) := by decide +kernel
theorem dL_isMove_746 : decode cL_isMove 746 = .ok (.iconst 0, 1) := by decide +kernel
theorem dL_isMove_747 : decode cL_isMove 747 = .ok (.istore 24, 2) := by decide +kernel
theorem dL_isMove_749 : decode cL_isMove 749 = .ok (.aload_n 1, 1) := by decide +kernel
theorem dL_isMove_750 : decode cL_isMove 750 = .ok (.iload 20, 2) := by decide +kernel
theorem dL_isMove_752 : decode cL_isMove 752 = .ok (.iload 24, 2) := by decide +kernel
theorem dL_isMove_754 : decode cL_isMove 754 = .ok (.ifCond .eq 8, 3) := by decide +kernel
theorem dL_isMove_757 : decode cL_isMove 757 = .ok (.iload 23, 2) := by decide +kernel
theorem dL_isMove_759 : decode cL_isMove 759 = .ok (.goto 4, 3) := by decide +kernel
theorem dL_isMove_762 : decode cL_isMove 762 = .ok (.iconst 1, 1) := by decide +kernel
theorem dL_isMove_763 : decode cL_isMove 763 = .ok (.iastore, 1) := by decide +kernel
theorem dL_isMove_764 : decode cL_isMove 764 = .ok (.aload_n 0, 1) := by decide +kernel
theorem dL_isMove_765 : decode cL_isMove 765 = .ok (.bipush 12, 2) := by decide +kernel
theorem dL_isMove_767 : decode cL_isMove 767 = .ok (.iload 12, 2) := by decide +kernel
theorem dL_isMove_769 : decode cL_isMove 769 = .ok (.iload 13, 2) := by decide +kernel
theorem dL_isMove_771 : decode cL_isMove 771 = .ok (.iload 14, 2) := by decide +kernel
theorem dL_isMove_773 : decode cL_isMove 773 = .ok (.iconst 0, 1) := by decide +kernel
theorem dL_isMove_774 : decode cL_isMove 774 = .ok (.invokestatic 132, 3) := by decide +kernel
theorem dL_isMove_777 : decode cL_isMove 777 = .ok (.iload 24, 2) := by decide +kernel
theorem dL_isMove_779 : decode cL_isMove 779 = .ok (.ifCond .eq 7, 3) := by decide +kernel
theorem dL_isMove_782 : decode cL_isMove 782 = .ok (.iconst 0, 1) := by decide +kernel
theorem dL_isMove_783 : decode cL_isMove 783 = .ok (.goto 10, 3) := by decide +kernel
theorem dL_isMove_786 : decode cL_isMove 786 = .ok (.aload 5, 2) := by decide +kernel
theorem dL_isMove_788 : decode cL_isMove 788 = .ok (.iload 21, 2) := by decide +kernel
theorem dL_isMove_790 : decode cL_isMove 790 = .ok (.invokestatic 137, 3) := by decide +kernel
theorem dL_isMove_793 : decode cL_isMove 793 = .ok (.if_icmp .ne 7, 3) := by decide +kernel
theorem dL_isMove_796 : decode cL_isMove 796 = .ok (.iconst 1, 1) := by decide +kernel
theorem dL_isMove_797 : decode cL_isMove 797 = .ok (.goto 4, 3) := by decide +kernel
theorem dL_isMove_800 : decode cL_isMove 800 = .ok (.iconst 0, 1) := by decide +kernel
theorem dL_isMove_801 : decode cL_isMove 801 = .ok (.ireturn, 1) := by decide +kernel
theorem dL_isMove_802 : decode cL_isMove 802 = .ok (.iload 6, 2) := by decide +kernel
theorem dL_isMove_804 : decode cL_isMove 804 = .ok (.bipush 8, 2) := by decide +kernel
theorem dL_isMove_806 : decode cL_isMove 806 = .ok (.if_icmp .ge 189, 3) := by decide +kernel
theorem dL_isMove_809 : decode cL_isMove 809 = .ok (.iload 12, 2) := by decide +kernel
theorem dL_isMove_811 : decode cL_isMove 811 = .ok (.bipush 6, 2) := by decide +kernel
theorem dL_isMove_813 : decode cL_isMove 813 = .ok (.if_icmp .ge 13, 3) := by decide +kernel
theorem dL_isMove_816 : decode cL_isMove 816 = .ok (.iload 14, 2) := by decide +kernel
theorem dL_isMove_818 : decode cL_isMove 818 = .ok (.iconst 4, 1) := by decide +kernel
theorem dL_isMove_819 : decode cL_isMove 819 = .ok (.if_icmp .ge 7, 3) := by decide +kernel
theorem dL_isMove_822 : decode cL_isMove 822 = .ok (.iconst 1, 1) := by decide +kernel
theorem dL_isMove_823 : decode cL_isMove 823 = .ok (.goto 4, 3) := by decide +kernel
theorem dL_isMove_826 : decode cL_isMove 826 = .ok (.iconst 0, 1) := by decide +kernel
theorem dL_isMove_827 : decode cL_isMove 827 = .ok (.istore 17, 2) := by decide +kernel
theorem dL_isMove_829 : decode cL_isMove 829 = .ok (.iload 12, 2) := by decide +kernel
theorem dL_isMove_831 : decode cL_isMove 831 = .ok (.iload 13, 2) := by decide +kernel
theorem dL_isMove_833 : decode cL_isMove 833 = .ok (.if_icmp .eq 7, 3) := by decide +kernel
theorem dL_isMove_836 : decode cL_isMove 836 = .ok (.iconst 1, 1) := by decide +kernel
theorem dL_isMove_837 : decode cL_isMove 837 = .ok (.goto 4, 3) := by decide +kernel
theorem dL_isMove_840 : decode cL_isMove 840 = .ok (.iconst 0, 1) := by decide +kernel
theorem dL_isMove_841 : decode cL_isMove 841 = .ok (.istore 18, 2) := by decide +kernel
theorem dL_isMove_843 : decode cL_isMove 843 = .ok (.iload 17, 2) := by decide +kernel
theorem dL_isMove_845 : decode cL_isMove 845 = .ok (.ifCond .eq 40, 3) := by decide +kernel
theorem dL_isMove_848 : decode cL_isMove 848 = .ok (.iload 18, 2) := by decide +kernel
theorem dL_isMove_850 : decode cL_isMove 850 = .ok (.ifCond .eq 35, 3) := by decide +kernel
theorem dL_isMove_853 : decode cL_isMove 853 = .ok (.iload 9, 2) := by decide +kernel
theorem dL_isMove_855 : decode cL_isMove 855 = .ok (.ifCond .eq 30, 3) := by decide +kernel
theorem dL_isMove_858 : decode cL_isMove 858 = .ok (.iload 15, 2) := by decide +kernel
theorem dL_isMove_860 : decode cL_isMove 860 = .ok (.ifCond .eq 25, 3) := by decide +kernel
theorem dL_isMove_863 : decode cL_isMove 863 = .ok (.iload 16, 2) := by decide +kernel
theorem dL_isMove_865 : decode cL_isMove 865 = .ok (.ifCond .eq 20, 3) := by decide +kernel
theorem dL_isMove_868 : decode cL_isMove 868 = .ok (.aload_n 2, 1) := by decide +kernel
theorem dL_isMove_869 : decode cL_isMove 869 = .ok (.iconst 4, 1) := by decide +kernel
theorem dL_isMove_870 : decode cL_isMove 870 = .ok (.iload 14, 2) := by decide +kernel
theorem dL_isMove_872 : decode cL_isMove 872 = .ok (.iadd, 1) := by decide +kernel
theorem dL_isMove_873 : decode cL_isMove 873 = .ok (.iaload, 1) := by decide +kernel
theorem dL_isMove_874 : decode cL_isMove 874 = .ok (.iload 12, 2) := by decide +kernel
theorem dL_isMove_876 : decode cL_isMove 876 = .ok (.iconst 1, 1) := by decide +kernel
theorem dL_isMove_877 : decode cL_isMove 877 = .ok (.iadd, 1) := by decide +kernel
theorem dL_isMove_878 : decode cL_isMove 878 = .ok (.if_icmp .ne 7, 3) := by decide +kernel
theorem dL_isMove_881 : decode cL_isMove 881 = .ok (.iconst 1, 1) := by decide +kernel
theorem dL_isMove_882 : decode cL_isMove 882 = .ok (.goto 4, 3) := by decide +kernel
theorem dL_isMove_885 : decode cL_isMove 885 = .ok (.iconst 0, 1) := by decide +kernel
theorem dL_isMove_886 : decode cL_isMove 886 = .ok (.istore 19, 2) := by decide +kernel
theorem dL_isMove_888 : decode cL_isMove 888 = .ok (.aload_n 2, 1) := by decide +kernel
theorem dL_isMove_889 : decode cL_isMove 889 = .ok (.iload 19, 2) := by decide +kernel
theorem dL_isMove_891 : decode cL_isMove 891 = .ok (.ifCond .eq 10, 3) := by decide +kernel
theorem dL_isMove_894 : decode cL_isMove 894 = .ok (.iconst 4, 1) := by decide +kernel
theorem dL_isMove_895 : decode cL_isMove 895 = .ok (.iload 14, 2) := by decide +kernel
theorem dL_isMove_897 : decode cL_isMove 897 = .ok (.iadd, 1) := by decide +kernel
theorem dL_isMove_898 : decode cL_isMove 898 = .ok (.goto 5, 3) := by decide +kernel
theorem dL_isMove_901 : decode cL_isMove 901 = .ok (.bipush 8, 2) := by decide +kernel
theorem dL_isMove_903 : decode cL_isMove 903 = .ok (.iload 13, 2) := by decide +kernel
theorem dL_isMove_905 : decode cL_isMove 905 = .ok (.iconst 1, 1) := by decide +kernel
theorem dL_isMove_906 : decode cL_isMove 906 = .ok (.iadd, 1) := by decide +kernel
theorem dL_isMove_907 : decode cL_isMove 907 = .ok (.iastore, 1) := by decide +kernel
theorem dL_isMove_908 : decode cL_isMove 908 = .ok (.aload_n 0, 1) := by decide +kernel
theorem dL_isMove_909 : decode cL_isMove 909 = .ok (.bipush 13, 2) := by decide +kernel
theorem dL_isMove_911 : decode cL_isMove 911 = .ok (.iload 12, 2) := by decide +kernel
theorem dL_isMove_913 : decode cL_isMove 913 = .ok (.iload 13, 2) := by decide +kernel
theorem dL_isMove_915 : decode cL_isMove 915 = .ok (.iload 14, 2) := by decide +kernel
theorem dL_isMove_917 : decode cL_isMove 917 = .ok (.iconst 0, 1) := by decide +kernel
theorem dL_isMove_918 : decode cL_isMove 918 = .ok (.invokestatic 132, 3) := by decide +kernel
theorem dL_isMove_921 : decode cL_isMove 921 = .ok (.iload 17, 2) := by decide +kernel
theorem dL_isMove_923 : decode cL_isMove 923 = .ok (.ifCond .ne 8, 3) := by decide +kernel
theorem dL_isMove_926 : decode cL_isMove 926 = .ok (.ldc 84, 2) := by decide +kernel
theorem dL_isMove_928 : decode cL_isMove 928 = .ok (.goto 58, 3) := by decide +kernel
theorem dL_isMove_931 : decode cL_isMove 931 = .ok (.iload 18, 2) := by decide +kernel
theorem dL_isMove_933 : decode cL_isMove 933 = .ok (.ifCond .ne 8, 3) := by decide +kernel
theorem dL_isMove_936 : decode cL_isMove 936 = .ok (.ldc 87, 2) := by decide +kernel
theorem dL_isMove_938 : decode cL_isMove 938 = .ok (.goto 48, 3) := by decide +kernel
theorem dL_isMove_941 : decode cL_isMove 941 = .ok (.iload 19, 2) := by decide +kernel
theorem dL_isMove_943 : decode cL_isMove 943 = .ok (.ifCond .eq 41, 3) := by decide +kernel
theorem dL_isMove_946 : decode cL_isMove 946 = .ok (.aload 5, 2) := by decide +kernel
theorem dL_isMove_948 : decode cL_isMove 948 = .ok (.iload 10, 2) := by decide +kernel
theorem dL_isMove_950 : decode cL_isMove 950 = .ok (.iconst 1, 1) := by decide +kernel
theorem dL_isMove_951 : decode cL_isMove 951 = .ok (.bipush 8, 2) := by decide +kernel
theorem dL_isMove_953 : decode cL_isMove 953 = .ok (.iload 12, 2) := by decide +kernel
theorem dL_isMove_955 : decode cL_isMove 955 = .ok (.imul, 1) := by decide +kernel
theorem dL_isMove_956 : decode cL_isMove 956 = .ok (.iadd, 1) := by decide +kernel
theorem dL_isMove_957 : decode cL_isMove 957 = .ok (.bipush 64, 2) := by decide +kernel
theorem dL_isMove_959 : decode cL_isMove 959 = .ok (.iload 13, 2) := by decide +kernel
theorem dL_isMove_961 : decode cL_isMove 961 = .ok (.imul, 1) := by decide +kernel
theorem dL_isMove_962 : decode cL_isMove 962 = .ok (.iadd, 1) := by decide +kernel
theorem dL_isMove_963 : decode cL_isMove 963 = .ok (.sipush 512, 3) := by decide +kernel
theorem dL_isMove_966 : decode cL_isMove 966 = .ok (.iload 14, 2) := by decide +kernel
theorem dL_isMove_968 : decode cL_isMove 968 = .ok (.imul, 1) := by decide +kernel
theorem dL_isMove_969 : decode cL_isMove 969 = .ok (.iadd, 1) := by decide +kernel
theorem dL_isMove_970 : decode cL_isMove 970 = .ok (.if_icmp .ne 7, 3) := by decide +kernel
theorem dL_isMove_973 : decode cL_isMove 973 = .ok (.iconst 1, 1) := by decide +kernel
theorem dL_isMove_974 : decode cL_isMove 974 = .ok (.goto 4, 3) := by decide +kernel
theorem dL_isMove_977 : decode cL_isMove 977 = .ok (.iconst 0, 1) := by decide +kernel
theorem dL_isMove_978 : decode cL_isMove 978 = .ok (.invokestatic 137, 3) := by decide +kernel
theorem dL_isMove_981 : decode cL_isMove 981 = .ok (.goto 5, 3) := by decide +kernel
theorem dL_isMove_984 : decode cL_isMove 984 = .ok (.ldc 90, 2) := by decide +kernel
theorem dL_isMove_986 : decode cL_isMove 986 = .ok (.if_icmp .ne 7, 3) := by decide +kernel
theorem dL_isMove_989 : decode cL_isMove 989 = .ok (.iconst 1, 1) := by decide +kernel
theorem dL_isMove_990 : decode cL_isMove 990 = .ok (.goto 4, 3) := by decide +kernel
theorem dL_isMove_993 : decode cL_isMove 993 = .ok (.iconst 0, 1) := by decide +kernel
theorem dL_isMove_994 : decode cL_isMove 994 = .ok (.ireturn, 1) := by decide +kernel
theorem dL_isMove_995 : decode cL_isMove 995 = .ok (.iload 6, 2) := by decide +kernel
theorem dL_isMove_997 : decode cL_isMove 997 = .ok (.bipush 8, 2) := by decide +kernel
theorem dL_isMove_999 : decode cL_isMove 999 = .ok (.if_icmp .ne 121, 3) := by decide +kernel
theorem dL_isMove_1002 : decode cL_isMove 1002 = .ok (.iload 12, 2) := by decide +kernel
theorem dL_isMove_1004 : decode cL_isMove 1004 = .ok (.bipush 6, 2) := by decide +kernel
theorem dL_isMove_1006 : decode cL_isMove 1006 = .ok (.if_icmp .ge 13, 3) := by decide +kernel
theorem dL_isMove_1009 : decode cL_isMove 1009 = .ok (.iload 14, 2) := by decide +kernel
theorem dL_isMove_1011 : decode cL_isMove 1011 = .ok (.iconst 4, 1) := by decide +kernel
theorem dL_isMove_1012 : decode cL_isMove 1012 = .ok (.if_icmp .ge 7, 3) := by decide +kernel
theorem dL_isMove_1015 : decode cL_isMove 1015 = .ok (.iconst 1, 1) := by decide +kernel
theorem dL_isMove_1016 : decode cL_isMove 1016 = .ok (.goto 4, 3) := by decide +kernel
theorem dL_isMove_1019 : decode cL_isMove 1019 = .ok (.iconst 0, 1) := by decide +kernel
theorem dL_isMove_1020 : decode cL_isMove 1020 = .ok (.istore 17, 2) := by decide +kernel
theorem dL_isMove_1022 : decode cL_isMove 1022 = .ok (.iload 17, 2) := by decide +kernel
theorem dL_isMove_1024 : decode cL_isMove 1024 = .ok (.ifCond .eq 26, 3) := by decide +kernel
theorem dL_isMove_1027 : decode cL_isMove 1027 = .ok (.iload 9, 2) := by decide +kernel
theorem dL_isMove_1029 : decode cL_isMove 1029 = .ok (.ifCond .eq 21, 3) := by decide +kernel
theorem dL_isMove_1032 : decode cL_isMove 1032 = .ok (.iload 15, 2) := by decide +kernel
theorem dL_isMove_1034 : decode cL_isMove 1034 = .ok (.ifCond .eq 16, 3) := by decide +kernel
theorem dL_isMove_1037 : decode cL_isMove 1037 = .ok (.aload_n 2, 1) := by decide +kernel
theorem dL_isMove_1038 : decode cL_isMove 1038 = .ok (.iconst 4, 1) := by decide +kernel
theorem dL_isMove_1039 : decode cL_isMove 1039 = .ok (.iload 14, 2) := by decide +kernel
theorem dL_isMove_1041 : decode cL_isMove 1041 = .ok (.iadd, 1) := by decide +kernel
theorem dL_isMove_1042 : decode cL_isMove 1042 = .ok (.iaload, 1) := by decide +kernel
theorem dL_isMove_1043 : decode cL_isMove 1043 = .ok (.ifCond .ne 7, 3) := by decide +kernel
theorem dL_isMove_1046 : decode cL_isMove 1046 = .ok (.iconst 1, 1) := by decide +kernel
theorem dL_isMove_1047 : decode cL_isMove 1047 = .ok (.goto 4, 3) := by decide +kernel
theorem dL_isMove_1050 : decode cL_isMove 1050 = .ok (.iconst 0, 1) := by decide +kernel
theorem dL_isMove_1051 : decode cL_isMove 1051 = .ok (.istore 18, 2) := by decide +kernel
theorem dL_isMove_1053 : decode cL_isMove 1053 = .ok (.aload_n 2, 1) := by decide +kernel
theorem dL_isMove_1054 : decode cL_isMove 1054 = .ok (.iload 18, 2) := by decide +kernel
theorem dL_isMove_1056 : decode cL_isMove 1056 = .ok (.ifCond .eq 10, 3) := by decide +kernel
theorem dL_isMove_1059 : decode cL_isMove 1059 = .ok (.iconst 4, 1) := by decide +kernel
theorem dL_isMove_1060 : decode cL_isMove 1060 = .ok (.iload 14, 2) := by decide +kernel
theorem dL_isMove_1062 : decode cL_isMove 1062 = .ok (.iadd, 1) := by decide +kernel
theorem dL_isMove_1063 : decode cL_isMove 1063 = .ok (.goto 5, 3) := by decide +kernel
theorem dL_isMove_1066 : decode cL_isMove 1066 = .ok (.bipush 8, 2) := by decide +kernel
theorem dL_isMove_1068 : decode cL_isMove 1068 = .ok (.iload 12, 2) := by decide +kernel
theorem dL_isMove_1070 : decode cL_isMove 1070 = .ok (.iconst 1, 1) := by decide +kernel
theorem dL_isMove_1071 : decode cL_isMove 1071 = .ok (.iadd, 1) := by decide +kernel
theorem dL_isMove_1072 : decode cL_isMove 1072 = .ok (.iastore, 1) := by decide +kernel
theorem dL_isMove_1073 : decode cL_isMove 1073 = .ok (.aload_n 0, 1) := by decide +kernel
theorem dL_isMove_1074 : decode cL_isMove 1074 = .ok (.bipush 14, 2) := by decide +kernel
theorem dL_isMove_1076 : decode cL_isMove 1076 = .ok (.iload 12, 2) := by decide +kernel
theorem dL_isMove_1078 : decode cL_isMove 1078 = .ok (.iload 14, 2) := by decide +kernel
theorem dL_isMove_1080 : decode cL_isMove 1080 = .ok (.iconst 0, 1) := by decide +kernel
theorem dL_isMove_1081 : decode cL_isMove 1081 = .ok (.iconst 0, 1) := by decide +kernel
theorem dL_isMove_1082 : decode cL_isMove 1082 = .ok (.invokestatic 132, 3) := by decide +kernel
theorem dL_isMove_1085 : decode cL_isMove 1085 = .ok (.iload 17, 2) := by decide +kernel
theorem dL_isMove_1087 : decode cL_isMove 1087 = .ok (.ifCond .ne 8, 3) := by decide +kernel
theorem dL_isMove_1090 : decode cL_isMove 1090 = .ok (.ldc 84, 2) := by decide +kernel
theorem dL_isMove_1092 : decode cL_isMove 1092 = .ok (.goto 19, 3) := by decide +kernel
theorem dL_isMove_1095 : decode cL_isMove 1095 = .ok (.iload 18, 2) := by decide +kernel
theorem dL_isMove_1097 : decode cL_isMove 1097 = .ok (.ifCond .eq 12, 3) := by decide +kernel
theorem dL_isMove_1100 : decode cL_isMove 1100 = .ok (.aload 5, 2) := by decide +kernel
theorem dL_isMove_1102 : decode cL_isMove 1102 = .ok (.iconst 0, 1) := by decide +kernel
theorem dL_isMove_1103 : decode cL_isMove 1103 = .ok (.invokestatic 137, 3) := by decide +kernel
theorem dL_isMove_1106 : decode cL_isMove 1106 = .ok (.goto 5, 3) := by decide +kernel
theorem dL_isMove_1109 : decode cL_isMove 1109 = .ok (.ldc 90, 2) := by decide +kernel
theorem dL_isMove_1111 : decode cL_isMove 1111 = .ok (.if_icmp .ne 7, 3) := by decide +kernel
theorem dL_isMove_1114 : decode cL_isMove 1114 = .ok (.iconst 1, 1) := by decide +kernel
theorem dL_isMove_1115 : decode cL_isMove 1115 = .ok (.goto 4, 3) := by decide +kernel
theorem dL_isMove_1118 : decode cL_isMove 1118 = .ok (.iconst 0, 1) := by decide +kernel
theorem dL_isMove_1119 : decode cL_isMove 1119 = .ok (.ireturn, 1) := by decide +kernel
theorem dL_isMove_1120 : decode cL_isMove 1120 = .ok (.iload 6, 2) := by decide +kernel
theorem dL_isMove_1122 : decode cL_isMove 1122 = .ok (.bipush 11, 2) := by decide +kernel
theorem dL_isMove_1124 : decode cL_isMove 1124 = .ok (.if_icmp .ge 199, 3) := by decide +kernel
theorem dL_isMove_1127 : decode cL_isMove 1127 = .ok (.iload 12, 2) := by decide +kernel
theorem dL_isMove_1129 : decode cL_isMove 1129 = .ok (.iload 13, 2) := by decide +kernel
theorem dL_isMove_1131 : decode cL_isMove 1131 = .ok (.if_icmp .eq 7, 3) := by decide +kernel
theorem dL_isMove_1134 : decode cL_isMove 1134 = .ok (.iconst 1, 1) := by decide +kernel
theorem dL_isMove_1135 : decode cL_isMove 1135 = .ok (.goto 4, 3) := by decide +kernel
theorem dL_isMove_1138 : decode cL_isMove 1138 = .ok (.iconst 0, 1) := by decide +kernel
theorem dL_isMove_1139 : decode cL_isMove 1139 = .ok (.istore 17, 2) := by decide +kernel
theorem dL_isMove_1141 : decode cL_isMove 1141 = .ok (.iload 12, 2) := by decide +kernel
theorem dL_isMove_1143 : decode cL_isMove 1143 = .ok (.bipush 6, 2) := by decide +kernel
theorem dL_isMove_1145 : decode cL_isMove 1145 = .ok (.if_icmp .ge 27, 3) := by decide +kernel
theorem dL_isMove_1148 : decode cL_isMove 1148 = .ok (.iload 17, 2) := by decide +kernel
theorem dL_isMove_1150 : decode cL_isMove 1150 = .ok (.ifCond .eq 22, 3) := by decide +kernel
theorem dL_isMove_1153 : decode cL_isMove 1153 = .ok (.iload 9, 2) := by decide +kernel
theorem dL_isMove_1155 : decode cL_isMove 1155 = .ok (.ifCond .eq 17, 3) := by decide +kernel
theorem dL_isMove_1158 : decode cL_isMove 1158 = .ok (.iload 15, 2) := by decide +kernel
theorem dL_isMove_1160 : decode cL_isMove 1160 = .ok (.ifCond .eq 12, 3) := by decide +kernel
theorem dL_isMove_1163 : decode cL_isMove 1163 = .ok (.iload 16, 2) := by decide +kernel
theorem dL_isMove_1165 : decode cL_isMove 1165 = .ok (.ifCond .eq 7, 3) := by decide +kernel
theorem dL_isMove_1168 : decode cL_isMove 1168 = .ok (.iconst 1, 1) := by decide +kernel
theorem dL_isMove_1169 : decode cL_isMove 1169 = .ok (.goto 4, 3) := by decide +kernel
theorem dL_isMove_1172 : decode cL_isMove 1172 = .ok (.iconst 0, 1) := by decide +kernel
theorem dL_isMove_1173 : decode cL_isMove 1173 = .ok (.istore 18, 2) := by decide +kernel
theorem dL_isMove_1175 : decode cL_isMove 1175 = .ok (.iload 8, 2) := by decide +kernel
theorem dL_isMove_1177 : decode cL_isMove 1177 = .ok (.iconst 4, 1) := by decide +kernel
theorem dL_isMove_1178 : decode cL_isMove 1178 = .ok (.idiv, 1) := by decide +kernel
theorem dL_isMove_1179 : decode cL_isMove 1179 = .ok (.iconst 2, 1) := by decide +kernel
theorem dL_isMove_1180 : decode cL_isMove 1180 = .ok (.irem, 1) := by decide +kernel
theorem dL_isMove_1181 : decode cL_isMove 1181 = .ok (.ifCond .ne 8, 3) := by decide +kernel
theorem dL_isMove_1184 : decode cL_isMove 1184 = .ok (.iload 12, 2) := by decide +kernel
theorem dL_isMove_1186 : decode cL_isMove 1186 = .ok (.goto 5, 3) := by decide +kernel
theorem dL_isMove_1189 : decode cL_isMove 1189 = .ok (.iload 13, 2) := by decide +kernel
theorem dL_isMove_1191 : decode cL_isMove 1191 = .ok (.istore 19, 2) := by decide +kernel
theorem dL_isMove_1193 : decode cL_isMove 1193 = .ok (.iload 19, 2) := by decide +kernel
theorem dL_isMove_1195 : decode cL_isMove 1195 = .ok (.iload 12, 2) := by decide +kernel
theorem dL_isMove_1197 : decode cL_isMove 1197 = .ok (.if_icmp .ne 8, 3) := by decide +kernel
theorem dL_isMove_1200 : decode cL_isMove 1200 = .ok (.iload 13, 2) := by decide +kernel
theorem dL_isMove_1202 : decode cL_isMove 1202 = .ok (.goto 5, 3) := by decide +kernel
theorem dL_isMove_1205 : decode cL_isMove 1205 = .ok (.iload 12, 2) := by decide +kernel
theorem dL_isMove_1207 : decode cL_isMove 1207 = .ok (.istore 20, 2) := by decide +kernel
theorem dL_isMove_1209 : decode cL_isMove 1209 = .ok (.iload 10, 2) := by decide +kernel
theorem dL_isMove_1211 : decode cL_isMove 1211 = .ok (.bipush 8, 2) := by decide +kernel
theorem dL_isMove_1213 : decode cL_isMove 1213 = .ok (.irem, 1) := by decide +kernel
theorem dL_isMove_1214 : decode cL_isMove 1214 = .ok (.iconst 4, 1) := by decide +kernel
theorem dL_isMove_1215 : decode cL_isMove 1215 = .ok (.if_icmp .ne 45, 3) := by decide +kernel
theorem dL_isMove_1218 : decode cL_isMove 1218 = .ok (.iload 10, 2) := by decide +kernel
theorem dL_isMove_1220 : decode cL_isMove 1220 = .ok (.bipush 8, 2) := by decide +kernel
theorem dL_isMove_1222 : decode cL_isMove 1222 = .ok (.idiv, 1) := by decide +kernel
theorem dL_isMove_1223 : decode cL_isMove 1223 = .ok (.bipush 64, 2) := by decide +kernel
theorem dL_isMove_1225 : decode cL_isMove 1225 = .ok (.irem, 1) := by decide +kernel
theorem dL_isMove_1226 : decode cL_isMove 1226 = .ok (.iload 12, 2) := by decide +kernel
theorem dL_isMove_1228 : decode cL_isMove 1228 = .ok (.bipush 8, 2) := by decide +kernel
theorem dL_isMove_1230 : decode cL_isMove 1230 = .ok (.iload 13, 2) := by decide +kernel
theorem dL_isMove_1232 : decode cL_isMove 1232 = .ok (.imul, 1) := by decide +kernel
theorem dL_isMove_1233 : decode cL_isMove 1233 = .ok (.iadd, 1) := by decide +kernel
theorem dL_isMove_1234 : decode cL_isMove 1234 = .ok (.if_icmp .eq 22, 3) := by decide +kernel
theorem dL_isMove_1237 : decode cL_isMove 1237 = .ok (.iload 10, 2) := by decide +kernel
theorem dL_isMove_1239 : decode cL_isMove 1239 = .ok (.bipush 8, 2) := by decide +kernel
theorem dL_isMove_1241 : decode cL_isMove 1241 = .ok (.idiv, 1) := by decide +kernel
theorem dL_isMove_1242 : decode cL_isMove 1242 = .ok (.bipush 64, 2) := by decide +kernel
theorem dL_isMove_1244 : decode cL_isMove 1244 = .ok (.irem, 1) := by decide +kernel
theorem dL_isMove_1245 : decode cL_isMove 1245 = .ok (.iload 13, 2) := by decide +kernel
theorem dL_isMove_1247 : decode cL_isMove 1247 = .ok (.bipush 8, 2) := by decide +kernel
theorem dL_isMove_1249 : decode cL_isMove 1249 = .ok (.iload 12, 2) := by decide +kernel
theorem dL_isMove_1251 : decode cL_isMove 1251 = .ok (.imul, 1) := by decide +kernel
theorem dL_isMove_1252 : decode cL_isMove 1252 = .ok (.iadd, 1) := by decide +kernel
theorem dL_isMove_1253 : decode cL_isMove 1253 = .ok (.if_icmp .ne 7, 3) := by decide +kernel
theorem dL_isMove_1256 : decode cL_isMove 1256 = .ok (.iconst 1, 1) := by decide +kernel
theorem dL_isMove_1257 : decode cL_isMove 1257 = .ok (.goto 4, 3) := by decide +kernel
theorem dL_isMove_1260 : decode cL_isMove 1260 = .ok (.iconst 0, 1) := by decide +kernel
theorem dL_isMove_1261 : decode cL_isMove 1261 = .ok (.istore 21, 2) := by decide +kernel
theorem dL_isMove_1263 : decode cL_isMove 1263 = .ok (.aload_n 0, 1) := by decide +kernel
theorem dL_isMove_1264 : decode cL_isMove 1264 = .ok (.bipush 15, 2) := by decide +kernel
theorem dL_isMove_1266 : decode cL_isMove 1266 = .ok (.iload 19, 2) := by decide +kernel
theorem dL_isMove_1268 : decode cL_isMove 1268 = .ok (.iload 20, 2) := by decide +kernel
theorem dL_isMove_1270 : decode cL_isMove 1270 = .ok (.iconst 0, 1) := by decide +kernel
theorem dL_isMove_1271 : decode cL_isMove 1271 = .ok (.iconst 0, 1) := by decide +kernel
theorem dL_isMove_1272 : decode cL_isMove 1272 = .ok (.invokestatic 132, 3) := by decide +kernel
theorem dL_isMove_1275 : decode cL_isMove 1275 = .ok (.iload 12, 2) := by decide +kernel
theorem dL_isMove_1277 : decode cL_isMove 1277 = .ok (.bipush 6, 2) := by decide +kernel
theorem dL_isMove_1279 : decode cL_isMove 1279 = .ok (.if_icmp .ne 8, 3) := by decide +kernel
theorem dL_isMove_1282 : decode cL_isMove 1282 = .ok (.ldc 84, 2) := by decide +kernel
theorem dL_isMove_1284 : decode cL_isMove 1284 = .ok (.goto 30, 3) := by decide +kernel
theorem dL_isMove_1287 : decode cL_isMove 1287 = .ok (.iload 17, 2) := by decide +kernel
theorem dL_isMove_1289 : decode cL_isMove 1289 = .ok (.ifCond .ne 8, 3) := by decide +kernel
theorem dL_isMove_1292 : decode cL_isMove 1292 = .ok (.ldc 87, 2) := by decide +kernel
theorem dL_isMove_1294 : decode cL_isMove 1294 = .ok (.goto 20, 3) := by decide +kernel
theorem dL_isMove_1297 : decode cL_isMove 1297 = .ok (.iload 18, 2) := by decide +kernel
theorem dL_isMove_1299 : decode cL_isMove 1299 = .ok (.ifCond .eq 13, 3) := by decide +kernel
theorem dL_isMove_1302 : decode cL_isMove 1302 = .ok (.aload 5, 2) := by decide +kernel
theorem dL_isMove_1304 : decode cL_isMove 1304 = .ok (.iload 21, 2) := by decide +kernel
theorem dL_isMove_1306 : decode cL_isMove 1306 = .ok (.invokestatic 137, 3) := by decide +kernel
theorem dL_isMove_1309 : decode cL_isMove 1309 = .ok (.goto 5, 3) := by decide +kernel
theorem dL_isMove_1312 : decode cL_isMove 1312 = .ok (.ldc 90, 2) := by decide +kernel
theorem dL_isMove_1314 : decode cL_isMove 1314 = .ok (.if_icmp .ne 7, 3) := by decide +kernel
theorem dL_isMove_1317 : decode cL_isMove 1317 = .ok (.iconst 1, 1) := by decide +kernel
theorem dL_isMove_1318 : decode cL_isMove 1318 = .ok (.goto 4, 3) := by decide +kernel
theorem dL_isMove_1321 : decode cL_isMove 1321 = .ok (.iconst 0, 1) := by decide +kernel
theorem dL_isMove_1322 : decode cL_isMove 1322 = .ok (.ireturn, 1) := by decide +kernel
theorem dL_isMove_1323 : decode cL_isMove 1323 = .ok (.iload 8, 2) := by decide +kernel
theorem dL_isMove_1325 : decode cL_isMove 1325 = .ok (.iconst 4, 1) := by decide +kernel
theorem dL_isMove_1326 : decode cL_isMove 1326 = .ok (.idiv, 1) := by decide +kernel
theorem dL_isMove_1327 : decode cL_isMove 1327 = .ok (.aload 5, 2) := by decide +kernel
theorem dL_isMove_1329 : decode cL_isMove 1329 = .ok (.iconst 3, 1) := by decide +kernel
theorem dL_isMove_1330 : decode cL_isMove 1330 = .ok (.iaload, 1) := by decide +kernel
theorem dL_isMove_1331 : decode cL_isMove 1331 = .ok (.iconst 1, 1) := by decide +kernel
theorem dL_isMove_1332 : decode cL_isMove 1332 = .ok (.iadd, 1) := by decide +kernel
theorem dL_isMove_1333 : decode cL_isMove 1333 = .ok (.irem, 1) := by decide +kernel
theorem dL_isMove_1334 : decode cL_isMove 1334 = .ok (.istore 17, 2) := by decide +kernel
theorem dL_isMove_1336 : decode cL_isMove 1336 = .ok (.iload 17, 2) := by decide +kernel
theorem dL_isMove_1338 : decode cL_isMove 1338 = .ok (.aload 5, 2) := by decide +kernel
theorem dL_isMove_1340 : decode cL_isMove 1340 = .ok (.iconst 3, 1) := by decide +kernel
theorem dL_isMove_1341 : decode cL_isMove 1341 = .ok (.iaload, 1) := by decide +kernel
theorem dL_isMove_1342 : decode cL_isMove 1342 = .ok (.if_icmp .ge 14, 3) := by decide +kernel
theorem dL_isMove_1345 : decode cL_isMove 1345 = .ok (.iload 12, 2) := by decide +kernel
theorem dL_isMove_1347 : decode cL_isMove 1347 = .ok (.bipush 6, 2) := by decide +kernel
theorem dL_isMove_1349 : decode cL_isMove 1349 = .ok (.if_icmp .ge 7, 3) := by decide +kernel
theorem dL_isMove_1352 : decode cL_isMove 1352 = .ok (.iconst 1, 1) := by decide +kernel
theorem dL_isMove_1353 : decode cL_isMove 1353 = .ok (.goto 4, 3) := by decide +kernel
theorem dL_isMove_1356 : decode cL_isMove 1356 = .ok (.iconst 0, 1) := by decide +kernel
theorem dL_isMove_1357 : decode cL_isMove 1357 = .ok (.istore 18, 2) := by decide +kernel
theorem dL_isMove_1359 : decode cL_isMove 1359 = .ok (.iload 18, 2) := by decide +kernel
theorem dL_isMove_1361 : decode cL_isMove 1361 = .ok (.ifCond .eq 16, 3) := by decide +kernel
theorem dL_isMove_1364 : decode cL_isMove 1364 = .ok (.aload 4, 2) := by decide +kernel
theorem dL_isMove_1366 : decode cL_isMove 1366 = .ok (.iload 17, 2) := by decide +kernel
theorem dL_isMove_1368 : decode cL_isMove 1368 = .ok (.iaload, 1) := by decide +kernel
theorem dL_isMove_1369 : decode cL_isMove 1369 = .ok (.ldc 136, 2) := by decide +kernel
theorem dL_isMove_1371 : decode cL_isMove 1371 = .ok (.idiv, 1) := by decide +kernel
theorem dL_isMove_1372 : decode cL_isMove 1372 = .ok (.iconst 1, 1) := by decide +kernel
theorem dL_isMove_1373 : decode cL_isMove 1373 = .ok (.isub, 1) := by decide +kernel
theorem dL_isMove_1374 : decode cL_isMove 1374 = .ok (.goto 4, 3) := by decide +kernel
theorem dL_isMove_1377 : decode cL_isMove 1377 = .ok (.iconst (-1), 1) := by decide +kernel
theorem dL_isMove_1378 : decode cL_isMove 1378 = .ok (.istore 19, 2) := by decide +kernel
theorem dL_isMove_1380 : decode cL_isMove 1380 = .ok (.iload 18, 2) := by decide +kernel
theorem dL_isMove_1382 : decode cL_isMove 1382 = .ok (.ifCond .eq 35, 3) := by decide +kernel
theorem dL_isMove_1385 : decode cL_isMove 1385 = .ok (.iload 9, 2) := by decide +kernel
theorem dL_isMove_1387 : decode cL_isMove 1387 = .ok (.ifCond .eq 30, 3) := by decide +kernel
theorem dL_isMove_1390 : decode cL_isMove 1390 = .ok (.iload 15, 2) := by decide +kernel
theorem dL_isMove_1392 : decode cL_isMove 1392 = .ok (.ifCond .eq 25, 3) := by decide +kernel
theorem dL_isMove_1395 : decode cL_isMove 1395 = .ok (.iload 19, 2) := by decide +kernel
theorem dL_isMove_1397 : decode cL_isMove 1397 = .ok (.ifCond .lt 16, 3) := by decide +kernel
theorem dL_isMove_1400 : decode cL_isMove 1400 = .ok (.aload_n 2, 1) := by decide +kernel
theorem dL_isMove_1401 : decode cL_isMove 1401 = .ok (.iconst 4, 1) := by decide +kernel
theorem dL_isMove_1402 : decode cL_isMove 1402 = .ok (.iload 19, 2) := by decide +kernel
theorem dL_isMove_1404 : decode cL_isMove 1404 = .ok (.iadd, 1) := by decide +kernel
theorem dL_isMove_1405 : decode cL_isMove 1405 = .ok (.iaload, 1) := by decide +kernel
theorem dL_isMove_1406 : decode cL_isMove 1406 = .ok (.iload 12, 2) := by decide +kernel
theorem dL_isMove_1408 : decode cL_isMove 1408 = .ok (.iconst 1, 1) := by decide +kernel
theorem dL_isMove_1409 : decode cL_isMove 1409 = .ok (.iadd, 1) := by decide +kernel
theorem dL_isMove_1410 : decode cL_isMove 1410 = .ok (.if_icmp .ne 7, 3) := by decide +kernel
theorem dL_isMove_1413 : decode cL_isMove 1413 = .ok (.iconst 1, 1) := by decide +kernel
theorem dL_isMove_1414 : decode cL_isMove 1414 = .ok (.goto 4, 3) := by decide +kernel
theorem dL_isMove_1417 : decode cL_isMove 1417 = .ok (.iconst 0, 1) := by decide +kernel
theorem dL_isMove_1418 : decode cL_isMove 1418 = .ok (.istore 20, 2) := by decide +kernel
theorem dL_isMove_1420 : decode cL_isMove 1420 = .ok (.iconst 0, 1) := by decide +kernel
theorem dL_isMove_1421 : decode cL_isMove 1421 = .ok (.istore 21, 2) := by decide +kernel
theorem dL_isMove_1423 : decode cL_isMove 1423 = .ok (.iload 20, 2) := by decide +kernel
theorem dL_isMove_1425 : decode cL_isMove 1425 = .ok (.ifCond .eq 112, 3) := by decide +kernel
theorem dL_isMove_1428 : decode cL_isMove 1428 = .ok (.aload 4, 2) := by decide +kernel
theorem dL_isMove_1430 : decode cL_isMove 1430 = .ok (.iload 17, 2) := by decide +kernel
theorem dL_isMove_1432 : decode cL_isMove 1432 = .ok (.iaload, 1) := by decide +kernel
theorem dL_isMove_1433 : decode cL_isMove 1433 = .ok (.bipush 32, 2) := by decide +kernel
theorem dL_isMove_1435 : decode cL_isMove 1435 = .ok (.idiv, 1) := by decide +kernel
theorem dL_isMove_1436 : decode cL_isMove 1436 = .ok (.sipush 1024, 3) := by decide +kernel
theorem dL_isMove_1439 : decode cL_isMove 1439 = .ok (.irem, 1) := by decide +kernel
theorem dL_isMove_1440 : decode cL_isMove 1440 = .ok (.istore 21, 2) := by decide +kernel
theorem dL_isMove_1442 : decode cL_isMove 1442 = .ok (.iconst 0, 1) := by decide +kernel
theorem dL_isMove_1443 : decode cL_isMove 1443 = .ok (.istore 22, 2) := by decide +kernel
theorem dL_isMove_1445 : decode cL_isMove 1445 = .ok (.iload 22, 2) := by decide +kernel
theorem dL_isMove_1447 : decode cL_isMove 1447 = .ok (.aload 4, 2) := by decide +kernel
theorem dL_isMove_1449 : decode cL_isMove 1449 = .ok (.bipush 6, 2) := by decide +kernel
theorem dL_isMove_1451 : decode cL_isMove 1451 = .ok (.iload 17, 2) := by decide +kernel
theorem dL_isMove_1453 : decode cL_isMove 1453 = .ok (.iadd, 1) := by decide +kernel
theorem dL_isMove_1454 : decode cL_isMove 1454 = .ok (.iaload, 1) := by decide +kernel
theorem dL_isMove_1455 : decode cL_isMove 1455 = .ok (.if_icmp .ge 15, 3) := by decide +kernel
theorem dL_isMove_1458 : decode cL_isMove 1458 = .ok (.iload 21, 2) := by decide +kernel
theorem dL_isMove_1460 : decode cL_isMove 1460 = .ok (.iconst 2, 1) := by decide +kernel
theorem dL_isMove_1461 : decode cL_isMove 1461 = .ok (.idiv, 1) := by decide +kernel
theorem dL_isMove_1462 : decode cL_isMove 1462 = .ok (.istore 21, 2) := by decide +kernel
theorem dL_isMove_1464 : decode cL_isMove 1464 = .ok (.iinc 22 1, 3) := by decide +kernel
theorem dL_isMove_1467 : decode cL_isMove 1467 = .ok (.goto (-22), 3) := by decide +kernel
theorem dL_isMove_1470 : decode cL_isMove 1470 = .ok (.aload 4, 2) := by decide +kernel
theorem dL_isMove_1472 : decode cL_isMove 1472 = .ok (.bipush 6, 2) := by decide +kernel
theorem dL_isMove_1474 : decode cL_isMove 1474 = .ok (.iload 17, 2) := by decide +kernel
theorem dL_isMove_1476 : decode cL_isMove 1476 = .ok (.iadd, 1) := by decide +kernel
theorem dL_isMove_1477 : decode cL_isMove 1477 = .ok (.dup2, 1) := by decide +kernel
theorem dL_isMove_1478 : decode cL_isMove 1478 = .ok (.iaload, 1) := by decide +kernel
theorem dL_isMove_1479 : decode cL_isMove 1479 = .ok (.iconst 1, 1) := by decide +kernel
