theorem dL_isMove_1480 : decode cL_isMove 1480 = .ok (.iadd, 1) := by decide +kernel
theorem dL_isMove_1481 : decode cL_isMove 1481 = .ok (.iastore, 1) := by decide +kernel
theorem dL_isMove_1482 : decode cL_isMove 1482 = .ok (.aload 5, 2) := by decide +kernel
theorem dL_isMove_1484 : decode cL_isMove 1484 = .ok (.bipush 10, 2) := by decide +kernel
theorem dL_isMove_1486 : decode cL_isMove 1486 = .ok (.dup2, 1) := by decide +kernel
theorem dL_isMove_1487 : decode cL_isMove 1487 = .ok (.iaload, 1) := by decide +kernel
theorem dL_isMove_1488 : decode cL_isMove 1488 = .ok (.iload 21, 2) := by decide +kernel
theorem dL_isMove_1490 : decode cL_isMove 1490 = .ok (.iadd, 1) := by decide +kernel
theorem dL_isMove_1491 : decode cL_isMove 1491 = .ok (.iastore, 1) := by decide +kernel
theorem dL_isMove_1492 : decode cL_isMove 1492 = .ok (.aload 4, 2) := by decide +kernel
theorem dL_isMove_1494 : decode cL_isMove 1494 = .ok (.iload 17, 2) := by decide +kernel
theorem dL_isMove_1496 : decode cL_isMove 1496 = .ok (.iaload, 1) := by decide +kernel
theorem dL_isMove_1497 : decode cL_isMove 1497 = .ok (.bipush 32, 2) := by decide +kernel
theorem dL_isMove_1499 : decode cL_isMove 1499 = .ok (.irem, 1) := by decide +kernel
theorem dL_isMove_1500 : decode cL_isMove 1500 = .ok (.istore 22, 2) := by decide +kernel
theorem dL_isMove_1502 : decode cL_isMove 1502 = .ok (.aload 5, 2) := by decide +kernel
theorem dL_isMove_1504 : decode cL_isMove 1504 = .ok (.iload 22, 2) := by decide +kernel
theorem dL_isMove_1506 : decode cL_isMove 1506 = .ok (.aload 5, 2) := by decide +kernel
theorem dL_isMove_1508 : decode cL_isMove 1508 = .ok (.iconst 5, 1) := by decide +kernel
theorem dL_isMove_1509 : decode cL_isMove 1509 = .ok (.iaload, 1) := by decide +kernel
theorem dL_isMove_1510 : decode cL_isMove 1510 = .ok (.aload 5, 2) := by decide +kernel
theorem dL_isMove_1512 : decode cL_isMove 1512 = .ok (.bipush 6, 2) := by decide +kernel
theorem dL_isMove_1514 : decode cL_isMove 1514 = .ok (.iaload, 1) := by decide +kernel
theorem dL_isMove_1515 : decode cL_isMove 1515 = .ok (.isub, 1) := by decide +kernel
theorem dL_isMove_1516 : decode cL_isMove 1516 = .ok (.if_icmp .ge 8, 3) := by decide +kernel
theorem dL_isMove_1519 : decode cL_isMove 1519 = .ok (.iload 22, 2) := by decide +kernel
theorem dL_isMove_1521 : decode cL_isMove 1521 = .ok (.goto 13, 3) := by decide +kernel
theorem dL_isMove_1524 : decode cL_isMove 1524 = .ok (.aload 5, 2) := by decide +kernel
theorem dL_isMove_1526 : decode cL_isMove 1526 = .ok (.iconst 5, 1) := by decide +kernel
theorem dL_isMove_1527 : decode cL_isMove 1527 = .ok (.iaload, 1) := by decide +kernel
theorem dL_isMove_1528 : decode cL_isMove 1528 = .ok (.aload 5, 2) := by decide +kernel
theorem dL_isMove_1530 : decode cL_isMove 1530 = .ok (.bipush 6, 2) := by decide +kernel
theorem dL_isMove_1532 : decode cL_isMove 1532 = .ok (.iaload, 1) := by decide +kernel
theorem dL_isMove_1533 : decode cL_isMove 1533 = .ok (.isub, 1) := by decide +kernel
theorem dL_isMove_1534 : decode cL_isMove 1534 = .ok (.invokestatic 105, 3) := by decide +kernel
theorem dL_isMove_1537 : decode cL_isMove 1537 = .ok (.aload_n 0, 1) := by decide +kernel
theorem dL_isMove_1538 : decode cL_isMove 1538 = .ok (.bipush 16, 2) := by decide +kernel
theorem dL_isMove_1540 : decode cL_isMove 1540 = .ok (.iload 17, 2) := by decide +kernel
theorem dL_isMove_1542 : decode cL_isMove 1542 = .ok (.iload 12, 2) := by decide +kernel
theorem dL_isMove_1544 : decode cL_isMove 1544 = .ok (.iconst 0, 1) := by decide +kernel
theorem dL_isMove_1545 : decode cL_isMove 1545 = .ok (.iconst 0, 1) := by decide +kernel
theorem dL_isMove_1546 : decode cL_isMove 1546 = .ok (.invokestatic 132, 3) := by decide +kernel
theorem dL_isMove_1549 : decode cL_isMove 1549 = .ok (.iload 18, 2) := by decide +kernel
theorem dL_isMove_1551 : decode cL_isMove 1551 = .ok (.ifCond .ne 8, 3) := by decide +kernel
theorem dL_isMove_1554 : decode cL_isMove 1554 = .ok (.ldc 84, 2) := by decide +kernel
theorem dL_isMove_1556 : decode cL_isMove 1556 = .ok (.goto 15, 3) := by decide +kernel
theorem dL_isMove_1559 : decode cL_isMove 1559 = .ok (.iload 20, 2) := by decide +kernel
theorem dL_isMove_1561 : decode cL_isMove 1561 = .ok (.ifCond .eq 8, 3) := by decide +kernel
theorem dL_isMove_1564 : decode cL_isMove 1564 = .ok (.iload 21, 2) := by decide +kernel
theorem dL_isMove_1566 : decode cL_isMove 1566 = .ok (.goto 5, 3) := by decide +kernel
theorem dL_isMove_1569 : decode cL_isMove 1569 = .ok (.ldc 90, 2) := by decide +kernel
theorem dL_isMove_1571 : decode cL_isMove 1571 = .ok (.if_icmp .ne 7, 3) := by decide +kernel
theorem dL_isMove_1574 : decode cL_isMove 1574 = .ok (.iconst 1, 1) := by decide +kernel
theorem dL_isMove_1575 : decode cL_isMove 1575 = .ok (.goto 4, 3) := by decide +kernel
theorem dL_isMove_1578 : decode cL_isMove 1578 = .ok (.iconst 0, 1) := by decide +kernel
theorem dL_isMove_1579 : decode cL_isMove 1579 = .ok (.ireturn, 1) := by decide +kernel
set_option maxRecDepth 20000 in
theorem ggL_law_X7_init : GoodIn wsL_law wsX7_init := goodIn_r _ [10, 11, 12, 13, 14, 15, 16, 17, 18, 19, 20, 21, 22, 23, 24, 25, 26, 27, 28, 29, 30, 31, 32, 33, 34, 35, 36, 37, 38, 39, 40, 41, 3, 42, 43, 44, 45, 46, 47, 48, 49, 50, 51, 52, 53, 54, 55, 56, 57, 58, 59, 60, 61, 62, 63, 64, 65, 66, 67, 68, 69, 70, 71, 72, 73, 74, 75, 76, 77, 78, 79, 80, 81, 82, 83, 84, 85, 86, 87, 88, 89, 90, 91, 92, 93, 94, 95, 96, 97, 98, 99, 497, 498, 499, 500, 501, 481, 482, 483, 484, 485, 486, 487, 488, 489, 490, 491, 492, 493, 494, 495, 496, 502, 503, 504, 505, 506, 507, 508, 509, 510, 511, 512, 513, 514, 515, 516, 517, 518, 519, 520, 521] (by decide +kernel) (by decide +kernel)
set_option maxRecDepth 20000 in
theorem gL_law_X7_init : GoodIn wsL_law (wsX7_init) := ggL_law_X7_init
set_option maxRecDepth 20000 in
theorem ggL_law_L_part : GoodIn wsL_law wsL_part := goodIn_r _ [352, 353] (by decide +kernel) (by decide +kernel)
set_option maxRecDepth 20000 in
theorem gL_law_L_part : GoodIn wsL_law (va_wsS RL 142 yL_part wsL_part) := goodIn_app (goodIn_of _ (by decide +kernel)) ggL_law_L_part
theorem dL_law_0 : decode cL_law 0 = .ok (.new 9, 3) := by decide +kernel
theorem dL_law_3 : decode cL_law 3 = .ok (.dup, 1) := by decide +kernel
theorem dL_law_4 : decode cL_law 4 = .ok (.invokespecial 141, 3) := by decide +kernel
theorem dL_law_7 : decode cL_law 7 = .ok (.astore_n 1, 1) := by decide +kernel
theorem dL_law_8 : decode cL_law 8 = .ok (.bipush 49, 2) := by decide +kernel
theorem dL_law_10 : decode cL_law 10 = .ok (.newarray .int, 2) := by decide +kernel
theorem dL_law_12 : decode cL_law 12 = .ok (.astore_n 2, 1) := by decide +kernel
theorem dL_law_13 : decode cL_law 13 = .ok (.bipush 9, 2) := by decide +kernel
theorem dL_law_15 : decode cL_law 15 = .ok (.newarray .int, 2) := by decide +kernel
theorem dL_law_17 : decode cL_law 17 = .ok (.astore_n 3, 1) := by decide +kernel
theorem dL_law_18 : decode cL_law 18 = .ok (.bipush 13, 2) := by decide +kernel
theorem dL_law_20 : decode cL_law 20 = .ok (.newarray .int, 2) := by decide +kernel
theorem dL_law_22 : decode cL_law 22 = .ok (.astore 4, 2) := by decide +kernel
theorem dL_law_24 : decode cL_law 24 = .ok (.bipush 12, 2) := by decide +kernel
theorem dL_law_26 : decode cL_law 26 = .ok (.newarray .int, 2) := by decide +kernel
theorem dL_law_28 : decode cL_law 28 = .ok (.astore 5, 2) := by decide +kernel
theorem dL_law_30 : decode cL_law 30 = .ok (.bipush 7, 2) := by decide +kernel
theorem dL_law_32 : decode cL_law 32 = .ok (.newarray .int, 2) := by decide +kernel
theorem dL_law_34 : decode cL_law 34 = .ok (.astore 6, 2) := by decide +kernel
theorem dL_law_36 : decode cL_law 36 = .ok (.bipush 13, 2) := by decide +kernel
theorem dL_law_38 : decode cL_law 38 = .ok (.newarray .int, 2) := by decide +kernel
theorem dL_law_40 : decode cL_law 40 = .ok (.astore 7, 2) := by decide +kernel
theorem dL_law_42 : decode cL_law 42 = .ok (.aload 7, 2) := by decide +kernel
theorem dL_law_44 : decode cL_law 44 = .ok (.bipush 7, 2) := by decide +kernel
theorem dL_law_46 : decode cL_law 46 = .ok (.iconst (-1), 1) := by decide +kernel
theorem dL_law_47 : decode cL_law 47 = .ok (.iastore, 1) := by decide +kernel
theorem dL_law_48 : decode cL_law 48 = .ok (.iconst 0, 1) := by decide +kernel
theorem dL_law_49 : decode cL_law 49 = .ok (.istore 8, 2) := by decide +kernel
theorem dL_law_51 : decode cL_law 51 = .ok (.iload 8, 2) := by decide +kernel
theorem dL_law_53 : decode cL_law 53 = .ok (.bipush 6, 2) := by decide +kernel
theorem dL_law_55 : decode cL_law 55 = .ok (.if_icmp .ge 15, 3) := by decide +kernel
theorem dL_law_58 : decode cL_law 58 = .ok (.aload 6, 2) := by decide +kernel
theorem dL_law_60 : decode cL_law 60 = .ok (.iload 8, 2) := by decide +kernel
theorem dL_law_62 : decode cL_law 62 = .ok (.iconst 1, 1) := by decide +kernel
theorem dL_law_63 : decode cL_law 63 = .ok (.iastore, 1) := by decide +kernel
theorem dL_law_64 : decode cL_law 64 = .ok (.iinc 8 1, 3) := by decide +kernel
theorem dL_law_67 : decode cL_law 67 = .ok (.goto (-16), 3) := by decide +kernel
theorem dL_law_70 : decode cL_law 70 = .ok (.aload_n 1, 1) := by decide +kernel
theorem dL_law_71 : decode cL_law 71 = .ok (.bipush 9, 2) := by decide +kernel
theorem dL_law_73 : decode cL_law 73 = .ok (.iconst 5, 1) := by decide +kernel
theorem dL_law_74 : decode cL_law 74 = .ok (.iconst 0, 1) := by decide +kernel
theorem dL_law_75 : decode cL_law 75 = .ok (.iconst 0, 1) := by decide +kernel
theorem dL_law_76 : decode cL_law 76 = .ok (.iconst 0, 1) := by decide +kernel
theorem dL_law_77 : decode cL_law 77 = .ok (.invokestatic 132, 3) := by decide +kernel
theorem dL_law_80 : decode cL_law 80 = .ok (.ldc 90, 2) := by decide +kernel
theorem dL_law_82 : decode cL_law 82 = .ok (.if_icmp .ne 99, 3) := by decide +kernel
theorem dL_law_85 : decode cL_law 85 = .ok (.aload_n 1, 1) := by decide +kernel
theorem dL_law_86 : decode cL_law 86 = .ok (.bipush 9, 2) := by decide +kernel
theorem dL_law_88 : decode cL_law 88 = .ok (.iconst 0, 1) := by decide +kernel
theorem dL_law_89 : decode cL_law 89 = .ok (.iconst 0, 1) := by decide +kernel
theorem dL_law_90 : decode cL_law 90 = .ok (.iconst 0, 1) := by decide +kernel
theorem dL_law_91 : decode cL_law 91 = .ok (.iconst 0, 1) := by decide +kernel
theorem dL_law_92 : decode cL_law 92 = .ok (.invokestatic 132, 3) := by decide +kernel
theorem dL_law_95 : decode cL_law 95 = .ok (.ldc 87, 2) := by decide +kernel
theorem dL_law_97 : decode cL_law 97 = .ok (.if_icmp .ne 84, 3) := by decide +kernel
theorem dL_law_100 : decode cL_law 100 = .ok (.aload_n 1, 1) := by decide +kernel
theorem dL_law_101 : decode cL_law 101 = .ok (.bipush 10, 2) := by decide +kernel
theorem dL_law_103 : decode cL_law 103 = .ok (.bipush 6, 2) := by decide +kernel
theorem dL_law_105 : decode cL_law 105 = .ok (.iconst 0, 1) := by decide +kernel
theorem dL_law_106 : decode cL_law 106 = .ok (.iconst 0, 1) := by decide +kernel
theorem dL_law_107 : decode cL_law 107 = .ok (.iconst 0, 1) := by decide +kernel
theorem dL_law_108 : decode cL_law 108 = .ok (.invokestatic 132, 3) := by decide +kernel
theorem dL_law_111 : decode cL_law 111 = .ok (.ldc 84, 2) := by decide +kernel
theorem dL_law_113 : decode cL_law 113 = .ok (.if_icmp .ne 68, 3) := by decide +kernel
theorem dL_law_116 : decode cL_law 116 = .ok (.aload_n 1, 1) := by decide +kernel
theorem dL_law_117 : decode cL_law 117 = .ok (.bipush 11, 2) := by decide +kernel
theorem dL_law_119 : decode cL_law 119 = .ok (.iconst 0, 1) := by decide +kernel
theorem dL_law_120 : decode cL_law 120 = .ok (.iconst 0, 1) := by decide +kernel
theorem dL_law_121 : decode cL_law 121 = .ok (.iconst 0, 1) := by decide +kernel
theorem dL_law_122 : decode cL_law 122 = .ok (.iconst 0, 1) := by decide +kernel
theorem dL_law_123 : decode cL_law 123 = .ok (.invokestatic 132, 3) := by decide +kernel
theorem dL_law_126 : decode cL_law 126 = .ok (.ldc 90, 2) := by decide +kernel
theorem dL_law_128 : decode cL_law 128 = .ok (.if_icmp .ne 53, 3) := by decide +kernel
theorem dL_law_131 : decode cL_law 131 = .ok (.aload_n 1, 1) := by decide +kernel
theorem dL_law_132 : decode cL_law 132 = .ok (.bipush 17, 2) := by decide +kernel
theorem dL_law_134 : decode cL_law 134 = .ok (.iconst 0, 1) := by decide +kernel
theorem dL_law_135 : decode cL_law 135 = .ok (.iconst 4, 1) := by decide +kernel
theorem dL_law_136 : decode cL_law 136 = .ok (.iconst 0, 1) := by decide +kernel
theorem dL_law_137 : decode cL_law 137 = .ok (.iconst 0, 1) := by decide +kernel
theorem dL_law_138 : decode cL_law 138 = .ok (.invokestatic 132, 3) := by decide +kernel
theorem dL_law_141 : decode cL_law 141 = .ok (.ldc 84, 2) := by decide +kernel
theorem dL_law_143 : decode cL_law 143 = .ok (.if_icmp .ne 38, 3) := by decide +kernel
theorem dL_law_146 : decode cL_law 146 = .ok (.aload_n 1, 1) := by decide +kernel
theorem dL_law_147 : decode cL_law 147 = .ok (.bipush 18, 2) := by decide +kernel
theorem dL_law_149 : decode cL_law 149 = .ok (.iconst 4, 1) := by decide +kernel
theorem dL_law_150 : decode cL_law 150 = .ok (.iconst 0, 1) := by decide +kernel
theorem dL_law_151 : decode cL_law 151 = .ok (.iconst 0, 1) := by decide +kernel
theorem dL_law_152 : decode cL_law 152 = .ok (.iconst 0, 1) := by decide +kernel
theorem dL_law_153 : decode cL_law 153 = .ok (.invokestatic 132, 3) := by decide +kernel
theorem dL_law_156 : decode cL_law 156 = .ok (.ldc 84, 2) := by decide +kernel
theorem dL_law_158 : decode cL_law 158 = .ok (.if_icmp .ne 23, 3) := by decide +kernel
theorem dL_law_161 : decode cL_law 161 = .ok (.aload_n 1, 1) := by decide +kernel
theorem dL_law_162 : decode cL_law 162 = .ok (.bipush 19, 2) := by decide +kernel
theorem dL_law_164 : decode cL_law 164 = .ok (.bipush 6, 2) := by decide +kernel
theorem dL_law_166 : decode cL_law 166 = .ok (.iconst 0, 1) := by decide +kernel
theorem dL_law_167 : decode cL_law 167 = .ok (.iconst 0, 1) := by decide +kernel
theorem dL_law_168 : decode cL_law 168 = .ok (.iconst 0, 1) := by decide +kernel
theorem dL_law_169 : decode cL_law 169 = .ok (.invokestatic 132, 3) := by decide +kernel
theorem dL_law_172 : decode cL_law 172 = .ok (.ldc 87, 2) := by decide +kernel
theorem dL_law_174 : decode cL_law 174 = .ok (.if_icmp .ne 7, 3) := by decide +kernel
theorem dL_law_177 : decode cL_law 177 = .ok (.iconst 1, 1) := by decide +kernel
theorem dL_law_178 : decode cL_law 178 = .ok (.goto 4, 3) := by decide +kernel
theorem dL_law_181 : decode cL_law 181 = .ok (.iconst 0, 1) := by decide +kernel
theorem dL_law_182 : decode cL_law 182 = .ok (.istore 8, 2) := by decide +kernel
theorem dL_law_184 : decode cL_law 184 = .ok (.iconst 0, 1) := by decide +kernel
theorem dL_law_185 : decode cL_law 185 = .ok (.istore 9, 2) := by decide +kernel
theorem dL_law_187 : decode cL_law 187 = .ok (.iload 9, 2) := by decide +kernel
theorem dL_law_189 : decode cL_law 189 = .ok (.bipush 64, 2) := by decide +kernel
theorem dL_law_191 : decode cL_law 191 = .ok (.if_icmp .ge 294, 3) := by decide +kernel
theorem dL_law_194 : decode cL_law 194 = .ok (.iload 8, 2) := by decide +kernel
theorem dL_law_196 : decode cL_law 196 = .ok (.ifCond .eq 289, 3) := by decide +kernel
theorem dL_law_199 : decode cL_law 199 = .ok (.iload 9, 2) := by decide +kernel
theorem dL_law_201 : decode cL_law 201 = .ok (.iconst 4, 1) := by decide +kernel
theorem dL_law_202 : decode cL_law 202 = .ok (.if_icmp .ge 7, 3) := by decide +kernel
theorem dL_law_205 : decode cL_law 205 = .ok (.iconst 0, 1) := by decide +kernel
theorem dL_law_206 : decode cL_law 206 = .ok (.goto 59, 3) := by decide +kernel
theorem dL_law_209 : decode cL_law 209 = .ok (.iload 9, 2) := by decide +kernel
theorem dL_law_211 : decode cL_law 211 = .ok (.bipush 6, 2) := by decide +kernel
theorem dL_law_213 : decode cL_law 213 = .ok (.if_icmp .ge 7, 3) := by decide +kernel
theorem dL_law_216 : decode cL_law 216 = .ok (.iconst 1, 1) := by decide +kernel
theorem dL_law_217 : decode cL_law 217 = .ok (.goto 48, 3) := by decide +kernel
theorem dL_law_220 : decode cL_law 220 = .ok (.iload 9, 2) := by decide +kernel
theorem dL_law_222 : decode cL_law 222 = .ok (.bipush 10, 2) := by decide +kernel
theorem dL_law_224 : decode cL_law 224 = .ok (.if_icmp .ge 7, 3) := by decide +kernel
theorem dL_law_227 : decode cL_law 227 = .ok (.iconst 2, 1) := by decide +kernel
theorem dL_law_228 : decode cL_law 228 = .ok (.goto 37, 3) := by decide +kernel
theorem dL_law_231 : decode cL_law 231 = .ok (.iload 9, 2) := by decide +kernel
theorem dL_law_233 : decode cL_law 233 = .ok (.bipush 11, 2) := by decide +kernel
theorem dL_law_235 : decode cL_law 235 = .ok (.if_icmp .ge 8, 3) := by decide +kernel
theorem dL_law_238 : decode cL_law 238 = .ok (.bipush 6, 2) := by decide +kernel
theorem dL_law_240 : decode cL_law 240 = .ok (.goto 25, 3) := by decide +kernel
theorem dL_law_243 : decode cL_law 243 = .ok (.iload 9, 2) := by decide +kernel
theorem dL_law_245 : decode cL_law 245 = .ok (.bipush 12, 2) := by decide +kernel
theorem dL_law_247 : decode cL_law 247 = .ok (.if_icmp .ge 8, 3) := by decide +kernel
theorem dL_law_250 : decode cL_law 250 = .ok (.bipush 10, 2) := by decide +kernel
theorem dL_law_252 : decode cL_law 252 = .ok (.goto 13, 3) := by decide +kernel
theorem dL_law_255 : decode cL_law 255 = .ok (.aload_n 0, 1) := by decide +kernel
theorem dL_law_256 : decode cL_law 256 = .ok (.iconst 3, 1) := by decide +kernel
theorem dL_law_257 : decode cL_law 257 = .ok (.iload 9, 2) := by decide +kernel
theorem dL_law_259 : decode cL_law 259 = .ok (.imul, 1) := by decide +kernel
theorem dL_law_260 : decode cL_law 260 = .ok (.bipush 48, 2) := by decide +kernel
theorem dL_law_262 : decode cL_law 262 = .ok (.invokestatic 142, 3) := by decide +kernel
theorem dL_law_265 : decode cL_law 265 = .ok (.istore 10, 2) := by decide +kernel
theorem dL_law_267 : decode cL_law 267 = .ok (.aload_n 0, 1) := by decide +kernel
theorem dL_law_268 : decode cL_law 268 = .ok (.iconst 3, 1) := by decide +kernel
theorem dL_law_269 : decode cL_law 269 = .ok (.iload 9, 2) := by decide +kernel
theorem dL_law_271 : decode cL_law 271 = .ok (.imul, 1) := by decide +kernel
theorem dL_law_272 : decode cL_law 272 = .ok (.iconst 1, 1) := by decide +kernel
theorem dL_law_273 : decode cL_law 273 = .ok (.iadd, 1) := by decide +kernel
theorem dL_law_274 : decode cL_law 274 = .ok (.ldc 146, 2) := by decide +kernel
theorem dL_law_276 : decode cL_law 276 = .ok (.invokestatic 142, 3) := by decide +kernel
theorem dL_law_279 : decode cL_law 279 = .ok (.istore 11, 2) := by decide +kernel
theorem dL_law_281 : decode cL_law 281 = .ok (.aload_n 0, 1) := by decide +kernel
theorem dL_law_282 : decode cL_law 282 = .ok (.iconst 3, 1) := by decide +kernel
theorem dL_law_283 : decode cL_law 283 = .ok (.iload 9, 2) := by decide +kernel
theorem dL_law_285 : decode cL_law 285 = .ok (.imul, 1) := by decide +kernel
theorem dL_law_286 : decode cL_law 286 = .ok (.iconst 2, 1) := by decide +kernel
theorem dL_law_287 : decode cL_law 287 = .ok (.iadd, 1) := by decide +kernel
theorem dL_law_288 : decode cL_law 288 = .ok (.ldc 146, 2) := by decide +kernel
theorem dL_law_290 : decode cL_law 290 = .ok (.invokestatic 142, 3) := by decide +kernel
theorem dL_law_293 : decode cL_law 293 = .ok (.istore 12, 2) := by decide +kernel
theorem dL_law_295 : decode cL_law 295 = .ok (.iload 10, 2) := by decide +kernel
theorem dL_law_297 : decode cL_law 297 = .ok (.bipush 9, 2) := by decide +kernel
theorem dL_law_299 : decode cL_law 299 = .ok (.if_icmp .ge 40, 3) := by decide +kernel
theorem dL_law_302 : decode cL_law 302 = .ok (.aload_n 1, 1) := by decide +kernel
theorem dL_law_303 : decode cL_law 303 = .ok (.aload_n 2, 1) := by decide +kernel
theorem dL_law_304 : decode cL_law 304 = .ok (.aload_n 3, 1) := by decide +kernel
theorem dL_law_305 : decode cL_law 305 = .ok (.aload 4, 2) := by decide +kernel
theorem dL_law_307 : decode cL_law 307 = .ok (.aload 5, 2) := by decide +kernel
theorem dL_law_309 : decode cL_law 309 = .ok (.aload 6, 2) := by decide +kernel
theorem dL_law_311 : decode cL_law 311 = .ok (.aload 7, 2) := by decide +kernel
theorem dL_law_313 : decode cL_law 313 = .ok (.iload 10, 2) := by decide +kernel
theorem dL_law_315 : decode cL_law 315 = .ok (.bipush 8, 2) := by decide +kernel
theorem dL_law_317 : decode cL_law 317 = .ok (.if_icmp .ge 8, 3) := by decide +kernel
theorem dL_law_320 : decode cL_law 320 = .ok (.iload 10, 2) := by decide +kernel
theorem dL_law_322 : decode cL_law 322 = .ok (.goto 5, 3) := by decide +kernel
theorem dL_law_325 : decode cL_law 325 = .ok (.bipush 7, 2) := by decide +kernel
theorem dL_law_327 : decode cL_law 327 = .ok (.iload 11, 2) := by decide +kernel
theorem dL_law_329 : decode cL_law 329 = .ok (.iload 12, 2) := by decide +kernel
theorem dL_law_331 : decode cL_law 331 = .ok (.invokestatic 147, 3) := by decide +kernel
theorem dL_law_334 : decode cL_law 334 = .ok (.istore 8, 2) := by decide +kernel
theorem dL_law_336 : decode cL_law 336 = .ok (.goto 114, 3) := by decide +kernel
theorem dL_law_339 : decode cL_law 339 = .ok (.iload 10, 2) := by decide +kernel
theorem dL_law_341 : decode cL_law 341 = .ok (.bipush 14, 2) := by decide +kernel
theorem dL_law_343 : decode cL_law 343 = .ok (.if_icmp .ge 18, 3) := by decide +kernel
theorem dL_law_346 : decode cL_law 346 = .ok (.aload_n 1, 1) := by decide +kernel
theorem dL_law_347 : decode cL_law 347 = .ok (.aload_n 2, 1) := by decide +kernel
theorem dL_law_348 : decode cL_law 348 = .ok (.aload_n 3, 1) := by decide +kernel
theorem dL_law_349 : decode cL_law 349 = .ok (.aload 7, 2) := by decide +kernel
theorem dL_law_351 : decode cL_law 351 = .ok (.iload 11, 2) := by decide +kernel
theorem dL_law_353 : decode cL_law 353 = .ok (.invokestatic 151, 3) := by decide +kernel
theorem dL_law_356 : decode cL_law 356 = .ok (.istore 8, 2) := by decide +kernel
theorem dL_law_358 : decode cL_law 358 = .ok (.goto 92, 3) := by decide +kernel
theorem dL_law_361 : decode cL_law 361 = .ok (.aload_n 1, 1) := by decide +kernel
theorem dL_law_362 : decode cL_law 362 = .ok (.aload_n 2, 1) := by decide +kernel
theorem dL_law_363 : decode cL_law 363 = .ok (.aload_n 3, 1) := by decide +kernel
theorem dL_law_364 : decode cL_law 364 = .ok (.aload 4, 2) := by decide +kernel
theorem dL_law_366 : decode cL_law 366 = .ok (.aload 5, 2) := by decide +kernel
theorem dL_law_368 : decode cL_law 368 = .ok (.aload 7, 2) := by decide +kernel
theorem dL_law_370 : decode cL_law 370 = .ok (.iload 10, 2) := by decide +kernel
theorem dL_law_372 : decode cL_law 372 = .ok (.bipush 24, 2) := by decide +kernel
theorem dL_law_374 : decode cL_law 374 = .ok (.if_icmp .ge 7, 3) := by decide +kernel
theorem dL_law_377 : decode cL_law 377 = .ok (.iconst 0, 1) := by decide +kernel
theorem dL_law_378 : decode cL_law 378 = .ok (.goto 63, 3) := by decide +kernel
theorem dL_law_381 : decode cL_law 381 = .ok (.iload 10, 2) := by decide +kernel
theorem dL_law_383 : decode cL_law 383 = .ok (.bipush 24, 2) := by decide +kernel
theorem dL_law_385 : decode cL_law 385 = .ok (.if_icmp .ne 7, 3) := by decide +kernel
theorem dL_law_388 : decode cL_law 388 = .ok (.iconst 3, 1) := by decide +kernel
theorem dL_law_389 : decode cL_law 389 = .ok (.goto 52, 3) := by decide +kernel
theorem dL_law_392 : decode cL_law 392 = .ok (.iload 10, 2) := by decide +kernel
theorem dL_law_394 : decode cL_law 394 = .ok (.bipush 31, 2) := by decide +kernel
theorem dL_law_396 : decode cL_law 396 = .ok (.if_icmp .ge 7, 3) := by decide +kernel
theorem dL_law_399 : decode cL_law 399 = .ok (.iconst 4, 1) := by decide +kernel
theorem dL_law_400 : decode cL_law 400 = .ok (.goto 41, 3) := by decide +kernel
theorem dL_law_403 : decode cL_law 403 = .ok (.iload 10, 2) := by decide +kernel
theorem dL_law_405 : decode cL_law 405 = .ok (.bipush 36, 2) := by decide +kernel
theorem dL_law_407 : decode cL_law 407 = .ok (.if_icmp .ge 8, 3) := by decide +kernel
theorem dL_law_410 : decode cL_law 410 = .ok (.bipush 6, 2) := by decide +kernel
theorem dL_law_412 : decode cL_law 412 = .ok (.goto 29, 3) := by decide +kernel
theorem dL_law_415 : decode cL_law 415 = .ok (.iload 10, 2) := by decide +kernel
theorem dL_law_417 : decode cL_law 417 = .ok (.bipush 40, 2) := by decide +kernel
theorem dL_law_419 : decode cL_law 419 = .ok (.if_icmp .ge 8, 3) := by decide +kernel
theorem dL_law_422 : decode cL_law 422 = .ok (.bipush 8, 2) := by decide +kernel
theorem dL_law_424 : decode cL_law 424 = .ok (.goto 17, 3) := by decide +kernel
theorem dL_law_427 : decode cL_law 427 = .ok (.iload 10, 2) := by decide +kernel
theorem dL_law_429 : decode cL_law 429 = .ok (.bipush 45, 2) := by decide +kernel
theorem dL_law_431 : decode cL_law 431 = .ok (.if_icmp .ge 8, 3) := by decide +kernel
theorem dL_law_434 : decode cL_law 434 = .ok (.bipush 9, 2) := by decide +kernel
theorem dL_law_436 : decode cL_law 436 = .ok (.goto 5, 3) := by decide +kernel
theorem dL_law_439 : decode cL_law 439 = .ok (.bipush 11, 2) := by decide +kernel
theorem dL_law_441 : decode cL_law 441 = .ok (.iload 11, 2) := by decide +kernel
theorem dL_law_443 : decode cL_law 443 = .ok (.iload 12, 2) := by decide +kernel
theorem dL_law_445 : decode cL_law 445 = .ok (.invokestatic 155, 3) := by decide +kernel
theorem dL_law_448 : decode cL_law 448 = .ok (.istore 8, 2) := by decide +kernel
theorem dL_law_450 : decode cL_law 450 = .ok (.iload 8, 2) := by decide +kernel
theorem dL_law_452 : decode cL_law 452 = .ok (.ifCond .eq 24, 3) := by decide +kernel
theorem dL_law_455 : decode cL_law 455 = .ok (.aload_n 1, 1) := by decide +kernel
theorem dL_law_456 : decode cL_law 456 = .ok (.aload_n 2, 1) := by decide +kernel
theorem dL_law_457 : decode cL_law 457 = .ok (.aload_n 3, 1) := by decide +kernel
theorem dL_law_458 : decode cL_law 458 = .ok (.aload 4, 2) := by decide +kernel
theorem dL_law_460 : decode cL_law 460 = .ok (.aload 6, 2) := by decide +kernel
theorem dL_law_462 : decode cL_law 462 = .ok (.aload 7, 2) := by decide +kernel
theorem dL_law_464 : decode cL_law 464 = .ok (.iload 11, 2) := by decide +kernel
theorem dL_law_466 : decode cL_law 466 = .ok (.invokestatic 159, 3) := by decide +kernel
theorem dL_law_469 : decode cL_law 469 = .ok (.ifCond .eq 7, 3) := by decide +kernel
theorem dL_law_472 : decode cL_law 472 = .ok (.iconst 1, 1) := by decide +kernel
theorem dL_law_473 : decode cL_law 473 = .ok (.goto 4, 3) := by decide +kernel
theorem dL_law_476 : decode cL_law 476 = .ok (.iconst 0, 1) := by decide +kernel
theorem dL_law_477 : decode cL_law 477 = .ok (.istore 8, 2) := by decide +kernel
theorem dL_law_479 : decode cL_law 479 = .ok (.iinc 9 1, 3) := by decide +kernel
theorem dL_law_482 : decode cL_law 482 = .ok (.goto (-295), 3) := by decide +kernel
theorem dL_law_485 : decode cL_law 485 = .ok (.iload 8, 2) := by decide +kernel
theorem dL_law_487 : decode cL_law 487 = .ok (.ireturn, 1) := by decide +kernel
