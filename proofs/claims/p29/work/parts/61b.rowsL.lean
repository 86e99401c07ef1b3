theorem dL_isSo_59 : decode cL_isSo 59 = .ok (.iload 6, 2) := by decide +kernel
theorem dL_isSo_61 : decode cL_isSo 61 = .ok (.iconst 3, 1) := by decide +kernel
theorem dL_isSo_62 : decode cL_isSo 62 = .ok (.irem, 1) := by decide +kernel
theorem dL_isSo_63 : decode cL_isSo 63 = .ok (.ifCond .gt 12, 3) := by decide +kernel
theorem dL_isSo_66 : decode cL_isSo 66 = .ok (.aload_n 0, 1) := by decide +kernel
theorem dL_isSo_67 : decode cL_isSo 67 = .ok (.invokevirtual 125, 3) := by decide +kernel
theorem dL_isSo_70 : decode cL_isSo 70 = .ok (.iload 7, 2) := by decide +kernel
theorem dL_isSo_72 : decode cL_isSo 72 = .ok (.if_icmp .ne 7, 3) := by decide +kernel
theorem dL_isSo_75 : decode cL_isSo 75 = .ok (.iconst 1, 1) := by decide +kernel
theorem dL_isSo_76 : decode cL_isSo 76 = .ok (.goto 4, 3) := by decide +kernel
theorem dL_isSo_79 : decode cL_isSo 79 = .ok (.iconst 0, 1) := by decide +kernel
theorem dL_isSo_80 : decode cL_isSo 80 = .ok (.istore 8, 2) := by decide +kernel
theorem dL_isSo_82 : decode cL_isSo 82 = .ok (.iconst 0, 1) := by decide +kernel
theorem dL_isSo_83 : decode cL_isSo 83 = .ok (.istore 9, 2) := by decide +kernel
theorem dL_isSo_85 : decode cL_isSo 85 = .ok (.iload 9, 2) := by decide +kernel
theorem dL_isSo_87 : decode cL_isSo 87 = .ok (.bipush 24, 2) := by decide +kernel
theorem dL_isSo_89 : decode cL_isSo 89 = .ok (.if_icmp .ge 52, 3) := by decide +kernel
theorem dL_isSo_92 : decode cL_isSo 92 = .ok (.iload 8, 2) := by decide +kernel
theorem dL_isSo_94 : decode cL_isSo 94 = .ok (.ifCond .eq 47, 3) := by decide +kernel
theorem dL_isSo_97 : decode cL_isSo 97 = .ok (.aload_n 0, 1) := by decide +kernel
theorem dL_isSo_98 : decode cL_isSo 98 = .ok (.iload 9, 2) := by decide +kernel
theorem dL_isSo_100 : decode cL_isSo 100 = .ok (.iconst 4, 1) := by decide +kernel
theorem dL_isSo_101 : decode cL_isSo 101 = .ok (.idiv, 1) := by decide +kernel
theorem dL_isSo_102 : decode cL_isSo 102 = .ok (.iload 9, 2) := by decide +kernel
theorem dL_isSo_104 : decode cL_isSo 104 = .ok (.iconst 4, 1) := by decide +kernel
theorem dL_isSo_105 : decode cL_isSo 105 = .ok (.irem, 1) := by decide +kernel
theorem dL_isSo_106 : decode cL_isSo 106 = .ok (.invokevirtual 72, 3) := by decide +kernel
theorem dL_isSo_109 : decode cL_isSo 109 = .ok (.aload_n 1, 1) := by decide +kernel
theorem dL_isSo_110 : decode cL_isSo 110 = .ok (.bipush 24, 2) := by decide +kernel
theorem dL_isSo_112 : decode cL_isSo 112 = .ok (.iload 9, 2) := by decide +kernel
theorem dL_isSo_114 : decode cL_isSo 114 = .ok (.iadd, 1) := by decide +kernel
theorem dL_isSo_115 : decode cL_isSo 115 = .ok (.iaload, 1) := by decide +kernel
theorem dL_isSo_116 : decode cL_isSo 116 = .ok (.iconst 1, 1) := by decide +kernel
theorem dL_isSo_117 : decode cL_isSo 117 = .ok (.if_icmp .ne 7, 3) := by decide +kernel
theorem dL_isSo_120 : decode cL_isSo 120 = .ok (.iconst 1, 1) := by decide +kernel
theorem dL_isSo_121 : decode cL_isSo 121 = .ok (.goto 4, 3) := by decide +kernel
theorem dL_isSo_124 : decode cL_isSo 124 = .ok (.iconst 0, 1) := by decide +kernel
theorem dL_isSo_125 : decode cL_isSo 125 = .ok (.if_icmp .ne 7, 3) := by decide +kernel
theorem dL_isSo_128 : decode cL_isSo 128 = .ok (.iconst 1, 1) := by decide +kernel
theorem dL_isSo_129 : decode cL_isSo 129 = .ok (.goto 4, 3) := by decide +kernel
theorem dL_isSo_132 : decode cL_isSo 132 = .ok (.iconst 0, 1) := by decide +kernel
theorem dL_isSo_133 : decode cL_isSo 133 = .ok (.istore 8, 2) := by decide +kernel
theorem dL_isSo_135 : decode cL_isSo 135 = .ok (.iinc 9 1, 3) := by decide +kernel
theorem dL_isSo_138 : decode cL_isSo 138 = .ok (.goto (-53), 3) := by decide +kernel
theorem dL_isSo_141 : decode cL_isSo 141 = .ok (.iconst 0, 1) := by decide +kernel
theorem dL_isSo_142 : decode cL_isSo 142 = .ok (.istore 9, 2) := by decide +kernel
theorem dL_isSo_144 : decode cL_isSo 144 = .ok (.iload 9, 2) := by decide +kernel
theorem dL_isSo_146 : decode cL_isSo 146 = .ok (.iconst 4, 1) := by decide +kernel
theorem dL_isSo_147 : decode cL_isSo 147 = .ok (.if_icmp .ge 38, 3) := by decide +kernel
theorem dL_isSo_150 : decode cL_isSo 150 = .ok (.iload 8, 2) := by decide +kernel
theorem dL_isSo_152 : decode cL_isSo 152 = .ok (.ifCond .eq 33, 3) := by decide +kernel
theorem dL_isSo_155 : decode cL_isSo 155 = .ok (.aload_n 0, 1) := by decide +kernel
theorem dL_isSo_156 : decode cL_isSo 156 = .ok (.iload 9, 2) := by decide +kernel
theorem dL_isSo_158 : decode cL_isSo 158 = .ok (.invokevirtual 76, 3) := by decide +kernel
theorem dL_isSo_161 : decode cL_isSo 161 = .ok (.aload_n 2, 1) := by decide +kernel
theorem dL_isSo_162 : decode cL_isSo 162 = .ok (.iconst 4, 1) := by decide +kernel
theorem dL_isSo_163 : decode cL_isSo 163 = .ok (.iload 9, 2) := by decide +kernel
theorem dL_isSo_165 : decode cL_isSo 165 = .ok (.iadd, 1) := by decide +kernel
theorem dL_isSo_166 : decode cL_isSo 166 = .ok (.iaload, 1) := by decide +kernel
theorem dL_isSo_167 : decode cL_isSo 167 = .ok (.iconst 1, 1) := by decide +kernel
theorem dL_isSo_168 : decode cL_isSo 168 = .ok (.isub, 1) := by decide +kernel
theorem dL_isSo_169 : decode cL_isSo 169 = .ok (.if_icmp .ne 7, 3) := by decide +kernel
theorem dL_isSo_172 : decode cL_isSo 172 = .ok (.iconst 1, 1) := by decide +kernel
theorem dL_isSo_173 : decode cL_isSo 173 = .ok (.goto 4, 3) := by decide +kernel
theorem dL_isSo_176 : decode cL_isSo 176 = .ok (.iconst 0, 1) := by decide +kernel
theorem dL_isSo_177 : decode cL_isSo 177 = .ok (.istore 8, 2) := by decide +kernel
theorem dL_isSo_179 : decode cL_isSo 179 = .ok (.iinc 9 1, 3) := by decide +kernel
theorem dL_isSo_182 : decode cL_isSo 182 = .ok (.goto (-38), 3) := by decide +kernel
theorem dL_isSo_185 : decode cL_isSo 185 = .ok (.iconst 0, 1) := by decide +kernel
theorem dL_isSo_186 : decode cL_isSo 186 = .ok (.istore 9, 2) := by decide +kernel
theorem dL_isSo_188 : decode cL_isSo 188 = .ok (.iconst 0, 1) := by decide +kernel
theorem dL_isSo_189 : decode cL_isSo 189 = .ok (.istore 10, 2) := by decide +kernel
theorem dL_isSo_191 : decode cL_isSo 191 = .ok (.iload 10, 2) := by decide +kernel
theorem dL_isSo_193 : decode cL_isSo 193 = .ok (.bipush 6, 2) := by decide +kernel
theorem dL_isSo_195 : decode cL_isSo 195 = .ok (.if_icmp .ge 19, 3) := by decide +kernel
theorem dL_isSo_198 : decode cL_isSo 198 = .ok (.iload 9, 2) := by decide +kernel
theorem dL_isSo_200 : decode cL_isSo 200 = .ok (.aload 4, 2) := by decide +kernel
theorem dL_isSo_202 : decode cL_isSo 202 = .ok (.iload 10, 2) := by decide +kernel
theorem dL_isSo_204 : decode cL_isSo 204 = .ok (.iaload, 1) := by decide +kernel
theorem dL_isSo_205 : decode cL_isSo 205 = .ok (.iadd, 1) := by decide +kernel
theorem dL_isSo_206 : decode cL_isSo 206 = .ok (.istore 9, 2) := by decide +kernel
theorem dL_isSo_208 : decode cL_isSo 208 = .ok (.iinc 10 1, 3) := by decide +kernel
theorem dL_isSo_211 : decode cL_isSo 211 = .ok (.goto (-20), 3) := by decide +kernel
theorem dL_isSo_214 : decode cL_isSo 214 = .ok (.iload 6, 2) := by decide +kernel
theorem dL_isSo_216 : decode cL_isSo 216 = .ok (.bipush 6, 2) := by decide +kernel
theorem dL_isSo_218 : decode cL_isSo 218 = .ok (.irem, 1) := by decide +kernel
theorem dL_isSo_219 : decode cL_isSo 219 = .ok (.istore 10, 2) := by decide +kernel
theorem dL_isSo_221 : decode cL_isSo 221 = .ok (.iload 8, 2) := by decide +kernel
theorem dL_isSo_223 : decode cL_isSo 223 = .ok (.ifCond .eq 121, 3) := by decide +kernel
theorem dL_isSo_226 : decode cL_isSo 226 = .ok (.aload_n 0, 1) := by decide +kernel
theorem dL_isSo_227 : decode cL_isSo 227 = .ok (.iconst 0, 1) := by decide +kernel
theorem dL_isSo_228 : decode cL_isSo 228 = .ok (.invokevirtual 79, 3) := by decide +kernel
theorem dL_isSo_231 : decode cL_isSo 231 = .ok (.aload 5, 2) := by decide +kernel
theorem dL_isSo_233 : decode cL_isSo 233 = .ok (.bipush 6, 2) := by decide +kernel
theorem dL_isSo_235 : decode cL_isSo 235 = .ok (.iaload, 1) := by decide +kernel
theorem dL_isSo_236 : decode cL_isSo 236 = .ok (.if_icmp .ne 108, 3) := by decide +kernel
theorem dL_isSo_239 : decode cL_isSo 239 = .ok (.aload_n 0, 1) := by decide +kernel
theorem dL_isSo_240 : decode cL_isSo 240 = .ok (.iconst 1, 1) := by decide +kernel
theorem dL_isSo_241 : decode cL_isSo 241 = .ok (.invokevirtual 79, 3) := by decide +kernel
theorem dL_isSo_244 : decode cL_isSo 244 = .ok (.aload 5, 2) := by decide +kernel
theorem dL_isSo_246 : decode cL_isSo 246 = .ok (.bipush 10, 2) := by decide +kernel
theorem dL_isSo_248 : decode cL_isSo 248 = .ok (.iaload, 1) := by decide +kernel
theorem dL_isSo_249 : decode cL_isSo 249 = .ok (.if_icmp .ne 95, 3) := by decide +kernel
theorem dL_isSo_252 : decode cL_isSo 252 = .ok (.aload_n 0, 1) := by decide +kernel
theorem dL_isSo_253 : decode cL_isSo 253 = .ok (.iconst 2, 1) := by decide +kernel
theorem dL_isSo_254 : decode cL_isSo 254 = .ok (.invokevirtual 79, 3) := by decide +kernel
theorem dL_isSo_257 : decode cL_isSo 257 = .ok (.aload 5, 2) := by decide +kernel
theorem dL_isSo_259 : decode cL_isSo 259 = .ok (.bipush 11, 2) := by decide +kernel
theorem dL_isSo_261 : decode cL_isSo 261 = .ok (.iaload, 1) := by decide +kernel
theorem dL_isSo_262 : decode cL_isSo 262 = .ok (.if_icmp .ne 82, 3) := by decide +kernel
theorem dL_isSo_265 : decode cL_isSo 265 = .ok (.aload_n 0, 1) := by decide +kernel
theorem dL_isSo_266 : decode cL_isSo 266 = .ok (.iconst 3, 1) := by decide +kernel
theorem dL_isSo_267 : decode cL_isSo 267 = .ok (.invokevirtual 79, 3) := by decide +kernel
theorem dL_isSo_270 : decode cL_isSo 270 = .ok (.aload 5, 2) := by decide +kernel
theorem dL_isSo_272 : decode cL_isSo 272 = .ok (.bipush 12, 2) := by decide +kernel
theorem dL_isSo_274 : decode cL_isSo 274 = .ok (.iaload, 1) := by decide +kernel
theorem dL_isSo_275 : decode cL_isSo 275 = .ok (.if_icmp .ne 69, 3) := by decide +kernel
theorem dL_isSo_278 : decode cL_isSo 278 = .ok (.aload_n 0, 1) := by decide +kernel
theorem dL_isSo_279 : decode cL_isSo 279 = .ok (.iconst 4, 1) := by decide +kernel
theorem dL_isSo_280 : decode cL_isSo 280 = .ok (.invokevirtual 79, 3) := by decide +kernel
theorem dL_isSo_283 : decode cL_isSo 283 = .ok (.aload 5, 2) := by decide +kernel
theorem dL_isSo_285 : decode cL_isSo 285 = .ok (.bipush 9, 2) := by decide +kernel
theorem dL_isSo_287 : decode cL_isSo 287 = .ok (.iaload, 1) := by decide +kernel
theorem dL_isSo_288 : decode cL_isSo 288 = .ok (.if_icmp .ne 56, 3) := by decide +kernel
theorem dL_isSo_291 : decode cL_isSo 291 = .ok (.aload_n 0, 1) := by decide +kernel
theorem dL_isSo_292 : decode cL_isSo 292 = .ok (.iconst 5, 1) := by decide +kernel
theorem dL_isSo_293 : decode cL_isSo 293 = .ok (.invokevirtual 79, 3) := by decide +kernel
theorem dL_isSo_296 : decode cL_isSo 296 = .ok (.aload 5, 2) := by decide +kernel
theorem dL_isSo_298 : decode cL_isSo 298 = .ok (.bipush 8, 2) := by decide +kernel
theorem dL_isSo_300 : decode cL_isSo 300 = .ok (.iaload, 1) := by decide +kernel
theorem dL_isSo_301 : decode cL_isSo 301 = .ok (.if_icmp .ne 43, 3) := by decide +kernel
theorem dL_isSo_304 : decode cL_isSo 304 = .ok (.aload_n 0, 1) := by decide +kernel
theorem dL_isSo_305 : decode cL_isSo 305 = .ok (.iload 10, 2) := by decide +kernel
theorem dL_isSo_307 : decode cL_isSo 307 = .ok (.invokevirtual 128, 3) := by decide +kernel
theorem dL_isSo_310 : decode cL_isSo 310 = .ok (.iload 9, 2) := by decide +kernel
theorem dL_isSo_312 : decode cL_isSo 312 = .ok (.ifCond .ne 7, 3) := by decide +kernel
theorem dL_isSo_315 : decode cL_isSo 315 = .ok (.dconst 0, 1) := by decide +kernel
theorem dL_isSo_316 : decode cL_isSo 316 = .ok (.goto 20, 3) := by decide +kernel
theorem dL_isSo_319 : decode cL_isSo 319 = .ok (.aload 5, 2) := by decide +kernel
theorem dL_isSo_321 : decode cL_isSo 321 = .ok (.bipush 10, 2) := by decide +kernel
theorem dL_isSo_323 : decode cL_isSo 323 = .ok (.iaload, 1) := by decide +kernel
theorem dL_isSo_324 : decode cL_isSo 324 = .ok (.i2d, 1) := by decide +kernel
theorem dL_isSo_325 : decode cL_isSo 325 = .ok (.aload 4, 2) := by decide +kernel
theorem dL_isSo_327 : decode cL_isSo 327 = .ok (.iload 10, 2) := by decide +kernel
theorem dL_isSo_329 : decode cL_isSo 329 = .ok (.iaload, 1) := by decide +kernel
theorem dL_isSo_330 : decode cL_isSo 330 = .ok (.i2d, 1) := by decide +kernel
theorem dL_isSo_331 : decode cL_isSo 331 = .ok (.dmul, 1) := by decide +kernel
theorem dL_isSo_332 : decode cL_isSo 332 = .ok (.iload 9, 2) := by decide +kernel
theorem dL_isSo_334 : decode cL_isSo 334 = .ok (.i2d, 1) := by decide +kernel
theorem dL_isSo_335 : decode cL_isSo 335 = .ok (.ddiv, 1) := by decide +kernel
theorem dL_isSo_336 : decode cL_isSo 336 = .ok (.dcmp .l, 1) := by decide +kernel
theorem dL_isSo_337 : decode cL_isSo 337 = .ok (.ifCond .ne 7, 3) := by decide +kernel
theorem dL_isSo_340 : decode cL_isSo 340 = .ok (.iconst 1, 1) := by decide +kernel
theorem dL_isSo_341 : decode cL_isSo 341 = .ok (.goto 4, 3) := by decide +kernel
theorem dL_isSo_344 : decode cL_isSo 344 = .ok (.iconst 0, 1) := by decide +kernel
theorem dL_isSo_345 : decode cL_isSo 345 = .ok (.ireturn, 1) := by decide +kernel
set_option maxRecDepth 20000 in
theorem ggL_isTold_L_does : GoodIn wsL_isTold wsL_does := goodIn_ca (goodIn_ca (goodIn_ca (goodIn_r _ [8, 9, 10, 11, 1, 2, 3, 12, 13, 14, 15, 16, 17, 18, 19, 20, 21, 22, 23, 24, 25, 26, 27, 28, 29, 30, 31, 32, 33, 34, 35, 36, 37, 38, 39, 40, 41, 42, 43, 44, 45, 46, 47, 48, 49, 50, 51, 52, 53, 54, 55, 56, 57, 58, 59, 60, 61, 62, 63, 64, 65, 66, 67, 68, 69, 70, 71, 72, 73, 74, 75, 76, 77, 78, 79, 80, 81, 82, 83, 84, 85, 86, 87, 88, 89, 90, 91, 92, 93, 94, 95, 96, 97, 98, 99, 7, 100, 101, 102, 103, 104, 105, 106, 107, 108, 109, 110, 111, 112, 113, 114, 115, 116, 117, 118, 119, 120, 121, 122, 123, 124, 125, 126, 127, 128, 129, 130, 131, 132, 133, 134, 135, 136, 137, 138, 139, 140, 141, 142, 143, 144, 145, 146, 147, 148, 149, 150, 151, 152, 153, 154, 155, 156, 157, 158, 159, 160, 161, 162, 163, 164, 165, 166, 167, 168, 169, 170, 171, 172, 173, 174, 175, 176, 177, 178, 179, 180, 181, 182, 183, 184, 185, 186, 187, 188, 189, 190, 191, 192, 193, 194, 195, 196, 197, 198, 199, 200, 201, 202, 203, 204, 205, 206, 207, 208, 209, 210, 211, 212, 213, 214, 215, 216, 217, 218, 219, 220, 221, 222, 223, 224, 225, 226, 227, 228, 229, 230, 231, 232, 233, 234, 235, 236, 237, 238, 239, 240, 241, 242, 243, 244, 245, 246, 247, 248, 249, 250, 251, 252, 253, 254, 255, 256, 257, 258, 259, 260, 261, 262, 263, 264, 265, 266, 267, 268, 269, 270, 271, 272, 273, 274, 275, 276, 277, 278, 279, 280, 281, 282, 283, 284, 285, 286, 287, 288, 289, 290, 291, 292, 293, 294, 295, 296, 297, 298, 299, 300, 301, 302, 303, 304, 305, 306, 307, 308, 309, 310, 311, 312, 313, 314, 315, 316, 317, 318] (by decide +kernel) (by decide +kernel)) (goodIn_sub (fun _ h => List.mem_cons_of_mem _ (List.mem_append_left _ (List.mem_append_left _ (List.mem_append_right _ h)))) (by decide +kernel))) (goodIn_sub (fun _ h => List.mem_cons_of_mem _ (List.mem_append_left _ (List.mem_append_right _ h))) (by decide +kernel))) (goodIn_sub (fun _ h => List.mem_cons_of_mem _ (List.mem_append_right _ h)) (by decide +kernel))
set_option maxRecDepth 20000 in
theorem gL_isTold_L_does : GoodIn wsL_isTold (va_wsS RL 132 yL_does wsL_does) := goodIn_app (goodIn_of _ (by decide +kernel)) ggL_isTold_L_does
theorem dL_isTold_0 : decode cL_isTold 0 = .ok (.iload 7, 2) := by decide +kernel
theorem dL_isTold_2 : decode cL_isTold 2 = .ok (.ifCond .ne 205, 3) := by decide +kernel
theorem dL_isTold_5 : decode cL_isTold 5 = .ok (.iload 8, 2) := by decide +kernel
theorem dL_isTold_7 : decode cL_isTold 7 = .ok (.bipush 13, 2) := by decide +kernel
theorem dL_isTold_9 : decode cL_isTold 9 = .ok (.irem, 1) := by decide +kernel
theorem dL_isTold_10 : decode cL_isTold 10 = .ok (.bipush 12, 2) := by decide +kernel
theorem dL_isTold_12 : decode cL_isTold 12 = .ok (.if_icmp .ne 8, 3) := by decide +kernel
theorem dL_isTold_15 : decode cL_isTold 15 = .ok (.bipush 6, 2) := by decide +kernel
theorem dL_isTold_17 : decode cL_isTold 17 = .ok (.goto 8, 3) := by decide +kernel
theorem dL_isTold_20 : decode cL_isTold 20 = .ok (.iload 8, 2) := by decide +kernel
theorem dL_isTold_22 : decode cL_isTold 22 = .ok (.bipush 6, 2) := by decide +kernel
theorem dL_isTold_24 : decode cL_isTold 24 = .ok (.irem, 1) := by decide +kernel
theorem dL_isTold_25 : decode cL_isTold 25 = .ok (.istore 10, 2) := by decide +kernel
theorem dL_isTold_27 : decode cL_isTold 27 = .ok (.iload 9, 2) := by decide +kernel
theorem dL_isTold_29 : decode cL_isTold 29 = .ok (.bipush 9, 2) := by decide +kernel
theorem dL_isTold_31 : decode cL_isTold 31 = .ok (.irem, 1) := by decide +kernel
theorem dL_isTold_32 : decode cL_isTold 32 = .ok (.bipush 8, 2) := by decide +kernel
theorem dL_isTold_34 : decode cL_isTold 34 = .ok (.if_icmp .ne 7, 3) := by decide +kernel
theorem dL_isTold_37 : decode cL_isTold 37 = .ok (.iconst 4, 1) := by decide +kernel
theorem dL_isTold_38 : decode cL_isTold 38 = .ok (.goto 7, 3) := by decide +kernel
theorem dL_isTold_41 : decode cL_isTold 41 = .ok (.iload 9, 2) := by decide +kernel
theorem dL_isTold_43 : decode cL_isTold 43 = .ok (.iconst 4, 1) := by decide +kernel
theorem dL_isTold_44 : decode cL_isTold 44 = .ok (.irem, 1) := by decide +kernel
theorem dL_isTold_45 : decode cL_isTold 45 = .ok (.istore 11, 2) := by decide +kernel
theorem dL_isTold_47 : decode cL_isTold 47 = .ok (.iload 8, 2) := by decide +kernel
theorem dL_isTold_49 : decode cL_isTold 49 = .ok (.bipush 13, 2) := by decide +kernel
theorem dL_isTold_51 : decode cL_isTold 51 = .ok (.idiv, 1) := by decide +kernel
theorem dL_isTold_52 : decode cL_isTold 52 = .ok (.iconst 3, 1) := by decide +kernel
theorem dL_isTold_53 : decode cL_isTold 53 = .ok (.irem, 1) := by decide +kernel
theorem dL_isTold_54 : decode cL_isTold 54 = .ok (.ifCond .le 7, 3) := by decide +kernel
theorem dL_isTold_57 : decode cL_isTold 57 = .ok (.iconst 1, 1) := by decide +kernel
theorem dL_isTold_58 : decode cL_isTold 58 = .ok (.goto 4, 3) := by decide +kernel
theorem dL_isTold_61 : decode cL_isTold 61 = .ok (.iconst 0, 1) := by decide +kernel
theorem dL_isTold_62 : decode cL_isTold 62 = .ok (.istore 12, 2) := by decide +kernel
theorem dL_isTold_64 : decode cL_isTold 64 = .ok (.iload 10, 2) := by decide +kernel
theorem dL_isTold_66 : decode cL_isTold 66 = .ok (.bipush 6, 2) := by decide +kernel
theorem dL_isTold_68 : decode cL_isTold 68 = .ok (.if_icmp .ge 13, 3) := by decide +kernel
theorem dL_isTold_71 : decode cL_isTold 71 = .ok (.iload 11, 2) := by decide +kernel
theorem dL_isTold_73 : decode cL_isTold 73 = .ok (.iconst 4, 1) := by decide +kernel
theorem dL_isTold_74 : decode cL_isTold 74 = .ok (.if_icmp .ge 7, 3) := by decide +kernel
theorem dL_isTold_77 : decode cL_isTold 77 = .ok (.iconst 1, 1) := by decide +kernel
theorem dL_isTold_78 : decode cL_isTold 78 = .ok (.goto 4, 3) := by decide +kernel
theorem dL_isTold_81 : decode cL_isTold 81 = .ok (.iconst 0, 1) := by decide +kernel
theorem dL_isTold_82 : decode cL_isTold 82 = .ok (.istore 13, 2) := by decide +kernel
theorem dL_isTold_84 : decode cL_isTold 84 = .ok (.iload 13, 2) := by decide +kernel
theorem dL_isTold_86 : decode cL_isTold 86 = .ok (.ifCond .eq 13, 3) := by decide +kernel
theorem dL_isTold_89 : decode cL_isTold 89 = .ok (.iconst 4, 1) := by decide +kernel
theorem dL_isTold_90 : decode cL_isTold 90 = .ok (.iload 10, 2) := by decide +kernel
theorem dL_isTold_92 : decode cL_isTold 92 = .ok (.imul, 1) := by decide +kernel
theorem dL_isTold_93 : decode cL_isTold 93 = .ok (.iload 11, 2) := by decide +kernel
theorem dL_isTold_95 : decode cL_isTold 95 = .ok (.iadd, 1) := by decide +kernel
theorem dL_isTold_96 : decode cL_isTold 96 = .ok (.goto 4, 3) := by decide +kernel
theorem dL_isTold_99 : decode cL_isTold 99 = .ok (.iconst 0, 1) := by decide +kernel
theorem dL_isTold_100 : decode cL_isTold 100 = .ok (.istore 14, 2) := by decide +kernel
theorem dL_isTold_102 : decode cL_isTold 102 = .ok (.aload_n 1, 1) := by decide +kernel
theorem dL_isTold_103 : decode cL_isTold 103 = .ok (.iload 14, 2) := by decide +kernel
theorem dL_isTold_105 : decode cL_isTold 105 = .ok (.iaload, 1) := by decide +kernel
theorem dL_isTold_106 : decode cL_isTold 106 = .ok (.istore 15, 2) := by decide +kernel
theorem dL_isTold_108 : decode cL_isTold 108 = .ok (.aload_n 1, 1) := by decide +kernel
theorem dL_isTold_109 : decode cL_isTold 109 = .ok (.iload 13, 2) := by decide +kernel
theorem dL_isTold_111 : decode cL_isTold 111 = .ok (.ifCond .eq 8, 3) := by decide +kernel
theorem dL_isTold_114 : decode cL_isTold 114 = .ok (.iload 14, 2) := by decide +kernel
theorem dL_isTold_116 : decode cL_isTold 116 = .ok (.goto 5, 3) := by decide +kernel
theorem dL_isTold_119 : decode cL_isTold 119 = .ok (.bipush 48, 2) := by decide +kernel
theorem dL_isTold_121 : decode cL_isTold 121 = .ok (.iload 12, 2) := by decide +kernel
theorem dL_isTold_123 : decode cL_isTold 123 = .ok (.ifCond .eq 7, 3) := by decide +kernel
theorem dL_isTold_126 : decode cL_isTold 126 = .ok (.iconst 1, 1) := by decide +kernel
theorem dL_isTold_127 : decode cL_isTold 127 = .ok (.goto 4, 3) := by decide +kernel
theorem dL_isTold_130 : decode cL_isTold 130 = .ok (.iconst 0, 1) := by decide +kernel
theorem dL_isTold_131 : decode cL_isTold 131 = .ok (.iastore, 1) := by decide +kernel
theorem dL_isTold_132 : decode cL_isTold 132 = .ok (.aload_n 1, 1) := by decide +kernel
theorem dL_isTold_133 : decode cL_isTold 133 = .ok (.iload 13, 2) := by decide +kernel
theorem dL_isTold_135 : decode cL_isTold 135 = .ok (.ifCond .eq 18, 3) := by decide +kernel
theorem dL_isTold_138 : decode cL_isTold 138 = .ok (.aload 6, 2) := by decide +kernel
theorem dL_isTold_140 : decode cL_isTold 140 = .ok (.iconst 4, 1) := by decide +kernel
theorem dL_isTold_141 : decode cL_isTold 141 = .ok (.iaload, 1) := by decide +kernel
theorem dL_isTold_142 : decode cL_isTold 142 = .ok (.ifCond .ne 11, 3) := by decide +kernel
theorem dL_isTold_145 : decode cL_isTold 145 = .ok (.bipush 24, 2) := by decide +kernel
theorem dL_isTold_147 : decode cL_isTold 147 = .ok (.iload 14, 2) := by decide +kernel
theorem dL_isTold_149 : decode cL_isTold 149 = .ok (.iadd, 1) := by decide +kernel
theorem dL_isTold_150 : decode cL_isTold 150 = .ok (.goto 5, 3) := by decide +kernel
theorem dL_isTold_153 : decode cL_isTold 153 = .ok (.bipush 48, 2) := by decide +kernel
theorem dL_isTold_155 : decode cL_isTold 155 = .ok (.iload 12, 2) := by decide +kernel
theorem dL_isTold_157 : decode cL_isTold 157 = .ok (.ifCond .eq 7, 3) := by decide +kernel
theorem dL_isTold_160 : decode cL_isTold 160 = .ok (.iconst 1, 1) := by decide +kernel
theorem dL_isTold_161 : decode cL_isTold 161 = .ok (.goto 4, 3) := by decide +kernel
theorem dL_isTold_164 : decode cL_isTold 164 = .ok (.iconst 0, 1) := by decide +kernel
theorem dL_isTold_165 : decode cL_isTold 165 = .ok (.iastore, 1) := by decide +kernel
theorem dL_isTold_166 : decode cL_isTold 166 = .ok (.aload_n 0, 1) := by decide +kernel
theorem dL_isTold_167 : decode cL_isTold 167 = .ok (.iconst 0, 1) := by decide +kernel
theorem dL_isTold_168 : decode cL_isTold 168 = .ok (.iload 10, 2) := by decide +kernel
theorem dL_isTold_170 : decode cL_isTold 170 = .ok (.iload 11, 2) := by decide +kernel
theorem dL_isTold_172 : decode cL_isTold 172 = .ok (.iload 12, 2) := by decide +kernel
theorem dL_isTold_174 : decode cL_isTold 174 = .ok (.ifCond .eq 7, 3) := by decide +kernel
theorem dL_isTold_177 : decode cL_isTold 177 = .ok (.iconst 1, 1) := by decide +kernel
theorem dL_isTold_178 : decode cL_isTold 178 = .ok (.goto 4, 3) := by decide +kernel
theorem dL_isTold_181 : decode cL_isTold 181 = .ok (.iconst 0, 1) := by decide +kernel
theorem dL_isTold_182 : decode cL_isTold 182 = .ok (.iconst 0, 1) := by decide +kernel
theorem dL_isTold_183 : decode cL_isTold 183 = .ok (.invokestatic 132, 3) := by decide +kernel
theorem dL_isTold_186 : decode cL_isTold 186 = .ok (.iload 13, 2) := by decide +kernel
theorem dL_isTold_188 : decode cL_isTold 188 = .ok (.ifCond .eq 8, 3) := by decide +kernel
theorem dL_isTold_191 : decode cL_isTold 191 = .ok (.iload 15, 2) := by decide +kernel
theorem dL_isTold_193 : decode cL_isTold 193 = .ok (.goto 5, 3) := by decide +kernel
theorem dL_isTold_196 : decode cL_isTold 196 = .ok (.ldc 84, 2) := by decide +kernel
theorem dL_isTold_198 : decode cL_isTold 198 = .ok (.if_icmp .ne 7, 3) := by decide +kernel
theorem dL_isTold_201 : decode cL_isTold 201 = .ok (.iconst 1, 1) := by decide +kernel
theorem dL_isTold_202 : decode cL_isTold 202 = .ok (.goto 4, 3) := by decide +kernel
theorem dL_isTold_205 : decode cL_isTold 205 = .ok (.iconst 0, 1) := by decide +kernel
theorem dL_isTold_206 : decode cL_isTold 206 = .ok (.ireturn, 1) := by decide +kernel
theorem dL_isTold_207 : decode cL_isTold 207 = .ok (.iload 7, 2) := by decide +kernel
theorem dL_isTold_209 : decode cL_isTold 209 = .ok (.iconst 1, 1) := by decide +kernel
theorem dL_isTold_210 : decode cL_isTold 210 = .ok (.if_icmp .ne 161, 3) := by decide +kernel
theorem dL_isTold_213 : decode cL_isTold 213 = .ok (.iload 8, 2) := by decide +kernel
theorem dL_isTold_215 : decode cL_isTold 215 = .ok (.bipush 9, 2) := by decide +kernel
theorem dL_isTold_217 : decode cL_isTold 217 = .ok (.irem, 1) := by decide +kernel
theorem dL_isTold_218 : decode cL_isTold 218 = .ok (.bipush 8, 2) := by decide +kernel
theorem dL_isTold_220 : decode cL_isTold 220 = .ok (.if_icmp .ne 7, 3) := by decide +kernel
theorem dL_isTold_223 : decode cL_isTold 223 = .ok (.iconst 4, 1) := by decide +kernel
theorem dL_isTold_224 : decode cL_isTold 224 = .ok (.goto 7, 3) := by decide +kernel
theorem dL_isTold_227 : decode cL_isTold 227 = .ok (.iload 8, 2) := by decide +kernel
theorem dL_isTold_229 : decode cL_isTold 229 = .ok (.iconst 4, 1) := by decide +kernel
theorem dL_isTold_230 : decode cL_isTold 230 = .ok (.irem, 1) := by decide +kernel
theorem dL_isTold_231 : decode cL_isTold 231 = .ok (.istore 10, 2) := by decide +kernel
theorem dL_isTold_233 : decode cL_isTold 233 = .ok (.iload 9, 2) := by decide +kernel
theorem dL_isTold_235 : decode cL_isTold 235 = .ok (.bipush 15, 2) := by decide +kernel
theorem dL_isTold_237 : decode cL_isTold 237 = .ok (.irem, 1) := by decide +kernel
theorem dL_isTold_238 : decode cL_isTold 238 = .ok (.bipush 14, 2) := by decide +kernel
theorem dL_isTold_240 : decode cL_isTold 240 = .ok (.if_icmp .ne 8, 3) := by decide +kernel
theorem dL_isTold_243 : decode cL_isTold 243 = .ok (.bipush 6, 2) := by decide +kernel
theorem dL_isTold_245 : decode cL_isTold 245 = .ok (.goto 10, 3) := by decide +kernel
theorem dL_isTold_248 : decode cL_isTold 248 = .ok (.iload 9, 2) := by decide +kernel
theorem dL_isTold_250 : decode cL_isTold 250 = .ok (.bipush 7, 2) := by decide +kernel
theorem dL_isTold_252 : decode cL_isTold 252 = .ok (.irem, 1) := by decide +kernel
theorem dL_isTold_253 : decode cL_isTold 253 = .ok (.iconst 1, 1) := by decide +kernel
theorem dL_isTold_254 : decode cL_isTold 254 = .ok (.isub, 1) := by decide +kernel
theorem dL_isTold_255 : decode cL_isTold 255 = .ok (.istore 11, 2) := by decide +kernel
theorem dL_isTold_257 : decode cL_isTold 257 = .ok (.iload 10, 2) := by decide +kernel
theorem dL_isTold_259 : decode cL_isTold 259 = .ok (.iconst 4, 1) := by decide +kernel
theorem dL_isTold_260 : decode cL_isTold 260 = .ok (.if_icmp .ge 14, 3) := by decide +kernel
theorem dL_isTold_263 : decode cL_isTold 263 = .ok (.iload 11, 2) := by decide +kernel
theorem dL_isTold_265 : decode cL_isTold 265 = .ok (.bipush 6, 2) := by decide +kernel
theorem dL_isTold_267 : decode cL_isTold 267 = .ok (.if_icmp .ge 7, 3) := by decide +kernel
theorem dL_isTold_270 : decode cL_isTold 270 = .ok (.iconst 1, 1) := by decide +kernel
theorem dL_isTold_271 : decode cL_isTold 271 = .ok (.goto 4, 3) := by decide +kernel
theorem dL_isTold_274 : decode cL_isTold 274 = .ok (.iconst 0, 1) := by decide +kernel
theorem dL_isTold_275 : decode cL_isTold 275 = .ok (.istore 12, 2) := by decide +kernel
theorem dL_isTold_277 : decode cL_isTold 277 = .ok (.iload 12, 2) := by decide +kernel
theorem dL_isTold_279 : decode cL_isTold 279 = .ok (.ifCond .eq 12, 3) := by decide +kernel
theorem dL_isTold_282 : decode cL_isTold 282 = .ok (.aload_n 2, 1) := by decide +kernel
theorem dL_isTold_283 : decode cL_isTold 283 = .ok (.iload 10, 2) := by decide +kernel
theorem dL_isTold_285 : decode cL_isTold 285 = .ok (.iaload, 1) := by decide +kernel
theorem dL_isTold_286 : decode cL_isTold 286 = .ok (.iconst 1, 1) := by decide +kernel
theorem dL_isTold_287 : decode cL_isTold 287 = .ok (.isub, 1) := by decide +kernel
theorem dL_isTold_288 : decode cL_isTold 288 = .ok (.goto 4, 3) := by decide +kernel
theorem dL_isTold_291 : decode cL_isTold 291 = .ok (.iconst 0, 1) := by decide +kernel
theorem dL_isTold_292 : decode cL_isTold 292 = .ok (.istore 13, 2) := by decide +kernel
theorem dL_isTold_294 : decode cL_isTold 294 = .ok (.aload_n 2, 1) := by decide +kernel
theorem dL_isTold_295 : decode cL_isTold 295 = .ok (.iload 12, 2) := by decide +kernel
theorem dL_isTold_297 : decode cL_isTold 297 = .ok (.ifCond .eq 8, 3) := by decide +kernel
theorem dL_isTold_300 : decode cL_isTold 300 = .ok (.iload 10, 2) := by decide +kernel
theorem dL_isTold_302 : decode cL_isTold 302 = .ok (.goto 5, 3) := by decide +kernel
theorem dL_isTold_305 : decode cL_isTold 305 = .ok (.bipush 8, 2) := by decide +kernel
theorem dL_isTold_307 : decode cL_isTold 307 = .ok (.iload 11, 2) := by decide +kernel
theorem dL_isTold_309 : decode cL_isTold 309 = .ok (.iconst 1, 1) := by decide +kernel
theorem dL_isTold_310 : decode cL_isTold 310 = .ok (.iadd, 1) := by decide +kernel
theorem dL_isTold_311 : decode cL_isTold 311 = .ok (.iastore, 1) := by decide +kernel
theorem dL_isTold_312 : decode cL_isTold 312 = .ok (.aload_n 2, 1) := by decide +kernel
theorem dL_isTold_313 : decode cL_isTold 313 = .ok (.iload 12, 2) := by decide +kernel
theorem dL_isTold_315 : decode cL_isTold 315 = .ok (.ifCond .eq 17, 3) := by decide +kernel
theorem dL_isTold_318 : decode cL_isTold 318 = .ok (.aload 6, 2) := by decide +kernel
theorem dL_isTold_320 : decode cL_isTold 320 = .ok (.iconst 4, 1) := by decide +kernel
theorem dL_isTold_321 : decode cL_isTold 321 = .ok (.iaload, 1) := by decide +kernel
theorem dL_isTold_322 : decode cL_isTold 322 = .ok (.ifCond .ne 10, 3) := by decide +kernel
theorem dL_isTold_325 : decode cL_isTold 325 = .ok (.iconst 4, 1) := by decide +kernel
theorem dL_isTold_326 : decode cL_isTold 326 = .ok (.iload 10, 2) := by decide +kernel
theorem dL_isTold_328 : decode cL_isTold 328 = .ok (.iadd, 1) := by decide +kernel
theorem dL_isTold_329 : decode cL_isTold 329 = .ok (.goto 5, 3) := by decide +kernel
theorem dL_isTold_332 : decode cL_isTold 332 = .ok (.bipush 8, 2) := by decide +kernel
theorem dL_isTold_334 : decode cL_isTold 334 = .ok (.iload 11, 2) := by decide +kernel
theorem dL_isTold_336 : decode cL_isTold 336 = .ok (.iconst 1, 1) := by decide +kernel
theorem dL_isTold_337 : decode cL_isTold 337 = .ok (.iadd, 1) := by decide +kernel
theorem dL_isTold_338 : decode cL_isTold 338 = .ok (.iastore, 1) := by decide +kernel
theorem dL_isTold_339 : decode cL_isTold 339 = .ok (.aload_n 0, 1) := by decide +kernel
theorem dL_isTold_340 : decode cL_isTold 340 = .ok (.iconst 1, 1) := by decide +kernel
theorem dL_isTold_341 : decode cL_isTold 341 = .ok (.iload 10, 2) := by decide +kernel
theorem dL_isTold_343 : decode cL_isTold 343 = .ok (.iload 11, 2) := by decide +kernel
theorem dL_isTold_345 : decode cL_isTold 345 = .ok (.iconst 0, 1) := by decide +kernel
theorem dL_isTold_346 : decode cL_isTold 346 = .ok (.iconst 0, 1) := by decide +kernel
theorem dL_isTold_347 : decode cL_isTold 347 = .ok (.invokestatic 132, 3) := by decide +kernel
theorem dL_isTold_350 : decode cL_isTold 350 = .ok (.iload 12, 2) := by decide +kernel
theorem dL_isTold_352 : decode cL_isTold 352 = .ok (.ifCond .eq 8, 3) := by decide +kernel
theorem dL_isTold_355 : decode cL_isTold 355 = .ok (.iload 13, 2) := by decide +kernel
theorem dL_isTold_357 : decode cL_isTold 357 = .ok (.goto 5, 3) := by decide +kernel
theorem dL_isTold_360 : decode cL_isTold 360 = .ok (.ldc 84, 2) := by decide +kernel
theorem dL_isTold_362 : decode cL_isTold 362 = .ok (.if_icmp .ne 7, 3) := by decide +kernel
theorem dL_isTold_365 : decode cL_isTold 365 = .ok (.iconst 1, 1) := by decide +kernel
theorem dL_isTold_366 : decode cL_isTold 366 = .ok (.goto 4, 3) := by decide +kernel
theorem dL_isTold_369 : decode cL_isTold 369 = .ok (.iconst 0, 1) := by decide +kernel
theorem dL_isTold_370 : decode cL_isTold 370 = .ok (.ireturn, 1) := by decide +kernel
theorem dL_isTold_371 : decode cL_isTold 371 = .ok (.iload 7, 2) := by decide +kernel
theorem dL_isTold_373 : decode cL_isTold 373 = .ok (.iconst 2, 1) := by decide +kernel
theorem dL_isTold_374 : decode cL_isTold 374 = .ok (.if_icmp .ne 254, 3) := by decide +kernel
theorem dL_isTold_377 : decode cL_isTold 377 = .ok (.iload 8, 2) := by decide +kernel
theorem dL_isTold_379 : decode cL_isTold 379 = .ok (.bipush 17, 2) := by decide +kernel
theorem dL_isTold_381 : decode cL_isTold 381 = .ok (.irem, 1) := by decide +kernel
theorem dL_isTold_382 : decode cL_isTold 382 = .ok (.bipush 16, 2) := by decide +kernel
theorem dL_isTold_384 : decode cL_isTold 384 = .ok (.if_icmp .ne 7, 3) := by decide +kernel
theorem dL_isTold_387 : decode cL_isTold 387 = .ok (.iconst 5, 1) := by decide +kernel
theorem dL_isTold_388 : decode cL_isTold 388 = .ok (.goto 7, 3) := by decide +kernel
theorem dL_isTold_391 : decode cL_isTold 391 = .ok (.iload 8, 2) := by decide +kernel
theorem dL_isTold_393 : decode cL_isTold 393 = .ok (.iconst 5, 1) := by decide +kernel
theorem dL_isTold_394 : decode cL_isTold 394 = .ok (.irem, 1) := by decide +kernel
theorem dL_isTold_395 : decode cL_isTold 395 = .ok (.istore 10, 2) := by decide +kernel
theorem dL_isTold_397 : decode cL_isTold 397 = .ok (.iload 8, 2) := by decide +kernel
theorem dL_isTold_399 : decode cL_isTold 399 = .ok (.bipush 17, 2) := by decide +kernel
theorem dL_isTold_401 : decode cL_isTold 401 = .ok (.idiv, 1) := by decide +kernel
theorem dL_isTold_402 : decode cL_isTold 402 = .ok (.bipush 13, 2) := by decide +kernel
theorem dL_isTold_404 : decode cL_isTold 404 = .ok (.irem, 1) := by decide +kernel
theorem dL_isTold_405 : decode cL_isTold 405 = .ok (.bipush 12, 2) := by decide +kernel
theorem dL_isTold_407 : decode cL_isTold 407 = .ok (.if_icmp .ne 8, 3) := by decide +kernel
theorem dL_isTold_410 : decode cL_isTold 410 = .ok (.bipush 6, 2) := by decide +kernel
theorem dL_isTold_412 : decode cL_isTold 412 = .ok (.goto 11, 3) := by decide +kernel
theorem dL_isTold_415 : decode cL_isTold 415 = .ok (.iload 8, 2) := by decide +kernel
theorem dL_isTold_417 : decode cL_isTold 417 = .ok (.bipush 17, 2) := by decide +kernel
theorem dL_isTold_419 : decode cL_isTold 419 = .ok (.idiv, 1) := by decide +kernel
theorem dL_isTold_420 : decode cL_isTold 420 = .ok (.bipush 6, 2) := by decide +kernel
theorem dL_isTold_422 : decode cL_isTold 422 = .ok (.irem, 1) := by decide +kernel
theorem dL_isTold_423 : decode cL_isTold 423 = .ok (.istore 11, 2) := by decide +kernel
theorem dL_isTold_425 : decode cL_isTold 425 = .ok (.iload 9, 2) := by decide +kernel
theorem dL_isTold_427 : decode cL_isTold 427 = .ok (.bipush 6, 2) := by decide +kernel
theorem dL_isTold_429 : decode cL_isTold 429 = .ok (.irem, 1) := by decide +kernel
theorem dL_isTold_430 : decode cL_isTold 430 = .ok (.istore 12, 2) := by decide +kernel
theorem dL_isTold_432 : decode cL_isTold 432 = .ok (.iload 9, 2) := by decide +kernel
theorem dL_isTold_434 : decode cL_isTold 434 = .ok (.bipush 6, 2) := by decide +kernel
theorem dL_isTold_436 : decode cL_isTold 436 = .ok (.idiv, 1) := by decide +kernel
theorem dL_isTold_437 : decode cL_isTold 437 = .ok (.bipush 9, 2) := by decide +kernel
theorem dL_isTold_439 : decode cL_isTold 439 = .ok (.irem, 1) := by decide +kernel
theorem dL_isTold_440 : decode cL_isTold 440 = .ok (.bipush 8, 2) := by decide +kernel
theorem dL_isTold_442 : decode cL_isTold 442 = .ok (.if_icmp .ne 7, 3) := by decide +kernel
theorem dL_isTold_445 : decode cL_isTold 445 = .ok (.iconst 4, 1) := by decide +kernel
theorem dL_isTold_446 : decode cL_isTold 446 = .ok (.goto 10, 3) := by decide +kernel
theorem dL_isTold_449 : decode cL_isTold 449 = .ok (.iload 9, 2) := by decide +kernel
theorem dL_isTold_451 : decode cL_isTold 451 = .ok (.bipush 6, 2) := by decide +kernel
theorem dL_isTold_453 : decode cL_isTold 453 = .ok (.idiv, 1) := by decide +kernel
theorem dL_isTold_454 : decode cL_isTold 454 = .ok (.iconst 2, 1) := by decide +kernel
theorem dL_isTold_455 : decode cL_isTold 455 = .ok (.irem, 1) := by decide +kernel
theorem dL_isTold_456 : decode cL_isTold 456 = .ok (.istore 13, 2) := by decide +kernel
theorem dL_isTold_458 : decode cL_isTold 458 = .ok (.iload 11, 2) := by decide +kernel
theorem dL_isTold_460 : decode cL_isTold 460 = .ok (.bipush 6, 2) := by decide +kernel
theorem dL_isTold_462 : decode cL_isTold 462 = .ok (.if_icmp .ge 13, 3) := by decide +kernel
theorem dL_isTold_465 : decode cL_isTold 465 = .ok (.iload 13, 2) := by decide +kernel
theorem dL_isTold_467 : decode cL_isTold 467 = .ok (.iconst 4, 1) := by decide +kernel
theorem dL_isTold_468 : decode cL_isTold 468 = .ok (.if_icmp .ge 7, 3) := by decide +kernel
theorem dL_isTold_471 : decode cL_isTold 471 = .ok (.iconst 1, 1) := by decide +kernel
theorem dL_isTold_472 : decode cL_isTold 472 = .ok (.goto 4, 3) := by decide +kernel
theorem dL_isTold_475 : decode cL_isTold 475 = .ok (.iconst 0, 1) := by decide +kernel
theorem dL_isTold_476 : decode cL_isTold 476 = .ok (.istore 14, 2) := by decide +kernel
theorem dL_isTold_478 : decode cL_isTold 478 = .ok (.iload 10, 2) := by decide +kernel
theorem dL_isTold_480 : decode cL_isTold 480 = .ok (.iconst 5, 1) := by decide +kernel
theorem dL_isTold_481 : decode cL_isTold 481 = .ok (.if_icmp .ge 14, 3) := by decide +kernel
theorem dL_isTold_484 : decode cL_isTold 484 = .ok (.iload 11, 2) := by decide +kernel
theorem dL_isTold_486 : decode cL_isTold 486 = .ok (.iload 12, 2) := by decide +kernel
theorem dL_isTold_488 : decode cL_isTold 488 = .ok (.if_icmp .eq 7, 3) := by decide +kernel
theorem dL_isTold_491 : decode cL_isTold 491 = .ok (.iconst 1, 1) := by decide +kernel
theorem dL_isTold_492 : decode cL_isTold 492 = .ok (.goto 4, 3) := by decide +kernel
theorem dL_isTold_495 : decode cL_isTold 495 = .ok (.iconst 0, 1) := by decide +kernel
theorem dL_isTold_496 : decode cL_isTold 496 = .ok (.istore 15, 2) := by decide +kernel
theorem dL_isTold_498 : decode cL_isTold 498 = .ok (.iload 14, 2) := by decide +kernel
theorem dL_isTold_500 : decode cL_isTold 500 = .ok (.ifCond .eq 29, 3) := by decide +kernel
theorem dL_isTold_503 : decode cL_isTold 503 = .ok (.iload 15, 2) := by decide +kernel
theorem dL_isTold_505 : decode cL_isTold 505 = .ok (.ifCond .eq 24, 3) := by decide +kernel
theorem dL_isTold_508 : decode cL_isTold 508 = .ok (.aload 6, 2) := by decide +kernel
theorem dL_isTold_510 : decode cL_isTold 510 = .ok (.iconst 4, 1) := by decide +kernel
theorem dL_isTold_511 : decode cL_isTold 511 = .ok (.iaload, 1) := by decide +kernel
theorem dL_isTold_512 : decode cL_isTold 512 = .ok (.iconst 1, 1) := by decide +kernel
theorem dL_isTold_513 : decode cL_isTold 513 = .ok (.if_icmp .eq 16, 3) := by decide +kernel
theorem dL_isTold_516 : decode cL_isTold 516 = .ok (.aload 6, 2) := by decide +kernel
theorem dL_isTold_518 : decode cL_isTold 518 = .ok (.iconst 0, 1) := by decide +kernel
theorem dL_isTold_519 : decode cL_isTold 519 = .ok (.iaload, 1) := by decide +kernel
theorem dL_isTold_520 : decode cL_isTold 520 = .ok (.bipush 12, 2) := by decide +kernel
theorem dL_isTold_522 : decode cL_isTold 522 = .ok (.if_icmp .ge 7, 3) := by decide +kernel
theorem dL_isTold_525 : decode cL_isTold 525 = .ok (.iconst 1, 1) := by decide +kernel
theorem dL_isTold_526 : decode cL_isTold 526 = .ok (.goto 4, 3) := by decide +kernel
theorem dL_isTold_529 : decode cL_isTold 529 = .ok (.iconst 0, 1) := by decide +kernel
theorem dL_isTold_530 : decode cL_isTold 530 = .ok (.istore 16, 2) := by decide +kernel
theorem dL_isTold_532 : decode cL_isTold 532 = .ok (.iload 16, 2) := by decide +kernel
theorem dL_isTold_534 : decode cL_isTold 534 = .ok (.ifCond .eq 38, 3) := by decide +kernel
theorem dL_isTold_537 : decode cL_isTold 537 = .ok (.aload_n 3, 1) := by decide +kernel
theorem dL_isTold_538 : decode cL_isTold 538 = .ok (.aload 6, 2) := by decide +kernel
theorem dL_isTold_540 : decode cL_isTold 540 = .ok (.iconst 0, 1) := by decide +kernel
theorem dL_isTold_541 : decode cL_isTold 541 = .ok (.iaload, 1) := by decide +kernel
theorem dL_isTold_542 : decode cL_isTold 542 = .ok (.iload 10, 2) := by decide +kernel
theorem dL_isTold_544 : decode cL_isTold 544 = .ok (.bipush 8, 2) := by decide +kernel
theorem dL_isTold_546 : decode cL_isTold 546 = .ok (.iload 11, 2) := by decide +kernel
theorem dL_isTold_548 : decode cL_isTold 548 = .ok (.imul, 1) := by decide +kernel
theorem dL_isTold_549 : decode cL_isTold 549 = .ok (.iadd, 1) := by decide +kernel
theorem dL_isTold_550 : decode cL_isTold 550 = .ok (.bipush 64, 2) := by decide +kernel
theorem dL_isTold_552 : decode cL_isTold 552 = .ok (.iload 12, 2) := by decide +kernel
theorem dL_isTold_554 : decode cL_isTold 554 = .ok (.imul, 1) := by decide +kernel
theorem dL_isTold_555 : decode cL_isTold 555 = .ok (.iadd, 1) := by decide +kernel
theorem dL_isTold_556 : decode cL_isTold 556 = .ok (.sipush 512, 3) := by decide +kernel
theorem dL_isTold_559 : decode cL_isTold 559 = .ok (.iload 13, 2) := by decide +kernel
theorem dL_isTold_561 : decode cL_isTold 561 = .ok (.imul, 1) := by decide +kernel
theorem dL_isTold_562 : decode cL_isTold 562 = .ok (.iadd, 1) := by decide +kernel
theorem dL_isTold_563 : decode cL_isTold 563 = .ok (.iastore, 1) := by decide +kernel
theorem dL_isTold_564 : decode cL_isTold 564 = .ok (.aload 6, 2) := by decide +kernel
theorem dL_isTold_566 : decode cL_isTold 566 = .ok (.iconst 0, 1) := by decide +kernel
theorem dL_isTold_567 : decode cL_isTold 567 = .ok (.dup2, 1) := by decide +kernel
theorem dL_isTold_568 : decode cL_isTold 568 = .ok (.iaload, 1) := by decide +kernel
theorem dL_isTold_569 : decode cL_isTold 569 = .ok (.iconst 1, 1) := by decide +kernel
theorem dL_isTold_570 : decode cL_isTold 570 = .ok (.iadd, 1) := by decide +kernel
theorem dL_isTold_571 : decode cL_isTold 571 = .ok (.iastore, 1) := by decide +kernel
theorem dL_isTold_572 : decode cL_isTold 572 = .ok (.aload_n 0, 1) := by decide +kernel
theorem dL_isTold_573 : decode cL_isTold 573 = .ok (.iconst 2, 1) := by decide +kernel
theorem dL_isTold_574 : decode cL_isTold 574 = .ok (.iload 10, 2) := by decide +kernel
theorem dL_isTold_576 : decode cL_isTold 576 = .ok (.iload 11, 2) := by decide +kernel
theorem dL_isTold_578 : decode cL_isTold 578 = .ok (.iload 12, 2) := by decide +kernel
theorem dL_isTold_580 : decode cL_isTold 580 = .ok (.iload 13, 2) := by decide +kernel
theorem dL_isTold_582 : decode cL_isTold 582 = .ok (.invokestatic 132, 3) := by decide +kernel
theorem dL_isTold_585 : decode cL_isTold 585 = .ok (.iload 14, 2) := by decide +kernel
theorem dL_isTold_587 : decode cL_isTold 587 = .ok (.ifCond .ne 8, 3) := by decide +kernel
theorem dL_isTold_590 : decode cL_isTold 590 = .ok (.ldc 84, 2) := by decide +kernel
theorem dL_isTold_592 : decode cL_isTold 592 = .ok (.goto 27, 3) := by decide +kernel
theorem dL_isTold_595 : decode cL_isTold 595 = .ok (.iload 15, 2) := by decide +kernel
theorem dL_isTold_597 : decode cL_isTold 597 = .ok (.ifCond .ne 8, 3) := by decide +kernel
theorem dL_isTold_600 : decode cL_isTold 600 = .ok (.ldc 87, 2) := by decide +kernel
theorem dL_isTold_602 : decode cL_isTold 602 = .ok (.goto 17, 3) := by decide +kernel
theorem dL_isTold_605 : decode cL_isTold 605 = .ok (.iload 16, 2) := by decide +kernel
theorem dL_isTold_607 : decode cL_isTold 607 = .ok (.ifCond .eq 10, 3) := by decide +kernel
theorem dL_isTold_610 : decode cL_isTold 610 = .ok (.aload 6, 2) := by decide +kernel
theorem dL_isTold_612 : decode cL_isTold 612 = .ok (.iconst 0, 1) := by decide +kernel
theorem dL_isTold_613 : decode cL_isTold 613 = .ok (.iaload, 1) := by decide +kernel
theorem dL_isTold_614 : decode cL_isTold 614 = .ok (.goto 5, 3) := by decide +kernel
theorem dL_isTold_617 : decode cL_isTold 617 = .ok (.ldc 90, 2) := by decide +kernel
theorem dL_isTold_619 : decode cL_isTold 619 = .ok (.if_icmp .ne 7, 3) := by decide +kernel
theorem dL_isTold_622 : decode cL_isTold 622 = .ok (.iconst 1, 1) := by decide +kernel
theorem dL_isTold_623 : decode cL_isTold 623 = .ok (.goto 4, 3) := by decide +kernel
theorem dL_isTold_626 : decode cL_isTold 626 = .ok (.iconst 0, 1) := by decide +kernel
theorem dL_isTold_627 : decode cL_isTold 627 = .ok (.ireturn, 1) := by decide +kernel
theorem dL_isTold_628 : decode cL_isTold 628 = .ok (.iload 7, 2) := by decide +kernel
theorem dL_isTold_630 : decode cL_isTold 630 = .ok (.iconst 3, 1) := by decide +kernel
theorem dL_isTold_631 : decode cL_isTold 631 = .ok (.if_icmp .ne 153, 3) := by decide +kernel
theorem dL_isTold_634 : decode cL_isTold 634 = .ok (.aload 6, 2) := by decide +kernel
theorem dL_isTold_636 : decode cL_isTold 636 = .ok (.iconst 4, 1) := by decide +kernel
theorem dL_isTold_637 : decode cL_isTold 637 = .ok (.iaload, 1) := by decide +kernel
theorem dL_isTold_638 : decode cL_isTold 638 = .ok (.iconst 1, 1) := by decide +kernel
theorem dL_isTold_639 : decode cL_isTold 639 = .ok (.if_icmp .eq 7, 3) := by decide +kernel
theorem dL_isTold_642 : decode cL_isTold 642 = .ok (.iconst 1, 1) := by decide +kernel
theorem dL_isTold_643 : decode cL_isTold 643 = .ok (.goto 4, 3) := by decide +kernel
theorem dL_isTold_646 : decode cL_isTold 646 = .ok (.iconst 0, 1) := by decide +kernel
theorem dL_isTold_647 : decode cL_isTold 647 = .ok (.istore 10, 2) := by decide +kernel
theorem dL_isTold_649 : decode cL_isTold 649 = .ok (.aload 6, 2) := by decide +kernel
theorem dL_isTold_651 : decode cL_isTold 651 = .ok (.iconst 0, 1) := by decide +kernel
theorem dL_isTold_652 : decode cL_isTold 652 = .ok (.iaload, 1) := by decide +kernel
theorem dL_isTold_653 : decode cL_isTold 653 = .ok (.istore 11, 2) := by decide +kernel
theorem dL_isTold_655 : decode cL_isTold 655 = .ok (.iload 8, 2) := by decide +kernel
theorem dL_isTold_657 : decode cL_isTold 657 = .ok (.iconst 2, 1) := by decide +kernel
theorem dL_isTold_658 : decode cL_isTold 658 = .ok (.irem, 1) := by decide +kernel
theorem dL_isTold_659 : decode cL_isTold 659 = .ok (.ifCond .ne 48, 3) := by decide +kernel
theorem dL_isTold_662 : decode cL_isTold 662 = .ok (.aload 6, 2) := by decide +kernel
theorem dL_isTold_664 : decode cL_isTold 664 = .ok (.iconst 0, 1) := by decide +kernel
theorem dL_isTold_665 : decode cL_isTold 665 = .ok (.iload 10, 2) := by decide +kernel
theorem dL_isTold_667 : decode cL_isTold 667 = .ok (.ifCond .eq 7, 3) := by decide +kernel
theorem dL_isTold_670 : decode cL_isTold 670 = .ok (.iconst 0, 1) := by decide +kernel
theorem dL_isTold_671 : decode cL_isTold 671 = .ok (.goto 5, 3) := by decide +kernel
theorem dL_isTold_674 : decode cL_isTold 674 = .ok (.iload 11, 2) := by decide +kernel
theorem dL_isTold_676 : decode cL_isTold 676 = .ok (.iastore, 1) := by decide +kernel
theorem dL_isTold_677 : decode cL_isTold 677 = .ok (.aload_n 0, 1) := by decide +kernel
theorem dL_isTold_678 : decode cL_isTold 678 = .ok (.iconst 3, 1) := by decide +kernel
theorem dL_isTold_679 : decode cL_isTold 679 = .ok (.iconst 0, 1) := by decide +kernel
theorem dL_isTold_680 : decode cL_isTold 680 = .ok (.iconst 0, 1) := by decide +kernel
theorem dL_isTold_681 : decode cL_isTold 681 = .ok (.iconst 0, 1) := by decide +kernel
theorem dL_isTold_682 : decode cL_isTold 682 = .ok (.iconst 0, 1) := by decide +kernel
theorem dL_isTold_683 : decode cL_isTold 683 = .ok (.invokestatic 132, 3) := by decide +kernel
theorem dL_isTold_686 : decode cL_isTold 686 = .ok (.iload 10, 2) := by decide +kernel
theorem dL_isTold_688 : decode cL_isTold 688 = .ok (.ifCond .eq 8, 3) := by decide +kernel
theorem dL_isTold_691 : decode cL_isTold 691 = .ok (.iload 11, 2) := by decide +kernel
theorem dL_isTold_693 : decode cL_isTold 693 = .ok (.goto 5, 3) := by decide +kernel
theorem dL_isTold_696 : decode cL_isTold 696 = .ok (.ldc 90, 2) := by decide +kernel
theorem dL_isTold_698 : decode cL_isTold 698 = .ok (.if_icmp .ne 7, 3) := by decide +kernel
theorem dL_isTold_701 : decode cL_isTold 701 = .ok (.iconst 1, 1) := by decide +kernel
theorem dL_isTold_702 : decode cL_isTold 702 = .ok (.goto 4, 3) := by decide +kernel
theorem dL_isTold_705 : decode cL_isTold 705 = .ok (.iconst 0, 1) := by decide +kernel
theorem dL_isTold_706 : decode cL_isTold 706 = .ok (.ireturn, 1) := by decide +kernel
theorem dL_isTold_707 : decode cL_isTold 707 = .ok (.iconst 0, 1) := by decide +kernel
theorem dL_isTold_708 : decode cL_isTold 708 = .ok (.istore 12, 2) := by decide +kernel
theorem dL_isTold_710 : decode cL_isTold 710 = .ok (.iload 12, 2) := by decide +kernel
theorem dL_isTold_712 : decode cL_isTold 712 = .ok (.bipush 6, 2) := by decide +kernel
theorem dL_isTold_714 : decode cL_isTold 714 = .ok (.if_icmp .ge 23, 3) := by decide +kernel
theorem dL_isTold_717 : decode cL_isTold 717 = .ok (.iload 10, 2) := by decide +kernel
theorem dL_isTold_719 : decode cL_isTold 719 = .ok (.ifCond .eq 18, 3) := by decide +kernel
theorem dL_isTold_722 : decode cL_isTold 722 = .ok (.aload 4, 2) := by decide +kernel
theorem dL_isTold_724 : decode cL_isTold 724 = .ok (.bipush 6, 2) := by decide +kernel
theorem dL_isTold_726 : decode cL_isTold 726 = .ok (.iload 12, 2) := by decide +kernel
theorem dL_isTold_728 : decode cL_isTold 728 = .ok (.iadd, 1) := by decide +kernel
theorem dL_isTold_729 : decode cL_isTold 729 = .ok (.iconst 0, 1) := by decide +kernel
theorem dL_isTold_730 : decode cL_isTold 730 = .ok (.iastore, 1) := by decide +kernel
theorem dL_isTold_731 : decode cL_isTold 731 = .ok (.iinc 12 1, 3) := by decide +kernel
theorem dL_isTold_734 : decode cL_isTold 734 = .ok (.goto (-24), 3) := by decide +kernel
theorem dL_isTold_737 : decode cL_isTold 737 = .ok (.aload 6, 2) := by decide +kernel
theorem dL_isTold_739 : decode cL_isTold 739 = .ok (.iconst 2, 1) := by decide +kernel
theorem dL_isTold_740 : decode cL_isTold 740 = .ok (.iload 10, 2) := by decide +kernel
theorem dL_isTold_742 : decode cL_isTold 742 = .ok (.ifCond .eq 7, 3) := by decide +kernel
theorem dL_isTold_745 : decode cL_isTold 745 = .ok (.iconst 0, 1) := by decide +kernel
theorem dL_isTold_746 : decode cL_isTold 746 = .ok (.goto 7, 3) := by decide +kernel
theorem dL_isTold_749 : decode cL_isTold 749 = .ok (.aload 6, 2) := by decide +kernel
theorem dL_isTold_751 : decode cL_isTold 751 = .ok (.iconst 2, 1) := by decide +kernel
theorem dL_isTold_752 : decode cL_isTold 752 = .ok (.iaload, 1) := by decide +kernel
theorem dL_isTold_753 : decode cL_isTold 753 = .ok (.iastore, 1) := by decide +kernel
theorem dL_isTold_754 : decode cL_isTold 754 = .ok (.aload_n 0, 1) := by decide +kernel
theorem dL_isTold_755 : decode cL_isTold 755 = .ok (.bipush 6, 2) := by decide +kernel
theorem dL_isTold_757 : decode cL_isTold 757 = .ok (.iconst 0, 1) := by decide +kernel
theorem dL_isTold_758 : decode cL_isTold 758 = .ok (.iconst 0, 1) := by decide +kernel
theorem dL_isTold_759 : decode cL_isTold 759 = .ok (.iconst 0, 1) := by decide +kernel
theorem dL_isTold_760 : decode cL_isTold 760 = .ok (.iconst 0, 1) := by decide +kernel
theorem dL_isTold_761 : decode cL_isTold 761 = .ok (.invokestatic 132, 3) := by decide +kernel
theorem dL_isTold_764 : decode cL_isTold 764 = .ok (.iload 10, 2) := by decide +kernel
theorem dL_isTold_766 : decode cL_isTold 766 = .ok (.ifCond .eq 7, 3) := by decide +kernel
theorem dL_isTold_769 : decode cL_isTold 769 = .ok (.iconst 0, 1) := by decide +kernel
theorem dL_isTold_770 : decode cL_isTold 770 = .ok (.goto 5, 3) := by decide +kernel
theorem dL_isTold_773 : decode cL_isTold 773 = .ok (.ldc 90, 2) := by decide +kernel
theorem dL_isTold_775 : decode cL_isTold 775 = .ok (.if_icmp .ne 7, 3) := by decide +kernel
theorem dL_isTold_778 : decode cL_isTold 778 = .ok (.iconst 1, 1) := by decide +kernel
theorem dL_isTold_779 : decode cL_isTold 779 = .ok (.goto 4, 3) := by decide +kernel
theorem dL_isTold_782 : decode cL_isTold 782 = .ok (.iconst 0, 1) := by decide +kernel
theorem dL_isTold_783 : decode cL_isTold 783 = .ok (.ireturn, 1) := by decide +kernel
theorem dL_isTold_784 : decode cL_isTold 784 = .ok (.iload 7, 2) := by decide +kernel
theorem dL_isTold_786 : decode cL_isTold 786 = .ok (.iconst 4, 1) := by decide +kernel
theorem dL_isTold_787 : decode cL_isTold 787 = .ok (.if_icmp .ne 97, 3) := by decide +kernel
theorem dL_isTold_790 : decode cL_isTold 790 = .ok (.iload 8, 2) := by decide +kernel
theorem dL_isTold_792 : decode cL_isTold 792 = .ok (.bipush 13, 2) := by decide +kernel
theorem dL_isTold_794 : decode cL_isTold 794 = .ok (.irem, 1) := by decide +kernel
theorem dL_isTold_795 : decode cL_isTold 795 = .ok (.bipush 12, 2) := by decide +kernel
theorem dL_isTold_797 : decode cL_isTold 797 = .ok (.if_icmp .ne 8, 3) := by decide +kernel
theorem dL_isTold_800 : decode cL_isTold 800 = .ok (.bipush 6, 2) := by decide +kernel
theorem dL_isTold_802 : decode cL_isTold 802 = .ok (.goto 8, 3) := by decide +kernel
theorem dL_isTold_805 : decode cL_isTold 805 = .ok (.iload 8, 2) := by decide +kernel
theorem dL_isTold_807 : decode cL_isTold 807 = .ok (.bipush 6, 2) := by decide +kernel
theorem dL_isTold_809 : decode cL_isTold 809 = .ok (.irem, 1) := by decide +kernel
theorem dL_isTold_810 : decode cL_isTold 810 = .ok (.istore 10, 2) := by decide +kernel
theorem dL_isTold_812 : decode cL_isTold 812 = .ok (.iload 10, 2) := by decide +kernel
theorem dL_isTold_814 : decode cL_isTold 814 = .ok (.bipush 6, 2) := by decide +kernel
theorem dL_isTold_816 : decode cL_isTold 816 = .ok (.if_icmp .ge 28, 3) := by decide +kernel
theorem dL_isTold_819 : decode cL_isTold 819 = .ok (.aload 6, 2) := by decide +kernel
theorem dL_isTold_821 : decode cL_isTold 821 = .ok (.iconst 1, 1) := by decide +kernel
theorem dL_isTold_822 : decode cL_isTold 822 = .ok (.dup2, 1) := by decide +kernel
theorem dL_isTold_823 : decode cL_isTold 823 = .ok (.iaload, 1) := by decide +kernel
theorem dL_isTold_824 : decode cL_isTold 824 = .ok (.iconst 1, 1) := by decide +kernel
theorem dL_isTold_825 : decode cL_isTold 825 = .ok (.iload 10, 2) := by decide +kernel
theorem dL_isTold_827 : decode cL_isTold 827 = .ok (.ishl, 1) := by decide +kernel
theorem dL_isTold_828 : decode cL_isTold 828 = .ok (.ixor, 1) := by decide +kernel
theorem dL_isTold_829 : decode cL_isTold 829 = .ok (.iastore, 1) := by decide +kernel
theorem dL_isTold_830 : decode cL_isTold 830 = .ok (.aload 6, 2) := by decide +kernel
theorem dL_isTold_832 : decode cL_isTold 832 = .ok (.bipush 9, 2) := by decide +kernel
theorem dL_isTold_834 : decode cL_isTold 834 = .ok (.dup2, 1) := by decide +kernel
theorem dL_isTold_835 : decode cL_isTold 835 = .ok (.iaload, 1) := by decide +kernel
theorem dL_isTold_836 : decode cL_isTold 836 = .ok (.aload 6, 2) := by decide +kernel
theorem dL_isTold_838 : decode cL_isTold 838 = .ok (.iconst 1, 1) := by decide +kernel
theorem dL_isTold_839 : decode cL_isTold 839 = .ok (.iaload, 1) := by decide +kernel
theorem dL_isTold_840 : decode cL_isTold 840 = .ok (.iconst (-1), 1) := by decide +kernel
theorem dL_isTold_841 : decode cL_isTold 841 = .ok (.ixor, 1) := by decide +kernel
theorem dL_isTold_842 : decode cL_isTold 842 = .ok (.iand, 1) := by decide +kernel
theorem dL_isTold_843 : decode cL_isTold 843 = .ok (.iastore, 1) := by decide +kernel
theorem dL_isTold_844 : decode cL_isTold 844 = .ok (.aload_n 0, 1) := by decide +kernel
theorem dL_isTold_845 : decode cL_isTold 845 = .ok (.iconst 4, 1) := by decide +kernel
theorem dL_isTold_846 : decode cL_isTold 846 = .ok (.iload 10, 2) := by decide +kernel
theorem dL_isTold_848 : decode cL_isTold 848 = .ok (.iconst 0, 1) := by decide +kernel
theorem dL_isTold_849 : decode cL_isTold 849 = .ok (.iconst 0, 1) := by decide +kernel
theorem dL_isTold_850 : decode cL_isTold 850 = .ok (.iconst 0, 1) := by decide +kernel
theorem dL_isTold_851 : decode cL_isTold 851 = .ok (.invokestatic 132, 3) := by decide +kernel
theorem dL_isTold_854 : decode cL_isTold 854 = .ok (.iload 10, 2) := by decide +kernel
theorem dL_isTold_856 : decode cL_isTold 856 = .ok (.bipush 6, 2) := by decide +kernel
theorem dL_isTold_858 : decode cL_isTold 858 = .ok (.if_icmp .ne 8, 3) := by decide +kernel
theorem dL_isTold_861 : decode cL_isTold 861 = .ok (.ldc 84, 2) := by decide +kernel
theorem dL_isTold_863 : decode cL_isTold 863 = .ok (.goto 12, 3) := by decide +kernel
theorem dL_isTold_866 : decode cL_isTold 866 = .ok (.aload 6, 2) := by decide +kernel
theorem dL_isTold_868 : decode cL_isTold 868 = .ok (.iconst 1, 1) := by decide +kernel
theorem dL_isTold_869 : decode cL_isTold 869 = .ok (.iaload, 1) := by decide +kernel
theorem dL_isTold_870 : decode cL_isTold 870 = .ok (.iload 10, 2) := by decide +kernel
theorem dL_isTold_872 : decode cL_isTold 872 = .ok (.ishr, 1) := by decide +kernel
theorem dL_isTold_873 : decode cL_isTold 873 = .ok (.iconst 1, 1) := by decide +kernel
theorem dL_isTold_874 : decode cL_isTold 874 = .ok (.iand, 1) := by decide +kernel
theorem dL_isTold_875 : decode cL_isTold 875 = .ok (.if_icmp .ne 7, 3) := by decide +kernel
theorem dL_isTold_878 : decode cL_isTold 878 = .ok (.iconst 1, 1) := by decide +kernel
theorem dL_isTold_879 : decode cL_isTold 879 = .ok (.goto 4, 3) := by decide +kernel
theorem dL_isTold_882 : decode cL_isTold 882 = .ok (.iconst 0, 1) := by decide +kernel
theorem dL_isTold_883 : decode cL_isTold 883 = .ok (.ireturn, 1) := by decide +kernel
theorem dL_isTold_884 : decode cL_isTold 884 = .ok (.iload 7, 2) := by decide +kernel
theorem dL_isTold_886 : decode cL_isTold 886 = .ok (.iconst 5, 1) := by decide +kernel
theorem dL_isTold_887 : decode cL_isTold 887 = .ok (.if_icmp .ne 69, 3) := by decide +kernel
theorem dL_isTold_890 : decode cL_isTold 890 = .ok (.iload 8, 2) := by decide +kernel
theorem dL_isTold_892 : decode cL_isTold 892 = .ok (.iconst 5, 1) := by decide +kernel
theorem dL_isTold_893 : decode cL_isTold 893 = .ok (.irem, 1) := by decide +kernel
theorem dL_isTold_894 : decode cL_isTold 894 = .ok (.istore 10, 2) := by decide +kernel
theorem dL_isTold_896 : decode cL_isTold 896 = .ok (.aload 6, 2) := by decide +kernel
theorem dL_isTold_898 : decode cL_isTold 898 = .ok (.iconst 2, 1) := by decide +kernel
theorem dL_isTold_899 : decode cL_isTold 899 = .ok (.dup2, 1) := by decide +kernel
theorem dL_isTold_900 : decode cL_isTold 900 = .ok (.iaload, 1) := by decide +kernel
theorem dL_isTold_901 : decode cL_isTold 901 = .ok (.iload 10, 2) := by decide +kernel
theorem dL_isTold_903 : decode cL_isTold 903 = .ok (.iconst 4, 1) := by decide +kernel
theorem dL_isTold_904 : decode cL_isTold 904 = .ok (.if_icmp .ge 10, 3) := by decide +kernel
theorem dL_isTold_907 : decode cL_isTold 907 = .ok (.iconst 1, 1) := by decide +kernel
theorem dL_isTold_908 : decode cL_isTold 908 = .ok (.iload 10, 2) := by decide +kernel
theorem dL_isTold_910 : decode cL_isTold 910 = .ok (.ishl, 1) := by decide +kernel
theorem dL_isTold_911 : decode cL_isTold 911 = .ok (.goto 4, 3) := by decide +kernel
theorem dL_isTold_914 : decode cL_isTold 914 = .ok (.iconst 0, 1) := by decide +kernel
theorem dL_isTold_915 : decode cL_isTold 915 = .ok (.ixor, 1) := by decide +kernel
theorem dL_isTold_916 : decode cL_isTold 916 = .ok (.iastore, 1) := by decide +kernel
theorem dL_isTold_917 : decode cL_isTold 917 = .ok (.aload_n 0, 1) := by decide +kernel
theorem dL_isTold_918 : decode cL_isTold 918 = .ok (.iconst 5, 1) := by decide +kernel
theorem dL_isTold_919 : decode cL_isTold 919 = .ok (.iload 10, 2) := by decide +kernel
theorem dL_isTold_921 : decode cL_isTold 921 = .ok (.iconst 0, 1) := by decide +kernel
theorem dL_isTold_922 : decode cL_isTold 922 = .ok (.iconst 0, 1) := by decide +kernel
theorem dL_isTold_923 : decode cL_isTold 923 = .ok (.iconst 0, 1) := by decide +kernel
theorem dL_isTold_924 : decode cL_isTold 924 = .ok (.invokestatic 132, 3) := by decide +kernel
theorem dL_isTold_927 : decode cL_isTold 927 = .ok (.iload 10, 2) := by decide +kernel
theorem dL_isTold_929 : decode cL_isTold 929 = .ok (.iconst 4, 1) := by decide +kernel
theorem dL_isTold_930 : decode cL_isTold 930 = .ok (.if_icmp .ne 8, 3) := by decide +kernel
theorem dL_isTold_933 : decode cL_isTold 933 = .ok (.ldc 84, 2) := by decide +kernel
theorem dL_isTold_935 : decode cL_isTold 935 = .ok (.goto 12, 3) := by decide +kernel
theorem dL_isTold_938 : decode cL_isTold 938 = .ok (.aload 6, 2) := by decide +kernel
theorem dL_isTold_940 : decode cL_isTold 940 = .ok (.iconst 2, 1) := by decide +kernel
theorem dL_isTold_941 : decode cL_isTold 941 = .ok (.iaload, 1) := by decide +kernel
theorem dL_isTold_942 : decode cL_isTold 942 = .ok (.iload 10, 2) := by decide +kernel
theorem dL_isTold_944 : decode cL_isTold 944 = .ok (.ishr, 1) := by decide +kernel
theorem dL_isTold_945 : decode cL_isTold 945 = .ok (.iconst 1, 1) := by decide +kernel
theorem dL_isTold_946 : decode cL_isTold 946 = .ok (.iand, 1) := by decide +kernel
theorem dL_isTold_947 : decode cL_isTold 947 = .ok (.if_icmp .ne 7, 3) := by decide +kernel
theorem dL_isTold_950 : decode cL_isTold 950 = .ok (.iconst 1, 1) := by decide +kernel
theorem dL_isTold_951 : decode cL_isTold 951 = .ok (.goto 4, 3) := by decide +kernel
theorem dL_isTold_954 : decode cL_isTold 954 = .ok (.iconst 0, 1) := by decide +kernel
theorem dL_isTold_955 : decode cL_isTold 955 = .ok (.ireturn, 1) := by decide +kernel
theorem dL_isTold_956 : decode cL_isTold 956 = .ok (.iload 7, 2) := by decide +kernel
theorem dL_isTold_958 : decode cL_isTold 958 = .ok (.bipush 6, 2) := by decide +kernel
theorem dL_isTold_960 : decode cL_isTold 960 = .ok (.if_icmp .ne 237, 3) := by decide +kernel
theorem dL_isTold_963 : decode cL_isTold 963 = .ok (.iload 8, 2) := by decide +kernel
theorem dL_isTold_965 : decode cL_isTold 965 = .ok (.bipush 9, 2) := by decide +kernel
theorem dL_isTold_967 : decode cL_isTold 967 = .ok (.irem, 1) := by decide +kernel
theorem dL_isTold_968 : decode cL_isTold 968 = .ok (.ifCond .ne 14, 3) := by decide +kernel
theorem dL_isTold_971 : decode cL_isTold 971 = .ok (.iload 8, 2) := by decide +kernel
theorem dL_isTold_973 : decode cL_isTold 973 = .ok (.bipush 9, 2) := by decide +kernel
theorem dL_isTold_975 : decode cL_isTold 975 = .ok (.idiv, 1) := by decide +kernel
theorem dL_isTold_976 : decode cL_isTold 976 = .ok (.bipush 22, 2) := by decide +kernel
theorem dL_isTold_978 : decode cL_isTold 978 = .ok (.irem, 1) := by decide +kernel
theorem dL_isTold_979 : decode cL_isTold 979 = .ok (.goto 9, 3) := by decide +kernel
theorem dL_isTold_982 : decode cL_isTold 982 = .ok (.iconst 1, 1) := by decide +kernel
theorem dL_isTold_983 : decode cL_isTold 983 = .ok (.iload 8, 2) := by decide +kernel
theorem dL_isTold_985 : decode cL_isTold 985 = .ok (.iconst 4, 1) := by decide +kernel
theorem dL_isTold_986 : decode cL_isTold 986 = .ok (.irem, 1) := by decide +kernel
theorem dL_isTold_987 : decode cL_isTold 987 = .ok (.iadd, 1) := by decide +kernel
theorem dL_isTold_988 : decode cL_isTold 988 = .ok (.istore 10, 2) := by decide +kernel
theorem dL_isTold_990 : decode cL_isTold 990 = .ok (.iload 9, 2) := by decide +kernel
theorem dL_isTold_992 : decode cL_isTold 992 = .ok (.bipush 9, 2) := by decide +kernel
theorem dL_isTold_994 : decode cL_isTold 994 = .ok (.irem, 1) := by decide +kernel
theorem dL_isTold_995 : decode cL_isTold 995 = .ok (.ifCond .ne 17, 3) := by decide +kernel
theorem dL_isTold_998 : decode cL_isTold 998 = .ok (.iload 9, 2) := by decide +kernel
theorem dL_isTold_1000 : decode cL_isTold 1000 = .ok (.bipush 9, 2) := by decide +kernel
theorem dL_isTold_1002 : decode cL_isTold 1002 = .ok (.idiv, 1) := by decide +kernel
theorem dL_isTold_1003 : decode cL_isTold 1003 = .ok (.iconst 2, 1) := by decide +kernel
theorem dL_isTold_1004 : decode cL_isTold 1004 = .ok (.irem, 1) := by decide +kernel
theorem dL_isTold_1005 : decode cL_isTold 1005 = .ok (.sipush 1001, 3) := by decide +kernel
theorem dL_isTold_1008 : decode cL_isTold 1008 = .ok (.imul, 1) := by decide +kernel
theorem dL_isTold_1009 : decode cL_isTold 1009 = .ok (.goto 9, 3) := by decide +kernel
theorem dL_isTold_1012 : decode cL_isTold 1012 = .ok (.iload 9, 2) := by decide +kernel
theorem dL_isTold_1014 : decode cL_isTold 1014 = .ok (.sipush 1001, 3) := by decide +kernel
theorem dL_isTold_1017 : decode cL_isTold 1017 = .ok (.irem, 1) := by decide +kernel
theorem dL_isTold_1018 : decode cL_isTold 1018 = .ok (.istore 11, 2) := by decide +kernel
theorem dL_isTold_1020 : decode cL_isTold 1020 = .ok (.iload 9, 2) := by decide +kernel
theorem dL_isTold_1022 : decode cL_isTold 1022 = .ok (.bipush 9, 2) := by decide +kernel
theorem dL_isTold_1024 : decode cL_isTold 1024 = .ok (.idiv, 1) := by decide +kernel
theorem dL_isTold_1025 : decode cL_isTold 1025 = .ok (.bipush 15, 2) := by decide +kernel
theorem dL_isTold_1027 : decode cL_isTold 1027 = .ok (.irem, 1) := by decide +kernel
theorem dL_isTold_1028 : decode cL_isTold 1028 = .ok (.bipush 14, 2) := by decide +kernel
theorem dL_isTold_1030 : decode cL_isTold 1030 = .ok (.if_icmp .ne 7, 3) := by decide +kernel
theorem dL_isTold_1033 : decode cL_isTold 1033 = .ok (.iconst 4, 1) := by decide +kernel
theorem dL_isTold_1034 : decode cL_isTold 1034 = .ok (.goto 12, 3) := by decide +kernel
theorem dL_isTold_1037 : decode cL_isTold 1037 = .ok (.iload 9, 2) := by decide +kernel
theorem dL_isTold_1039 : decode cL_isTold 1039 = .ok (.bipush 9, 2) := by decide +kernel
theorem dL_isTold_1041 : decode cL_isTold 1041 = .ok (.idiv, 1) := by decide +kernel
theorem dL_isTold_1042 : decode cL_isTold 1042 = .ok (.iconst 5, 1) := by decide +kernel
theorem dL_isTold_1043 : decode cL_isTold 1043 = .ok (.irem, 1) := by decide +kernel
theorem dL_isTold_1044 : decode cL_isTold 1044 = .ok (.iconst 1, 1) := by decide +kernel
theorem dL_isTold_1045 : decode cL_isTold 1045 = .ok (.isub, 1) := by decide +kernel
theorem dL_isTold_1046 : decode cL_isTold 1046 = .ok (.istore 12, 2) := by decide +kernel
theorem dL_isTold_1048 : decode cL_isTold 1048 = .ok (.iload 10, 2) := by decide +kernel
theorem dL_isTold_1050 : decode cL_isTold 1050 = .ok (.ifCond .le 22, 3) := by decide +kernel
theorem dL_isTold_1053 : decode cL_isTold 1053 = .ok (.iload 10, 2) := by decide +kernel
theorem dL_isTold_1055 : decode cL_isTold 1055 = .ok (.bipush 21, 2) := by decide +kernel
theorem dL_isTold_1057 : decode cL_isTold 1057 = .ok (.if_icmp .ge 15, 3) := by decide +kernel
theorem dL_isTold_1060 : decode cL_isTold 1060 = .ok (.iload 11, 2) := by decide +kernel
theorem dL_isTold_1062 : decode cL_isTold 1062 = .ok (.sipush 1001, 3) := by decide +kernel
theorem dL_isTold_1065 : decode cL_isTold 1065 = .ok (.if_icmp .ge 7, 3) := by decide +kernel
theorem dL_isTold_1068 : decode cL_isTold 1068 = .ok (.iconst 1, 1) := by decide +kernel
theorem dL_isTold_1069 : decode cL_isTold 1069 = .ok (.goto 4, 3) := by decide +kernel
theorem dL_isTold_1072 : decode cL_isTold 1072 = .ok (.iconst 0, 1) := by decide +kernel
theorem dL_isTold_1073 : decode cL_isTold 1073 = .ok (.istore 13, 2) := by decide +kernel
theorem dL_isTold_1075 : decode cL_isTold 1075 = .ok (.iload 12, 2) := by decide +kernel
theorem dL_isTold_1077 : decode cL_isTold 1077 = .ok (.iconst 4, 1) := by decide +kernel
theorem dL_isTold_1078 : decode cL_isTold 1078 = .ok (.if_icmp .ge 21, 3) := by decide +kernel
theorem dL_isTold_1081 : decode cL_isTold 1081 = .ok (.iload 13, 2) := by decide +kernel
theorem dL_isTold_1083 : decode cL_isTold 1083 = .ok (.ifCond .eq 16, 3) := by decide +kernel
theorem dL_isTold_1086 : decode cL_isTold 1086 = .ok (.aload 6, 2) := by decide +kernel
theorem dL_isTold_1088 : decode cL_isTold 1088 = .ok (.iconst 3, 1) := by decide +kernel
theorem dL_isTold_1089 : decode cL_isTold 1089 = .ok (.iaload, 1) := by decide +kernel
theorem dL_isTold_1090 : decode cL_isTold 1090 = .ok (.bipush 6, 2) := by decide +kernel
theorem dL_isTold_1092 : decode cL_isTold 1092 = .ok (.if_icmp .ge 7, 3) := by decide +kernel
theorem dL_isTold_1095 : decode cL_isTold 1095 = .ok (.iconst 1, 1) := by decide +kernel
theorem dL_isTold_1096 : decode cL_isTold 1096 = .ok (.goto 4, 3) := by decide +kernel
theorem dL_isTold_1099 : decode cL_isTold 1099 = .ok (.iconst 0, 1) := by decide +kernel
theorem dL_isTold_1100 : decode cL_isTold 1100 = .ok (.istore 14, 2) := by decide +kernel
theorem dL_isTold_1102 : decode cL_isTold 1102 = .ok (.iload 14, 2) := by decide +kernel
theorem dL_isTold_1104 : decode cL_isTold 1104 = .ok (.ifCond .eq 34, 3) := by decide +kernel
theorem dL_isTold_1107 : decode cL_isTold 1107 = .ok (.aload 4, 2) := by decide +kernel
theorem dL_isTold_1109 : decode cL_isTold 1109 = .ok (.aload 6, 2) := by decide +kernel
theorem dL_isTold_1111 : decode cL_isTold 1111 = .ok (.iconst 3, 1) := by decide +kernel
theorem dL_isTold_1112 : decode cL_isTold 1112 = .ok (.iaload, 1) := by decide +kernel
theorem dL_isTold_1113 : decode cL_isTold 1113 = .ok (.iload 10, 2) := by decide +kernel
theorem dL_isTold_1115 : decode cL_isTold 1115 = .ok (.bipush 32, 2) := by decide +kernel
theorem dL_isTold_1117 : decode cL_isTold 1117 = .ok (.iload 11, 2) := by decide +kernel
theorem dL_isTold_1119 : decode cL_isTold 1119 = .ok (.imul, 1) := by decide +kernel
theorem dL_isTold_1120 : decode cL_isTold 1120 = .ok (.iadd, 1) := by decide +kernel
theorem dL_isTold_1121 : decode cL_isTold 1121 = .ok (.ldc 136, 2) := by decide +kernel
theorem dL_isTold_1123 : decode cL_isTold 1123 = .ok (.iload 12, 2) := by decide +kernel
theorem dL_isTold_1125 : decode cL_isTold 1125 = .ok (.iconst 1, 1) := by decide +kernel
theorem dL_isTold_1126 : decode cL_isTold 1126 = .ok (.iadd, 1) := by decide +kernel
theorem dL_isTold_1127 : decode cL_isTold 1127 = .ok (.imul, 1) := by decide +kernel
theorem dL_isTold_1128 : decode cL_isTold 1128 = .ok (.iadd, 1) := by decide +kernel
theorem dL_isTold_1129 : decode cL_isTold 1129 = .ok (.iastore, 1) := by decide +kernel
theorem dL_isTold_1130 : decode cL_isTold 1130 = .ok (.aload 6, 2) := by decide +kernel
theorem dL_isTold_1132 : decode cL_isTold 1132 = .ok (.iconst 3, 1) := by decide +kernel
theorem dL_isTold_1133 : decode cL_isTold 1133 = .ok (.dup2, 1) := by decide +kernel
theorem dL_isTold_1134 : decode cL_isTold 1134 = .ok (.iaload, 1) := by decide +kernel
theorem dL_isTold_1135 : decode cL_isTold 1135 = .ok (.iconst 1, 1) := by decide +kernel
theorem dL_isTold_1136 : decode cL_isTold 1136 = .ok (.iadd, 1) := by decide +kernel
theorem dL_isTold_1137 : decode cL_isTold 1137 = .ok (.iastore, 1) := by decide +kernel
theorem dL_isTold_1138 : decode cL_isTold 1138 = .ok (.aload_n 0, 1) := by decide +kernel
theorem dL_isTold_1139 : decode cL_isTold 1139 = .ok (.bipush 7, 2) := by decide +kernel
theorem dL_isTold_1141 : decode cL_isTold 1141 = .ok (.iload 10, 2) := by decide +kernel
theorem dL_isTold_1143 : decode cL_isTold 1143 = .ok (.iload 11, 2) := by decide +kernel
theorem dL_isTold_1145 : decode cL_isTold 1145 = .ok (.iload 12, 2) := by decide +kernel
theorem dL_isTold_1147 : decode cL_isTold 1147 = .ok (.iconst 0, 1) := by decide +kernel
theorem dL_isTold_1148 : decode cL_isTold 1148 = .ok (.invokestatic 132, 3) := by decide +kernel
theorem dL_isTold_1151 : decode cL_isTold 1151 = .ok (.iload 12, 2) := by decide +kernel
theorem dL_isTold_1153 : decode cL_isTold 1153 = .ok (.iconst 4, 1) := by decide +kernel
theorem dL_isTold_1154 : decode cL_isTold 1154 = .ok (.if_icmp .ne 8, 3) := by decide +kernel
theorem dL_isTold_1157 : decode cL_isTold 1157 = .ok (.ldc 84, 2) := by decide +kernel
theorem dL_isTold_1159 : decode cL_isTold 1159 = .ok (.goto 29, 3) := by decide +kernel
theorem dL_isTold_1162 : decode cL_isTold 1162 = .ok (.iload 13, 2) := by decide +kernel
theorem dL_isTold_1164 : decode cL_isTold 1164 = .ok (.ifCond .ne 8, 3) := by decide +kernel
theorem dL_isTold_1167 : decode cL_isTold 1167 = .ok (.ldc 87, 2) := by decide +kernel
theorem dL_isTold_1169 : decode cL_isTold 1169 = .ok (.goto 19, 3) := by decide +kernel
theorem dL_isTold_1172 : decode cL_isTold 1172 = .ok (.iload 14, 2) := by decide +kernel
theorem dL_isTold_1174 : decode cL_isTold 1174 = .ok (.ifCond .eq 12, 3) := by decide +kernel
theorem dL_isTold_1177 : decode cL_isTold 1177 = .ok (.aload 6, 2) := by decide +kernel
theorem dL_isTold_1179 : decode cL_isTold 1179 = .ok (.iconst 3, 1) := by decide +kernel
theorem dL_isTold_1180 : decode cL_isTold 1180 = .ok (.iaload, 1) := by decide +kernel
theorem dL_isTold_1181 : decode cL_isTold 1181 = .ok (.iconst 1, 1) := by decide +kernel
theorem dL_isTold_1182 : decode cL_isTold 1182 = .ok (.isub, 1) := by decide +kernel
theorem dL_isTold_1183 : decode cL_isTold 1183 = .ok (.goto 5, 3) := by decide +kernel
theorem dL_isTold_1186 : decode cL_isTold 1186 = .ok (.ldc 90, 2) := by decide +kernel
theorem dL_isTold_1188 : decode cL_isTold 1188 = .ok (.if_icmp .ne 7, 3) := by decide +kernel
theorem dL_isTold_1191 : decode cL_isTold 1191 = .ok (.iconst 1, 1) := by decide +kernel
theorem dL_isTold_1192 : decode cL_isTold 1192 = .ok (.goto 4, 3) := by decide +kernel
theorem dL_isTold_1195 : decode cL_isTold 1195 = .ok (.iconst 0, 1) := by decide +kernel
theorem dL_isTold_1196 : decode cL_isTold 1196 = .ok (.ireturn, 1) := by decide +kernel
theorem dL_isTold_1197 : decode cL_isTold 1197 = .ok (.iload 8, 2) := by decide +kernel
theorem dL_isTold_1199 : decode cL_isTold 1199 = .ok (.bipush 13, 2) := by decide +kernel
theorem dL_isTold_1201 : decode cL_isTold 1201 = .ok (.irem, 1) := by decide +kernel
theorem dL_isTold_1202 : decode cL_isTold 1202 = .ok (.bipush 12, 2) := by decide +kernel
theorem dL_isTold_1204 : decode cL_isTold 1204 = .ok (.if_icmp .ne 8, 3) := by decide +kernel
theorem dL_isTold_1207 : decode cL_isTold 1207 = .ok (.bipush 6, 2) := by decide +kernel
theorem dL_isTold_1209 : decode cL_isTold 1209 = .ok (.goto 8, 3) := by decide +kernel
theorem dL_isTold_1212 : decode cL_isTold 1212 = .ok (.iload 8, 2) := by decide +kernel
theorem dL_isTold_1214 : decode cL_isTold 1214 = .ok (.bipush 6, 2) := by decide +kernel
theorem dL_isTold_1216 : decode cL_isTold 1216 = .ok (.irem, 1) := by decide +kernel
theorem dL_isTold_1217 : decode cL_isTold 1217 = .ok (.istore 10, 2) := by decide +kernel
theorem dL_isTold_1219 : decode cL_isTold 1219 = .ok (.iload 9, 2) := by decide +kernel
theorem dL_isTold_1221 : decode cL_isTold 1221 = .ok (.bipush 102, 2) := by decide +kernel
theorem dL_isTold_1223 : decode cL_isTold 1223 = .ok (.irem, 1) := by decide +kernel
theorem dL_isTold_1224 : decode cL_isTold 1224 = .ok (.istore 11, 2) := by decide +kernel
theorem dL_isTold_1226 : decode cL_isTold 1226 = .ok (.iload 11, 2) := by decide +kernel
theorem dL_isTold_1228 : decode cL_isTold 1228 = .ok (.bipush 101, 2) := by decide +kernel
theorem dL_isTold_1230 : decode cL_isTold 1230 = .ok (.if_icmp .ge 7, 3) := by decide +kernel
theorem dL_isTold_1233 : decode cL_isTold 1233 = .ok (.iconst 1, 1) := by decide +kernel
theorem dL_isTold_1234 : decode cL_isTold 1234 = .ok (.goto 4, 3) := by decide +kernel
theorem dL_isTold_1237 : decode cL_isTold 1237 = .ok (.iconst 0, 1) := by decide +kernel
theorem dL_isTold_1238 : decode cL_isTold 1238 = .ok (.istore 12, 2) := by decide +kernel
theorem dL_isTold_1240 : decode cL_isTold 1240 = .ok (.iload 10, 2) := by decide +kernel
theorem dL_isTold_1242 : decode cL_isTold 1242 = .ok (.bipush 6, 2) := by decide +kernel
theorem dL_isTold_1244 : decode cL_isTold 1244 = .ok (.if_icmp .ge 11, 3) := by decide +kernel
theorem dL_isTold_1247 : decode cL_isTold 1247 = .ok (.aload 5, 2) := by decide +kernel
theorem dL_isTold_1249 : decode cL_isTold 1249 = .ok (.iload 10, 2) := by decide +kernel
theorem dL_isTold_1251 : decode cL_isTold 1251 = .ok (.iaload, 1) := by decide +kernel
theorem dL_isTold_1252 : decode cL_isTold 1252 = .ok (.goto 4, 3) := by decide +kernel
theorem dL_isTold_1255 : decode cL_isTold 1255 = .ok (.iconst 0, 1) := by decide +kernel
theorem dL_isTold_1256 : decode cL_isTold 1256 = .ok (.istore 13, 2) := by decide +kernel
theorem dL_isTold_1258 : decode cL_isTold 1258 = .ok (.aload 5, 2) := by decide +kernel
theorem dL_isTold_1260 : decode cL_isTold 1260 = .ok (.iload 10, 2) := by decide +kernel
theorem dL_isTold_1262 : decode cL_isTold 1262 = .ok (.bipush 6, 2) := by decide +kernel
theorem dL_isTold_1264 : decode cL_isTold 1264 = .ok (.if_icmp .ge 13, 3) := by decide +kernel
theorem dL_isTold_1267 : decode cL_isTold 1267 = .ok (.iload 12, 2) := by decide +kernel
theorem dL_isTold_1269 : decode cL_isTold 1269 = .ok (.ifCond .eq 8, 3) := by decide +kernel
theorem dL_isTold_1272 : decode cL_isTold 1272 = .ok (.iload 10, 2) := by decide +kernel
theorem dL_isTold_1274 : decode cL_isTold 1274 = .ok (.goto 5, 3) := by decide +kernel
theorem dL_isTold_1277 : decode cL_isTold 1277 = .ok (.bipush 6, 2) := by decide +kernel
theorem dL_isTold_1279 : decode cL_isTold 1279 = .ok (.iload 11, 2) := by decide +kernel
theorem dL_isTold_1281 : decode cL_isTold 1281 = .ok (.iastore, 1) := by decide +kernel
theorem dL_isTold_1282 : decode cL_isTold 1282 = .ok (.aload_n 0, 1) := by decide +kernel
theorem dL_isTold_1283 : decode cL_isTold 1283 = .ok (.bipush 8, 2) := by decide +kernel
theorem dL_isTold_1285 : decode cL_isTold 1285 = .ok (.iload 10, 2) := by decide +kernel
theorem dL_isTold_1287 : decode cL_isTold 1287 = .ok (.iload 11, 2) := by decide +kernel
theorem dL_isTold_1289 : decode cL_isTold 1289 = .ok (.iconst 0, 1) := by decide +kernel
theorem dL_isTold_1290 : decode cL_isTold 1290 = .ok (.iconst 0, 1) := by decide +kernel
theorem dL_isTold_1291 : decode cL_isTold 1291 = .ok (.invokestatic 132, 3) := by decide +kernel
theorem dL_isTold_1294 : decode cL_isTold 1294 = .ok (.iload 10, 2) := by decide +kernel
theorem dL_isTold_1296 : decode cL_isTold 1296 = .ok (.bipush 6, 2) := by decide +kernel
theorem dL_isTold_1298 : decode cL_isTold 1298 = .ok (.if_icmp .ne 8, 3) := by decide +kernel
theorem dL_isTold_1301 : decode cL_isTold 1301 = .ok (.ldc 84, 2) := by decide +kernel
theorem dL_isTold_1303 : decode cL_isTold 1303 = .ok (.goto 15, 3) := by decide +kernel
theorem dL_isTold_1306 : decode cL_isTold 1306 = .ok (.iload 12, 2) := by decide +kernel
theorem dL_isTold_1308 : decode cL_isTold 1308 = .ok (.ifCond .eq 8, 3) := by decide +kernel
theorem dL_isTold_1311 : decode cL_isTold 1311 = .ok (.iload 13, 2) := by decide +kernel
theorem dL_isTold_1313 : decode cL_isTold 1313 = .ok (.goto 5, 3) := by decide +kernel
theorem dL_isTold_1316 : decode cL_isTold 1316 = .ok (.ldc 87, 2) := by decide +kernel
theorem dL_isTold_1318 : decode cL_isTold 1318 = .ok (.if_icmp .ne 7, 3) := by decide +kernel
theorem dL_isTold_1321 : decode cL_isTold 1321 = .ok (.iconst 1, 1) := by decide +kernel
theorem dL_isTold_1322 : decode cL_isTold 1322 = .ok (.goto 4, 3) := by decide +kernel
theorem dL_isTold_1325 : decode cL_isTold 1325 = .ok (.iconst 0, 1) := by decide +kernel
theorem dL_isTold_1326 : decode cL_isTold 1326 = .ok (.ireturn, 1) := by decide +kernel
set_option maxRecDepth 20000 in
theorem ggL_isNight_L_does : GoodIn wsL_isNight wsL_does := goodIn_ca (goodIn_ca (goodIn_ca (goodIn_r _ [6, 7, 8, 9, 10, 1, 2, 11, 12, 13, 14, 15, 16, 17, 18, 19, 20, 21, 22, 23, 24, 25, 26, 27, 28, 29, 30, 31, 32, 33, 34, 35, 36, 37, 38, 39, 40, 41, 42, 43, 44, 45, 46, 47, 48, 49, 50, 51, 52, 53, 54, 55, 56, 57, 58, 59, 60, 61, 62, 63, 64, 65, 66, 67, 68, 69, 70, 71, 72, 73, 74, 75, 76, 77, 78, 79, 80, 81, 82, 83, 84, 85, 86, 87, 88, 89, 90, 91, 92, 93, 94, 95, 96, 97, 98, 5, 99, 100, 101, 102, 103, 104, 105, 106, 107, 108, 109, 110, 111, 112, 113, 114, 115, 116, 117, 118, 119, 120, 121, 122, 123, 124, 125, 126, 127, 128, 129, 130, 131, 132, 133, 134, 135, 136, 137, 138, 139, 140, 141, 142, 143, 144, 145, 146, 147, 148, 149, 150, 151, 152, 153, 154, 155, 156, 157, 158, 159, 160, 161, 162, 163, 164, 165, 166, 167, 168, 169, 170, 171, 172, 173, 174, 175, 176, 177, 178, 179, 180, 181, 182, 183, 184, 185, 186, 187, 188, 189, 190, 191, 192, 193, 194, 195, 196, 197, 198, 199, 200, 201, 202, 203, 204, 205, 206, 207, 208, 209, 210, 211, 212, 213, 214, 215, 216, 217, 218, 219, 220, 221, 222, 223, 224, 225, 226, 227, 228, 229, 230, 231, 232, 233, 234, 235, 236, 237, 238, 239, 240, 241, 242, 243, 244, 245, 246, 247, 248, 249, 250, 251, 252, 253, 254, 255, 256, 257, 258, 259, 260, 261, 262, 263, 264, 265, 266, 267, 268, 269, 270, 271, 272, 273, 274, 275, 276, 277, 278, 279, 280, 281, 282, 283, 284, 285, 286, 287, 288, 289, 290, 291, 292, 293, 294, 295, 296, 297, 298, 299, 300, 301, 302, 303, 304, 305, 306, 307, 308, 309, 310, 311, 312, 313, 314, 315, 316, 317] (by decide +kernel) (by decide +kernel)) (goodIn_sub (fun _ h => List.mem_cons_of_mem _ (List.mem_append_left _ (List.mem_append_left _ (List.mem_append_right _ h)))) (by decide +kernel))) (goodIn_sub (fun _ h => List.mem_cons_of_mem _ (List.mem_append_left _ (List.mem_append_right _ h))) (by decide +kernel))) (goodIn_sub (fun _ h => List.mem_cons_of_mem _ (List.mem_append_right _ h)) (by decide +kernel))
set_option maxRecDepth 20000 in
theorem gL_isNight_L_does : GoodIn wsL_isNight (va_wsS RL 132 yL_does wsL_does) := goodIn_app (goodIn_of _ (by decide +kernel)) ggL_isNight_L_does
theorem dL_isNight_0 : decode cL_isNight 0 = .ok (.iload 4, 2) := by decide +kernel
theorem dL_isNight_2 : decode cL_isNight 2 = .ok (.bipush 9, 2) := by decide +kernel
theorem dL_isNight_4 : decode cL_isNight 4 = .ok (.irem, 1) := by decide +kernel
theorem dL_isNight_5 : decode cL_isNight 5 = .ok (.ifCond .ne 14, 3) := by decide +kernel
theorem dL_isNight_8 : decode cL_isNight 8 = .ok (.iload 4, 2) := by decide +kernel
theorem dL_isNight_10 : decode cL_isNight 10 = .ok (.bipush 9, 2) := by decide +kernel
theorem dL_isNight_12 : decode cL_isNight 12 = .ok (.idiv, 1) := by decide +kernel
