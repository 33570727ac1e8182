set_option maxRecDepth 20000 in
theorem ggL_words_X3_slot : GoodIn wsL_words wsX3_slot := goodIn_r _ [5, 6, 7, 8, 9, 10, 11, 12, 13, 4, 14, 15, 16, 17, 18, 19, 20, 21, 22, 94, 95, 96, 97, 98, 99, 100, 101, 102, 103, 104] (by decide +kernel) (by decide +kernel)
set_option maxRecDepth 20000 in
theorem gL_words_X3_slot : GoodIn wsL_words (wsV RL 19 RX3 yX3_slot wsX3_slot) := goodIn_app (goodIn_of _ (by decide +kernel)) ggL_words_X3_slot
set_option maxRecDepth 20000 in
theorem ggL_words_X3_word : GoodIn wsL_words wsX3_word := goodIn_r _ [26, 6, 27, 28, 29, 30, 31, 32, 33, 34, 35, 36, 10, 37, 38, 39, 40, 41, 42, 12, 43, 44, 45, 46, 47, 48, 4, 49, 94, 95, 96, 97, 98, 99, 100, 101, 102, 103, 104] (by decide +kernel) (by decide +kernel)
set_option maxRecDepth 20000 in
theorem gL_words_X3_word : GoodIn wsL_words (wsV RL 23 RX3 yX3_word wsX3_word) := goodIn_app (goodIn_of _ (by decide +kernel)) ggL_words_X3_word
set_option maxRecDepth 20000 in
theorem ggL_words_X3_count : GoodIn wsL_words wsX3_count := goodIn_r _ [53, 6, 54, 55, 56, 57, 58, 10, 59, 12, 60, 28, 29, 30, 31, 32, 33, 61, 62, 63, 64, 65, 66, 67, 68, 22, 27, 69, 70, 71, 72, 47, 40, 41, 42, 73, 74, 75, 76, 77, 78, 79, 80, 13, 4, 14, 15, 16, 81, 82, 83, 84, 85, 86, 87, 88, 94, 95, 96, 97, 98, 99, 100, 101, 102, 103, 104, 105, 106, 107] (by decide +kernel) (by decide +kernel)
set_option maxRecDepth 20000 in
theorem gL_words_X3_count : GoodIn wsL_words (wsV RL 13 RX3 yX3_count wsX3_count) := goodIn_app (goodIn_of _ (by decide +kernel)) ggL_words_X3_count
set_option maxRecDepth 20000 in
theorem ggL_words_X3_audit : GoodIn wsL_words wsX3_audit := goodIn_r _ [92, 6, 69, 70, 71, 10, 72, 47, 40, 41, 42, 12, 27, 28, 29, 30, 31, 32, 33, 93, 48, 4, 49, 94, 95, 96, 97, 98, 99, 100, 101, 102, 103, 104] (by decide +kernel) (by decide +kernel)
set_option maxRecDepth 20000 in
theorem gL_words_X3_audit : GoodIn wsL_words (wsV RL 59 RX3 yX3_audit wsX3_audit) := goodIn_app (goodIn_of _ (by decide +kernel)) ggL_words_X3_audit
theorem dL_words_0 : decode cL_words 0 = .ok (.iconst 0, 1) := by decide +kernel
theorem dL_words_1 : decode cL_words 1 = .ok (.istore_n 1, 1) := by decide +kernel
theorem dL_words_2 : decode cL_words 2 = .ok (.iconst 0, 1) := by decide +kernel
theorem dL_words_3 : decode cL_words 3 = .ok (.istore_n 2, 1) := by decide +kernel
theorem dL_words_4 : decode cL_words 4 = .ok (.iconst 0, 1) := by decide +kernel
theorem dL_words_5 : decode cL_words 5 = .ok (.istore_n 3, 1) := by decide +kernel
theorem dL_words_6 : decode cL_words 6 = .ok (.bipush (-9), 2) := by decide +kernel
theorem dL_words_8 : decode cL_words 8 = .ok (.istore 4, 2) := by decide +kernel
theorem dL_words_10 : decode cL_words 10 = .ok (.iconst 0, 1) := by decide +kernel
theorem dL_words_11 : decode cL_words 11 = .ok (.istore 5, 2) := by decide +kernel
theorem dL_words_13 : decode cL_words 13 = .ok (.iconst 0, 1) := by decide +kernel
theorem dL_words_14 : decode cL_words 14 = .ok (.istore 6, 2) := by decide +kernel
theorem dL_words_16 : decode cL_words 16 = .ok (.iload 6, 2) := by decide +kernel
theorem dL_words_18 : decode cL_words 18 = .ok (.bipush 10, 2) := by decide +kernel
theorem dL_words_20 : decode cL_words 20 = .ok (.if_icmp .ge 324, 3) := by decide +kernel
theorem dL_words_23 : decode cL_words 23 = .ok (.iconst 0, 1) := by decide +kernel
theorem dL_words_24 : decode cL_words 24 = .ok (.istore 7, 2) := by decide +kernel
theorem dL_words_26 : decode cL_words 26 = .ok (.iconst 0, 1) := by decide +kernel
theorem dL_words_27 : decode cL_words 27 = .ok (.istore 8, 2) := by decide +kernel
theorem dL_words_29 : decode cL_words 29 = .ok (.iconst 0, 1) := by decide +kernel
theorem dL_words_30 : decode cL_words 30 = .ok (.istore 9, 2) := by decide +kernel
theorem dL_words_32 : decode cL_words 32 = .ok (.iconst 0, 1) := by decide +kernel
theorem dL_words_33 : decode cL_words 33 = .ok (.istore 10, 2) := by decide +kernel
theorem dL_words_35 : decode cL_words 35 = .ok (.bipush (-9), 2) := by decide +kernel
theorem dL_words_37 : decode cL_words 37 = .ok (.istore 11, 2) := by decide +kernel
theorem dL_words_39 : decode cL_words 39 = .ok (.bipush 32, 2) := by decide +kernel
theorem dL_words_41 : decode cL_words 41 = .ok (.iload 6, 2) := by decide +kernel
theorem dL_words_43 : decode cL_words 43 = .ok (.imul, 1) := by decide +kernel
theorem dL_words_44 : decode cL_words 44 = .ok (.bipush 31, 2) := by decide +kernel
theorem dL_words_46 : decode cL_words 46 = .ok (.iadd, 1) := by decide +kernel
theorem dL_words_47 : decode cL_words 47 = .ok (.istore 12, 2) := by decide +kernel
theorem dL_words_49 : decode cL_words 49 = .ok (.iload 12, 2) := by decide +kernel
theorem dL_words_51 : decode cL_words 51 = .ok (.bipush 32, 2) := by decide +kernel
theorem dL_words_53 : decode cL_words 53 = .ok (.iload 6, 2) := by decide +kernel
theorem dL_words_55 : decode cL_words 55 = .ok (.imul, 1) := by decide +kernel
theorem dL_words_56 : decode cL_words 56 = .ok (.if_icmp .lt 95, 3) := by decide +kernel
theorem dL_words_59 : decode cL_words 59 = .ok (.aload_n 0, 1) := by decide +kernel
theorem dL_words_60 : decode cL_words 60 = .ok (.iload 12, 2) := by decide +kernel
theorem dL_words_62 : decode cL_words 62 = .ok (.iconst 0, 1) := by decide +kernel
theorem dL_words_63 : decode cL_words 63 = .ok (.invokevirtual 19, 3) := by decide +kernel
theorem dL_words_66 : decode cL_words 66 = .ok (.istore 13, 2) := by decide +kernel
theorem dL_words_68 : decode cL_words 68 = .ok (.iload 7, 2) := by decide +kernel
theorem dL_words_70 : decode cL_words 70 = .ok (.iload 13, 2) := by decide +kernel
theorem dL_words_72 : decode cL_words 72 = .ok (.ifCond .ne 7, 3) := by decide +kernel
theorem dL_words_75 : decode cL_words 75 = .ok (.iconst 1, 1) := by decide +kernel
theorem dL_words_76 : decode cL_words 76 = .ok (.goto 4, 3) := by decide +kernel
theorem dL_words_79 : decode cL_words 79 = .ok (.iconst 0, 1) := by decide +kernel
theorem dL_words_80 : decode cL_words 80 = .ok (.iadd, 1) := by decide +kernel
theorem dL_words_81 : decode cL_words 81 = .ok (.istore 7, 2) := by decide +kernel
theorem dL_words_83 : decode cL_words 83 = .ok (.iload 8, 2) := by decide +kernel
theorem dL_words_85 : decode cL_words 85 = .ok (.iload 13, 2) := by decide +kernel
theorem dL_words_87 : decode cL_words 87 = .ok (.iconst 1, 1) := by decide +kernel
theorem dL_words_88 : decode cL_words 88 = .ok (.if_icmp .ne 7, 3) := by decide +kernel
theorem dL_words_91 : decode cL_words 91 = .ok (.iconst 1, 1) := by decide +kernel
theorem dL_words_92 : decode cL_words 92 = .ok (.goto 4, 3) := by decide +kernel
theorem dL_words_95 : decode cL_words 95 = .ok (.iconst 0, 1) := by decide +kernel
theorem dL_words_96 : decode cL_words 96 = .ok (.iadd, 1) := by decide +kernel
theorem dL_words_97 : decode cL_words 97 = .ok (.istore 8, 2) := by decide +kernel
theorem dL_words_99 : decode cL_words 99 = .ok (.iload 9, 2) := by decide +kernel
theorem dL_words_101 : decode cL_words 101 = .ok (.iload 13, 2) := by decide +kernel
theorem dL_words_103 : decode cL_words 103 = .ok (.iconst 2, 1) := by decide +kernel
theorem dL_words_104 : decode cL_words 104 = .ok (.if_icmp .ne 7, 3) := by decide +kernel
theorem dL_words_107 : decode cL_words 107 = .ok (.iconst 1, 1) := by decide +kernel
theorem dL_words_108 : decode cL_words 108 = .ok (.goto 4, 3) := by decide +kernel
theorem dL_words_111 : decode cL_words 111 = .ok (.iconst 0, 1) := by decide +kernel
theorem dL_words_112 : decode cL_words 112 = .ok (.iadd, 1) := by decide +kernel
theorem dL_words_113 : decode cL_words 113 = .ok (.istore 9, 2) := by decide +kernel
theorem dL_words_115 : decode cL_words 115 = .ok (.iload 10, 2) := by decide +kernel
theorem dL_words_117 : decode cL_words 117 = .ok (.iload 13, 2) := by decide +kernel
theorem dL_words_119 : decode cL_words 119 = .ok (.iconst 3, 1) := by decide +kernel
theorem dL_words_120 : decode cL_words 120 = .ok (.if_icmp .ne 7, 3) := by decide +kernel
theorem dL_words_123 : decode cL_words 123 = .ok (.iconst 1, 1) := by decide +kernel
theorem dL_words_124 : decode cL_words 124 = .ok (.goto 4, 3) := by decide +kernel
theorem dL_words_127 : decode cL_words 127 = .ok (.iconst 0, 1) := by decide +kernel
theorem dL_words_128 : decode cL_words 128 = .ok (.iadd, 1) := by decide +kernel
theorem dL_words_129 : decode cL_words 129 = .ok (.istore 10, 2) := by decide +kernel
theorem dL_words_131 : decode cL_words 131 = .ok (.iload 13, 2) := by decide +kernel
theorem dL_words_133 : decode cL_words 133 = .ok (.ifCond .ne 8, 3) := by decide +kernel
theorem dL_words_136 : decode cL_words 136 = .ok (.iload 12, 2) := by decide +kernel
theorem dL_words_138 : decode cL_words 138 = .ok (.goto 5, 3) := by decide +kernel
theorem dL_words_141 : decode cL_words 141 = .ok (.iload 11, 2) := by decide +kernel
theorem dL_words_143 : decode cL_words 143 = .ok (.istore 11, 2) := by decide +kernel
theorem dL_words_145 : decode cL_words 145 = .ok (.iinc 12 (-1), 3) := by decide +kernel
theorem dL_words_148 : decode cL_words 148 = .ok (.goto (-99), 3) := by decide +kernel
theorem dL_words_151 : decode cL_words 151 = .ok (.aload_n 0, 1) := by decide +kernel
theorem dL_words_152 : decode cL_words 152 = .ok (.iload 6, 2) := by decide +kernel
theorem dL_words_154 : decode cL_words 154 = .ok (.iconst 4, 1) := by decide +kernel
theorem dL_words_155 : decode cL_words 155 = .ok (.invokevirtual 23, 3) := by decide +kernel
theorem dL_words_158 : decode cL_words 158 = .ok (.istore 12, 2) := by decide +kernel
theorem dL_words_160 : decode cL_words 160 = .ok (.iload 7, 2) := by decide +kernel
theorem dL_words_162 : decode cL_words 162 = .ok (.ifCond .ne 7, 3) := by decide +kernel
theorem dL_words_165 : decode cL_words 165 = .ok (.iconst 1, 1) := by decide +kernel
theorem dL_words_166 : decode cL_words 166 = .ok (.goto 4, 3) := by decide +kernel
theorem dL_words_169 : decode cL_words 169 = .ok (.iconst 0, 1) := by decide +kernel
theorem dL_words_170 : decode cL_words 170 = .ok (.istore 13, 2) := by decide +kernel
theorem dL_words_172 : decode cL_words 172 = .ok (.iload 7, 2) := by decide +kernel
theorem dL_words_174 : decode cL_words 174 = .ok (.iload 8, 2) := by decide +kernel
theorem dL_words_176 : decode cL_words 176 = .ok (.iadd, 1) := by decide +kernel
theorem dL_words_177 : decode cL_words 177 = .ok (.iload 9, 2) := by decide +kernel
theorem dL_words_179 : decode cL_words 179 = .ok (.iadd, 1) := by decide +kernel
theorem dL_words_180 : decode cL_words 180 = .ok (.iload 10, 2) := by decide +kernel
theorem dL_words_182 : decode cL_words 182 = .ok (.iadd, 1) := by decide +kernel
theorem dL_words_183 : decode cL_words 183 = .ok (.bipush 32, 2) := by decide +kernel
theorem dL_words_185 : decode cL_words 185 = .ok (.if_icmp .ne 87, 3) := by decide +kernel
theorem dL_words_188 : decode cL_words 188 = .ok (.aload_n 0, 1) := by decide +kernel
theorem dL_words_189 : decode cL_words 189 = .ok (.iload 6, 2) := by decide +kernel
theorem dL_words_191 : decode cL_words 191 = .ok (.iconst 0, 1) := by decide +kernel
theorem dL_words_192 : decode cL_words 192 = .ok (.invokevirtual 23, 3) := by decide +kernel
theorem dL_words_195 : decode cL_words 195 = .ok (.iload 7, 2) := by decide +kernel
theorem dL_words_197 : decode cL_words 197 = .ok (.if_icmp .ne 75, 3) := by decide +kernel
theorem dL_words_200 : decode cL_words 200 = .ok (.aload_n 0, 1) := by decide +kernel
theorem dL_words_201 : decode cL_words 201 = .ok (.iload 6, 2) := by decide +kernel
theorem dL_words_203 : decode cL_words 203 = .ok (.iconst 1, 1) := by decide +kernel
theorem dL_words_204 : decode cL_words 204 = .ok (.invokevirtual 23, 3) := by decide +kernel
theorem dL_words_207 : decode cL_words 207 = .ok (.iload 8, 2) := by decide +kernel
theorem dL_words_209 : decode cL_words 209 = .ok (.if_icmp .ne 63, 3) := by decide +kernel
theorem dL_words_212 : decode cL_words 212 = .ok (.aload_n 0, 1) := by decide +kernel
theorem dL_words_213 : decode cL_words 213 = .ok (.iload 6, 2) := by decide +kernel
theorem dL_words_215 : decode cL_words 215 = .ok (.iconst 2, 1) := by decide +kernel
theorem dL_words_216 : decode cL_words 216 = .ok (.invokevirtual 23, 3) := by decide +kernel
theorem dL_words_219 : decode cL_words 219 = .ok (.iload 9, 2) := by decide +kernel
theorem dL_words_221 : decode cL_words 221 = .ok (.if_icmp .ne 51, 3) := by decide +kernel
theorem dL_words_224 : decode cL_words 224 = .ok (.aload_n 0, 1) := by decide +kernel
theorem dL_words_225 : decode cL_words 225 = .ok (.iload 6, 2) := by decide +kernel
theorem dL_words_227 : decode cL_words 227 = .ok (.iconst 3, 1) := by decide +kernel
theorem dL_words_228 : decode cL_words 228 = .ok (.invokevirtual 23, 3) := by decide +kernel
theorem dL_words_231 : decode cL_words 231 = .ok (.iload 10, 2) := by decide +kernel
theorem dL_words_233 : decode cL_words 233 = .ok (.if_icmp .ne 39, 3) := by decide +kernel
theorem dL_words_236 : decode cL_words 236 = .ok (.iload 12, 2) := by decide +kernel
theorem dL_words_238 : decode cL_words 238 = .ok (.ifCond .lt 34, 3) := by decide +kernel
theorem dL_words_241 : decode cL_words 241 = .ok (.iload 12, 2) := by decide +kernel
theorem dL_words_243 : decode cL_words 243 = .ok (.iconst 1, 1) := by decide +kernel
theorem dL_words_244 : decode cL_words 244 = .ok (.if_icmp .gt 28, 3) := by decide +kernel
theorem dL_words_247 : decode cL_words 247 = .ok (.aload_n 0, 1) := by decide +kernel
theorem dL_words_248 : decode cL_words 248 = .ok (.iload 6, 2) := by decide +kernel
theorem dL_words_250 : decode cL_words 250 = .ok (.iconst 5, 1) := by decide +kernel
theorem dL_words_251 : decode cL_words 251 = .ok (.invokevirtual 23, 3) := by decide +kernel
theorem dL_words_254 : decode cL_words 254 = .ok (.iload 13, 2) := by decide +kernel
theorem dL_words_256 : decode cL_words 256 = .ok (.if_icmp .ne 16, 3) := by decide +kernel
theorem dL_words_259 : decode cL_words 259 = .ok (.aload_n 0, 1) := by decide +kernel
theorem dL_words_260 : decode cL_words 260 = .ok (.iload 6, 2) := by decide +kernel
theorem dL_words_262 : decode cL_words 262 = .ok (.bipush 6, 2) := by decide +kernel
theorem dL_words_264 : decode cL_words 264 = .ok (.invokevirtual 23, 3) := by decide +kernel
theorem dL_words_267 : decode cL_words 267 = .ok (.iload 11, 2) := by decide +kernel
theorem dL_words_269 : decode cL_words 269 = .ok (.if_icmp .eq 5, 3) := by decide +kernel
theorem dL_words_272 : decode cL_words 272 = .ok (.iconst 0, 1) := by decide +kernel
theorem dL_words_273 : decode cL_words 273 = .ok (.ireturn, 1) := by decide +kernel
theorem dL_words_274 : decode cL_words 274 = .ok (.iload_n 1, 1) := by decide +kernel
theorem dL_words_275 : decode cL_words 275 = .ok (.iload 12, 2) := by decide +kernel
theorem dL_words_277 : decode cL_words 277 = .ok (.iadd, 1) := by decide +kernel
theorem dL_words_278 : decode cL_words 278 = .ok (.istore_n 1, 1) := by decide +kernel
theorem dL_words_279 : decode cL_words 279 = .ok (.iload_n 2, 1) := by decide +kernel
theorem dL_words_280 : decode cL_words 280 = .ok (.iload 13, 2) := by decide +kernel
theorem dL_words_282 : decode cL_words 282 = .ok (.iadd, 1) := by decide +kernel
theorem dL_words_283 : decode cL_words 283 = .ok (.istore_n 2, 1) := by decide +kernel
theorem dL_words_284 : decode cL_words 284 = .ok (.iload_n 3, 1) := by decide +kernel
theorem dL_words_285 : decode cL_words 285 = .ok (.iload 12, 2) := by decide +kernel
theorem dL_words_287 : decode cL_words 287 = .ok (.iload 13, 2) := by decide +kernel
theorem dL_words_289 : decode cL_words 289 = .ok (.if_icmp .ne 7, 3) := by decide +kernel
theorem dL_words_292 : decode cL_words 292 = .ok (.iconst 0, 1) := by decide +kernel
theorem dL_words_293 : decode cL_words 293 = .ok (.goto 4, 3) := by decide +kernel
theorem dL_words_296 : decode cL_words 296 = .ok (.iconst 1, 1) := by decide +kernel
theorem dL_words_297 : decode cL_words 297 = .ok (.iadd, 1) := by decide +kernel
theorem dL_words_298 : decode cL_words 298 = .ok (.istore_n 3, 1) := by decide +kernel
theorem dL_words_299 : decode cL_words 299 = .ok (.iload 12, 2) := by decide +kernel
theorem dL_words_301 : decode cL_words 301 = .ok (.iload 13, 2) := by decide +kernel
theorem dL_words_303 : decode cL_words 303 = .ok (.if_icmp .eq 13, 3) := by decide +kernel
theorem dL_words_306 : decode cL_words 306 = .ok (.iload 4, 2) := by decide +kernel
theorem dL_words_308 : decode cL_words 308 = .ok (.ifCond .ge 8, 3) := by decide +kernel
theorem dL_words_311 : decode cL_words 311 = .ok (.iload 6, 2) := by decide +kernel
theorem dL_words_313 : decode cL_words 313 = .ok (.goto 5, 3) := by decide +kernel
theorem dL_words_316 : decode cL_words 316 = .ok (.iload 4, 2) := by decide +kernel
theorem dL_words_318 : decode cL_words 318 = .ok (.istore 4, 2) := by decide +kernel
theorem dL_words_320 : decode cL_words 320 = .ok (.iload 5, 2) := by decide +kernel
theorem dL_words_322 : decode cL_words 322 = .ok (.iload 12, 2) := by decide +kernel
theorem dL_words_324 : decode cL_words 324 = .ok (.iload 13, 2) := by decide +kernel
theorem dL_words_326 : decode cL_words 326 = .ok (.if_icmp .ne 7, 3) := by decide +kernel
theorem dL_words_329 : decode cL_words 329 = .ok (.iconst 0, 1) := by decide +kernel
theorem dL_words_330 : decode cL_words 330 = .ok (.goto 5, 3) := by decide +kernel
theorem dL_words_333 : decode cL_words 333 = .ok (.iload 12, 2) := by decide +kernel
theorem dL_words_335 : decode cL_words 335 = .ok (.iadd, 1) := by decide +kernel
theorem dL_words_336 : decode cL_words 336 = .ok (.istore 5, 2) := by decide +kernel
theorem dL_words_338 : decode cL_words 338 = .ok (.iinc 6 1, 3) := by decide +kernel
theorem dL_words_341 : decode cL_words 341 = .ok (.goto (-325), 3) := by decide +kernel
theorem dL_words_344 : decode cL_words 344 = .ok (.aload_n 0, 1) := by decide +kernel
theorem dL_words_345 : decode cL_words 345 = .ok (.bipush 6, 2) := by decide +kernel
theorem dL_words_347 : decode cL_words 347 = .ok (.invokevirtual 13, 3) := by decide +kernel
theorem dL_words_350 : decode cL_words 350 = .ok (.iload_n 1, 1) := by decide +kernel
theorem dL_words_351 : decode cL_words 351 = .ok (.if_icmp .ne 75, 3) := by decide +kernel
theorem dL_words_354 : decode cL_words 354 = .ok (.aload_n 0, 1) := by decide +kernel
theorem dL_words_355 : decode cL_words 355 = .ok (.bipush 7, 2) := by decide +kernel
theorem dL_words_357 : decode cL_words 357 = .ok (.invokevirtual 13, 3) := by decide +kernel
theorem dL_words_360 : decode cL_words 360 = .ok (.iload_n 2, 1) := by decide +kernel
theorem dL_words_361 : decode cL_words 361 = .ok (.if_icmp .ne 65, 3) := by decide +kernel
theorem dL_words_364 : decode cL_words 364 = .ok (.aload_n 0, 1) := by decide +kernel
theorem dL_words_365 : decode cL_words 365 = .ok (.iconst 0, 1) := by decide +kernel
theorem dL_words_366 : decode cL_words 366 = .ok (.invokevirtual 59, 3) := by decide +kernel
theorem dL_words_369 : decode cL_words 369 = .ok (.iload_n 3, 1) := by decide +kernel
theorem dL_words_370 : decode cL_words 370 = .ok (.if_icmp .ne 56, 3) := by decide +kernel
theorem dL_words_373 : decode cL_words 373 = .ok (.aload_n 0, 1) := by decide +kernel
theorem dL_words_374 : decode cL_words 374 = .ok (.iconst 1, 1) := by decide +kernel
theorem dL_words_375 : decode cL_words 375 = .ok (.invokevirtual 59, 3) := by decide +kernel
theorem dL_words_378 : decode cL_words 378 = .ok (.iload 4, 2) := by decide +kernel
theorem dL_words_380 : decode cL_words 380 = .ok (.if_icmp .ne 46, 3) := by decide +kernel
theorem dL_words_383 : decode cL_words 383 = .ok (.aload_n 0, 1) := by decide +kernel
theorem dL_words_384 : decode cL_words 384 = .ok (.iconst 2, 1) := by decide +kernel
theorem dL_words_385 : decode cL_words 385 = .ok (.invokevirtual 59, 3) := by decide +kernel
theorem dL_words_388 : decode cL_words 388 = .ok (.iload 5, 2) := by decide +kernel
theorem dL_words_390 : decode cL_words 390 = .ok (.if_icmp .ne 36, 3) := by decide +kernel
theorem dL_words_393 : decode cL_words 393 = .ok (.aload_n 0, 1) := by decide +kernel
theorem dL_words_394 : decode cL_words 394 = .ok (.iconst 0, 1) := by decide +kernel
theorem dL_words_395 : decode cL_words 395 = .ok (.invokevirtual 13, 3) := by decide +kernel
theorem dL_words_398 : decode cL_words 398 = .ok (.aload_n 0, 1) := by decide +kernel
theorem dL_words_399 : decode cL_words 399 = .ok (.iconst 1, 1) := by decide +kernel
theorem dL_words_400 : decode cL_words 400 = .ok (.invokevirtual 13, 3) := by decide +kernel
theorem dL_words_403 : decode cL_words 403 = .ok (.iadd, 1) := by decide +kernel
theorem dL_words_404 : decode cL_words 404 = .ok (.aload_n 0, 1) := by decide +kernel
theorem dL_words_405 : decode cL_words 405 = .ok (.iconst 2, 1) := by decide +kernel
theorem dL_words_406 : decode cL_words 406 = .ok (.invokevirtual 13, 3) := by decide +kernel
theorem dL_words_409 : decode cL_words 409 = .ok (.iadd, 1) := by decide +kernel
theorem dL_words_410 : decode cL_words 410 = .ok (.aload_n 0, 1) := by decide +kernel
theorem dL_words_411 : decode cL_words 411 = .ok (.iconst 3, 1) := by decide +kernel
theorem dL_words_412 : decode cL_words 412 = .ok (.invokevirtual 13, 3) := by decide +kernel
theorem dL_words_415 : decode cL_words 415 = .ok (.iadd, 1) := by decide +kernel
theorem dL_words_416 : decode cL_words 416 = .ok (.sipush 320, 3) := by decide +kernel
theorem dL_words_419 : decode cL_words 419 = .ok (.if_icmp .ne 7, 3) := by decide +kernel
theorem dL_words_422 : decode cL_words 422 = .ok (.iconst 1, 1) := by decide +kernel
theorem dL_words_423 : decode cL_words 423 = .ok (.goto 4, 3) := by decide +kernel
theorem dL_words_426 : decode cL_words 426 = .ok (.iconst 0, 1) := by decide +kernel
theorem dL_words_427 : decode cL_words 427 = .ok (.ireturn, 1) := by decide +kernel
set_option maxRecDepth 20000 in
theorem ggL_blocks_X3_block : GoodIn wsL_blocks wsX3_block := goodIn_r _ [5, 6, 7, 8, 9, 10, 11, 12, 13, 14, 15, 16, 17, 18, 19, 4, 20, 21, 22, 23, 24, 25, 26, 27, 28, 29, 30, 31, 32, 33, 34, 35, 36, 37, 38, 39, 40, 92, 93, 94, 95, 96, 97, 98, 99, 100, 101, 102] (by decide +kernel) (by decide +kernel)
set_option maxRecDepth 20000 in
theorem gL_blocks_X3_block : GoodIn wsL_blocks (wsV RL 26 RX3 yX3_block wsX3_block) := goodIn_app (goodIn_of _ (by decide +kernel)) ggL_blocks_X3_block
set_option maxRecDepth 20000 in
theorem ggL_blocks_X3_slot : GoodIn wsL_blocks wsX3_slot := goodIn_r _ [44, 6, 45, 46, 47, 10, 48, 17, 19, 4, 20, 49, 50, 51, 52, 53, 54, 18, 12, 92, 93, 94, 95, 96, 97, 98, 99, 100, 101, 102] (by decide +kernel) (by decide +kernel)
set_option maxRecDepth 20000 in
theorem gL_blocks_X3_slot : GoodIn wsL_blocks (wsV RL 19 RX3 yX3_slot wsX3_slot) := goodIn_app (goodIn_of _ (by decide +kernel)) ggL_blocks_X3_slot
set_option maxRecDepth 20000 in
theorem ggL_blocks_X3_count : GoodIn wsL_blocks wsX3_count := goodIn_r _ [58, 6, 59, 60, 61, 62, 63, 10, 64, 17, 34, 35, 36, 37, 38, 39, 40, 65, 66, 67, 68, 69, 8, 9, 11, 12, 70, 71, 72, 73, 74, 75, 76, 77, 78, 79, 80, 81, 82, 83, 84, 85, 86, 19, 4, 20, 49, 50, 87, 88, 89, 90, 91, 28, 29, 30, 92, 93, 94, 95, 96, 97, 98, 99, 100, 101, 102, 103, 104, 105] (by decide +kernel) (by decide +kernel)
set_option maxRecDepth 20000 in
theorem gL_blocks_X3_count : GoodIn wsL_blocks (wsV RL 13 RX3 yX3_count wsX3_count) := goodIn_app (goodIn_of _ (by decide +kernel)) ggL_blocks_X3_count
theorem dL_blocks_0 : decode cL_blocks 0 = .ok (.iconst 0, 1) := by decide +kernel
theorem dL_blocks_1 : decode cL_blocks 1 = .ok (.istore_n 1, 1) := by decide +kernel
theorem dL_blocks_2 : decode cL_blocks 2 = .ok (.iconst 0, 1) := by decide +kernel
theorem dL_blocks_3 : decode cL_blocks 3 = .ok (.istore_n 2, 1) := by decide +kernel
theorem dL_blocks_4 : decode cL_blocks 4 = .ok (.iconst 0, 1) := by decide +kernel
theorem dL_blocks_5 : decode cL_blocks 5 = .ok (.istore_n 3, 1) := by decide +kernel
theorem dL_blocks_6 : decode cL_blocks 6 = .ok (.iconst 0, 1) := by decide +kernel
theorem dL_blocks_7 : decode cL_blocks 7 = .ok (.istore 4, 2) := by decide +kernel
theorem dL_blocks_9 : decode cL_blocks 9 = .ok (.iload 4, 2) := by decide +kernel
theorem dL_blocks_11 : decode cL_blocks 11 = .ok (.bipush 8, 2) := by decide +kernel
theorem dL_blocks_13 : decode cL_blocks 13 = .ok (.if_icmp .ge 192, 3) := by decide +kernel
theorem dL_blocks_16 : decode cL_blocks 16 = .ok (.aload_n 0, 1) := by decide +kernel
theorem dL_blocks_17 : decode cL_blocks 17 = .ok (.iload 4, 2) := by decide +kernel
theorem dL_blocks_19 : decode cL_blocks 19 = .ok (.iconst 0, 1) := by decide +kernel
theorem dL_blocks_20 : decode cL_blocks 20 = .ok (.invokevirtual 26, 3) := by decide +kernel
theorem dL_blocks_23 : decode cL_blocks 23 = .ok (.istore 5, 2) := by decide +kernel
theorem dL_blocks_25 : decode cL_blocks 25 = .ok (.aload_n 0, 1) := by decide +kernel
theorem dL_blocks_26 : decode cL_blocks 26 = .ok (.iload 4, 2) := by decide +kernel
theorem dL_blocks_28 : decode cL_blocks 28 = .ok (.iconst 1, 1) := by decide +kernel
theorem dL_blocks_29 : decode cL_blocks 29 = .ok (.invokevirtual 26, 3) := by decide +kernel
theorem dL_blocks_32 : decode cL_blocks 32 = .ok (.istore 6, 2) := by decide +kernel
theorem dL_blocks_34 : decode cL_blocks 34 = .ok (.iload 5, 2) := by decide +kernel
theorem dL_blocks_36 : decode cL_blocks 36 = .ok (.ifCond .lt 163, 3) := by decide +kernel
theorem dL_blocks_39 : decode cL_blocks 39 = .ok (.iconst 0, 1) := by decide +kernel
theorem dL_blocks_40 : decode cL_blocks 40 = .ok (.istore 7, 2) := by decide +kernel
theorem dL_blocks_42 : decode cL_blocks 42 = .ok (.iload 5, 2) := by decide +kernel
theorem dL_blocks_44 : decode cL_blocks 44 = .ok (.istore 8, 2) := by decide +kernel
theorem dL_blocks_46 : decode cL_blocks 46 = .ok (.iload 8, 2) := by decide +kernel
theorem dL_blocks_48 : decode cL_blocks 48 = .ok (.iload 5, 2) := by decide +kernel
theorem dL_blocks_50 : decode cL_blocks 50 = .ok (.iload 6, 2) := by decide +kernel
theorem dL_blocks_52 : decode cL_blocks 52 = .ok (.iadd, 1) := by decide +kernel
theorem dL_blocks_53 : decode cL_blocks 53 = .ok (.if_icmp .ge 66, 3) := by decide +kernel
theorem dL_blocks_56 : decode cL_blocks 56 = .ok (.iload 7, 2) := by decide +kernel
theorem dL_blocks_58 : decode cL_blocks 58 = .ok (.aload_n 0, 1) := by decide +kernel
theorem dL_blocks_59 : decode cL_blocks 59 = .ok (.iload 8, 2) := by decide +kernel
theorem dL_blocks_61 : decode cL_blocks 61 = .ok (.iconst 0, 1) := by decide +kernel
theorem dL_blocks_62 : decode cL_blocks 62 = .ok (.invokevirtual 19, 3) := by decide +kernel
theorem dL_blocks_65 : decode cL_blocks 65 = .ok (.iconst 1, 1) := by decide +kernel
theorem dL_blocks_66 : decode cL_blocks 66 = .ok (.if_icmp .ne 7, 3) := by decide +kernel
theorem dL_blocks_69 : decode cL_blocks 69 = .ok (.iconst 1, 1) := by decide +kernel
theorem dL_blocks_70 : decode cL_blocks 70 = .ok (.goto 4, 3) := by decide +kernel
theorem dL_blocks_73 : decode cL_blocks 73 = .ok (.iconst 0, 1) := by decide +kernel
theorem dL_blocks_74 : decode cL_blocks 74 = .ok (.iadd, 1) := by decide +kernel
theorem dL_blocks_75 : decode cL_blocks 75 = .ok (.istore 7, 2) := by decide +kernel
theorem dL_blocks_77 : decode cL_blocks 77 = .ok (.aload_n 0, 1) := by decide +kernel
theorem dL_blocks_78 : decode cL_blocks 78 = .ok (.iload 8, 2) := by decide +kernel
theorem dL_blocks_80 : decode cL_blocks 80 = .ok (.iconst 1, 1) := by decide +kernel
theorem dL_blocks_81 : decode cL_blocks 81 = .ok (.invokevirtual 19, 3) := by decide +kernel
theorem dL_blocks_84 : decode cL_blocks 84 = .ok (.iload 4, 2) := by decide +kernel
theorem dL_blocks_86 : decode cL_blocks 86 = .ok (.if_icmp .ne 25, 3) := by decide +kernel
theorem dL_blocks_89 : decode cL_blocks 89 = .ok (.aload_n 0, 1) := by decide +kernel
theorem dL_blocks_90 : decode cL_blocks 90 = .ok (.iload 8, 2) := by decide +kernel
theorem dL_blocks_92 : decode cL_blocks 92 = .ok (.iconst 0, 1) := by decide +kernel
theorem dL_blocks_93 : decode cL_blocks 93 = .ok (.invokevirtual 19, 3) := by decide +kernel
theorem dL_blocks_96 : decode cL_blocks 96 = .ok (.iconst 1, 1) := by decide +kernel
theorem dL_blocks_97 : decode cL_blocks 97 = .ok (.if_icmp .eq 16, 3) := by decide +kernel
theorem dL_blocks_100 : decode cL_blocks 100 = .ok (.aload_n 0, 1) := by decide +kernel
theorem dL_blocks_101 : decode cL_blocks 101 = .ok (.iload 8, 2) := by decide +kernel
theorem dL_blocks_103 : decode cL_blocks 103 = .ok (.iconst 0, 1) := by decide +kernel
theorem dL_blocks_104 : decode cL_blocks 104 = .ok (.invokevirtual 19, 3) := by decide +kernel
theorem dL_blocks_107 : decode cL_blocks 107 = .ok (.iconst 3, 1) := by decide +kernel
theorem dL_blocks_108 : decode cL_blocks 108 = .ok (.if_icmp .eq 5, 3) := by decide +kernel
theorem dL_blocks_111 : decode cL_blocks 111 = .ok (.iconst 0, 1) := by decide +kernel
theorem dL_blocks_112 : decode cL_blocks 112 = .ok (.ireturn, 1) := by decide +kernel
theorem dL_blocks_113 : decode cL_blocks 113 = .ok (.iinc 8 1, 3) := by decide +kernel
theorem dL_blocks_116 : decode cL_blocks 116 = .ok (.goto (-70), 3) := by decide +kernel
theorem dL_blocks_119 : decode cL_blocks 119 = .ok (.iload 6, 2) := by decide +kernel
theorem dL_blocks_121 : decode cL_blocks 121 = .ok (.iconst 4, 1) := by decide +kernel
theorem dL_blocks_122 : decode cL_blocks 122 = .ok (.if_icmp .eq 24, 3) := by decide +kernel
theorem dL_blocks_125 : decode cL_blocks 125 = .ok (.iload 6, 2) := by decide +kernel
theorem dL_blocks_127 : decode cL_blocks 127 = .ok (.bipush 8, 2) := by decide +kernel
theorem dL_blocks_129 : decode cL_blocks 129 = .ok (.if_icmp .eq 17, 3) := by decide +kernel
theorem dL_blocks_132 : decode cL_blocks 132 = .ok (.iload 6, 2) := by decide +kernel
theorem dL_blocks_134 : decode cL_blocks 134 = .ok (.bipush 16, 2) := by decide +kernel
theorem dL_blocks_136 : decode cL_blocks 136 = .ok (.if_icmp .eq 10, 3) := by decide +kernel
theorem dL_blocks_139 : decode cL_blocks 139 = .ok (.iload 6, 2) := by decide +kernel
theorem dL_blocks_141 : decode cL_blocks 141 = .ok (.bipush 32, 2) := by decide +kernel
theorem dL_blocks_143 : decode cL_blocks 143 = .ok (.if_icmp .ne 38, 3) := by decide +kernel
theorem dL_blocks_146 : decode cL_blocks 146 = .ok (.iload 5, 2) := by decide +kernel
theorem dL_blocks_148 : decode cL_blocks 148 = .ok (.iload 6, 2) := by decide +kernel
theorem dL_blocks_150 : decode cL_blocks 150 = .ok (.irem, 1) := by decide +kernel
theorem dL_blocks_151 : decode cL_blocks 151 = .ok (.ifCond .ne 30, 3) := by decide +kernel
theorem dL_blocks_154 : decode cL_blocks 154 = .ok (.aload_n 0, 1) := by decide +kernel
theorem dL_blocks_155 : decode cL_blocks 155 = .ok (.iload 4, 2) := by decide +kernel
theorem dL_blocks_157 : decode cL_blocks 157 = .ok (.iconst 2, 1) := by decide +kernel
theorem dL_blocks_158 : decode cL_blocks 158 = .ok (.invokevirtual 26, 3) := by decide +kernel
theorem dL_blocks_161 : decode cL_blocks 161 = .ok (.iload 7, 2) := by decide +kernel
theorem dL_blocks_163 : decode cL_blocks 163 = .ok (.if_icmp .ne 18, 3) := by decide +kernel
theorem dL_blocks_166 : decode cL_blocks 166 = .ok (.aload_n 0, 1) := by decide +kernel
theorem dL_blocks_167 : decode cL_blocks 167 = .ok (.iload 4, 2) := by decide +kernel
theorem dL_blocks_169 : decode cL_blocks 169 = .ok (.iconst 3, 1) := by decide +kernel
theorem dL_blocks_170 : decode cL_blocks 170 = .ok (.invokevirtual 26, 3) := by decide +kernel
theorem dL_blocks_173 : decode cL_blocks 173 = .ok (.iload 6, 2) := by decide +kernel
theorem dL_blocks_175 : decode cL_blocks 175 = .ok (.iload 7, 2) := by decide +kernel
theorem dL_blocks_177 : decode cL_blocks 177 = .ok (.isub, 1) := by decide +kernel
theorem dL_blocks_178 : decode cL_blocks 178 = .ok (.if_icmp .eq 5, 3) := by decide +kernel
theorem dL_blocks_181 : decode cL_blocks 181 = .ok (.iconst 0, 1) := by decide +kernel
theorem dL_blocks_182 : decode cL_blocks 182 = .ok (.ireturn, 1) := by decide +kernel
theorem dL_blocks_183 : decode cL_blocks 183 = .ok (.iinc 1 1, 3) := by decide +kernel
theorem dL_blocks_186 : decode cL_blocks 186 = .ok (.iload_n 2, 1) := by decide +kernel
theorem dL_blocks_187 : decode cL_blocks 187 = .ok (.iload 6, 2) := by decide +kernel
theorem dL_blocks_189 : decode cL_blocks 189 = .ok (.iadd, 1) := by decide +kernel
theorem dL_blocks_190 : decode cL_blocks 190 = .ok (.istore_n 2, 1) := by decide +kernel
theorem dL_blocks_191 : decode cL_blocks 191 = .ok (.iload_n 3, 1) := by decide +kernel
theorem dL_blocks_192 : decode cL_blocks 192 = .ok (.iload 6, 2) := by decide +kernel
theorem dL_blocks_194 : decode cL_blocks 194 = .ok (.iload 7, 2) := by decide +kernel
theorem dL_blocks_196 : decode cL_blocks 196 = .ok (.isub, 1) := by decide +kernel
theorem dL_blocks_197 : decode cL_blocks 197 = .ok (.iadd, 1) := by decide +kernel
theorem dL_blocks_198 : decode cL_blocks 198 = .ok (.istore_n 3, 1) := by decide +kernel
theorem dL_blocks_199 : decode cL_blocks 199 = .ok (.iinc 4 1, 3) := by decide +kernel
theorem dL_blocks_202 : decode cL_blocks 202 = .ok (.goto (-193), 3) := by decide +kernel
theorem dL_blocks_205 : decode cL_blocks 205 = .ok (.iconst 0, 1) := by decide +kernel
theorem dL_blocks_206 : decode cL_blocks 206 = .ok (.istore 4, 2) := by decide +kernel
theorem dL_blocks_208 : decode cL_blocks 208 = .ok (.iconst 0, 1) := by decide +kernel
theorem dL_blocks_209 : decode cL_blocks 209 = .ok (.istore 5, 2) := by decide +kernel
theorem dL_blocks_211 : decode cL_blocks 211 = .ok (.iload 5, 2) := by decide +kernel
theorem dL_blocks_213 : decode cL_blocks 213 = .ok (.sipush 320, 3) := by decide +kernel
theorem dL_blocks_216 : decode cL_blocks 216 = .ok (.if_icmp .ge 31, 3) := by decide +kernel
theorem dL_blocks_219 : decode cL_blocks 219 = .ok (.iload 4, 2) := by decide +kernel
theorem dL_blocks_221 : decode cL_blocks 221 = .ok (.aload_n 0, 1) := by decide +kernel
theorem dL_blocks_222 : decode cL_blocks 222 = .ok (.iload 5, 2) := by decide +kernel
theorem dL_blocks_224 : decode cL_blocks 224 = .ok (.iconst 1, 1) := by decide +kernel
theorem dL_blocks_225 : decode cL_blocks 225 = .ok (.invokevirtual 19, 3) := by decide +kernel
theorem dL_blocks_228 : decode cL_blocks 228 = .ok (.bipush (-9), 2) := by decide +kernel
theorem dL_blocks_230 : decode cL_blocks 230 = .ok (.if_icmp .ne 7, 3) := by decide +kernel
theorem dL_blocks_233 : decode cL_blocks 233 = .ok (.iconst 0, 1) := by decide +kernel
theorem dL_blocks_234 : decode cL_blocks 234 = .ok (.goto 4, 3) := by decide +kernel
theorem dL_blocks_237 : decode cL_blocks 237 = .ok (.iconst 1, 1) := by decide +kernel
theorem dL_blocks_238 : decode cL_blocks 238 = .ok (.iadd, 1) := by decide +kernel
theorem dL_blocks_239 : decode cL_blocks 239 = .ok (.istore 4, 2) := by decide +kernel
theorem dL_blocks_241 : decode cL_blocks 241 = .ok (.iinc 5 1, 3) := by decide +kernel
theorem dL_blocks_244 : decode cL_blocks 244 = .ok (.goto (-33), 3) := by decide +kernel
theorem dL_blocks_247 : decode cL_blocks 247 = .ok (.aload_n 0, 1) := by decide +kernel
theorem dL_blocks_248 : decode cL_blocks 248 = .ok (.iconst 4, 1) := by decide +kernel
theorem dL_blocks_249 : decode cL_blocks 249 = .ok (.invokevirtual 13, 3) := by decide +kernel
theorem dL_blocks_252 : decode cL_blocks 252 = .ok (.iload_n 1, 1) := by decide +kernel
theorem dL_blocks_253 : decode cL_blocks 253 = .ok (.if_icmp .ne 22, 3) := by decide +kernel
theorem dL_blocks_256 : decode cL_blocks 256 = .ok (.iload 4, 2) := by decide +kernel
theorem dL_blocks_258 : decode cL_blocks 258 = .ok (.iload_n 2, 1) := by decide +kernel
theorem dL_blocks_259 : decode cL_blocks 259 = .ok (.if_icmp .ne 16, 3) := by decide +kernel
theorem dL_blocks_262 : decode cL_blocks 262 = .ok (.aload_n 0, 1) := by decide +kernel
theorem dL_blocks_263 : decode cL_blocks 263 = .ok (.iconst 3, 1) := by decide +kernel
theorem dL_blocks_264 : decode cL_blocks 264 = .ok (.invokevirtual 13, 3) := by decide +kernel
theorem dL_blocks_267 : decode cL_blocks 267 = .ok (.iload_n 3, 1) := by decide +kernel
theorem dL_blocks_268 : decode cL_blocks 268 = .ok (.if_icmp .ne 7, 3) := by decide +kernel
theorem dL_blocks_271 : decode cL_blocks 271 = .ok (.iconst 1, 1) := by decide +kernel
theorem dL_blocks_272 : decode cL_blocks 272 = .ok (.goto 4, 3) := by decide +kernel
theorem dL_blocks_275 : decode cL_blocks 275 = .ok (.iconst 0, 1) := by decide +kernel
theorem dL_blocks_276 : decode cL_blocks 276 = .ok (.ireturn, 1) := by decide +kernel
set_option maxRecDepth 20000 in
theorem ggL_runs_L_up : GoodIn wsL_runs wsL_up := goodIn_r _ [4, 5] (by decide +kernel) (by decide +kernel)
set_option maxRecDepth 20000 in
theorem gL_runs_L_up : GoodIn wsL_runs (va_wsS RL 71 yL_up wsL_up) := goodIn_app (goodIn_of _ (by decide +kernel)) ggL_runs_L_up
set_option maxRecDepth 20000 in
theorem ggL_runs_X3_slot : GoodIn wsL_runs wsX3_slot := goodIn_r _ [10, 11, 12, 13, 14, 15, 16, 17, 18, 9, 19, 20, 21, 22, 23, 24, 25, 26, 27, 106, 107, 108, 109, 110, 111, 112, 113, 114, 115, 116] (by decide +kernel) (by decide +kernel)
set_option maxRecDepth 20000 in
theorem gL_runs_X3_slot : GoodIn wsL_runs (wsV RL 19 RX3 yX3_slot wsX3_slot) := goodIn_app (goodIn_of _ (by decide +kernel)) ggL_runs_X3_slot
set_option maxRecDepth 20000 in
theorem ggL_runs_X3_count : GoodIn wsL_runs wsX3_count := goodIn_r _ [31, 11, 32, 33, 34, 35, 36, 15, 37, 17, 38, 39, 40, 41, 42, 43, 44, 45, 46, 47, 48, 49, 50, 51, 52, 27, 53, 54, 55, 56, 57, 58, 59, 60, 61, 62, 63, 64, 65, 66, 67, 68, 69, 18, 9, 19, 20, 21, 70, 71, 72, 73, 74, 75, 76, 77, 106, 107, 108, 109, 110, 111, 112, 113, 114, 115, 116, 117, 118, 119] (by decide +kernel) (by decide +kernel)
set_option maxRecDepth 20000 in
theorem gL_runs_X3_count : GoodIn wsL_runs (wsV RL 13 RX3 yX3_count wsX3_count) := goodIn_app (goodIn_of _ (by decide +kernel)) ggL_runs_X3_count
set_option maxRecDepth 20000 in
theorem ggL_runs_X3_runAt : GoodIn wsL_runs wsX3_runAt := goodIn_r _ [81, 11, 82, 83, 9, 84, 85, 86, 87, 15, 88, 66, 67, 68, 69, 17, 18, 19, 20, 21, 106, 107, 108, 109, 110, 111, 112, 113, 114, 115, 116] (by decide +kernel) (by decide +kernel)
set_option maxRecDepth 20000 in
theorem gL_runs_X3_runAt : GoodIn wsL_runs (wsV RL 65 RX3 yX3_runAt wsX3_runAt) := goodIn_app (goodIn_of _ (by decide +kernel)) ggL_runs_X3_runAt
set_option maxRecDepth 20000 in
theorem ggL_runs_X3_placeFor : GoodIn wsL_runs wsX3_placeFor := goodIn_r _ [92, 11, 93, 94, 9, 95, 96, 97, 98, 15, 99, 17, 18, 19, 100, 101, 102, 75, 76, 77, 103, 104, 105, 106, 107, 108, 109, 110, 111, 112, 113, 114, 115, 116] (by decide +kernel) (by decide +kernel)
set_option maxRecDepth 20000 in
theorem gL_runs_X3_placeFor : GoodIn wsL_runs (wsV RL 68 RX3 yX3_placeFor wsX3_placeFor) := goodIn_app (goodIn_of _ (by decide +kernel)) ggL_runs_X3_placeFor
theorem dL_runs_0 : decode cL_runs 0 = .ok (.iconst 1, 1) := by decide +kernel
theorem dL_runs_1 : decode cL_runs 1 = .ok (.iload_n 1, 1) := by decide +kernel
theorem dL_runs_2 : decode cL_runs 2 = .ok (.bipush 64, 2) := by decide +kernel
theorem dL_runs_4 : decode cL_runs 4 = .ok (.invokestatic 71, 3) := by decide +kernel
theorem dL_runs_7 : decode cL_runs 7 = .ok (.iadd, 1) := by decide +kernel
theorem dL_runs_8 : decode cL_runs 8 = .ok (.istore_n 2, 1) := by decide +kernel
theorem dL_runs_9 : decode cL_runs 9 = .ok (.iconst 4, 1) := by decide +kernel
theorem dL_runs_10 : decode cL_runs 10 = .ok (.iload_n 1, 1) := by decide +kernel
theorem dL_runs_11 : decode cL_runs 11 = .ok (.bipush 7, 2) := by decide +kernel
theorem dL_runs_13 : decode cL_runs 13 = .ok (.ishr, 1) := by decide +kernel
theorem dL_runs_14 : decode cL_runs 14 = .ok (.iconst 4, 1) := by decide +kernel
theorem dL_runs_15 : decode cL_runs 15 = .ok (.invokestatic 71, 3) := by decide +kernel
theorem dL_runs_18 : decode cL_runs 18 = .ok (.ishl, 1) := by decide +kernel
theorem dL_runs_19 : decode cL_runs 19 = .ok (.istore_n 3, 1) := by decide +kernel
theorem dL_runs_20 : decode cL_runs 20 = .ok (.iconst 0, 1) := by decide +kernel
theorem dL_runs_21 : decode cL_runs 21 = .ok (.istore 4, 2) := by decide +kernel
theorem dL_runs_23 : decode cL_runs 23 = .ok (.iconst 0, 1) := by decide +kernel
theorem dL_runs_24 : decode cL_runs 24 = .ok (.istore 5, 2) := by decide +kernel
theorem dL_runs_26 : decode cL_runs 26 = .ok (.iconst 0, 1) := by decide +kernel
theorem dL_runs_27 : decode cL_runs 27 = .ok (.istore 6, 2) := by decide +kernel
theorem dL_runs_29 : decode cL_runs 29 = .ok (.bipush (-9), 2) := by decide +kernel
theorem dL_runs_31 : decode cL_runs 31 = .ok (.istore 7, 2) := by decide +kernel
theorem dL_runs_33 : decode cL_runs 33 = .ok (.iconst 0, 1) := by decide +kernel
theorem dL_runs_34 : decode cL_runs 34 = .ok (.istore 8, 2) := by decide +kernel
theorem dL_runs_36 : decode cL_runs 36 = .ok (.iload 8, 2) := by decide +kernel
theorem dL_runs_38 : decode cL_runs 38 = .ok (.sipush 320, 3) := by decide +kernel
theorem dL_runs_41 : decode cL_runs 41 = .ok (.if_icmp .ge 85, 3) := by decide +kernel
theorem dL_runs_44 : decode cL_runs 44 = .ok (.aload_n 0, 1) := by decide +kernel
theorem dL_runs_45 : decode cL_runs 45 = .ok (.iload 8, 2) := by decide +kernel
theorem dL_runs_47 : decode cL_runs 47 = .ok (.iconst 0, 1) := by decide +kernel
theorem dL_runs_48 : decode cL_runs 48 = .ok (.invokevirtual 19, 3) := by decide +kernel
theorem dL_runs_51 : decode cL_runs 51 = .ok (.ifCond .ne 10, 3) := by decide +kernel
theorem dL_runs_54 : decode cL_runs 54 = .ok (.iload 6, 2) := by decide +kernel
theorem dL_runs_56 : decode cL_runs 56 = .ok (.iconst 1, 1) := by decide +kernel
theorem dL_runs_57 : decode cL_runs 57 = .ok (.iadd, 1) := by decide +kernel
theorem dL_runs_58 : decode cL_runs 58 = .ok (.goto 4, 3) := by decide +kernel
theorem dL_runs_61 : decode cL_runs 61 = .ok (.iconst 0, 1) := by decide +kernel
theorem dL_runs_62 : decode cL_runs 62 = .ok (.istore 6, 2) := by decide +kernel
theorem dL_runs_64 : decode cL_runs 64 = .ok (.iload 4, 2) := by decide +kernel
theorem dL_runs_66 : decode cL_runs 66 = .ok (.iload 6, 2) := by decide +kernel
theorem dL_runs_68 : decode cL_runs 68 = .ok (.iconst 1, 1) := by decide +kernel
theorem dL_runs_69 : decode cL_runs 69 = .ok (.if_icmp .ne 7, 3) := by decide +kernel
theorem dL_runs_72 : decode cL_runs 72 = .ok (.iconst 1, 1) := by decide +kernel
theorem dL_runs_73 : decode cL_runs 73 = .ok (.goto 4, 3) := by decide +kernel
theorem dL_runs_76 : decode cL_runs 76 = .ok (.iconst 0, 1) := by decide +kernel
theorem dL_runs_77 : decode cL_runs 77 = .ok (.iadd, 1) := by decide +kernel
theorem dL_runs_78 : decode cL_runs 78 = .ok (.istore 4, 2) := by decide +kernel
theorem dL_runs_80 : decode cL_runs 80 = .ok (.iload 6, 2) := by decide +kernel
theorem dL_runs_82 : decode cL_runs 82 = .ok (.iload 5, 2) := by decide +kernel
theorem dL_runs_84 : decode cL_runs 84 = .ok (.if_icmp .le 8, 3) := by decide +kernel
theorem dL_runs_87 : decode cL_runs 87 = .ok (.iload 6, 2) := by decide +kernel
theorem dL_runs_89 : decode cL_runs 89 = .ok (.goto 5, 3) := by decide +kernel
theorem dL_runs_92 : decode cL_runs 92 = .ok (.iload 5, 2) := by decide +kernel
theorem dL_runs_94 : decode cL_runs 94 = .ok (.istore 5, 2) := by decide +kernel
theorem dL_runs_96 : decode cL_runs 96 = .ok (.iload 6, 2) := by decide +kernel
theorem dL_runs_98 : decode cL_runs 98 = .ok (.iload_n 2, 1) := by decide +kernel
theorem dL_runs_99 : decode cL_runs 99 = .ok (.if_icmp .ne 17, 3) := by decide +kernel
theorem dL_runs_102 : decode cL_runs 102 = .ok (.iload 7, 2) := by decide +kernel
theorem dL_runs_104 : decode cL_runs 104 = .ok (.ifCond .ge 12, 3) := by decide +kernel
theorem dL_runs_107 : decode cL_runs 107 = .ok (.iload 8, 2) := by decide +kernel
theorem dL_runs_109 : decode cL_runs 109 = .ok (.iload_n 2, 1) := by decide +kernel
theorem dL_runs_110 : decode cL_runs 110 = .ok (.isub, 1) := by decide +kernel
theorem dL_runs_111 : decode cL_runs 111 = .ok (.iconst 1, 1) := by decide +kernel
theorem dL_runs_112 : decode cL_runs 112 = .ok (.iadd, 1) := by decide +kernel
theorem dL_runs_113 : decode cL_runs 113 = .ok (.goto 5, 3) := by decide +kernel
theorem dL_runs_116 : decode cL_runs 116 = .ok (.iload 7, 2) := by decide +kernel
theorem dL_runs_118 : decode cL_runs 118 = .ok (.istore 7, 2) := by decide +kernel
theorem dL_runs_120 : decode cL_runs 120 = .ok (.iinc 8 1, 3) := by decide +kernel
theorem dL_runs_123 : decode cL_runs 123 = .ok (.goto (-87), 3) := by decide +kernel
theorem dL_runs_126 : decode cL_runs 126 = .ok (.bipush (-9), 2) := by decide +kernel
theorem dL_runs_128 : decode cL_runs 128 = .ok (.istore 8, 2) := by decide +kernel
theorem dL_runs_130 : decode cL_runs 130 = .ok (.sipush 320, 3) := by decide +kernel
theorem dL_runs_133 : decode cL_runs 133 = .ok (.iload_n 3, 1) := by decide +kernel
theorem dL_runs_134 : decode cL_runs 134 = .ok (.isub, 1) := by decide +kernel
theorem dL_runs_135 : decode cL_runs 135 = .ok (.istore 9, 2) := by decide +kernel
theorem dL_runs_137 : decode cL_runs 137 = .ok (.iload 9, 2) := by decide +kernel
theorem dL_runs_139 : decode cL_runs 139 = .ok (.ifCond .lt 70, 3) := by decide +kernel
theorem dL_runs_142 : decode cL_runs 142 = .ok (.iconst 1, 1) := by decide +kernel
theorem dL_runs_143 : decode cL_runs 143 = .ok (.istore 10, 2) := by decide +kernel
theorem dL_runs_145 : decode cL_runs 145 = .ok (.iload 9, 2) := by decide +kernel
theorem dL_runs_147 : decode cL_runs 147 = .ok (.istore 11, 2) := by decide +kernel
theorem dL_runs_149 : decode cL_runs 149 = .ok (.iload 11, 2) := by decide +kernel
theorem dL_runs_151 : decode cL_runs 151 = .ok (.iload 9, 2) := by decide +kernel
theorem dL_runs_153 : decode cL_runs 153 = .ok (.iload_n 3, 1) := by decide +kernel
theorem dL_runs_154 : decode cL_runs 154 = .ok (.iadd, 1) := by decide +kernel
theorem dL_runs_155 : decode cL_runs 155 = .ok (.if_icmp .ge 31, 3) := by decide +kernel
theorem dL_runs_158 : decode cL_runs 158 = .ok (.iload 10, 2) := by decide +kernel
theorem dL_runs_160 : decode cL_runs 160 = .ok (.ifCond .eq 17, 3) := by decide +kernel
theorem dL_runs_163 : decode cL_runs 163 = .ok (.aload_n 0, 1) := by decide +kernel
theorem dL_runs_164 : decode cL_runs 164 = .ok (.iload 11, 2) := by decide +kernel
theorem dL_runs_166 : decode cL_runs 166 = .ok (.iconst 0, 1) := by decide +kernel
theorem dL_runs_167 : decode cL_runs 167 = .ok (.invokevirtual 19, 3) := by decide +kernel
theorem dL_runs_170 : decode cL_runs 170 = .ok (.ifCond .ne 7, 3) := by decide +kernel
theorem dL_runs_173 : decode cL_runs 173 = .ok (.iconst 1, 1) := by decide +kernel
theorem dL_runs_174 : decode cL_runs 174 = .ok (.goto 4, 3) := by decide +kernel
theorem dL_runs_177 : decode cL_runs 177 = .ok (.iconst 0, 1) := by decide +kernel
theorem dL_runs_178 : decode cL_runs 178 = .ok (.istore 10, 2) := by decide +kernel
theorem dL_runs_180 : decode cL_runs 180 = .ok (.iinc 11 1, 3) := by decide +kernel
theorem dL_runs_183 : decode cL_runs 183 = .ok (.goto (-34), 3) := by decide +kernel
theorem dL_runs_186 : decode cL_runs 186 = .ok (.iload 10, 2) := by decide +kernel
theorem dL_runs_188 : decode cL_runs 188 = .ok (.ifCond .eq 8, 3) := by decide +kernel
theorem dL_runs_191 : decode cL_runs 191 = .ok (.iload 9, 2) := by decide +kernel
theorem dL_runs_193 : decode cL_runs 193 = .ok (.goto 5, 3) := by decide +kernel
theorem dL_runs_196 : decode cL_runs 196 = .ok (.iload 8, 2) := by decide +kernel
theorem dL_runs_198 : decode cL_runs 198 = .ok (.istore 8, 2) := by decide +kernel
theorem dL_runs_200 : decode cL_runs 200 = .ok (.iload 9, 2) := by decide +kernel
theorem dL_runs_202 : decode cL_runs 202 = .ok (.iload_n 3, 1) := by decide +kernel
theorem dL_runs_203 : decode cL_runs 203 = .ok (.isub, 1) := by decide +kernel
theorem dL_runs_204 : decode cL_runs 204 = .ok (.istore 9, 2) := by decide +kernel
theorem dL_runs_206 : decode cL_runs 206 = .ok (.goto (-69), 3) := by decide +kernel
theorem dL_runs_209 : decode cL_runs 209 = .ok (.aload_n 0, 1) := by decide +kernel
theorem dL_runs_210 : decode cL_runs 210 = .ok (.bipush 8, 2) := by decide +kernel
theorem dL_runs_212 : decode cL_runs 212 = .ok (.invokevirtual 13, 3) := by decide +kernel
theorem dL_runs_215 : decode cL_runs 215 = .ok (.iload 4, 2) := by decide +kernel
theorem dL_runs_217 : decode cL_runs 217 = .ok (.if_icmp .ne 38, 3) := by decide +kernel
theorem dL_runs_220 : decode cL_runs 220 = .ok (.aload_n 0, 1) := by decide +kernel
theorem dL_runs_221 : decode cL_runs 221 = .ok (.bipush 9, 2) := by decide +kernel
theorem dL_runs_223 : decode cL_runs 223 = .ok (.invokevirtual 13, 3) := by decide +kernel
theorem dL_runs_226 : decode cL_runs 226 = .ok (.iload 5, 2) := by decide +kernel
theorem dL_runs_228 : decode cL_runs 228 = .ok (.if_icmp .ne 27, 3) := by decide +kernel
theorem dL_runs_231 : decode cL_runs 231 = .ok (.aload_n 0, 1) := by decide +kernel
theorem dL_runs_232 : decode cL_runs 232 = .ok (.iload_n 2, 1) := by decide +kernel
theorem dL_runs_233 : decode cL_runs 233 = .ok (.invokevirtual 65, 3) := by decide +kernel
theorem dL_runs_236 : decode cL_runs 236 = .ok (.iload 7, 2) := by decide +kernel
theorem dL_runs_238 : decode cL_runs 238 = .ok (.if_icmp .ne 17, 3) := by decide +kernel
theorem dL_runs_241 : decode cL_runs 241 = .ok (.aload_n 0, 1) := by decide +kernel
theorem dL_runs_242 : decode cL_runs 242 = .ok (.iload_n 3, 1) := by decide +kernel
theorem dL_runs_243 : decode cL_runs 243 = .ok (.invokevirtual 68, 3) := by decide +kernel
theorem dL_runs_246 : decode cL_runs 246 = .ok (.iload 8, 2) := by decide +kernel
theorem dL_runs_248 : decode cL_runs 248 = .ok (.if_icmp .ne 7, 3) := by decide +kernel
theorem dL_runs_251 : decode cL_runs 251 = .ok (.iconst 1, 1) := by decide +kernel
theorem dL_runs_252 : decode cL_runs 252 = .ok (.goto 4, 3) := by decide +kernel
theorem dL_runs_255 : decode cL_runs 255 = .ok (.iconst 0, 1) := by decide +kernel
theorem dL_runs_256 : decode cL_runs 256 = .ok (.ireturn, 1) := by decide +kernel
