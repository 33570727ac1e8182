set_option maxRecDepth 20000 in
theorem gqtakes_1 : GoodIn wsL_law (.code yL_takes cL_takes 10 (some .boolean) :: wsL_takes_r1) := goodIn_r _ [401, 138, 139, 140, 2, 141, 13, 12, 142, 67, 68, 11, 69, 31, 70, 71, 72, 73, 32, 33, 34, 35, 143, 144, 145] (by decide +kernel) (by decide +kernel)
set_option maxRecDepth 20000 in
theorem gqtakes_2 : GoodIn wsL_law wsL_takes_r2 := goodIn_r _ [146, 147, 148, 149, 150, 134, 135, 136, 137, 102, 103, 104, 105, 151, 152, 97, 83, 84, 85, 86, 87, 88, 116, 117] (by decide +kernel) (by decide +kernel)
set_option maxRecDepth 20000 in
theorem gqtakes_3 : GoodIn wsL_law wsL_takes_r3 := goodIn_r _ [153, 154, 155, 156, 157, 158, 159, 160, 82, 78, 79, 80, 81, 126, 127, 128, 129, 130, 131, 132, 133, 74, 75, 76] (by decide +kernel) (by decide +kernel)
set_option maxRecDepth 20000 in
theorem gqtakes_4 : GoodIn wsL_law wsL_takes_r4 := goodIn_r _ [77, 17, 24, 89, 90, 91, 92, 93, 94, 95, 96, 98, 99, 100, 101, 106, 107, 108, 109, 110, 111, 112, 113, 114] (by decide +kernel) (by decide +kernel)
set_option maxRecDepth 20000 in
theorem gqtakes_5 : GoodIn wsL_law wsL_takes_r5 := goodIn_r _ [115, 118, 119, 120, 121, 122, 123, 124, 125, 266, 267, 264, 268, 269, 270, 271, 272, 273, 274, 275, 276, 277, 278, 279] (by decide +kernel) (by decide +kernel)
set_option maxRecDepth 20000 in
theorem gqtakes_6 : GoodIn wsL_law wsL_takes_r6 := goodIn_r _ [280, 281, 282, 283, 284, 285, 286, 287, 288, 289, 290, 291, 292, 293, 294, 295, 296, 297, 298, 299, 300, 301, 221, 222] (by decide +kernel) (by decide +kernel)
set_option maxRecDepth 20000 in
theorem gqtakes_7 : GoodIn wsL_law wsL_takes_r7 := goodIn_r _ [223, 224, 211, 212, 213, 214, 215, 216, 402, 403, 404, 405, 381, 382, 383, 384, 165, 166, 167, 16, 168, 41, 62, 63] (by decide +kernel) (by decide +kernel)
set_option maxRecDepth 20000 in
theorem gqtakes_8 : GoodIn wsL_law wsL_takes_r8 := goodIn_r _ [64, 65, 42, 43, 66, 253, 254, 255, 256, 257, 59, 60, 61, 258, 259, 260, 261, 50, 51, 52, 53, 54, 55, 56] (by decide +kernel) (by decide +kernel)
set_option maxRecDepth 20000 in
theorem gqtakes_9 : GoodIn wsL_law wsL_takes_r9 := goodIn_r _ [57, 58, 406, 407, 408, 349, 350, 351, 352, 23, 161, 162, 163, 164, 21, 169, 170, 171, 20, 172, 49, 173, 174, 175] (by decide +kernel) (by decide +kernel)
set_option maxRecDepth 20000 in
theorem gqtakes_10 : GoodIn wsL_law wsL_takes_r10 := goodIn_r _ [176, 177, 178, 179, 180, 181, 182, 183, 184, 185, 186, 187, 188, 189, 190, 191, 192, 193, 194, 195, 196, 197, 198, 199] (by decide +kernel) (by decide +kernel)
set_option maxRecDepth 20000 in
theorem gqtakes_11 : GoodIn wsL_law wsL_takes_r11 := goodIn_r _ [200, 201, 202, 203, 204, 205, 206, 207, 208, 209, 210, 217, 218, 219, 220, 225, 226, 227, 228, 229, 230, 231, 232, 233] (by decide +kernel) (by decide +kernel)
set_option maxRecDepth 20000 in
theorem gqtakes_12 : GoodIn wsL_law wsL_takes_r12 := goodIn_r _ [234, 235, 236, 237, 238, 239, 240, 241, 242, 243, 244, 245, 246, 247, 248, 249, 250, 251, 252] (by decide +kernel) (by decide +kernel)
theorem ggL_law_L_takes : GoodIn wsL_law wsL_takes := goodIn_ca (goodIn_ca (goodIn_ca (goodIn_ca (goodIn_ca gqtakes_1 (goodIn_app gqtakes_2 (goodIn_app gqtakes_3 (goodIn_app gqtakes_4 (goodIn_app gqtakes_5 (goodIn_app gqtakes_6 (goodIn_app gqtakes_7 (goodIn_app gqtakes_8 (goodIn_app gqtakes_9 (goodIn_app gqtakes_10 (goodIn_app gqtakes_11 (gqtakes_12)))))))))))) (goodIn_sub inlX3 (by decide +kernel))) (goodIn_sub inlX2 (by decide +kernel))) (goodIn_sub inlX0 (by decide +kernel))) (goodIn_sub inlX1 (by decide +kernel))
