set_option maxRecDepth 20000 in
theorem gqfails_1 : GoodIn wsL_law (.code yL_fails cL_fails 6 (some .boolean) :: wsL_fails_r1) := goodIn_r _ [265, 266, 267, 264, 268, 269, 270, 74, 75, 76, 2, 77, 12, 17, 24, 78, 79, 80, 11, 81, 31, 82, 83, 84, 85] (by decide +kernel) (by decide +kernel)
set_option maxRecDepth 20000 in
theorem gqfails_2 : GoodIn wsL_law wsL_fails_r2 := goodIn_r _ [86, 87, 88, 89, 90, 91, 92, 93, 94, 95, 96, 33, 97, 98, 99, 100, 101, 102, 103, 104, 105, 106, 107, 108] (by decide +kernel) (by decide +kernel)
set_option maxRecDepth 20000 in
theorem gqfails_3 : GoodIn wsL_law wsL_fails_r3 := goodIn_r _ [109, 110, 111, 112, 113, 114, 115, 116, 117, 118, 119, 120, 121, 122, 123, 124, 125, 271, 272, 273, 274, 275, 276, 277] (by decide +kernel) (by decide +kernel)
set_option maxRecDepth 20000 in
theorem gqfails_4 : GoodIn wsL_law wsL_fails_r4 := goodIn_r _ [278, 279, 280, 281, 282, 32, 283, 284, 285, 286, 287, 135, 136, 137, 34, 288, 289, 290, 291, 292, 151, 152, 293, 294] (by decide +kernel) (by decide +kernel)
set_option maxRecDepth 20000 in
theorem gqfails_5 : GoodIn wsL_law wsL_fails_r5 := goodIn_r _ [295, 296, 297, 298, 299, 300, 301, 221, 222, 223, 224, 211, 212, 213, 214, 215, 216, 302, 303, 304, 305, 165, 166, 167] (by decide +kernel) (by decide +kernel)
set_option maxRecDepth 20000 in
theorem gqfails_6 : GoodIn wsL_law wsL_fails_r6 := goodIn_r _ [16, 168, 41, 62, 63, 64, 65, 42, 43, 66, 67, 68, 69, 70, 71, 72, 73, 35, 306, 307, 308, 309, 310, 311] (by decide +kernel) (by decide +kernel)
set_option maxRecDepth 20000 in
theorem gqfails_7 : GoodIn wsL_law wsL_fails_r7 := goodIn_r _ [312, 313, 314, 315, 153, 154, 155, 156, 253, 254, 255, 256, 257, 59, 60, 61, 258, 259, 260, 261, 316, 317, 318, 319] (by decide +kernel) (by decide +kernel)
set_option maxRecDepth 20000 in
theorem gqfails_8 : GoodIn wsL_law wsL_fails_r8 := goodIn_r _ [320, 208, 209, 210, 217, 218, 219, 220, 321, 322, 323, 324, 325, 158, 159, 160, 326, 327, 328, 329, 330, 227, 228, 229] (by decide +kernel) (by decide +kernel)
set_option maxRecDepth 20000 in
theorem gqfails_9 : GoodIn wsL_law wsL_fails_r9 := goodIn_r _ [230, 231, 232, 233, 234, 235, 236, 237, 238, 239, 331, 332, 333, 334, 335, 241, 242, 243, 336, 337, 338, 339, 340, 341] (by decide +kernel) (by decide +kernel)
set_option maxRecDepth 20000 in
theorem gqfails_10 : GoodIn wsL_law wsL_fails_r10 := goodIn_r _ [342, 343, 344, 345, 346, 347, 348, 245, 246, 247, 134, 349, 350, 351, 352, 23, 353, 354, 355, 356, 357, 138, 139, 140] (by decide +kernel) (by decide +kernel)
set_option maxRecDepth 20000 in
theorem gqfails_11 : GoodIn wsL_law wsL_fails_r11 := goodIn_r _ [141, 13, 142, 143, 144, 145, 146, 147, 148, 149, 150, 157, 358, 359, 360, 361, 362, 363, 364, 365, 366, 367, 368, 369] (by decide +kernel) (by decide +kernel)
theorem ggL_law_L_fails : GoodIn wsL_law wsL_fails := goodIn_ca (goodIn_ca (goodIn_ca (goodIn_ca gqfails_1 (goodIn_app gqfails_2 (goodIn_app gqfails_3 (goodIn_app gqfails_4 (goodIn_app gqfails_5 (goodIn_app gqfails_6 (goodIn_app gqfails_7 (goodIn_app gqfails_8 (goodIn_app gqfails_9 (goodIn_app gqfails_10 (gqfails_11))))))))))) (goodIn_sub inlX3 (by decide +kernel))) (goodIn_sub inlX2 (by decide +kernel))) (goodIn_sub inlX0 (by decide +kernel))
