set_option maxRecDepth 20000 in
theorem ggL_fails_L_mark : GoodIn wsL_fails wsL_mark := goodIn_r _ [4, 5, 6, 7, 8, 9, 10, 11, 12, 13, 14, 15, 16, 17, 18, 19, 20, 21, 22, 23, 24, 25, 26, 27, 28, 29, 30, 31, 32, 33, 34, 35, 36, 37, 38, 39, 40, 41, 42, 43, 44, 45, 46, 47, 48, 49, 50, 51, 52, 53, 54, 55, 56, 57, 58, 59, 60, 61, 62, 63, 64, 65, 66, 67, 68, 69, 70, 71, 72, 73, 74, 75, 76, 77, 78, 79, 80, 81, 82, 83, 84, 85, 86, 87, 88, 89, 90, 91, 92, 93, 94, 95, 96, 97, 98, 99, 100, 101, 102, 103, 104, 105, 106, 107, 108, 109, 110, 111, 112, 113, 265, 266, 267, 268, 269, 270, 271, 272, 273, 274, 275, 276, 277, 278] (by decide +kernel) (by decide +kernel)
set_option maxRecDepth 20000 in
theorem gL_fails_L_mark : GoodIn wsL_fails (va_wsS RL 29 yL_mark wsL_mark) := goodIn_app (goodIn_of _ (by decide +kernel)) ggL_fails_L_mark
set_option maxRecDepth 20000 in
theorem ggL_fails_X3_count : GoodIn wsL_fails wsX3_count := goodIn_r _ [11, 12, 13, 14, 15, 16, 17, 18, 19, 20, 21, 22, 23, 24, 25, 26, 27, 28, 29, 30, 31, 32, 33, 34, 35, 36, 37, 38, 39, 40, 41, 42, 43, 44, 45, 46, 47, 48, 49, 50, 51, 52, 53, 54, 10, 55, 56, 57, 58, 59, 60, 61, 62, 63, 64, 65, 265, 266, 267, 268, 269, 270, 271, 272, 273, 274, 275, 276, 277, 278] (by decide +kernel) (by decide +kernel)
set_option maxRecDepth 20000 in
theorem gL_fails_X3_count : GoodIn wsL_fails (wsV RL 13 RX3 yX3_count wsX3_count) := goodIn_app (goodIn_of _ (by decide +kernel)) ggL_fails_X3_count
set_option maxRecDepth 20000 in
theorem ggL_fails_X3_takeRun : GoodIn wsL_fails wsX3_takeRun := goodIn_r _ [117, 13, 12, 118, 119, 120, 121, 122, 123, 124, 125, 126, 127, 128, 129, 130, 131, 132, 18, 133, 20, 134, 135, 136, 137, 78, 36, 87, 138, 139, 140, 141, 142, 143, 10, 144, 145, 146, 147, 148, 50, 51, 52, 53, 54, 55, 56, 57, 108, 109, 110, 63, 64, 65, 111, 112, 113, 149, 150, 151, 152, 42, 43, 44, 45, 153, 154, 155, 156, 157, 158, 159, 160, 161, 162, 163, 164, 265, 266, 267, 268, 269, 270, 276, 277, 278, 271, 272, 273, 274, 275] (by decide +kernel) (by decide +kernel)
set_option maxRecDepth 20000 in
theorem gL_fails_X3_takeRun : GoodIn wsL_fails (wsV RL 35 RX3 yX3_takeRun wsX3_takeRun) := goodIn_app (goodIn_of _ (by decide +kernel)) ggL_fails_X3_takeRun
set_option maxRecDepth 20000 in
theorem ggL_fails_X3_giveBack : GoodIn wsL_fails wsX3_giveBack := goodIn_r _ [168, 13, 12, 118, 119, 120, 121, 122, 123, 124, 125, 126, 127, 128, 129, 130, 131, 132, 18, 133, 20, 134, 135, 136, 137, 78, 36, 87, 138, 169, 170, 171, 172, 108, 10, 109, 110, 63, 64, 65, 111, 112, 113, 173, 174, 175, 176, 54, 55, 104, 105, 106, 107, 149, 150, 151, 152, 42, 43, 44, 45, 21, 22, 23, 24, 25, 26, 27, 153, 154, 155, 156, 157, 158, 159, 160, 161, 162, 163, 164, 265, 266, 267, 268, 269, 270, 276, 277, 278, 271, 272, 273, 274, 275] (by decide +kernel) (by decide +kernel)
set_option maxRecDepth 20000 in
theorem gL_fails_X3_giveBack : GoodIn wsL_fails (wsV RL 38 RX3 yX3_giveBack wsX3_giveBack) := goodIn_app (goodIn_of _ (by decide +kernel)) ggL_fails_X3_giveBack
set_option maxRecDepth 20000 in
theorem ggL_fails_X3_clear : GoodIn wsL_fails wsX3_clear := goodIn_r _ [180, 13, 12, 118, 119, 120, 121, 122, 123, 124, 125, 126, 127, 128, 129, 130, 131, 132, 18, 133, 20, 134, 135, 136, 137, 78, 36, 87, 138, 181, 182, 183, 184, 149, 150, 151, 152, 42, 43, 44, 45, 21, 22, 23, 24, 25, 26, 27, 153, 154, 155, 10, 156, 157, 158, 159, 160, 161, 162, 163, 164, 265, 266, 267, 268, 269, 270, 276, 277, 278, 271, 272, 273, 274, 275] (by decide +kernel) (by decide +kernel)
set_option maxRecDepth 20000 in
theorem gL_fails_X3_clear : GoodIn wsL_fails (wsV RL 41 RX3 yX3_clear wsX3_clear) := goodIn_app (goodIn_of _ (by decide +kernel)) ggL_fails_X3_clear
set_option maxRecDepth 20000 in
theorem ggL_fails_X3_reserve : GoodIn wsL_fails wsX3_reserve := goodIn_r _ [188, 13, 12, 118, 119, 120, 121, 122, 123, 124, 125, 126, 127, 128, 129, 130, 131, 132, 18, 133, 20, 134, 135, 136, 137, 78, 36, 87, 138, 189, 190, 191, 192, 193, 10, 194, 195, 196, 197, 198, 32, 33, 34, 35, 199, 200, 201, 202, 54, 55, 108, 109, 110, 63, 64, 65, 111, 112, 113, 104, 105, 106, 107, 149, 150, 151, 152, 42, 43, 44, 45, 153, 154, 155, 156, 157, 158, 159, 160, 161, 162, 163, 164, 265, 266, 267, 268, 269, 270, 276, 277, 278, 271, 272, 273, 274, 275] (by decide +kernel) (by decide +kernel)
set_option maxRecDepth 20000 in
theorem gL_fails_X3_reserve : GoodIn wsL_fails (wsV RL 44 RX3 yX3_reserve wsX3_reserve) := goodIn_app (goodIn_of _ (by decide +kernel)) ggL_fails_X3_reserve
set_option maxRecDepth 20000 in
theorem ggL_fails_X3_takeIn : GoodIn wsL_fails wsX3_takeIn := goodIn_r _ [206, 13, 12, 118, 119, 120, 121, 122, 123, 124, 125, 126, 127, 128, 129, 130, 131, 132, 18, 133, 20, 134, 135, 136, 137, 78, 36, 87, 138, 207, 208, 209, 210, 32, 33, 34, 35, 54, 10, 55, 104, 105, 106, 107, 108, 109, 110, 63, 64, 65, 111, 112, 113, 93, 94, 37, 22, 23, 24, 25, 26, 27, 56, 57, 149, 150, 151, 152, 42, 43, 44, 45, 153, 154, 155, 156, 157, 158, 159, 160, 161, 162, 163, 164, 265, 266, 267, 268, 269, 270, 276, 277, 278, 271, 272, 273, 274, 275] (by decide +kernel) (by decide +kernel)
set_option maxRecDepth 20000 in
theorem gL_fails_X3_takeIn : GoodIn wsL_fails (wsV RL 47 RX3 yX3_takeIn wsX3_takeIn) := goodIn_app (goodIn_of _ (by decide +kernel)) ggL_fails_X3_takeIn
set_option maxRecDepth 20000 in
theorem ggL_fails_X3_giveUp : GoodIn wsL_fails wsX3_giveUp := goodIn_r _ [214, 13, 12, 118, 119, 120, 121, 122, 123, 124, 125, 126, 127, 128, 129, 130, 131, 132, 18, 133, 20, 134, 135, 136, 137, 78, 36, 87, 138, 215, 216, 217, 218, 32, 33, 34, 35, 54, 10, 55, 104, 105, 106, 107, 108, 109, 110, 63, 64, 65, 111, 112, 113, 149, 150, 151, 152, 42, 43, 44, 45, 21, 22, 23, 24, 25, 26, 27, 153, 154, 155, 156, 157, 158, 159, 160, 161, 162, 163, 164, 265, 266, 267, 268, 269, 270, 276, 277, 278, 271, 272, 273, 274, 275] (by decide +kernel) (by decide +kernel)
set_option maxRecDepth 20000 in
theorem gL_fails_X3_giveUp : GoodIn wsL_fails (wsV RL 50 RX3 yX3_giveUp wsX3_giveUp) := goodIn_app (goodIn_of _ (by decide +kernel)) ggL_fails_X3_giveUp
set_option maxRecDepth 20000 in
theorem ggL_fails_X3_damage : GoodIn wsL_fails wsX3_damage := goodIn_r _ [222, 13, 12, 118, 119, 120, 121, 122, 123, 124, 125, 126, 127, 128, 129, 130, 131, 132, 18, 133, 20, 134, 135, 136, 137, 78, 36, 87, 138, 223, 224, 225, 226, 227, 84, 85, 86, 153, 154, 155, 10, 156, 157, 158, 159, 160, 161, 162, 163, 164, 265, 266, 267, 268, 269, 270, 276, 277, 278, 271, 272, 273, 274, 275] (by decide +kernel) (by decide +kernel)
set_option maxRecDepth 20000 in
theorem gL_fails_X3_damage : GoodIn wsL_fails (wsV RL 53 RX3 yX3_damage wsX3_damage) := goodIn_app (goodIn_of _ (by decide +kernel)) ggL_fails_X3_damage
set_option maxRecDepth 20000 in
theorem ggL_fails_X3_append : GoodIn wsL_fails wsX3_append := goodIn_r _ [231, 14, 232, 265, 266, 267, 268, 269, 270] (by decide +kernel) (by decide +kernel)
set_option maxRecDepth 20000 in
theorem gL_fails_X3_append : GoodIn wsL_fails (wsV RL 56 RX3 yX3_append wsX3_append) := goodIn_app (goodIn_of _ (by decide +kernel)) ggL_fails_X3_append
set_option maxRecDepth 20000 in
theorem ggL_fails_X3_slot : GoodIn wsL_fails wsX3_slot := goodIn_r _ [69, 12, 70, 71, 72, 18, 73, 20, 54, 10, 55, 56, 57, 74, 75, 76, 77, 78, 36, 265, 266, 267, 268, 269, 270, 271, 272, 273, 274, 275] (by decide +kernel) (by decide +kernel)
set_option maxRecDepth 20000 in
theorem gL_fails_X3_slot : GoodIn wsL_fails (wsV RL 19 RX3 yX3_slot wsX3_slot) := goodIn_app (goodIn_of _ (by decide +kernel)) ggL_fails_X3_slot
set_option maxRecDepth 20000 in
theorem ggL_fails_X3_word : GoodIn wsL_fails wsX3_word := goodIn_r _ [82, 12, 37, 22, 23, 24, 25, 26, 27, 83, 84, 85, 18, 86, 87, 88, 43, 44, 45, 20, 89, 90, 91, 92, 42, 93, 10, 94, 265, 266, 267, 268, 269, 270, 271, 272, 273, 274, 275] (by decide +kernel) (by decide +kernel)
set_option maxRecDepth 20000 in
theorem gL_fails_X3_word : GoodIn wsL_fails (wsV RL 23 RX3 yX3_word wsX3_word) := goodIn_app (goodIn_of _ (by decide +kernel)) ggL_fails_X3_word
set_option maxRecDepth 20000 in
theorem ggL_fails_X3_block : GoodIn wsL_fails wsX3_block := goodIn_r _ [98, 12, 99, 33, 34, 18, 35, 36, 100, 101, 102, 103, 20, 78, 54, 10, 55, 104, 105, 106, 107, 108, 109, 110, 63, 64, 65, 111, 112, 113, 21, 22, 23, 24, 25, 26, 27, 265, 266, 267, 268, 269, 270, 271, 272, 273, 274, 275] (by decide +kernel) (by decide +kernel)
set_option maxRecDepth 20000 in
theorem gL_fails_X3_block : GoodIn wsL_fails (wsV RL 26 RX3 yX3_block wsX3_block) := goodIn_app (goodIn_of _ (by decide +kernel)) ggL_fails_X3_block
set_option maxRecDepth 20000 in
theorem ggL_fails_X3_audit : GoodIn wsL_fails wsX3_audit := goodIn_r _ [236, 12, 38, 39, 40, 18, 41, 42, 43, 44, 45, 20, 37, 22, 23, 24, 25, 26, 27, 237, 93, 10, 94, 265, 266, 267, 268, 269, 270, 271, 272, 273, 274, 275] (by decide +kernel) (by decide +kernel)
set_option maxRecDepth 20000 in
theorem gL_fails_X3_audit : GoodIn wsL_fails (wsV RL 59 RX3 yX3_audit wsX3_audit) := goodIn_app (goodIn_of _ (by decide +kernel)) ggL_fails_X3_audit
set_option maxRecDepth 20000 in
theorem ggL_fails_X3_next : GoodIn wsL_fails wsX3_next := goodIn_r _ [241, 242, 12, 243, 131, 132, 18, 133, 20, 134, 135, 136, 137, 78, 36, 87, 138, 244, 245, 246, 247, 248, 249, 250, 251, 227, 84, 85, 86, 42, 43, 44, 45, 93, 10, 94, 37, 22, 23, 24, 25, 26, 27, 56, 57, 149, 150, 151, 152, 252, 182, 183, 184, 21, 15, 16, 17, 19, 265, 266, 267, 268, 269, 270, 271, 272, 273, 274, 275] (by decide +kernel) (by decide +kernel)
set_option maxRecDepth 20000 in
theorem gL_fails_X3_next : GoodIn wsL_fails (wsV RL 62 RX3 yX3_next wsX3_next) := goodIn_app (goodIn_of _ (by decide +kernel)) ggL_fails_X3_next
set_option maxRecDepth 20000 in
theorem ggL_fails_X3_runAt : GoodIn wsL_fails wsX3_runAt := goodIn_r _ [256, 12, 257, 143, 10, 144, 258, 146, 147, 18, 148, 50, 51, 52, 53, 20, 54, 55, 56, 57, 265, 266, 267, 268, 269, 270, 271, 272, 273, 274, 275] (by decide +kernel) (by decide +kernel)
set_option maxRecDepth 20000 in
theorem gL_fails_X3_runAt : GoodIn wsL_fails (wsV RL 65 RX3 yX3_runAt wsX3_runAt) := goodIn_app (goodIn_of _ (by decide +kernel)) ggL_fails_X3_runAt
set_option maxRecDepth 20000 in
theorem ggL_fails_X3_placeFor : GoodIn wsL_fails wsX3_placeFor := goodIn_r _ [262, 12, 263, 193, 10, 194, 264, 200, 201, 18, 202, 20, 54, 55, 108, 109, 110, 63, 64, 65, 111, 112, 113, 265, 266, 267, 268, 269, 270, 271, 272, 273, 274, 275] (by decide +kernel) (by decide +kernel)
set_option maxRecDepth 20000 in
theorem gL_fails_X3_placeFor : GoodIn wsL_fails (wsV RL 68 RX3 yX3_placeFor wsX3_placeFor) := goodIn_app (goodIn_of _ (by decide +kernel)) ggL_fails_X3_placeFor
theorem dL_fails_0 : decode cL_fails 0 = .ok (.aload_n 0, 1) := by decide +kernel
theorem dL_fails_1 : decode cL_fails 1 = .ok (.invokestatic 29, 3) := by decide +kernel
theorem dL_fails_4 : decode cL_fails 4 = .ok (.lstore_n 1, 1) := by decide +kernel
theorem dL_fails_5 : decode cL_fails 5 = .ok (.aload_n 0, 1) := by decide +kernel
theorem dL_fails_6 : decode cL_fails 6 = .ok (.bipush 10, 2) := by decide +kernel
theorem dL_fails_8 : decode cL_fails 8 = .ok (.invokevirtual 13, 3) := by decide +kernel
theorem dL_fails_11 : decode cL_fails 11 = .ok (.istore_n 3, 1) := by decide +kernel
theorem dL_fails_12 : decode cL_fails 12 = .ok (.aload_n 0, 1) := by decide +kernel
theorem dL_fails_13 : decode cL_fails 13 = .ok (.iconst 0, 1) := by decide +kernel
theorem dL_fails_14 : decode cL_fails 14 = .ok (.invokevirtual 35, 3) := by decide +kernel
theorem dL_fails_17 : decode cL_fails 17 = .ok (.iconst (-1), 1) := by decide +kernel
theorem dL_fails_18 : decode cL_fails 18 = .ok (.if_icmp .ne 314, 3) := by decide +kernel
theorem dL_fails_21 : decode cL_fails 21 = .ok (.aload_n 0, 1) := by decide +kernel
theorem dL_fails_22 : decode cL_fails 22 = .ok (.bipush 65, 2) := by decide +kernel
theorem dL_fails_24 : decode cL_fails 24 = .ok (.invokevirtual 35, 3) := by decide +kernel
theorem dL_fails_27 : decode cL_fails 27 = .ok (.iconst (-1), 1) := by decide +kernel
theorem dL_fails_28 : decode cL_fails 28 = .ok (.if_icmp .ne 304, 3) := by decide +kernel
theorem dL_fails_31 : decode cL_fails 31 = .ok (.aload_n 0, 1) := by decide +kernel
theorem dL_fails_32 : decode cL_fails 32 = .ok (.iconst (-1), 1) := by decide +kernel
theorem dL_fails_33 : decode cL_fails 33 = .ok (.iconst 5, 1) := by decide +kernel
theorem dL_fails_34 : decode cL_fails 34 = .ok (.invokevirtual 38, 3) := by decide +kernel
theorem dL_fails_37 : decode cL_fails 37 = .ok (.iconst (-1), 1) := by decide +kernel
theorem dL_fails_38 : decode cL_fails 38 = .ok (.if_icmp .ne 294, 3) := by decide +kernel
theorem dL_fails_41 : decode cL_fails 41 = .ok (.aload_n 0, 1) := by decide +kernel
theorem dL_fails_42 : decode cL_fails 42 = .ok (.iconst 5, 1) := by decide +kernel
theorem dL_fails_43 : decode cL_fails 43 = .ok (.iconst 4, 1) := by decide +kernel
theorem dL_fails_44 : decode cL_fails 44 = .ok (.invokevirtual 38, 3) := by decide +kernel
theorem dL_fails_47 : decode cL_fails 47 = .ok (.iconst (-1), 1) := by decide +kernel
theorem dL_fails_48 : decode cL_fails 48 = .ok (.if_icmp .ne 284, 3) := by decide +kernel
theorem dL_fails_51 : decode cL_fails 51 = .ok (.aload_n 0, 1) := by decide +kernel
theorem dL_fails_52 : decode cL_fails 52 = .ok (.iconst 5, 1) := by decide +kernel
theorem dL_fails_53 : decode cL_fails 53 = .ok (.sipush 320, 3) := by decide +kernel
theorem dL_fails_56 : decode cL_fails 56 = .ok (.invokevirtual 38, 3) := by decide +kernel
theorem dL_fails_59 : decode cL_fails 59 = .ok (.iconst (-1), 1) := by decide +kernel
theorem dL_fails_60 : decode cL_fails 60 = .ok (.if_icmp .ne 272, 3) := by decide +kernel
theorem dL_fails_63 : decode cL_fails 63 = .ok (.aload_n 0, 1) := by decide +kernel
theorem dL_fails_64 : decode cL_fails 64 = .ok (.iconst 0, 1) := by decide +kernel
theorem dL_fails_65 : decode cL_fails 65 = .ok (.invokevirtual 41, 3) := by decide +kernel
theorem dL_fails_68 : decode cL_fails 68 = .ok (.iconst (-1), 1) := by decide +kernel
theorem dL_fails_69 : decode cL_fails 69 = .ok (.if_icmp .ne 263, 3) := by decide +kernel
theorem dL_fails_72 : decode cL_fails 72 = .ok (.aload_n 0, 1) := by decide +kernel
theorem dL_fails_73 : decode cL_fails 73 = .ok (.bipush 11, 2) := by decide +kernel
theorem dL_fails_75 : decode cL_fails 75 = .ok (.invokevirtual 41, 3) := by decide +kernel
theorem dL_fails_78 : decode cL_fails 78 = .ok (.iconst (-1), 1) := by decide +kernel
theorem dL_fails_79 : decode cL_fails 79 = .ok (.if_icmp .ne 253, 3) := by decide +kernel
theorem dL_fails_82 : decode cL_fails 82 = .ok (.aload_n 0, 1) := by decide +kernel
theorem dL_fails_83 : decode cL_fails 83 = .ok (.iconst 0, 1) := by decide +kernel
theorem dL_fails_84 : decode cL_fails 84 = .ok (.invokevirtual 44, 3) := by decide +kernel
theorem dL_fails_87 : decode cL_fails 87 = .ok (.iconst (-1), 1) := by decide +kernel
theorem dL_fails_88 : decode cL_fails 88 = .ok (.if_icmp .ne 244, 3) := by decide +kernel
theorem dL_fails_91 : decode cL_fails 91 = .ok (.aload_n 0, 1) := by decide +kernel
theorem dL_fails_92 : decode cL_fails 92 = .ok (.iconst 5, 1) := by decide +kernel
theorem dL_fails_93 : decode cL_fails 93 = .ok (.invokevirtual 44, 3) := by decide +kernel
theorem dL_fails_96 : decode cL_fails 96 = .ok (.iconst (-1), 1) := by decide +kernel
theorem dL_fails_97 : decode cL_fails 97 = .ok (.if_icmp .ne 235, 3) := by decide +kernel
theorem dL_fails_100 : decode cL_fails 100 = .ok (.aload_n 0, 1) := by decide +kernel
theorem dL_fails_101 : decode cL_fails 101 = .ok (.bipush 64, 2) := by decide +kernel
theorem dL_fails_103 : decode cL_fails 103 = .ok (.invokevirtual 44, 3) := by decide +kernel
theorem dL_fails_106 : decode cL_fails 106 = .ok (.iconst (-1), 1) := by decide +kernel
theorem dL_fails_107 : decode cL_fails 107 = .ok (.if_icmp .ne 225, 3) := by decide +kernel
theorem dL_fails_110 : decode cL_fails 110 = .ok (.aload_n 0, 1) := by decide +kernel
theorem dL_fails_111 : decode cL_fails 111 = .ok (.bipush 8, 2) := by decide +kernel
theorem dL_fails_113 : decode cL_fails 113 = .ok (.invokevirtual 47, 3) := by decide +kernel
theorem dL_fails_116 : decode cL_fails 116 = .ok (.iconst (-1), 1) := by decide +kernel
theorem dL_fails_117 : decode cL_fails 117 = .ok (.if_icmp .ne 215, 3) := by decide +kernel
theorem dL_fails_120 : decode cL_fails 120 = .ok (.aload_n 0, 1) := by decide +kernel
theorem dL_fails_121 : decode cL_fails 121 = .ok (.iconst (-1), 1) := by decide +kernel
theorem dL_fails_122 : decode cL_fails 122 = .ok (.invokevirtual 47, 3) := by decide +kernel
theorem dL_fails_125 : decode cL_fails 125 = .ok (.iconst (-1), 1) := by decide +kernel
theorem dL_fails_126 : decode cL_fails 126 = .ok (.if_icmp .ne 206, 3) := by decide +kernel
theorem dL_fails_129 : decode cL_fails 129 = .ok (.aload_n 0, 1) := by decide +kernel
theorem dL_fails_130 : decode cL_fails 130 = .ok (.bipush 8, 2) := by decide +kernel
theorem dL_fails_132 : decode cL_fails 132 = .ok (.invokevirtual 50, 3) := by decide +kernel
theorem dL_fails_135 : decode cL_fails 135 = .ok (.iconst (-1), 1) := by decide +kernel
theorem dL_fails_136 : decode cL_fails 136 = .ok (.if_icmp .ne 196, 3) := by decide +kernel
theorem dL_fails_139 : decode cL_fails 139 = .ok (.aload_n 0, 1) := by decide +kernel
theorem dL_fails_140 : decode cL_fails 140 = .ok (.bipush 10, 2) := by decide +kernel
theorem dL_fails_142 : decode cL_fails 142 = .ok (.invokevirtual 53, 3) := by decide +kernel
theorem dL_fails_145 : decode cL_fails 145 = .ok (.iconst (-1), 1) := by decide +kernel
theorem dL_fails_146 : decode cL_fails 146 = .ok (.if_icmp .ne 186, 3) := by decide +kernel
theorem dL_fails_149 : decode cL_fails 149 = .ok (.aload_n 0, 1) := by decide +kernel
theorem dL_fails_150 : decode cL_fails 150 = .ok (.iconst (-1), 1) := by decide +kernel
theorem dL_fails_151 : decode cL_fails 151 = .ok (.invokevirtual 53, 3) := by decide +kernel
theorem dL_fails_154 : decode cL_fails 154 = .ok (.iconst (-1), 1) := by decide +kernel
theorem dL_fails_155 : decode cL_fails 155 = .ok (.if_icmp .ne 177, 3) := by decide +kernel
theorem dL_fails_158 : decode cL_fails 158 = .ok (.aload_n 0, 1) := by decide +kernel
theorem dL_fails_159 : decode cL_fails 159 = .ok (.iconst 0, 1) := by decide +kernel
theorem dL_fails_160 : decode cL_fails 160 = .ok (.invokevirtual 56, 3) := by decide +kernel
theorem dL_fails_163 : decode cL_fails 163 = .ok (.iconst (-1), 1) := by decide +kernel
theorem dL_fails_164 : decode cL_fails 164 = .ok (.if_icmp .ne 168, 3) := by decide +kernel
theorem dL_fails_167 : decode cL_fails 167 = .ok (.aload_n 0, 1) := by decide +kernel
theorem dL_fails_168 : decode cL_fails 168 = .ok (.sipush 256, 3) := by decide +kernel
theorem dL_fails_171 : decode cL_fails 171 = .ok (.invokevirtual 56, 3) := by decide +kernel
theorem dL_fails_174 : decode cL_fails 174 = .ok (.iconst (-1), 1) := by decide +kernel
theorem dL_fails_175 : decode cL_fails 175 = .ok (.if_icmp .ne 157, 3) := by decide +kernel
theorem dL_fails_178 : decode cL_fails 178 = .ok (.aload_n 0, 1) := by decide +kernel
theorem dL_fails_179 : decode cL_fails 179 = .ok (.bipush 12, 2) := by decide +kernel
theorem dL_fails_181 : decode cL_fails 181 = .ok (.invokevirtual 13, 3) := by decide +kernel
theorem dL_fails_184 : decode cL_fails 184 = .ok (.iconst (-1), 1) := by decide +kernel
theorem dL_fails_185 : decode cL_fails 185 = .ok (.if_icmp .ne 147, 3) := by decide +kernel
theorem dL_fails_188 : decode cL_fails 188 = .ok (.aload_n 0, 1) := by decide +kernel
theorem dL_fails_189 : decode cL_fails 189 = .ok (.iconst (-1), 1) := by decide +kernel
theorem dL_fails_190 : decode cL_fails 190 = .ok (.invokevirtual 13, 3) := by decide +kernel
theorem dL_fails_193 : decode cL_fails 193 = .ok (.iconst (-1), 1) := by decide +kernel
theorem dL_fails_194 : decode cL_fails 194 = .ok (.if_icmp .ne 138, 3) := by decide +kernel
theorem dL_fails_197 : decode cL_fails 197 = .ok (.aload_n 0, 1) := by decide +kernel
theorem dL_fails_198 : decode cL_fails 198 = .ok (.sipush 320, 3) := by decide +kernel
theorem dL_fails_201 : decode cL_fails 201 = .ok (.iconst 0, 1) := by decide +kernel
theorem dL_fails_202 : decode cL_fails 202 = .ok (.invokevirtual 19, 3) := by decide +kernel
theorem dL_fails_205 : decode cL_fails 205 = .ok (.iconst (-1), 1) := by decide +kernel
theorem dL_fails_206 : decode cL_fails 206 = .ok (.if_icmp .ne 126, 3) := by decide +kernel
theorem dL_fails_209 : decode cL_fails 209 = .ok (.aload_n 0, 1) := by decide +kernel
theorem dL_fails_210 : decode cL_fails 210 = .ok (.iconst (-1), 1) := by decide +kernel
theorem dL_fails_211 : decode cL_fails 211 = .ok (.iconst 0, 1) := by decide +kernel
theorem dL_fails_212 : decode cL_fails 212 = .ok (.invokevirtual 19, 3) := by decide +kernel
theorem dL_fails_215 : decode cL_fails 215 = .ok (.iconst (-1), 1) := by decide +kernel
theorem dL_fails_216 : decode cL_fails 216 = .ok (.if_icmp .ne 116, 3) := by decide +kernel
theorem dL_fails_219 : decode cL_fails 219 = .ok (.aload_n 0, 1) := by decide +kernel
theorem dL_fails_220 : decode cL_fails 220 = .ok (.iconst 0, 1) := by decide +kernel
theorem dL_fails_221 : decode cL_fails 221 = .ok (.iconst 2, 1) := by decide +kernel
theorem dL_fails_222 : decode cL_fails 222 = .ok (.invokevirtual 19, 3) := by decide +kernel
theorem dL_fails_225 : decode cL_fails 225 = .ok (.iconst (-1), 1) := by decide +kernel
theorem dL_fails_226 : decode cL_fails 226 = .ok (.if_icmp .ne 106, 3) := by decide +kernel
theorem dL_fails_229 : decode cL_fails 229 = .ok (.aload_n 0, 1) := by decide +kernel
theorem dL_fails_230 : decode cL_fails 230 = .ok (.bipush 10, 2) := by decide +kernel
theorem dL_fails_232 : decode cL_fails 232 = .ok (.iconst 0, 1) := by decide +kernel
theorem dL_fails_233 : decode cL_fails 233 = .ok (.invokevirtual 23, 3) := by decide +kernel
theorem dL_fails_236 : decode cL_fails 236 = .ok (.iconst (-1), 1) := by decide +kernel
theorem dL_fails_237 : decode cL_fails 237 = .ok (.if_icmp .ne 95, 3) := by decide +kernel
theorem dL_fails_240 : decode cL_fails 240 = .ok (.aload_n 0, 1) := by decide +kernel
theorem dL_fails_241 : decode cL_fails 241 = .ok (.iconst 0, 1) := by decide +kernel
theorem dL_fails_242 : decode cL_fails 242 = .ok (.bipush 7, 2) := by decide +kernel
theorem dL_fails_244 : decode cL_fails 244 = .ok (.invokevirtual 23, 3) := by decide +kernel
theorem dL_fails_247 : decode cL_fails 247 = .ok (.iconst (-1), 1) := by decide +kernel
theorem dL_fails_248 : decode cL_fails 248 = .ok (.if_icmp .ne 84, 3) := by decide +kernel
theorem dL_fails_251 : decode cL_fails 251 = .ok (.aload_n 0, 1) := by decide +kernel
theorem dL_fails_252 : decode cL_fails 252 = .ok (.bipush 8, 2) := by decide +kernel
theorem dL_fails_254 : decode cL_fails 254 = .ok (.iconst 0, 1) := by decide +kernel
theorem dL_fails_255 : decode cL_fails 255 = .ok (.invokevirtual 26, 3) := by decide +kernel
theorem dL_fails_258 : decode cL_fails 258 = .ok (.iconst (-1), 1) := by decide +kernel
theorem dL_fails_259 : decode cL_fails 259 = .ok (.if_icmp .ne 73, 3) := by decide +kernel
theorem dL_fails_262 : decode cL_fails 262 = .ok (.aload_n 0, 1) := by decide +kernel
theorem dL_fails_263 : decode cL_fails 263 = .ok (.iconst 0, 1) := by decide +kernel
theorem dL_fails_264 : decode cL_fails 264 = .ok (.iconst 4, 1) := by decide +kernel
theorem dL_fails_265 : decode cL_fails 265 = .ok (.invokevirtual 26, 3) := by decide +kernel
theorem dL_fails_268 : decode cL_fails 268 = .ok (.iconst (-1), 1) := by decide +kernel
theorem dL_fails_269 : decode cL_fails 269 = .ok (.if_icmp .ne 63, 3) := by decide +kernel
theorem dL_fails_272 : decode cL_fails 272 = .ok (.aload_n 0, 1) := by decide +kernel
theorem dL_fails_273 : decode cL_fails 273 = .ok (.iconst 3, 1) := by decide +kernel
theorem dL_fails_274 : decode cL_fails 274 = .ok (.invokevirtual 59, 3) := by decide +kernel
theorem dL_fails_277 : decode cL_fails 277 = .ok (.iconst (-1), 1) := by decide +kernel
theorem dL_fails_278 : decode cL_fails 278 = .ok (.if_icmp .ne 54, 3) := by decide +kernel
theorem dL_fails_281 : decode cL_fails 281 = .ok (.aload_n 0, 1) := by decide +kernel
theorem dL_fails_282 : decode cL_fails 282 = .ok (.iconst 3, 1) := by decide +kernel
theorem dL_fails_283 : decode cL_fails 283 = .ok (.invokevirtual 62, 3) := by decide +kernel
theorem dL_fails_286 : decode cL_fails 286 = .ok (.iconst (-1), 1) := by decide +kernel
theorem dL_fails_287 : decode cL_fails 287 = .ok (.if_icmp .ne 45, 3) := by decide +kernel
theorem dL_fails_290 : decode cL_fails 290 = .ok (.aload_n 0, 1) := by decide +kernel
theorem dL_fails_291 : decode cL_fails 291 = .ok (.iconst (-1), 1) := by decide +kernel
theorem dL_fails_292 : decode cL_fails 292 = .ok (.invokevirtual 62, 3) := by decide +kernel
theorem dL_fails_295 : decode cL_fails 295 = .ok (.iconst (-1), 1) := by decide +kernel
theorem dL_fails_296 : decode cL_fails 296 = .ok (.if_icmp .ne 36, 3) := by decide +kernel
theorem dL_fails_299 : decode cL_fails 299 = .ok (.aload_n 0, 1) := by decide +kernel
theorem dL_fails_300 : decode cL_fails 300 = .ok (.iconst 0, 1) := by decide +kernel
theorem dL_fails_301 : decode cL_fails 301 = .ok (.invokevirtual 65, 3) := by decide +kernel
theorem dL_fails_304 : decode cL_fails 304 = .ok (.iconst (-1), 1) := by decide +kernel
theorem dL_fails_305 : decode cL_fails 305 = .ok (.if_icmp .ne 27, 3) := by decide +kernel
theorem dL_fails_308 : decode cL_fails 308 = .ok (.aload_n 0, 1) := by decide +kernel
theorem dL_fails_309 : decode cL_fails 309 = .ok (.bipush 65, 2) := by decide +kernel
theorem dL_fails_311 : decode cL_fails 311 = .ok (.invokevirtual 65, 3) := by decide +kernel
theorem dL_fails_314 : decode cL_fails 314 = .ok (.iconst (-1), 1) := by decide +kernel
theorem dL_fails_315 : decode cL_fails 315 = .ok (.if_icmp .ne 17, 3) := by decide +kernel
theorem dL_fails_318 : decode cL_fails 318 = .ok (.aload_n 0, 1) := by decide +kernel
theorem dL_fails_319 : decode cL_fails 319 = .ok (.bipush 12, 2) := by decide +kernel
theorem dL_fails_321 : decode cL_fails 321 = .ok (.invokevirtual 68, 3) := by decide +kernel
theorem dL_fails_324 : decode cL_fails 324 = .ok (.iconst (-1), 1) := by decide +kernel
theorem dL_fails_325 : decode cL_fails 325 = .ok (.if_icmp .ne 7, 3) := by decide +kernel
theorem dL_fails_328 : decode cL_fails 328 = .ok (.iconst 1, 1) := by decide +kernel
theorem dL_fails_329 : decode cL_fails 329 = .ok (.goto 4, 3) := by decide +kernel
theorem dL_fails_332 : decode cL_fails 332 = .ok (.iconst 0, 1) := by decide +kernel
theorem dL_fails_333 : decode cL_fails 333 = .ok (.istore 4, 2) := by decide +kernel
theorem dL_fails_335 : decode cL_fails 335 = .ok (.iconst 0, 1) := by decide +kernel
theorem dL_fails_336 : decode cL_fails 336 = .ok (.istore 5, 2) := by decide +kernel
theorem dL_fails_338 : decode cL_fails 338 = .ok (.iload 5, 2) := by decide +kernel
theorem dL_fails_340 : decode cL_fails 340 = .ok (.bipush 8, 2) := by decide +kernel
theorem dL_fails_342 : decode cL_fails 342 = .ok (.if_icmp .ge 63, 3) := by decide +kernel
theorem dL_fails_345 : decode cL_fails 345 = .ok (.iload 4, 2) := by decide +kernel
theorem dL_fails_347 : decode cL_fails 347 = .ok (.ifCond .eq 49, 3) := by decide +kernel
theorem dL_fails_350 : decode cL_fails 350 = .ok (.aload_n 0, 1) := by decide +kernel
theorem dL_fails_351 : decode cL_fails 351 = .ok (.iload 5, 2) := by decide +kernel
theorem dL_fails_353 : decode cL_fails 353 = .ok (.iconst 0, 1) := by decide +kernel
theorem dL_fails_354 : decode cL_fails 354 = .ok (.invokevirtual 26, 3) := by decide +kernel
theorem dL_fails_357 : decode cL_fails 357 = .ok (.ifCond .ge 35, 3) := by decide +kernel
theorem dL_fails_360 : decode cL_fails 360 = .ok (.aload_n 0, 1) := by decide +kernel
theorem dL_fails_361 : decode cL_fails 361 = .ok (.iload 5, 2) := by decide +kernel
theorem dL_fails_363 : decode cL_fails 363 = .ok (.iconst 0, 1) := by decide +kernel
theorem dL_fails_364 : decode cL_fails 364 = .ok (.invokevirtual 26, 3) := by decide +kernel
theorem dL_fails_367 : decode cL_fails 367 = .ok (.bipush (-9), 2) := by decide +kernel
theorem dL_fails_369 : decode cL_fails 369 = .ok (.if_icmp .ne 27, 3) := by decide +kernel
theorem dL_fails_372 : decode cL_fails 372 = .ok (.aload_n 0, 1) := by decide +kernel
theorem dL_fails_373 : decode cL_fails 373 = .ok (.iload 5, 2) := by decide +kernel
theorem dL_fails_375 : decode cL_fails 375 = .ok (.invokevirtual 47, 3) := by decide +kernel
theorem dL_fails_378 : decode cL_fails 378 = .ok (.iconst (-1), 1) := by decide +kernel
theorem dL_fails_379 : decode cL_fails 379 = .ok (.if_icmp .ne 17, 3) := by decide +kernel
theorem dL_fails_382 : decode cL_fails 382 = .ok (.aload_n 0, 1) := by decide +kernel
theorem dL_fails_383 : decode cL_fails 383 = .ok (.iload 5, 2) := by decide +kernel
theorem dL_fails_385 : decode cL_fails 385 = .ok (.invokevirtual 50, 3) := by decide +kernel
theorem dL_fails_388 : decode cL_fails 388 = .ok (.iconst (-1), 1) := by decide +kernel
theorem dL_fails_389 : decode cL_fails 389 = .ok (.if_icmp .ne 7, 3) := by decide +kernel
theorem dL_fails_392 : decode cL_fails 392 = .ok (.iconst 1, 1) := by decide +kernel
theorem dL_fails_393 : decode cL_fails 393 = .ok (.goto 4, 3) := by decide +kernel
theorem dL_fails_396 : decode cL_fails 396 = .ok (.iconst 0, 1) := by decide +kernel
theorem dL_fails_397 : decode cL_fails 397 = .ok (.istore 4, 2) := by decide +kernel
theorem dL_fails_399 : decode cL_fails 399 = .ok (.iinc 5 1, 3) := by decide +kernel
theorem dL_fails_402 : decode cL_fails 402 = .ok (.goto (-64), 3) := by decide +kernel
theorem dL_fails_405 : decode cL_fails 405 = .ok (.iload 4, 2) := by decide +kernel
theorem dL_fails_407 : decode cL_fails 407 = .ok (.ifCond .eq 26, 3) := by decide +kernel
theorem dL_fails_410 : decode cL_fails 410 = .ok (.aload_n 0, 1) := by decide +kernel
theorem dL_fails_411 : decode cL_fails 411 = .ok (.invokestatic 29, 3) := by decide +kernel
theorem dL_fails_414 : decode cL_fails 414 = .ok (.lload_n 1, 1) := by decide +kernel
theorem dL_fails_415 : decode cL_fails 415 = .ok (.lcmp, 1) := by decide +kernel
theorem dL_fails_416 : decode cL_fails 416 = .ok (.ifCond .ne 17, 3) := by decide +kernel
theorem dL_fails_419 : decode cL_fails 419 = .ok (.aload_n 0, 1) := by decide +kernel
theorem dL_fails_420 : decode cL_fails 420 = .ok (.bipush 10, 2) := by decide +kernel
theorem dL_fails_422 : decode cL_fails 422 = .ok (.invokevirtual 13, 3) := by decide +kernel
theorem dL_fails_425 : decode cL_fails 425 = .ok (.iload_n 3, 1) := by decide +kernel
theorem dL_fails_426 : decode cL_fails 426 = .ok (.if_icmp .ne 7, 3) := by decide +kernel
theorem dL_fails_429 : decode cL_fails 429 = .ok (.iconst 1, 1) := by decide +kernel
theorem dL_fails_430 : decode cL_fails 430 = .ok (.goto 4, 3) := by decide +kernel
theorem dL_fails_433 : decode cL_fails 433 = .ok (.iconst 0, 1) := by decide +kernel
theorem dL_fails_434 : decode cL_fails 434 = .ok (.ireturn, 1) := by decide +kernel
