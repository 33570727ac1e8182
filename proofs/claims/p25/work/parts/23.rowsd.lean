set_option maxRecDepth 20000 in
theorem ggL_takes_X3_next : GoodIn wsL_takes wsX3_next := goodIn_r _ [5, 6, 7, 8, 9, 10, 11, 12, 13, 14, 15, 16, 17, 18, 19, 20, 21, 22, 23, 24, 25, 26, 27, 28, 29, 30, 31, 32, 33, 34, 35, 36, 37, 38, 4, 39, 40, 41, 42, 43, 44, 45, 46, 47, 48, 49, 50, 51, 52, 53, 54, 55, 56, 57, 58, 59, 60, 61, 284, 285, 286, 287, 288, 289, 290, 291, 292, 293, 294] (by decide +kernel) (by decide +kernel)
set_option maxRecDepth 20000 in
theorem gL_takes_X3_next : GoodIn wsL_takes (wsV RL 62 RX3 yX3_next wsX3_next) := goodIn_app (goodIn_of _ (by decide +kernel)) ggL_takes_X3_next
set_option maxRecDepth 20000 in
theorem ggL_takes_X3_takes : GoodIn wsL_takes wsX3_takes := goodIn_r _ [65, 7, 66, 67, 68, 11, 69, 13, 30, 31, 32, 33, 20, 57, 41, 42, 43, 44, 45, 46, 284, 285, 286, 287, 288, 289, 290, 291, 292, 293, 294] (by decide +kernel) (by decide +kernel)
set_option maxRecDepth 20000 in
theorem gL_takes_X3_takes : GoodIn wsL_takes (wsV RL 74 RX3 yX3_takes wsX3_takes) := goodIn_app (goodIn_of _ (by decide +kernel)) ggL_takes_X3_takes
set_option maxRecDepth 20000 in
theorem ggL_takes_X3_count : GoodIn wsL_takes wsX3_count := goodIn_r _ [73, 7, 74, 75, 58, 59, 60, 11, 61, 13, 57, 41, 42, 43, 44, 45, 46, 76, 77, 78, 79, 80, 81, 82, 83, 19, 40, 84, 85, 86, 87, 34, 35, 36, 37, 88, 89, 90, 91, 92, 93, 94, 95, 96, 4, 97, 47, 48, 98, 99, 100, 101, 102, 103, 104, 105, 284, 285, 286, 287, 288, 289, 290, 291, 292, 293, 294, 295, 296, 297] (by decide +kernel) (by decide +kernel)
set_option maxRecDepth 20000 in
theorem gL_takes_X3_count : GoodIn wsL_takes (wsV RL 13 RX3 yX3_count wsX3_count) := goodIn_app (goodIn_of _ (by decide +kernel)) ggL_takes_X3_count
set_option maxRecDepth 20000 in
theorem ggL_takes_L_mark : GoodIn wsL_takes wsL_mark := goodIn_r _ [109, 110, 111, 70, 71, 72, 4, 73, 7, 74, 75, 58, 59, 60, 11, 61, 13, 57, 41, 42, 43, 44, 45, 46, 76, 77, 78, 79, 80, 81, 82, 83, 19, 40, 84, 85, 86, 87, 34, 35, 36, 37, 88, 89, 90, 91, 92, 93, 94, 95, 96, 97, 47, 48, 98, 99, 100, 101, 102, 103, 104, 105, 112, 113, 114, 115, 116, 117, 118, 119, 120, 121, 122, 123, 18, 124, 125, 126, 127, 128, 31, 32, 33, 20, 129, 130, 131, 132, 133, 38, 39, 134, 135, 136, 137, 138, 139, 140, 141, 142, 143, 144, 145, 146, 147, 148, 149, 150, 151, 152, 284, 285, 286, 287, 288, 289, 290, 291, 292, 293, 294, 295, 296, 297] (by decide +kernel) (by decide +kernel)
set_option maxRecDepth 20000 in
theorem gL_takes_L_mark : GoodIn wsL_takes (va_wsS RL 29 yL_mark wsL_mark) := goodIn_app (goodIn_of _ (by decide +kernel)) ggL_takes_L_mark
set_option maxRecDepth 20000 in
theorem ggL_takes_X3_clearText : GoodIn wsL_takes wsX3_clearText := goodIn_r _ [156, 75, 284, 285, 286, 287, 288, 289] (by decide +kernel) (by decide +kernel)
set_option maxRecDepth 20000 in
theorem gL_takes_X3_clearText : GoodIn wsL_takes (wsV RL 78 RX3 yX3_clearText wsX3_clearText) := goodIn_app (goodIn_of _ (by decide +kernel)) ggL_takes_X3_clearText
set_option maxRecDepth 20000 in
theorem ggL_takes_X3_take : GoodIn wsL_takes wsX3_take := goodIn_r _ [160, 74, 7, 161, 162, 163, 164, 165, 166, 167, 168, 169, 170, 171, 172, 173, 9, 10, 11, 12, 13, 14, 15, 16, 17, 18, 19, 20, 21, 22, 23, 24, 25, 26, 27, 28, 29, 30, 31, 32, 33, 34, 35, 36, 37, 38, 4, 39, 40, 41, 42, 43, 44, 45, 46, 47, 48, 49, 50, 51, 52, 53, 54, 55, 56, 57, 174, 175, 176, 177, 178, 179, 180, 181, 182, 183, 184, 185, 284, 285, 286, 287, 288, 289, 295, 296, 297, 290, 291, 292, 293, 294] (by decide +kernel) (by decide +kernel)
set_option maxRecDepth 20000 in
theorem gL_takes_X3_take : GoodIn wsL_takes (wsV RL 81 RX3 yX3_take wsX3_take) := goodIn_app (goodIn_of _ (by decide +kernel)) ggL_takes_X3_take
set_option maxRecDepth 20000 in
theorem ggL_takes_X3_slot : GoodIn wsL_takes wsX3_slot := goodIn_r _ [115, 7, 116, 117, 118, 11, 119, 13, 96, 4, 97, 47, 48, 120, 121, 122, 123, 18, 19, 284, 285, 286, 287, 288, 289, 290, 291, 292, 293, 294] (by decide +kernel) (by decide +kernel)
set_option maxRecDepth 20000 in
theorem gL_takes_X3_slot : GoodIn wsL_takes (wsV RL 19 RX3 yX3_slot wsX3_slot) := goodIn_app (goodIn_of _ (by decide +kernel)) ggL_takes_X3_slot
set_option maxRecDepth 20000 in
theorem ggL_takes_X3_undo : GoodIn wsL_takes wsX3_undo := goodIn_r _ [189, 74, 7, 190, 191, 192, 164, 193, 172, 194, 179, 180, 181, 166, 167, 168, 169, 170, 171, 173, 9, 10, 11, 12, 13, 14, 15, 16, 17, 18, 19, 20, 21, 284, 285, 286, 287, 288, 289, 295, 296, 297, 290, 291, 292, 293, 294] (by decide +kernel) (by decide +kernel)
set_option maxRecDepth 20000 in
theorem gL_takes_X3_undo : GoodIn wsL_takes (wsV RL 84 RX3 yX3_undo wsX3_undo) := goodIn_app (goodIn_of _ (by decide +kernel)) ggL_takes_X3_undo
set_option maxRecDepth 20000 in
theorem ggL_takes_L_types : GoodIn wsL_takes wsL_types := goodIn_r _ [197, 198, 199, 200, 4, 201, 75, 202, 284, 285, 286, 287, 288, 289] (by decide +kernel) (by decide +kernel)
set_option maxRecDepth 20000 in
theorem gL_takes_L_types : GoodIn wsL_takes (va_wsS RL 87 yL_types wsL_types) := goodIn_app (goodIn_of _ (by decide +kernel)) ggL_takes_L_types
set_option maxRecDepth 20000 in
theorem ggL_takes_X3_run : GoodIn wsL_takes wsX3_run := goodIn_r _ [206, 74, 7, 207, 202, 75, 161, 162, 163, 164, 165, 166, 167, 168, 169, 170, 171, 172, 173, 9, 10, 11, 12, 13, 14, 15, 16, 17, 18, 19, 20, 21, 208, 209, 210, 211, 212, 213, 214, 215, 216, 217, 218, 219, 220, 221, 222, 223, 224, 225, 226, 227, 228, 229, 230, 231, 232, 233, 234, 235, 236, 237, 238, 239, 240, 241, 242, 243, 244, 245, 246, 247, 23, 24, 25, 26, 27, 28, 29, 30, 31, 32, 33, 34, 35, 36, 37, 38, 4, 39, 40, 41, 42, 43, 44, 45, 46, 47, 48, 49, 50, 51, 52, 53, 54, 55, 56, 57, 248, 249, 250, 251, 147, 148, 149, 103, 104, 105, 150, 151, 152, 252, 253, 254, 255, 96, 97, 143, 144, 145, 146, 256, 257, 258, 259, 260, 261, 262, 263, 264, 265, 266, 80, 81, 82, 83, 267, 268, 269, 270, 271, 272, 273, 274, 275, 276, 277, 278, 279, 280, 281, 282, 283, 85, 86, 87, 174, 175, 176, 177, 178, 179, 180, 181, 182, 183, 184, 185, 284, 285, 286, 287, 288, 289, 295, 296, 297, 290, 291, 292, 293, 294, 298, 299, 300, 301, 302, 303] (by decide +kernel) (by decide +kernel)
set_option maxRecDepth 20000 in
theorem gL_takes_X3_run : GoodIn wsL_takes (wsV RL 91 RX3 yX3_run wsX3_run) := goodIn_app (goodIn_of _ (by decide +kernel)) ggL_takes_X3_run
theorem dL_takes_0 : decode cL_takes 0 = .ok (.aload_n 0, 1) := by decide +kernel
theorem dL_takes_1 : decode cL_takes 1 = .ok (.iconst 0, 1) := by decide +kernel
theorem dL_takes_2 : decode cL_takes 2 = .ok (.invokevirtual 62, 3) := by decide +kernel
theorem dL_takes_5 : decode cL_takes 5 = .ok (.istore_n 1, 1) := by decide +kernel
theorem dL_takes_6 : decode cL_takes 6 = .ok (.aload_n 0, 1) := by decide +kernel
theorem dL_takes_7 : decode cL_takes 7 = .ok (.iconst 1, 1) := by decide +kernel
theorem dL_takes_8 : decode cL_takes 8 = .ok (.invokevirtual 62, 3) := by decide +kernel
theorem dL_takes_11 : decode cL_takes 11 = .ok (.istore_n 2, 1) := by decide +kernel
theorem dL_takes_12 : decode cL_takes 12 = .ok (.aload_n 0, 1) := by decide +kernel
theorem dL_takes_13 : decode cL_takes 13 = .ok (.iconst 2, 1) := by decide +kernel
theorem dL_takes_14 : decode cL_takes 14 = .ok (.invokevirtual 62, 3) := by decide +kernel
theorem dL_takes_17 : decode cL_takes 17 = .ok (.istore_n 3, 1) := by decide +kernel
theorem dL_takes_18 : decode cL_takes 18 = .ok (.aload_n 0, 1) := by decide +kernel
theorem dL_takes_19 : decode cL_takes 19 = .ok (.invokevirtual 74, 3) := by decide +kernel
theorem dL_takes_22 : decode cL_takes 22 = .ok (.istore 4, 2) := by decide +kernel
theorem dL_takes_24 : decode cL_takes 24 = .ok (.aload_n 0, 1) := by decide +kernel
theorem dL_takes_25 : decode cL_takes 25 = .ok (.iconst 5, 1) := by decide +kernel
theorem dL_takes_26 : decode cL_takes 26 = .ok (.invokevirtual 13, 3) := by decide +kernel
theorem dL_takes_29 : decode cL_takes 29 = .ok (.istore 5, 2) := by decide +kernel
theorem dL_takes_31 : decode cL_takes 31 = .ok (.aload_n 0, 1) := by decide +kernel
theorem dL_takes_32 : decode cL_takes 32 = .ok (.iconst 2, 1) := by decide +kernel
theorem dL_takes_33 : decode cL_takes 33 = .ok (.invokevirtual 13, 3) := by decide +kernel
theorem dL_takes_36 : decode cL_takes 36 = .ok (.istore 6, 2) := by decide +kernel
theorem dL_takes_38 : decode cL_takes 38 = .ok (.aload_n 0, 1) := by decide +kernel
theorem dL_takes_39 : decode cL_takes 39 = .ok (.invokestatic 29, 3) := by decide +kernel
theorem dL_takes_42 : decode cL_takes 42 = .ok (.lstore 7, 2) := by decide +kernel
theorem dL_takes_44 : decode cL_takes 44 = .ok (.aload_n 0, 1) := by decide +kernel
theorem dL_takes_45 : decode cL_takes 45 = .ok (.invokevirtual 78, 3) := by decide +kernel
theorem dL_takes_48 : decode cL_takes 48 = .ok (.istore 9, 2) := by decide +kernel
theorem dL_takes_50 : decode cL_takes 50 = .ok (.iload_n 1, 1) := by decide +kernel
theorem dL_takes_51 : decode cL_takes 51 = .ok (.ifCond .ge 56, 3) := by decide +kernel
theorem dL_takes_54 : decode cL_takes 54 = .ok (.iload_n 1, 1) := by decide +kernel
theorem dL_takes_55 : decode cL_takes 55 = .ok (.bipush (-9), 2) := by decide +kernel
theorem dL_takes_57 : decode cL_takes 57 = .ok (.if_icmp .ne 48, 3) := by decide +kernel
theorem dL_takes_60 : decode cL_takes 60 = .ok (.iload_n 2, 1) := by decide +kernel
theorem dL_takes_61 : decode cL_takes 61 = .ok (.bipush (-9), 2) := by decide +kernel
theorem dL_takes_63 : decode cL_takes 63 = .ok (.if_icmp .ne 42, 3) := by decide +kernel
theorem dL_takes_66 : decode cL_takes 66 = .ok (.iload_n 3, 1) := by decide +kernel
theorem dL_takes_67 : decode cL_takes 67 = .ok (.bipush (-9), 2) := by decide +kernel
theorem dL_takes_69 : decode cL_takes 69 = .ok (.if_icmp .ne 36, 3) := by decide +kernel
theorem dL_takes_72 : decode cL_takes 72 = .ok (.iload 4, 2) := by decide +kernel
theorem dL_takes_74 : decode cL_takes 74 = .ok (.ifCond .ne 31, 3) := by decide +kernel
theorem dL_takes_77 : decode cL_takes 77 = .ok (.iload 9, 2) := by decide +kernel
theorem dL_takes_79 : decode cL_takes 79 = .ok (.ifCond .lt 26, 3) := by decide +kernel
theorem dL_takes_82 : decode cL_takes 82 = .ok (.aload_n 0, 1) := by decide +kernel
theorem dL_takes_83 : decode cL_takes 83 = .ok (.invokevirtual 81, 3) := by decide +kernel
theorem dL_takes_86 : decode cL_takes 86 = .ok (.bipush (-3), 2) := by decide +kernel
theorem dL_takes_88 : decode cL_takes 88 = .ok (.if_icmp .ne 17, 3) := by decide +kernel
theorem dL_takes_91 : decode cL_takes 91 = .ok (.aload_n 0, 1) := by decide +kernel
theorem dL_takes_92 : decode cL_takes 92 = .ok (.invokestatic 29, 3) := by decide +kernel
theorem dL_takes_95 : decode cL_takes 95 = .ok (.lload 7, 2) := by decide +kernel
theorem dL_takes_97 : decode cL_takes 97 = .ok (.lcmp, 1) := by decide +kernel
theorem dL_takes_98 : decode cL_takes 98 = .ok (.ifCond .ne 7, 3) := by decide +kernel
theorem dL_takes_101 : decode cL_takes 101 = .ok (.iconst 1, 1) := by decide +kernel
theorem dL_takes_102 : decode cL_takes 102 = .ok (.goto 4, 3) := by decide +kernel
theorem dL_takes_105 : decode cL_takes 105 = .ok (.iconst 0, 1) := by decide +kernel
theorem dL_takes_106 : decode cL_takes 106 = .ok (.ireturn, 1) := by decide +kernel
theorem dL_takes_107 : decode cL_takes 107 = .ok (.iload 4, 2) := by decide +kernel
theorem dL_takes_109 : decode cL_takes 109 = .ok (.iconst 1, 1) := by decide +kernel
theorem dL_takes_110 : decode cL_takes 110 = .ok (.if_icmp .lt 114, 3) := by decide +kernel
theorem dL_takes_113 : decode cL_takes 113 = .ok (.aload_n 0, 1) := by decide +kernel
theorem dL_takes_114 : decode cL_takes 114 = .ok (.iload_n 1, 1) := by decide +kernel
theorem dL_takes_115 : decode cL_takes 115 = .ok (.iconst 0, 1) := by decide +kernel
theorem dL_takes_116 : decode cL_takes 116 = .ok (.invokevirtual 19, 3) := by decide +kernel
theorem dL_takes_119 : decode cL_takes 119 = .ok (.ifCond .eq 7, 3) := by decide +kernel
theorem dL_takes_122 : decode cL_takes 122 = .ok (.iload_n 3, 1) := by decide +kernel
theorem dL_takes_123 : decode cL_takes 123 = .ok (.ifCond .eq 101, 3) := by decide +kernel
theorem dL_takes_126 : decode cL_takes 126 = .ok (.aload_n 0, 1) := by decide +kernel
theorem dL_takes_127 : decode cL_takes 127 = .ok (.invokevirtual 81, 3) := by decide +kernel
theorem dL_takes_130 : decode cL_takes 130 = .ok (.iload_n 1, 1) := by decide +kernel
theorem dL_takes_131 : decode cL_takes 131 = .ok (.if_icmp .ne 93, 3) := by decide +kernel
theorem dL_takes_134 : decode cL_takes 134 = .ok (.aload_n 0, 1) := by decide +kernel
theorem dL_takes_135 : decode cL_takes 135 = .ok (.iconst 5, 1) := by decide +kernel
theorem dL_takes_136 : decode cL_takes 136 = .ok (.invokevirtual 13, 3) := by decide +kernel
theorem dL_takes_139 : decode cL_takes 139 = .ok (.iload 5, 2) := by decide +kernel
theorem dL_takes_141 : decode cL_takes 141 = .ok (.iload_n 2, 1) := by decide +kernel
theorem dL_takes_142 : decode cL_takes 142 = .ok (.iadd, 1) := by decide +kernel
theorem dL_takes_143 : decode cL_takes 143 = .ok (.if_icmp .ne 81, 3) := by decide +kernel
theorem dL_takes_146 : decode cL_takes 146 = .ok (.iload_n 2, 1) := by decide +kernel
theorem dL_takes_147 : decode cL_takes 147 = .ok (.iconst 1, 1) := by decide +kernel
theorem dL_takes_148 : decode cL_takes 148 = .ok (.if_icmp .lt 76, 3) := by decide +kernel
theorem dL_takes_151 : decode cL_takes 151 = .ok (.iload_n 2, 1) := by decide +kernel
theorem dL_takes_152 : decode cL_takes 152 = .ok (.bipush 20, 2) := by decide +kernel
theorem dL_takes_154 : decode cL_takes 154 = .ok (.if_icmp .gt 70, 3) := by decide +kernel
theorem dL_takes_157 : decode cL_takes 157 = .ok (.aload_n 0, 1) := by decide +kernel
theorem dL_takes_158 : decode cL_takes 158 = .ok (.iload_n 1, 1) := by decide +kernel
theorem dL_takes_159 : decode cL_takes 159 = .ok (.iconst 0, 1) := by decide +kernel
theorem dL_takes_160 : decode cL_takes 160 = .ok (.invokevirtual 19, 3) := by decide +kernel
theorem dL_takes_163 : decode cL_takes 163 = .ok (.iconst 1, 1) := by decide +kernel
theorem dL_takes_164 : decode cL_takes 164 = .ok (.if_icmp .ne 60, 3) := by decide +kernel
theorem dL_takes_167 : decode cL_takes 167 = .ok (.aload_n 0, 1) := by decide +kernel
theorem dL_takes_168 : decode cL_takes 168 = .ok (.iconst 2, 1) := by decide +kernel
theorem dL_takes_169 : decode cL_takes 169 = .ok (.invokevirtual 13, 3) := by decide +kernel
theorem dL_takes_172 : decode cL_takes 172 = .ok (.iload_n 3, 1) := by decide +kernel
theorem dL_takes_173 : decode cL_takes 173 = .ok (.iconst 1, 1) := by decide +kernel
theorem dL_takes_174 : decode cL_takes 174 = .ok (.if_icmp .ne 7, 3) := by decide +kernel
theorem dL_takes_177 : decode cL_takes 177 = .ok (.iconst 0, 1) := by decide +kernel
theorem dL_takes_178 : decode cL_takes 178 = .ok (.goto 5, 3) := by decide +kernel
theorem dL_takes_181 : decode cL_takes 181 = .ok (.iload 6, 2) := by decide +kernel
theorem dL_takes_183 : decode cL_takes 183 = .ok (.if_icmp .ne 41, 3) := by decide +kernel
theorem dL_takes_186 : decode cL_takes 186 = .ok (.iload_n 3, 1) := by decide +kernel
theorem dL_takes_187 : decode cL_takes 187 = .ok (.iconst 1, 1) := by decide +kernel
theorem dL_takes_188 : decode cL_takes 188 = .ok (.if_icmp .ne 8, 3) := by decide +kernel
theorem dL_takes_191 : decode cL_takes 191 = .ok (.iload 6, 2) := by decide +kernel
theorem dL_takes_193 : decode cL_takes 193 = .ok (.ifCond .eq 31, 3) := by decide +kernel
theorem dL_takes_196 : decode cL_takes 196 = .ok (.aload_n 0, 1) := by decide +kernel
theorem dL_takes_197 : decode cL_takes 197 = .ok (.invokevirtual 74, 3) := by decide +kernel
theorem dL_takes_200 : decode cL_takes 200 = .ok (.iload 4, 2) := by decide +kernel
theorem dL_takes_202 : decode cL_takes 202 = .ok (.iconst 1, 1) := by decide +kernel
theorem dL_takes_203 : decode cL_takes 203 = .ok (.isub, 1) := by decide +kernel
theorem dL_takes_204 : decode cL_takes 204 = .ok (.if_icmp .ne 20, 3) := by decide +kernel
theorem dL_takes_207 : decode cL_takes 207 = .ok (.aload_n 0, 1) := by decide +kernel
theorem dL_takes_208 : decode cL_takes 208 = .ok (.invokevirtual 84, 3) := by decide +kernel
theorem dL_takes_211 : decode cL_takes 211 = .ok (.ifCond .lt 13, 3) := by decide +kernel
theorem dL_takes_214 : decode cL_takes 214 = .ok (.aload_n 0, 1) := by decide +kernel
theorem dL_takes_215 : decode cL_takes 215 = .ok (.invokestatic 29, 3) := by decide +kernel
theorem dL_takes_218 : decode cL_takes 218 = .ok (.lload 7, 2) := by decide +kernel
theorem dL_takes_220 : decode cL_takes 220 = .ok (.lcmp, 1) := by decide +kernel
theorem dL_takes_221 : decode cL_takes 221 = .ok (.ifCond .eq 5, 3) := by decide +kernel
theorem dL_takes_224 : decode cL_takes 224 = .ok (.iconst 0, 1) := by decide +kernel
theorem dL_takes_225 : decode cL_takes 225 = .ok (.ireturn, 1) := by decide +kernel
theorem dL_takes_226 : decode cL_takes 226 = .ok (.aload_n 0, 1) := by decide +kernel
theorem dL_takes_227 : decode cL_takes 227 = .ok (.iload 4, 2) := by decide +kernel
theorem dL_takes_229 : decode cL_takes 229 = .ok (.invokestatic 87, 3) := by decide +kernel
theorem dL_takes_232 : decode cL_takes 232 = .ok (.ifCond .eq 45, 3) := by decide +kernel
theorem dL_takes_235 : decode cL_takes 235 = .ok (.aload_n 0, 1) := by decide +kernel
theorem dL_takes_236 : decode cL_takes 236 = .ok (.invokevirtual 91, 3) := by decide +kernel
theorem dL_takes_239 : decode cL_takes 239 = .ok (.iconst 1, 1) := by decide +kernel
theorem dL_takes_240 : decode cL_takes 240 = .ok (.if_icmp .ne 37, 3) := by decide +kernel
theorem dL_takes_243 : decode cL_takes 243 = .ok (.aload_n 0, 1) := by decide +kernel
theorem dL_takes_244 : decode cL_takes 244 = .ok (.invokevirtual 74, 3) := by decide +kernel
theorem dL_takes_247 : decode cL_takes 247 = .ok (.ifCond .ne 30, 3) := by decide +kernel
theorem dL_takes_250 : decode cL_takes 250 = .ok (.aload_n 0, 1) := by decide +kernel
theorem dL_takes_251 : decode cL_takes 251 = .ok (.iconst 0, 1) := by decide +kernel
theorem dL_takes_252 : decode cL_takes 252 = .ok (.invokevirtual 62, 3) := by decide +kernel
theorem dL_takes_255 : decode cL_takes 255 = .ok (.bipush (-9), 2) := by decide +kernel
theorem dL_takes_257 : decode cL_takes 257 = .ok (.if_icmp .ne 20, 3) := by decide +kernel
theorem dL_takes_260 : decode cL_takes 260 = .ok (.aload_n 0, 1) := by decide +kernel
theorem dL_takes_261 : decode cL_takes 261 = .ok (.invokevirtual 84, 3) := by decide +kernel
theorem dL_takes_264 : decode cL_takes 264 = .ok (.ifCond .lt 13, 3) := by decide +kernel
theorem dL_takes_267 : decode cL_takes 267 = .ok (.aload_n 0, 1) := by decide +kernel
theorem dL_takes_268 : decode cL_takes 268 = .ok (.invokestatic 29, 3) := by decide +kernel
theorem dL_takes_271 : decode cL_takes 271 = .ok (.lload 7, 2) := by decide +kernel
theorem dL_takes_273 : decode cL_takes 273 = .ok (.lcmp, 1) := by decide +kernel
theorem dL_takes_274 : decode cL_takes 274 = .ok (.ifCond .eq 5, 3) := by decide +kernel
theorem dL_takes_277 : decode cL_takes 277 = .ok (.iconst 0, 1) := by decide +kernel
theorem dL_takes_278 : decode cL_takes 278 = .ok (.ireturn, 1) := by decide +kernel
theorem dL_takes_279 : decode cL_takes 279 = .ok (.aload_n 0, 1) := by decide +kernel
theorem dL_takes_280 : decode cL_takes 280 = .ok (.invokevirtual 78, 3) := by decide +kernel
theorem dL_takes_283 : decode cL_takes 283 = .ok (.ifCond .le 53, 3) := by decide +kernel
theorem dL_takes_286 : decode cL_takes 286 = .ok (.iload 4, 2) := by decide +kernel
theorem dL_takes_288 : decode cL_takes 288 = .ok (.sipush 319, 3) := by decide +kernel
theorem dL_takes_291 : decode cL_takes 291 = .ok (.if_icmp .gt 24, 3) := by decide +kernel
theorem dL_takes_294 : decode cL_takes 294 = .ok (.aload_n 0, 1) := by decide +kernel
theorem dL_takes_295 : decode cL_takes 295 = .ok (.iload 4, 2) := by decide +kernel
theorem dL_takes_297 : decode cL_takes 297 = .ok (.iconst 1, 1) := by decide +kernel
theorem dL_takes_298 : decode cL_takes 298 = .ok (.iadd, 1) := by decide +kernel
theorem dL_takes_299 : decode cL_takes 299 = .ok (.invokestatic 87, 3) := by decide +kernel
theorem dL_takes_302 : decode cL_takes 302 = .ok (.ifCond .eq 34, 3) := by decide +kernel
theorem dL_takes_305 : decode cL_takes 305 = .ok (.aload_n 0, 1) := by decide +kernel
theorem dL_takes_306 : decode cL_takes 306 = .ok (.invokevirtual 91, 3) := by decide +kernel
theorem dL_takes_309 : decode cL_takes 309 = .ok (.sipush (-1000), 3) := by decide +kernel
theorem dL_takes_312 : decode cL_takes 312 = .ok (.if_icmp .ne 24, 3) := by decide +kernel
theorem dL_takes_315 : decode cL_takes 315 = .ok (.aload_n 0, 1) := by decide +kernel
theorem dL_takes_316 : decode cL_takes 316 = .ok (.invokestatic 29, 3) := by decide +kernel
theorem dL_takes_319 : decode cL_takes 319 = .ok (.lload 7, 2) := by decide +kernel
theorem dL_takes_321 : decode cL_takes 321 = .ok (.lcmp, 1) := by decide +kernel
theorem dL_takes_322 : decode cL_takes 322 = .ok (.ifCond .ne 14, 3) := by decide +kernel
theorem dL_takes_325 : decode cL_takes 325 = .ok (.aload_n 0, 1) := by decide +kernel
theorem dL_takes_326 : decode cL_takes 326 = .ok (.invokevirtual 78, 3) := by decide +kernel
theorem dL_takes_329 : decode cL_takes 329 = .ok (.ifCond .lt 7, 3) := by decide +kernel
theorem dL_takes_332 : decode cL_takes 332 = .ok (.iconst 1, 1) := by decide +kernel
theorem dL_takes_333 : decode cL_takes 333 = .ok (.goto 4, 3) := by decide +kernel
theorem dL_takes_336 : decode cL_takes 336 = .ok (.iconst 0, 1) := by decide +kernel
theorem dL_takes_337 : decode cL_takes 337 = .ok (.ireturn, 1) := by decide +kernel
