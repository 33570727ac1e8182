theorem dL_cell_0 : decode cL_cell 0 = .ok (.iload_n 1, 1) := by decide +kernel
theorem dL_cell_1 : decode cL_cell 1 = .ok (.aload_n 0, 1) := by decide +kernel
theorem dL_cell_2 : decode cL_cell 2 = .ok (.arraylength, 1) := by decide +kernel
theorem dL_cell_3 : decode cL_cell 3 = .ok (.if_icmp .ge 9, 3) := by decide +kernel
theorem dL_cell_6 : decode cL_cell 6 = .ok (.aload_n 0, 1) := by decide +kernel
theorem dL_cell_7 : decode cL_cell 7 = .ok (.iload_n 1, 1) := by decide +kernel
theorem dL_cell_8 : decode cL_cell 8 = .ok (.iaload, 1) := by decide +kernel
theorem dL_cell_9 : decode cL_cell 9 = .ok (.goto 9, 3) := by decide +kernel
theorem dL_cell_12 : decode cL_cell 12 = .ok (.ldc 7, 2) := by decide +kernel
theorem dL_cell_14 : decode cL_cell 14 = .ok (.iload_n 1, 1) := by decide +kernel
theorem dL_cell_15 : decode cL_cell 15 = .ok (.iconst 3, 1) := by decide +kernel
theorem dL_cell_16 : decode cL_cell 16 = .ok (.iadd, 1) := by decide +kernel
theorem dL_cell_17 : decode cL_cell 17 = .ok (.imul, 1) := by decide +kernel
theorem dL_cell_18 : decode cL_cell 18 = .ok (.ireturn, 1) := by decide +kernel
theorem dL_up_0 : decode cL_up 0 = .ok (.iload_n 0, 1) := by decide +kernel
theorem dL_up_1 : decode cL_up 1 = .ok (.ldc 8, 2) := by decide +kernel
theorem dL_up_3 : decode cL_up 3 = .ok (.iand, 1) := by decide +kernel
theorem dL_up_4 : decode cL_up 4 = .ok (.iload_n 1, 1) := by decide +kernel
theorem dL_up_5 : decode cL_up 5 = .ok (.irem, 1) := by decide +kernel
theorem dL_up_6 : decode cL_up 6 = .ok (.ireturn, 1) := by decide +kernel
set_option maxRecDepth 20000 in
theorem ggL_types_X3_append : GoodIn wsL_types wsX3_append := goodIn_r _ [5, 6, 7, 8, 9, 10, 11, 12, 13] (by decide +kernel) (by decide +kernel)
set_option maxRecDepth 20000 in
theorem gL_types_X3_append : GoodIn wsL_types (wsV RL 56 RX3 yX3_append wsX3_append) := goodIn_app (goodIn_of _ (by decide +kernel)) ggL_types_X3_append
theorem dL_types_0 : decode cL_types 0 = .ok (.aload_n 0, 1) := by decide +kernel
theorem dL_types_1 : decode cL_types 1 = .ok (.bipush 116, 2) := by decide +kernel
theorem dL_types_3 : decode cL_types 3 = .ok (.invokevirtual 56, 3) := by decide +kernel
theorem dL_types_6 : decode cL_types 6 = .ok (.istore_n 2, 1) := by decide +kernel
theorem dL_types_7 : decode cL_types 7 = .ok (.iload_n 1, 1) := by decide +kernel
theorem dL_types_8 : decode cL_types 8 = .ok (.bipush 99, 2) := by decide +kernel
theorem dL_types_10 : decode cL_types 10 = .ok (.if_icmp .le 17, 3) := by decide +kernel
theorem dL_types_13 : decode cL_types 13 = .ok (.aload_n 0, 1) := by decide +kernel
theorem dL_types_14 : decode cL_types 14 = .ok (.bipush 48, 2) := by decide +kernel
theorem dL_types_16 : decode cL_types 16 = .ok (.iload_n 1, 1) := by decide +kernel
theorem dL_types_17 : decode cL_types 17 = .ok (.bipush 100, 2) := by decide +kernel
theorem dL_types_19 : decode cL_types 19 = .ok (.idiv, 1) := by decide +kernel
theorem dL_types_20 : decode cL_types 20 = .ok (.iadd, 1) := by decide +kernel
theorem dL_types_21 : decode cL_types 21 = .ok (.invokevirtual 56, 3) := by decide +kernel
theorem dL_types_24 : decode cL_types 24 = .ok (.goto 4, 3) := by decide +kernel
theorem dL_types_27 : decode cL_types 27 = .ok (.iload_n 2, 1) := by decide +kernel
theorem dL_types_28 : decode cL_types 28 = .ok (.istore_n 2, 1) := by decide +kernel
theorem dL_types_29 : decode cL_types 29 = .ok (.iload_n 1, 1) := by decide +kernel
theorem dL_types_30 : decode cL_types 30 = .ok (.bipush 9, 2) := by decide +kernel
theorem dL_types_32 : decode cL_types 32 = .ok (.if_icmp .le 20, 3) := by decide +kernel
theorem dL_types_35 : decode cL_types 35 = .ok (.aload_n 0, 1) := by decide +kernel
theorem dL_types_36 : decode cL_types 36 = .ok (.bipush 48, 2) := by decide +kernel
theorem dL_types_38 : decode cL_types 38 = .ok (.iload_n 1, 1) := by decide +kernel
theorem dL_types_39 : decode cL_types 39 = .ok (.bipush 10, 2) := by decide +kernel
theorem dL_types_41 : decode cL_types 41 = .ok (.idiv, 1) := by decide +kernel
theorem dL_types_42 : decode cL_types 42 = .ok (.bipush 10, 2) := by decide +kernel
theorem dL_types_44 : decode cL_types 44 = .ok (.irem, 1) := by decide +kernel
theorem dL_types_45 : decode cL_types 45 = .ok (.iadd, 1) := by decide +kernel
theorem dL_types_46 : decode cL_types 46 = .ok (.invokevirtual 56, 3) := by decide +kernel
theorem dL_types_49 : decode cL_types 49 = .ok (.goto 4, 3) := by decide +kernel
theorem dL_types_52 : decode cL_types 52 = .ok (.iload_n 2, 1) := by decide +kernel
theorem dL_types_53 : decode cL_types 53 = .ok (.istore_n 2, 1) := by decide +kernel
theorem dL_types_54 : decode cL_types 54 = .ok (.aload_n 0, 1) := by decide +kernel
theorem dL_types_55 : decode cL_types 55 = .ok (.bipush 48, 2) := by decide +kernel
theorem dL_types_57 : decode cL_types 57 = .ok (.iload_n 1, 1) := by decide +kernel
theorem dL_types_58 : decode cL_types 58 = .ok (.bipush 10, 2) := by decide +kernel
theorem dL_types_60 : decode cL_types 60 = .ok (.irem, 1) := by decide +kernel
theorem dL_types_61 : decode cL_types 61 = .ok (.iadd, 1) := by decide +kernel
theorem dL_types_62 : decode cL_types 62 = .ok (.invokevirtual 56, 3) := by decide +kernel
theorem dL_types_65 : decode cL_types 65 = .ok (.istore_n 2, 1) := by decide +kernel
theorem dL_types_66 : decode cL_types 66 = .ok (.iload_n 2, 1) := by decide +kernel
theorem dL_types_67 : decode cL_types 67 = .ok (.iconst 1, 1) := by decide +kernel
theorem dL_types_68 : decode cL_types 68 = .ok (.if_icmp .le 19, 3) := by decide +kernel
theorem dL_types_71 : decode cL_types 71 = .ok (.aload_n 0, 1) := by decide +kernel
theorem dL_types_72 : decode cL_types 72 = .ok (.bipush 59, 2) := by decide +kernel
theorem dL_types_74 : decode cL_types 74 = .ok (.invokevirtual 56, 3) := by decide +kernel
theorem dL_types_77 : decode cL_types 77 = .ok (.iload_n 2, 1) := by decide +kernel
theorem dL_types_78 : decode cL_types 78 = .ok (.iconst 1, 1) := by decide +kernel
theorem dL_types_79 : decode cL_types 79 = .ok (.iadd, 1) := by decide +kernel
theorem dL_types_80 : decode cL_types 80 = .ok (.if_icmp .ne 7, 3) := by decide +kernel
theorem dL_types_83 : decode cL_types 83 = .ok (.iconst 1, 1) := by decide +kernel
theorem dL_types_84 : decode cL_types 84 = .ok (.goto 4, 3) := by decide +kernel
theorem dL_types_87 : decode cL_types 87 = .ok (.iconst 0, 1) := by decide +kernel
theorem dL_types_88 : decode cL_types 88 = .ok (.ireturn, 1) := by decide +kernel
set_option maxRecDepth 20000 in
theorem ggL_act_L_up : GoodIn wsL_act wsL_up := goodIn_r _ [4, 5] (by decide +kernel) (by decide +kernel)
set_option maxRecDepth 20000 in
theorem gL_act_L_up : GoodIn wsL_act (va_wsS RL 71 yL_up wsL_up) := goodIn_app (goodIn_of _ (by decide +kernel)) ggL_act_L_up
set_option maxRecDepth 20000 in
theorem ggL_act_X3_take : GoodIn wsL_act wsX3_take := goodIn_r _ [10, 11, 12, 13, 14, 15, 16, 17, 18, 19, 20, 21, 22, 23, 24, 25, 26, 27, 28, 29, 30, 31, 32, 33, 34, 35, 36, 37, 38, 39, 40, 41, 42, 43, 44, 45, 46, 47, 48, 49, 50, 51, 52, 53, 54, 55, 9, 56, 57, 58, 59, 60, 61, 62, 63, 64, 65, 66, 67, 68, 69, 70, 71, 72, 73, 74, 75, 76, 77, 78, 79, 80, 81, 82, 83, 84, 85, 86, 195, 196, 197, 198, 199, 200, 201, 202, 203, 204, 205, 206, 207, 208] (by decide +kernel) (by decide +kernel)
set_option maxRecDepth 20000 in
theorem gL_act_X3_take : GoodIn wsL_act (wsV RL 81 RX3 yX3_take wsX3_take) := goodIn_app (goodIn_of _ (by decide +kernel)) ggL_act_X3_take
set_option maxRecDepth 20000 in
theorem ggL_act_X3_takeRun : GoodIn wsL_act wsX3_takeRun := goodIn_r _ [90, 11, 12, 13, 14, 15, 16, 17, 18, 19, 20, 21, 22, 23, 24, 25, 26, 27, 28, 29, 30, 31, 32, 33, 34, 35, 36, 37, 38, 91, 92, 93, 94, 95, 9, 96, 97, 98, 99, 100, 101, 102, 103, 104, 105, 106, 64, 65, 107, 108, 109, 110, 111, 112, 113, 114, 115, 66, 67, 68, 69, 51, 52, 53, 54, 75, 76, 77, 78, 79, 80, 81, 82, 83, 84, 85, 86, 195, 196, 197, 198, 199, 200, 201, 202, 203, 204, 205, 206, 207, 208] (by decide +kernel) (by decide +kernel)
set_option maxRecDepth 20000 in
theorem gL_act_X3_takeRun : GoodIn wsL_act (wsV RL 35 RX3 yX3_takeRun wsX3_takeRun) := goodIn_app (goodIn_of _ (by decide +kernel)) ggL_act_X3_takeRun
set_option maxRecDepth 20000 in
theorem ggL_act_X3_giveBack : GoodIn wsL_act wsX3_giveBack := goodIn_r _ [119, 11, 12, 13, 14, 15, 16, 17, 18, 19, 20, 21, 22, 23, 24, 25, 26, 27, 28, 29, 30, 31, 32, 33, 34, 35, 36, 37, 38, 120, 121, 122, 123, 107, 9, 108, 109, 110, 111, 112, 113, 114, 115, 124, 125, 126, 127, 105, 106, 128, 129, 130, 131, 66, 67, 68, 69, 51, 52, 53, 54, 74, 58, 59, 60, 61, 62, 63, 75, 76, 77, 78, 79, 80, 81, 82, 83, 84, 85, 86, 195, 196, 197, 198, 199, 200, 201, 202, 203, 204, 205, 206, 207, 208] (by decide +kernel) (by decide +kernel)
set_option maxRecDepth 20000 in
theorem gL_act_X3_giveBack : GoodIn wsL_act (wsV RL 38 RX3 yX3_giveBack wsX3_giveBack) := goodIn_app (goodIn_of _ (by decide +kernel)) ggL_act_X3_giveBack
set_option maxRecDepth 20000 in
theorem ggL_act_X3_clear : GoodIn wsL_act wsX3_clear := goodIn_r _ [135, 11, 12, 13, 14, 15, 16, 17, 18, 19, 20, 21, 22, 23, 24, 25, 26, 27, 28, 29, 30, 31, 32, 33, 34, 35, 36, 37, 38, 136, 71, 72, 73, 66, 67, 68, 69, 51, 52, 53, 54, 74, 58, 59, 60, 61, 62, 63, 75, 76, 77, 9, 78, 79, 80, 81, 82, 83, 84, 85, 86, 195, 196, 197, 198, 199, 200, 201, 202, 203, 204, 205, 206, 207, 208] (by decide +kernel) (by decide +kernel)
set_option maxRecDepth 20000 in
theorem gL_act_X3_clear : GoodIn wsL_act (wsV RL 41 RX3 yX3_clear wsX3_clear) := goodIn_app (goodIn_of _ (by decide +kernel)) ggL_act_X3_clear
set_option maxRecDepth 20000 in
theorem ggL_act_X3_reserve : GoodIn wsL_act wsX3_reserve := goodIn_r _ [140, 11, 12, 13, 14, 15, 16, 17, 18, 19, 20, 21, 22, 23, 24, 25, 26, 27, 28, 29, 30, 31, 32, 33, 34, 35, 36, 37, 38, 141, 142, 143, 144, 145, 9, 146, 147, 148, 149, 150, 151, 152, 153, 154, 155, 156, 157, 158, 105, 106, 107, 108, 109, 110, 111, 112, 113, 114, 115, 128, 129, 130, 131, 66, 67, 68, 69, 51, 52, 53, 54, 75, 76, 77, 78, 79, 80, 81, 82, 83, 84, 85, 86, 195, 196, 197, 198, 199, 200, 201, 202, 203, 204, 205, 206, 207, 208] (by decide +kernel) (by decide +kernel)
set_option maxRecDepth 20000 in
theorem gL_act_X3_reserve : GoodIn wsL_act (wsV RL 44 RX3 yX3_reserve wsX3_reserve) := goodIn_app (goodIn_of _ (by decide +kernel)) ggL_act_X3_reserve
set_option maxRecDepth 20000 in
theorem ggL_act_X3_takeIn : GoodIn wsL_act wsX3_takeIn := goodIn_r _ [162, 11, 12, 13, 14, 15, 16, 17, 18, 19, 20, 21, 22, 23, 24, 25, 26, 27, 28, 29, 30, 31, 32, 33, 34, 35, 36, 37, 38, 163, 164, 165, 166, 151, 152, 153, 154, 105, 9, 106, 128, 129, 130, 131, 107, 108, 109, 110, 111, 112, 113, 114, 115, 55, 56, 57, 58, 59, 60, 61, 62, 63, 64, 65, 66, 67, 68, 69, 51, 52, 53, 54, 75, 76, 77, 78, 79, 80, 81, 82, 83, 84, 85, 86, 195, 196, 197, 198, 199, 200, 201, 202, 203, 204, 205, 206, 207, 208] (by decide +kernel) (by decide +kernel)
set_option maxRecDepth 20000 in
theorem gL_act_X3_takeIn : GoodIn wsL_act (wsV RL 47 RX3 yX3_takeIn wsX3_takeIn) := goodIn_app (goodIn_of _ (by decide +kernel)) ggL_act_X3_takeIn
set_option maxRecDepth 20000 in
theorem ggL_act_X3_giveUp : GoodIn wsL_act wsX3_giveUp := goodIn_r _ [170, 11, 12, 13, 14, 15, 16, 17, 18, 19, 20, 21, 22, 23, 24, 25, 26, 27, 28, 29, 30, 31, 32, 33, 34, 35, 36, 37, 38, 171, 172, 173, 174, 151, 152, 153, 154, 105, 9, 106, 128, 129, 130, 131, 107, 108, 109, 110, 111, 112, 113, 114, 115, 66, 67, 68, 69, 51, 52, 53, 54, 74, 58, 59, 60, 61, 62, 63, 75, 76, 77, 78, 79, 80, 81, 82, 83, 84, 85, 86, 195, 196, 197, 198, 199, 200, 201, 202, 203, 204, 205, 206, 207, 208] (by decide +kernel) (by decide +kernel)
set_option maxRecDepth 20000 in
theorem gL_act_X3_giveUp : GoodIn wsL_act (wsV RL 50 RX3 yX3_giveUp wsX3_giveUp) := goodIn_app (goodIn_of _ (by decide +kernel)) ggL_act_X3_giveUp
set_option maxRecDepth 20000 in
theorem ggL_act_X3_damage : GoodIn wsL_act wsX3_damage := goodIn_r _ [178, 11, 12, 13, 14, 15, 16, 17, 18, 19, 20, 21, 22, 23, 24, 25, 26, 27, 28, 29, 30, 31, 32, 33, 34, 35, 36, 37, 38, 179, 180, 181, 182, 47, 48, 49, 50, 75, 76, 77, 9, 78, 79, 80, 81, 82, 83, 84, 85, 86, 195, 196, 197, 198, 199, 200, 201, 202, 203, 204, 205, 206, 207, 208] (by decide +kernel) (by decide +kernel)
set_option maxRecDepth 20000 in
theorem gL_act_X3_damage : GoodIn wsL_act (wsV RL 53 RX3 yX3_damage wsX3_damage) := goodIn_app (goodIn_of _ (by decide +kernel)) ggL_act_X3_damage
set_option maxRecDepth 20000 in
theorem ggL_act_X3_repair : GoodIn wsL_act wsX3_repair := goodIn_r _ [186, 11, 12, 13, 14, 15, 16, 17, 18, 19, 20, 21, 22, 23, 24, 25, 26, 27, 28, 29, 30, 31, 32, 33, 34, 35, 36, 37, 38, 187, 188, 189, 190, 191, 192, 193, 194, 51, 52, 53, 54, 74, 58, 59, 60, 61, 62, 63, 75, 76, 77, 9, 78, 79, 80, 81, 82, 83, 84, 85, 86, 195, 196, 197, 198, 199, 200, 201, 202, 203, 204, 205, 206, 207, 208] (by decide +kernel) (by decide +kernel)
set_option maxRecDepth 20000 in
theorem gL_act_X3_repair : GoodIn wsL_act (wsV RL 94 RX3 yX3_repair wsX3_repair) := goodIn_app (goodIn_of _ (by decide +kernel)) ggL_act_X3_repair
theorem dL_act_0 : decode cL_act 0 = .ok (.iload_n 2, 1) := by decide +kernel
theorem dL_act_1 : decode cL_act 1 = .ok (.sipush 320, 3) := by decide +kernel
theorem dL_act_4 : decode cL_act 4 = .ok (.invokestatic 71, 3) := by decide +kernel
theorem dL_act_7 : decode cL_act 7 = .ok (.istore_n 3, 1) := by decide +kernel
theorem dL_act_8 : decode cL_act 8 = .ok (.iload_n 3, 1) := by decide +kernel
theorem dL_act_9 : decode cL_act 9 = .ok (.iload_n 2, 1) := by decide +kernel
theorem dL_act_10 : decode cL_act 10 = .ok (.bipush 9, 2) := by decide +kernel
theorem dL_act_12 : decode cL_act 12 = .ok (.ishr, 1) := by decide +kernel
theorem dL_act_13 : decode cL_act 13 = .ok (.iload_n 2, 1) := by decide +kernel
theorem dL_act_14 : decode cL_act 14 = .ok (.bipush 20, 2) := by decide +kernel
theorem dL_act_16 : decode cL_act 16 = .ok (.ishr, 1) := by decide +kernel
theorem dL_act_17 : decode cL_act 17 = .ok (.iconst 1, 1) := by decide +kernel
theorem dL_act_18 : decode cL_act 18 = .ok (.iand, 1) := by decide +kernel
theorem dL_act_19 : decode cL_act 19 = .ok (.ifCond .ne 8, 3) := by decide +kernel
theorem dL_act_22 : decode cL_act 22 = .ok (.bipush 8, 2) := by decide +kernel
theorem dL_act_24 : decode cL_act 24 = .ok (.goto 5, 3) := by decide +kernel
theorem dL_act_27 : decode cL_act 27 = .ok (.bipush 90, 2) := by decide +kernel
theorem dL_act_29 : decode cL_act 29 = .ok (.invokestatic 71, 3) := by decide +kernel
theorem dL_act_32 : decode cL_act 32 = .ok (.iadd, 1) := by decide +kernel
theorem dL_act_33 : decode cL_act 33 = .ok (.istore 4, 2) := by decide +kernel
theorem dL_act_35 : decode cL_act 35 = .ok (.iload_n 1, 1) := by decide +kernel
theorem dL_act_36 : decode cL_act 36 = .ok (.bipush 14, 2) := by decide +kernel
theorem dL_act_38 : decode cL_act 38 = .ok (.invokestatic 71, 3) := by decide +kernel
theorem dL_act_41 : decode cL_act 41 = .ok (.tableswitch 177 0 12 #[67, 67, 72, 72, 72, 87, 87, 109, 124, 124, 138, 151, 164], 67) := by decide +kernel
theorem dL_act_108 : decode cL_act 108 = .ok (.aload_n 0, 1) := by decide +kernel
theorem dL_act_109 : decode cL_act 109 = .ok (.invokevirtual 81, 3) := by decide +kernel
theorem dL_act_112 : decode cL_act 112 = .ok (.ireturn, 1) := by decide +kernel
theorem dL_act_113 : decode cL_act 113 = .ok (.aload_n 0, 1) := by decide +kernel
theorem dL_act_114 : decode cL_act 114 = .ok (.iconst 1, 1) := by decide +kernel
theorem dL_act_115 : decode cL_act 115 = .ok (.iload_n 1, 1) := by decide +kernel
theorem dL_act_116 : decode cL_act 116 = .ok (.iconst 4, 1) := by decide +kernel
theorem dL_act_117 : decode cL_act 117 = .ok (.ishr, 1) := by decide +kernel
theorem dL_act_118 : decode cL_act 118 = .ok (.bipush 64, 2) := by decide +kernel
theorem dL_act_120 : decode cL_act 120 = .ok (.invokestatic 71, 3) := by decide +kernel
theorem dL_act_123 : decode cL_act 123 = .ok (.iadd, 1) := by decide +kernel
theorem dL_act_124 : decode cL_act 124 = .ok (.invokevirtual 35, 3) := by decide +kernel
theorem dL_act_127 : decode cL_act 127 = .ok (.ireturn, 1) := by decide +kernel
theorem dL_act_128 : decode cL_act 128 = .ok (.aload_n 0, 1) := by decide +kernel
theorem dL_act_129 : decode cL_act 129 = .ok (.iload_n 3, 1) := by decide +kernel
theorem dL_act_130 : decode cL_act 130 = .ok (.iload 4, 2) := by decide +kernel
theorem dL_act_132 : decode cL_act 132 = .ok (.sipush 320, 3) := by decide +kernel
theorem dL_act_135 : decode cL_act 135 = .ok (.if_icmp .ge 8, 3) := by decide +kernel
theorem dL_act_138 : decode cL_act 138 = .ok (.iload 4, 2) := by decide +kernel
theorem dL_act_140 : decode cL_act 140 = .ok (.goto 6, 3) := by decide +kernel
theorem dL_act_143 : decode cL_act 143 = .ok (.sipush 319, 3) := by decide +kernel
theorem dL_act_146 : decode cL_act 146 = .ok (.invokevirtual 38, 3) := by decide +kernel
theorem dL_act_149 : decode cL_act 149 = .ok (.ireturn, 1) := by decide +kernel
theorem dL_act_150 : decode cL_act 150 = .ok (.aload_n 0, 1) := by decide +kernel
theorem dL_act_151 : decode cL_act 151 = .ok (.iconst 1, 1) := by decide +kernel
theorem dL_act_152 : decode cL_act 152 = .ok (.iload_n 1, 1) := by decide +kernel
theorem dL_act_153 : decode cL_act 153 = .ok (.iconst 4, 1) := by decide +kernel
theorem dL_act_154 : decode cL_act 154 = .ok (.ishr, 1) := by decide +kernel
theorem dL_act_155 : decode cL_act 155 = .ok (.bipush 10, 2) := by decide +kernel
theorem dL_act_157 : decode cL_act 157 = .ok (.invokestatic 71, 3) := by decide +kernel
theorem dL_act_160 : decode cL_act 160 = .ok (.iadd, 1) := by decide +kernel
theorem dL_act_161 : decode cL_act 161 = .ok (.invokevirtual 41, 3) := by decide +kernel
theorem dL_act_164 : decode cL_act 164 = .ok (.ireturn, 1) := by decide +kernel
theorem dL_act_165 : decode cL_act 165 = .ok (.aload_n 0, 1) := by decide +kernel
theorem dL_act_166 : decode cL_act 166 = .ok (.iconst 4, 1) := by decide +kernel
theorem dL_act_167 : decode cL_act 167 = .ok (.iload_n 1, 1) := by decide +kernel
theorem dL_act_168 : decode cL_act 168 = .ok (.iconst 4, 1) := by decide +kernel
theorem dL_act_169 : decode cL_act 169 = .ok (.ishr, 1) := by decide +kernel
theorem dL_act_170 : decode cL_act 170 = .ok (.iconst 4, 1) := by decide +kernel
theorem dL_act_171 : decode cL_act 171 = .ok (.invokestatic 71, 3) := by decide +kernel
theorem dL_act_174 : decode cL_act 174 = .ok (.ishl, 1) := by decide +kernel
theorem dL_act_175 : decode cL_act 175 = .ok (.invokevirtual 44, 3) := by decide +kernel
theorem dL_act_178 : decode cL_act 178 = .ok (.ireturn, 1) := by decide +kernel
theorem dL_act_179 : decode cL_act 179 = .ok (.aload_n 0, 1) := by decide +kernel
theorem dL_act_180 : decode cL_act 180 = .ok (.iload_n 1, 1) := by decide +kernel
theorem dL_act_181 : decode cL_act 181 = .ok (.iconst 4, 1) := by decide +kernel
theorem dL_act_182 : decode cL_act 182 = .ok (.ishr, 1) := by decide +kernel
theorem dL_act_183 : decode cL_act 183 = .ok (.bipush 8, 2) := by decide +kernel
theorem dL_act_185 : decode cL_act 185 = .ok (.invokestatic 71, 3) := by decide +kernel
theorem dL_act_188 : decode cL_act 188 = .ok (.invokevirtual 47, 3) := by decide +kernel
theorem dL_act_191 : decode cL_act 191 = .ok (.ireturn, 1) := by decide +kernel
theorem dL_act_192 : decode cL_act 192 = .ok (.aload_n 0, 1) := by decide +kernel
theorem dL_act_193 : decode cL_act 193 = .ok (.iload_n 1, 1) := by decide +kernel
theorem dL_act_194 : decode cL_act 194 = .ok (.iconst 4, 1) := by decide +kernel
theorem dL_act_195 : decode cL_act 195 = .ok (.ishr, 1) := by decide +kernel
theorem dL_act_196 : decode cL_act 196 = .ok (.bipush 8, 2) := by decide +kernel
theorem dL_act_198 : decode cL_act 198 = .ok (.invokestatic 71, 3) := by decide +kernel
theorem dL_act_201 : decode cL_act 201 = .ok (.invokevirtual 50, 3) := by decide +kernel
theorem dL_act_204 : decode cL_act 204 = .ok (.ireturn, 1) := by decide +kernel
theorem dL_act_205 : decode cL_act 205 = .ok (.aload_n 0, 1) := by decide +kernel
theorem dL_act_206 : decode cL_act 206 = .ok (.iload_n 1, 1) := by decide +kernel
theorem dL_act_207 : decode cL_act 207 = .ok (.iconst 4, 1) := by decide +kernel
theorem dL_act_208 : decode cL_act 208 = .ok (.ishr, 1) := by decide +kernel
theorem dL_act_209 : decode cL_act 209 = .ok (.bipush 10, 2) := by decide +kernel
theorem dL_act_211 : decode cL_act 211 = .ok (.invokestatic 71, 3) := by decide +kernel
theorem dL_act_214 : decode cL_act 214 = .ok (.invokevirtual 53, 3) := by decide +kernel
theorem dL_act_217 : decode cL_act 217 = .ok (.ireturn, 1) := by decide +kernel
theorem dL_act_218 : decode cL_act 218 = .ok (.iload_n 1, 1) := by decide +kernel
theorem dL_act_219 : decode cL_act 219 = .ok (.iconst 4, 1) := by decide +kernel
theorem dL_act_220 : decode cL_act 220 = .ok (.ishr, 1) := by decide +kernel
theorem dL_act_221 : decode cL_act 221 = .ok (.iconst 1, 1) := by decide +kernel
theorem dL_act_222 : decode cL_act 222 = .ok (.iand, 1) := by decide +kernel
theorem dL_act_223 : decode cL_act 223 = .ok (.ifCond .ne 10, 3) := by decide +kernel
theorem dL_act_226 : decode cL_act 226 = .ok (.aload_n 0, 1) := by decide +kernel
theorem dL_act_227 : decode cL_act 227 = .ok (.invokevirtual 94, 3) := by decide +kernel
theorem dL_act_230 : decode cL_act 230 = .ok (.goto 14, 3) := by decide +kernel
theorem dL_act_233 : decode cL_act 233 = .ok (.aload_n 0, 1) := by decide +kernel
theorem dL_act_234 : decode cL_act 234 = .ok (.iload_n 1, 1) := by decide +kernel
theorem dL_act_235 : decode cL_act 235 = .ok (.iconst 5, 1) := by decide +kernel
theorem dL_act_236 : decode cL_act 236 = .ok (.ishr, 1) := by decide +kernel
theorem dL_act_237 : decode cL_act 237 = .ok (.iconst 3, 1) := by decide +kernel
theorem dL_act_238 : decode cL_act 238 = .ok (.invokestatic 71, 3) := by decide +kernel
theorem dL_act_241 : decode cL_act 241 = .ok (.invokevirtual 53, 3) := by decide +kernel
theorem dL_act_244 : decode cL_act 244 = .ok (.ireturn, 1) := by decide +kernel
set_option maxRecDepth 20000 in
theorem ggL_mark_X3_count : GoodIn wsL_mark wsX3_count := goodIn_r _ [7, 8, 9, 10, 11, 12, 13, 14, 15, 16, 17, 18, 19, 20, 21, 22, 23, 24, 25, 26, 27, 28, 29, 30, 31, 32, 33, 34, 35, 36, 37, 38, 39, 40, 41, 42, 43, 44, 45, 46, 47, 48, 49, 50, 6, 51, 52, 53, 54, 55, 56, 57, 58, 59, 60, 61, 110, 111, 112, 113, 114, 115, 116, 117, 118, 119, 120, 121, 122, 123] (by decide +kernel) (by decide +kernel)
set_option maxRecDepth 20000 in
theorem gL_mark_X3_count : GoodIn wsL_mark (wsV RL 13 RX3 yX3_count wsX3_count) := goodIn_app (goodIn_of _ (by decide +kernel)) ggL_mark_X3_count
set_option maxRecDepth 20000 in
theorem ggL_mark_X3_slot : GoodIn wsL_mark wsX3_slot := goodIn_r _ [65, 8, 66, 67, 68, 14, 69, 16, 50, 6, 51, 52, 53, 70, 71, 72, 73, 74, 32, 110, 111, 112, 113, 114, 115, 116, 117, 118, 119, 120] (by decide +kernel) (by decide +kernel)
set_option maxRecDepth 20000 in
theorem gL_mark_X3_slot : GoodIn wsL_mark (wsV RL 19 RX3 yX3_slot wsX3_slot) := goodIn_app (goodIn_of _ (by decide +kernel)) ggL_mark_X3_slot
set_option maxRecDepth 20000 in
theorem ggL_mark_X3_word : GoodIn wsL_mark wsX3_word := goodIn_r _ [78, 8, 33, 18, 19, 20, 21, 22, 23, 79, 80, 81, 14, 82, 83, 84, 39, 40, 41, 16, 85, 86, 87, 88, 38, 89, 6, 90, 110, 111, 112, 113, 114, 115, 116, 117, 118, 119, 120] (by decide +kernel) (by decide +kernel)
set_option maxRecDepth 20000 in
theorem gL_mark_X3_word : GoodIn wsL_mark (wsV RL 23 RX3 yX3_word wsX3_word) := goodIn_app (goodIn_of _ (by decide +kernel)) ggL_mark_X3_word
set_option maxRecDepth 20000 in
theorem ggL_mark_X3_block : GoodIn wsL_mark wsX3_block := goodIn_r _ [94, 8, 95, 29, 30, 14, 31, 32, 96, 97, 98, 99, 16, 74, 50, 6, 51, 100, 101, 102, 103, 104, 105, 106, 59, 60, 61, 107, 108, 109, 17, 18, 19, 20, 21, 22, 23, 110, 111, 112, 113, 114, 115, 116, 117, 118, 119, 120] (by decide +kernel) (by decide +kernel)
set_option maxRecDepth 20000 in
theorem gL_mark_X3_block : GoodIn wsL_mark (wsV RL 26 RX3 yX3_block wsX3_block) := goodIn_app (goodIn_of _ (by decide +kernel)) ggL_mark_X3_block
theorem dL_mark_0 : decode cL_mark 0 = .ok (.ldc2_w 9, 3) := by decide +kernel
theorem dL_mark_3 : decode cL_mark 3 = .ok (.lstore_n 1, 1) := by decide +kernel
theorem dL_mark_4 : decode cL_mark 4 = .ok (.iconst 0, 1) := by decide +kernel
theorem dL_mark_5 : decode cL_mark 5 = .ok (.istore_n 3, 1) := by decide +kernel
theorem dL_mark_6 : decode cL_mark 6 = .ok (.iload_n 3, 1) := by decide +kernel
theorem dL_mark_7 : decode cL_mark 7 = .ok (.bipush 10, 2) := by decide +kernel
theorem dL_mark_9 : decode cL_mark 9 = .ok (.if_icmp .ge 22, 3) := by decide +kernel
theorem dL_mark_12 : decode cL_mark 12 = .ok (.ldc2_w 11, 3) := by decide +kernel
theorem dL_mark_15 : decode cL_mark 15 = .ok (.lload_n 1, 1) := by decide +kernel
theorem dL_mark_16 : decode cL_mark 16 = .ok (.lmul, 1) := by decide +kernel
theorem dL_mark_17 : decode cL_mark 17 = .ok (.aload_n 0, 1) := by decide +kernel
theorem dL_mark_18 : decode cL_mark 18 = .ok (.iload_n 3, 1) := by decide +kernel
theorem dL_mark_19 : decode cL_mark 19 = .ok (.invokevirtual 13, 3) := by decide +kernel
theorem dL_mark_22 : decode cL_mark 22 = .ok (.i2l, 1) := by decide +kernel
theorem dL_mark_23 : decode cL_mark 23 = .ok (.ladd, 1) := by decide +kernel
theorem dL_mark_24 : decode cL_mark 24 = .ok (.lstore_n 1, 1) := by decide +kernel
theorem dL_mark_25 : decode cL_mark 25 = .ok (.iinc 3 1, 3) := by decide +kernel
theorem dL_mark_28 : decode cL_mark 28 = .ok (.goto (-22), 3) := by decide +kernel
theorem dL_mark_31 : decode cL_mark 31 = .ok (.iconst 0, 1) := by decide +kernel
theorem dL_mark_32 : decode cL_mark 32 = .ok (.istore_n 3, 1) := by decide +kernel
theorem dL_mark_33 : decode cL_mark 33 = .ok (.iload_n 3, 1) := by decide +kernel
theorem dL_mark_34 : decode cL_mark 34 = .ok (.sipush 320, 3) := by decide +kernel
theorem dL_mark_37 : decode cL_mark 37 = .ok (.if_icmp .ge 35, 3) := by decide +kernel
theorem dL_mark_40 : decode cL_mark 40 = .ok (.ldc2_w 11, 3) := by decide +kernel
theorem dL_mark_43 : decode cL_mark 43 = .ok (.ldc2_w 11, 3) := by decide +kernel
theorem dL_mark_46 : decode cL_mark 46 = .ok (.lload_n 1, 1) := by decide +kernel
theorem dL_mark_47 : decode cL_mark 47 = .ok (.lmul, 1) := by decide +kernel
theorem dL_mark_48 : decode cL_mark 48 = .ok (.aload_n 0, 1) := by decide +kernel
theorem dL_mark_49 : decode cL_mark 49 = .ok (.iload_n 3, 1) := by decide +kernel
theorem dL_mark_50 : decode cL_mark 50 = .ok (.iconst 0, 1) := by decide +kernel
theorem dL_mark_51 : decode cL_mark 51 = .ok (.invokevirtual 19, 3) := by decide +kernel
theorem dL_mark_54 : decode cL_mark 54 = .ok (.i2l, 1) := by decide +kernel
theorem dL_mark_55 : decode cL_mark 55 = .ok (.ladd, 1) := by decide +kernel
theorem dL_mark_56 : decode cL_mark 56 = .ok (.lmul, 1) := by decide +kernel
theorem dL_mark_57 : decode cL_mark 57 = .ok (.aload_n 0, 1) := by decide +kernel
theorem dL_mark_58 : decode cL_mark 58 = .ok (.iload_n 3, 1) := by decide +kernel
theorem dL_mark_59 : decode cL_mark 59 = .ok (.iconst 1, 1) := by decide +kernel
theorem dL_mark_60 : decode cL_mark 60 = .ok (.invokevirtual 19, 3) := by decide +kernel
theorem dL_mark_63 : decode cL_mark 63 = .ok (.i2l, 1) := by decide +kernel
theorem dL_mark_64 : decode cL_mark 64 = .ok (.ladd, 1) := by decide +kernel
theorem dL_mark_65 : decode cL_mark 65 = .ok (.lstore_n 1, 1) := by decide +kernel
theorem dL_mark_66 : decode cL_mark 66 = .ok (.iinc 3 1, 3) := by decide +kernel
theorem dL_mark_69 : decode cL_mark 69 = .ok (.goto (-36), 3) := by decide +kernel
theorem dL_mark_72 : decode cL_mark 72 = .ok (.iconst 0, 1) := by decide +kernel
theorem dL_mark_73 : decode cL_mark 73 = .ok (.istore_n 3, 1) := by decide +kernel
theorem dL_mark_74 : decode cL_mark 74 = .ok (.iload_n 3, 1) := by decide +kernel
theorem dL_mark_75 : decode cL_mark 75 = .ok (.bipush 10, 2) := by decide +kernel
theorem dL_mark_77 : decode cL_mark 77 = .ok (.if_icmp .ge 23, 3) := by decide +kernel
theorem dL_mark_80 : decode cL_mark 80 = .ok (.ldc2_w 11, 3) := by decide +kernel
theorem dL_mark_83 : decode cL_mark 83 = .ok (.lload_n 1, 1) := by decide +kernel
theorem dL_mark_84 : decode cL_mark 84 = .ok (.lmul, 1) := by decide +kernel
theorem dL_mark_85 : decode cL_mark 85 = .ok (.aload_n 0, 1) := by decide +kernel
theorem dL_mark_86 : decode cL_mark 86 = .ok (.iload_n 3, 1) := by decide +kernel
theorem dL_mark_87 : decode cL_mark 87 = .ok (.iconst 4, 1) := by decide +kernel
theorem dL_mark_88 : decode cL_mark 88 = .ok (.invokevirtual 23, 3) := by decide +kernel
theorem dL_mark_91 : decode cL_mark 91 = .ok (.i2l, 1) := by decide +kernel
theorem dL_mark_92 : decode cL_mark 92 = .ok (.ladd, 1) := by decide +kernel
theorem dL_mark_93 : decode cL_mark 93 = .ok (.lstore_n 1, 1) := by decide +kernel
theorem dL_mark_94 : decode cL_mark 94 = .ok (.iinc 3 1, 3) := by decide +kernel
theorem dL_mark_97 : decode cL_mark 97 = .ok (.goto (-23), 3) := by decide +kernel
theorem dL_mark_100 : decode cL_mark 100 = .ok (.iconst 0, 1) := by decide +kernel
theorem dL_mark_101 : decode cL_mark 101 = .ok (.istore_n 3, 1) := by decide +kernel
theorem dL_mark_102 : decode cL_mark 102 = .ok (.iload_n 3, 1) := by decide +kernel
theorem dL_mark_103 : decode cL_mark 103 = .ok (.bipush 8, 2) := by decide +kernel
theorem dL_mark_105 : decode cL_mark 105 = .ok (.if_icmp .ge 35, 3) := by decide +kernel
theorem dL_mark_108 : decode cL_mark 108 = .ok (.ldc2_w 11, 3) := by decide +kernel
theorem dL_mark_111 : decode cL_mark 111 = .ok (.ldc2_w 11, 3) := by decide +kernel
theorem dL_mark_114 : decode cL_mark 114 = .ok (.lload_n 1, 1) := by decide +kernel
theorem dL_mark_115 : decode cL_mark 115 = .ok (.lmul, 1) := by decide +kernel
theorem dL_mark_116 : decode cL_mark 116 = .ok (.aload_n 0, 1) := by decide +kernel
theorem dL_mark_117 : decode cL_mark 117 = .ok (.iload_n 3, 1) := by decide +kernel
theorem dL_mark_118 : decode cL_mark 118 = .ok (.iconst 0, 1) := by decide +kernel
theorem dL_mark_119 : decode cL_mark 119 = .ok (.invokevirtual 26, 3) := by decide +kernel
theorem dL_mark_122 : decode cL_mark 122 = .ok (.i2l, 1) := by decide +kernel
theorem dL_mark_123 : decode cL_mark 123 = .ok (.ladd, 1) := by decide +kernel
theorem dL_mark_124 : decode cL_mark 124 = .ok (.lmul, 1) := by decide +kernel
theorem dL_mark_125 : decode cL_mark 125 = .ok (.aload_n 0, 1) := by decide +kernel
theorem dL_mark_126 : decode cL_mark 126 = .ok (.iload_n 3, 1) := by decide +kernel
theorem dL_mark_127 : decode cL_mark 127 = .ok (.iconst 1, 1) := by decide +kernel
theorem dL_mark_128 : decode cL_mark 128 = .ok (.invokevirtual 26, 3) := by decide +kernel
theorem dL_mark_131 : decode cL_mark 131 = .ok (.i2l, 1) := by decide +kernel
theorem dL_mark_132 : decode cL_mark 132 = .ok (.ladd, 1) := by decide +kernel
theorem dL_mark_133 : decode cL_mark 133 = .ok (.lstore_n 1, 1) := by decide +kernel
theorem dL_mark_134 : decode cL_mark 134 = .ok (.iinc 3 1, 3) := by decide +kernel
theorem dL_mark_137 : decode cL_mark 137 = .ok (.goto (-35), 3) := by decide +kernel
theorem dL_mark_140 : decode cL_mark 140 = .ok (.lload_n 1, 1) := by decide +kernel
theorem dL_mark_141 : decode cL_mark 141 = .ok (.lreturn, 1) := by decide +kernel
