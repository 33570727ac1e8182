theorem dX4_init_0 : decode cX4_init 0 = .ok (.aload_n 0, 1) := by decide +kernel
theorem dX4_init_1 : decode cX4_init 1 = .ok (.invokespecial 1, 3) := by decide +kernel
theorem dX4_init_4 : decode cX4_init 4 = .ok (.aload_n 0, 1) := by decide +kernel
theorem dX4_init_5 : decode cX4_init 5 = .ok (.sipush 667, 3) := by decide +kernel
theorem dX4_init_8 : decode cX4_init 8 = .ok (.newarray .int, 2) := by decide +kernel
theorem dX4_init_10 : decode cX4_init 10 = .ok (.putfield 7, 3) := by decide +kernel
theorem dX4_init_13 : decode cX4_init 13 = .ok (.aload_n 0, 1) := by decide +kernel
theorem dX4_init_14 : decode cX4_init 14 = .ok (.sipush 3335, 3) := by decide +kernel
theorem dX4_init_17 : decode cX4_init 17 = .ok (.newarray .int, 2) := by decide +kernel
theorem dX4_init_19 : decode cX4_init 19 = .ok (.putfield 13, 3) := by decide +kernel
theorem dX4_init_22 : decode cX4_init 22 = .ok (.aload_n 0, 1) := by decide +kernel
theorem dX4_init_23 : decode cX4_init 23 = .ok (.sipush 667, 3) := by decide +kernel
theorem dX4_init_26 : decode cX4_init 26 = .ok (.newarray .int, 2) := by decide +kernel
theorem dX4_init_28 : decode cX4_init 28 = .ok (.putfield 16, 3) := by decide +kernel
theorem dX4_init_31 : decode cX4_init 31 = .ok (.aload_n 0, 1) := by decide +kernel
theorem dX4_init_32 : decode cX4_init 32 = .ok (.sipush 667, 3) := by decide +kernel
theorem dX4_init_35 : decode cX4_init 35 = .ok (.newarray .int, 2) := by decide +kernel
theorem dX4_init_37 : decode cX4_init 37 = .ok (.putfield 19, 3) := by decide +kernel
theorem dX4_init_40 : decode cX4_init 40 = .ok (.aload_n 0, 1) := by decide +kernel
theorem dX4_init_41 : decode cX4_init 41 = .ok (.bipush 80, 2) := by decide +kernel
theorem dX4_init_43 : decode cX4_init 43 = .ok (.newarray .int, 2) := by decide +kernel
theorem dX4_init_45 : decode cX4_init 45 = .ok (.putfield 22, 3) := by decide +kernel
theorem dX4_init_48 : decode cX4_init 48 = .ok (.return_, 1) := by decide +kernel
theorem dX4_in_0 : decode cX4_in 0 = .ok (.iload_n 0, 1) := by decide +kernel
theorem dX4_in_1 : decode cX4_in 1 = .ok (.iload_n 1, 1) := by decide +kernel
theorem dX4_in_2 : decode cX4_in 2 = .ok (.if_icmp .lt 12, 3) := by decide +kernel
theorem dX4_in_5 : decode cX4_in 5 = .ok (.iload_n 0, 1) := by decide +kernel
theorem dX4_in_6 : decode cX4_in 6 = .ok (.iload_n 2, 1) := by decide +kernel
theorem dX4_in_7 : decode cX4_in 7 = .ok (.if_icmp .gt 7, 3) := by decide +kernel
theorem dX4_in_10 : decode cX4_in 10 = .ok (.iconst 1, 1) := by decide +kernel
theorem dX4_in_11 : decode cX4_in 11 = .ok (.goto 4, 3) := by decide +kernel
theorem dX4_in_14 : decode cX4_in 14 = .ok (.iconst 0, 1) := by decide +kernel
theorem dX4_in_15 : decode cX4_in 15 = .ok (.ireturn, 1) := by decide +kernel
theorem dX4_copies_0 : decode cX4_copies 0 = .ok (.iconst 0, 1) := by decide +kernel
theorem dX4_copies_1 : decode cX4_copies 1 = .ok (.istore 4, 2) := by decide +kernel
theorem dX4_copies_3 : decode cX4_copies 3 = .ok (.iload 4, 2) := by decide +kernel
theorem dX4_copies_5 : decode cX4_copies 5 = .ok (.sipush 667, 3) := by decide +kernel
theorem dX4_copies_8 : decode cX4_copies 8 = .ok (.if_icmp .ge 21, 3) := by decide +kernel
theorem dX4_copies_11 : decode cX4_copies 11 = .ok (.aload_n 2, 1) := by decide +kernel
theorem dX4_copies_12 : decode cX4_copies 12 = .ok (.iload_n 3, 1) := by decide +kernel
theorem dX4_copies_13 : decode cX4_copies 13 = .ok (.iload 4, 2) := by decide +kernel
theorem dX4_copies_15 : decode cX4_copies 15 = .ok (.iadd, 1) := by decide +kernel
theorem dX4_copies_16 : decode cX4_copies 16 = .ok (.aload_n 0, 1) := by decide +kernel
theorem dX4_copies_17 : decode cX4_copies 17 = .ok (.iload_n 1, 1) := by decide +kernel
theorem dX4_copies_18 : decode cX4_copies 18 = .ok (.iload 4, 2) := by decide +kernel
theorem dX4_copies_20 : decode cX4_copies 20 = .ok (.iadd, 1) := by decide +kernel
theorem dX4_copies_21 : decode cX4_copies 21 = .ok (.iaload, 1) := by decide +kernel
theorem dX4_copies_22 : decode cX4_copies 22 = .ok (.iastore, 1) := by decide +kernel
theorem dX4_copies_23 : decode cX4_copies 23 = .ok (.iinc 4 1, 3) := by decide +kernel
theorem dX4_copies_26 : decode cX4_copies 26 = .ok (.goto (-23), 3) := by decide +kernel
theorem dX4_copies_29 : decode cX4_copies 29 = .ok (.return_, 1) := by decide +kernel
set_option maxRecDepth 20000 in
theorem ggX4_notes_X4_copies : GoodIn wsX4_notes wsX4_copies := goodIn_r _ [6] (by decide +kernel) (by decide +kernel)
set_option maxRecDepth 20000 in
theorem gX4_notes_X4_copies : GoodIn wsX4_notes (va_wsS RX4 25 yX4_copies wsX4_copies) := goodIn_app (goodIn_of _ (by decide +kernel)) ggX4_notes_X4_copies
theorem dX4_notes_0 : decode cX4_notes 0 = .ok (.aload_n 0, 1) := by decide +kernel
theorem dX4_notes_1 : decode cX4_notes 1 = .ok (.getfield 7, 3) := by decide +kernel
theorem dX4_notes_4 : decode cX4_notes 4 = .ok (.iconst 0, 1) := by decide +kernel
theorem dX4_notes_5 : decode cX4_notes 5 = .ok (.aload_n 0, 1) := by decide +kernel
theorem dX4_notes_6 : decode cX4_notes 6 = .ok (.getfield 16, 3) := by decide +kernel
theorem dX4_notes_9 : decode cX4_notes 9 = .ok (.iconst 0, 1) := by decide +kernel
theorem dX4_notes_10 : decode cX4_notes 10 = .ok (.invokestatic 25, 3) := by decide +kernel
theorem dX4_notes_13 : decode cX4_notes 13 = .ok (.return_, 1) := by decide +kernel
set_option maxRecDepth 20000 in
theorem ggX4_ends_X4_copies : GoodIn wsX4_ends wsX4_copies := goodIn_r _ [8] (by decide +kernel) (by decide +kernel)
set_option maxRecDepth 20000 in
theorem gX4_ends_X4_copies : GoodIn wsX4_ends (va_wsS RX4 25 yX4_copies wsX4_copies) := goodIn_app (goodIn_of _ (by decide +kernel)) ggX4_ends_X4_copies
theorem dX4_ends_0 : decode cX4_ends 0 = .ok (.iload_n 1, 1) := by decide +kernel
theorem dX4_ends_1 : decode cX4_ends 1 = .ok (.ifCond .ge 18, 3) := by decide +kernel
theorem dX4_ends_4 : decode cX4_ends 4 = .ok (.aload_n 0, 1) := by decide +kernel
theorem dX4_ends_5 : decode cX4_ends 5 = .ok (.getfield 16, 3) := by decide +kernel
theorem dX4_ends_8 : decode cX4_ends 8 = .ok (.iconst 0, 1) := by decide +kernel
theorem dX4_ends_9 : decode cX4_ends 9 = .ok (.aload_n 0, 1) := by decide +kernel
theorem dX4_ends_10 : decode cX4_ends 10 = .ok (.getfield 7, 3) := by decide +kernel
theorem dX4_ends_13 : decode cX4_ends 13 = .ok (.iconst 0, 1) := by decide +kernel
theorem dX4_ends_14 : decode cX4_ends 14 = .ok (.invokestatic 25, 3) := by decide +kernel
theorem dX4_ends_17 : decode cX4_ends 17 = .ok (.iload_n 1, 1) := by decide +kernel
theorem dX4_ends_18 : decode cX4_ends 18 = .ok (.ireturn, 1) := by decide +kernel
theorem dX4_ends_19 : decode cX4_ends 19 = .ok (.aload_n 0, 1) := by decide +kernel
theorem dX4_ends_20 : decode cX4_ends 20 = .ok (.getfield 29, 3) := by decide +kernel
theorem dX4_ends_23 : decode cX4_ends 23 = .ok (.iconst 5, 1) := by decide +kernel
theorem dX4_ends_24 : decode cX4_ends 24 = .ok (.if_icmp .ne 39, 3) := by decide +kernel
theorem dX4_ends_27 : decode cX4_ends 27 = .ok (.iconst 0, 1) := by decide +kernel
theorem dX4_ends_28 : decode cX4_ends 28 = .ok (.istore_n 2, 1) := by decide +kernel
theorem dX4_ends_29 : decode cX4_ends 29 = .ok (.iload_n 2, 1) := by decide +kernel
theorem dX4_ends_30 : decode cX4_ends 30 = .ok (.sipush 2668, 3) := by decide +kernel
theorem dX4_ends_33 : decode cX4_ends 33 = .ok (.if_icmp .ge 25, 3) := by decide +kernel
theorem dX4_ends_36 : decode cX4_ends 36 = .ok (.aload_n 0, 1) := by decide +kernel
theorem dX4_ends_37 : decode cX4_ends 37 = .ok (.getfield 13, 3) := by decide +kernel
theorem dX4_ends_40 : decode cX4_ends 40 = .ok (.iload_n 2, 1) := by decide +kernel
theorem dX4_ends_41 : decode cX4_ends 41 = .ok (.aload_n 0, 1) := by decide +kernel
theorem dX4_ends_42 : decode cX4_ends 42 = .ok (.getfield 13, 3) := by decide +kernel
theorem dX4_ends_45 : decode cX4_ends 45 = .ok (.iload_n 2, 1) := by decide +kernel
theorem dX4_ends_46 : decode cX4_ends 46 = .ok (.sipush 667, 3) := by decide +kernel
theorem dX4_ends_49 : decode cX4_ends 49 = .ok (.iadd, 1) := by decide +kernel
theorem dX4_ends_50 : decode cX4_ends 50 = .ok (.iaload, 1) := by decide +kernel
theorem dX4_ends_51 : decode cX4_ends 51 = .ok (.iastore, 1) := by decide +kernel
theorem dX4_ends_52 : decode cX4_ends 52 = .ok (.iinc 2 1, 3) := by decide +kernel
theorem dX4_ends_55 : decode cX4_ends 55 = .ok (.goto (-26), 3) := by decide +kernel
theorem dX4_ends_58 : decode cX4_ends 58 = .ok (.aload_n 0, 1) := by decide +kernel
theorem dX4_ends_59 : decode cX4_ends 59 = .ok (.iconst 4, 1) := by decide +kernel
theorem dX4_ends_60 : decode cX4_ends 60 = .ok (.putfield 29, 3) := by decide +kernel
theorem dX4_ends_63 : decode cX4_ends 63 = .ok (.aload_n 0, 1) := by decide +kernel
theorem dX4_ends_64 : decode cX4_ends 64 = .ok (.getfield 16, 3) := by decide +kernel
theorem dX4_ends_67 : decode cX4_ends 67 = .ok (.iconst 0, 1) := by decide +kernel
theorem dX4_ends_68 : decode cX4_ends 68 = .ok (.aload_n 0, 1) := by decide +kernel
theorem dX4_ends_69 : decode cX4_ends 69 = .ok (.getfield 13, 3) := by decide +kernel
theorem dX4_ends_72 : decode cX4_ends 72 = .ok (.aload_n 0, 1) := by decide +kernel
theorem dX4_ends_73 : decode cX4_ends 73 = .ok (.getfield 29, 3) := by decide +kernel
theorem dX4_ends_76 : decode cX4_ends 76 = .ok (.sipush 667, 3) := by decide +kernel
theorem dX4_ends_79 : decode cX4_ends 79 = .ok (.imul, 1) := by decide +kernel
theorem dX4_ends_80 : decode cX4_ends 80 = .ok (.invokestatic 25, 3) := by decide +kernel
theorem dX4_ends_83 : decode cX4_ends 83 = .ok (.aload_n 0, 1) := by decide +kernel
theorem dX4_ends_84 : decode cX4_ends 84 = .ok (.dup, 1) := by decide +kernel
theorem dX4_ends_85 : decode cX4_ends 85 = .ok (.getfield 29, 3) := by decide +kernel
theorem dX4_ends_88 : decode cX4_ends 88 = .ok (.iconst 1, 1) := by decide +kernel
theorem dX4_ends_89 : decode cX4_ends 89 = .ok (.iadd, 1) := by decide +kernel
theorem dX4_ends_90 : decode cX4_ends 90 = .ok (.putfield 29, 3) := by decide +kernel
theorem dX4_ends_93 : decode cX4_ends 93 = .ok (.iload_n 1, 1) := by decide +kernel
theorem dX4_ends_94 : decode cX4_ends 94 = .ok (.ireturn, 1) := by decide +kernel
theorem dX4_inWord_0 : decode cX4_inWord 0 = .ok (.iconst 0, 1) := by decide +kernel
theorem dX4_inWord_1 : decode cX4_inWord 1 = .ok (.istore_n 3, 1) := by decide +kernel
theorem dX4_inWord_2 : decode cX4_inWord 2 = .ok (.bipush 32, 2) := by decide +kernel
theorem dX4_inWord_4 : decode cX4_inWord 4 = .ok (.iload_n 1, 1) := by decide +kernel
theorem dX4_inWord_5 : decode cX4_inWord 5 = .ok (.imul, 1) := by decide +kernel
theorem dX4_inWord_6 : decode cX4_inWord 6 = .ok (.istore 4, 2) := by decide +kernel
theorem dX4_inWord_8 : decode cX4_inWord 8 = .ok (.iload 4, 2) := by decide +kernel
theorem dX4_inWord_10 : decode cX4_inWord 10 = .ok (.bipush 32, 2) := by decide +kernel
theorem dX4_inWord_12 : decode cX4_inWord 12 = .ok (.iload_n 1, 1) := by decide +kernel
theorem dX4_inWord_13 : decode cX4_inWord 13 = .ok (.imul, 1) := by decide +kernel
theorem dX4_inWord_14 : decode cX4_inWord 14 = .ok (.bipush 32, 2) := by decide +kernel
theorem dX4_inWord_16 : decode cX4_inWord 16 = .ok (.iadd, 1) := by decide +kernel
theorem dX4_inWord_17 : decode cX4_inWord 17 = .ok (.if_icmp .ge 28, 3) := by decide +kernel
theorem dX4_inWord_20 : decode cX4_inWord 20 = .ok (.iload_n 3, 1) := by decide +kernel
theorem dX4_inWord_21 : decode cX4_inWord 21 = .ok (.aload_n 0, 1) := by decide +kernel
theorem dX4_inWord_22 : decode cX4_inWord 22 = .ok (.getfield 7, 3) := by decide +kernel
theorem dX4_inWord_25 : decode cX4_inWord 25 = .ok (.iload 4, 2) := by decide +kernel
theorem dX4_inWord_27 : decode cX4_inWord 27 = .ok (.iaload, 1) := by decide +kernel
theorem dX4_inWord_28 : decode cX4_inWord 28 = .ok (.iload_n 2, 1) := by decide +kernel
theorem dX4_inWord_29 : decode cX4_inWord 29 = .ok (.if_icmp .ne 7, 3) := by decide +kernel
theorem dX4_inWord_32 : decode cX4_inWord 32 = .ok (.iconst 1, 1) := by decide +kernel
theorem dX4_inWord_33 : decode cX4_inWord 33 = .ok (.goto 4, 3) := by decide +kernel
theorem dX4_inWord_36 : decode cX4_inWord 36 = .ok (.iconst 0, 1) := by decide +kernel
theorem dX4_inWord_37 : decode cX4_inWord 37 = .ok (.iadd, 1) := by decide +kernel
theorem dX4_inWord_38 : decode cX4_inWord 38 = .ok (.istore_n 3, 1) := by decide +kernel
theorem dX4_inWord_39 : decode cX4_inWord 39 = .ok (.iinc 4 1, 3) := by decide +kernel
theorem dX4_inWord_42 : decode cX4_inWord 42 = .ok (.goto (-34), 3) := by decide +kernel
theorem dX4_inWord_45 : decode cX4_inWord 45 = .ok (.iload_n 3, 1) := by decide +kernel
theorem dX4_inWord_46 : decode cX4_inWord 46 = .ok (.ireturn, 1) := by decide +kernel
set_option maxRecDepth 20000 in
theorem ggX4_inAll_X4_inWord : GoodIn wsX4_inAll wsX4_inWord := goodIn_r _ [5, 6, 7, 8, 9, 10, 11, 12, 13, 14] (by decide +kernel) (by decide +kernel)
set_option maxRecDepth 20000 in
theorem gX4_inAll_X4_inWord : GoodIn wsX4_inAll (wsV RX4 33 RX4 yX4_inWord wsX4_inWord) := goodIn_app (goodIn_of _ (by decide +kernel)) ggX4_inAll_X4_inWord
theorem dX4_inAll_0 : decode cX4_inAll 0 = .ok (.iconst 0, 1) := by decide +kernel
theorem dX4_inAll_1 : decode cX4_inAll 1 = .ok (.istore_n 2, 1) := by decide +kernel
theorem dX4_inAll_2 : decode cX4_inAll 2 = .ok (.iconst 0, 1) := by decide +kernel
theorem dX4_inAll_3 : decode cX4_inAll 3 = .ok (.istore_n 3, 1) := by decide +kernel
theorem dX4_inAll_4 : decode cX4_inAll 4 = .ok (.iload_n 3, 1) := by decide +kernel
theorem dX4_inAll_5 : decode cX4_inAll 5 = .ok (.bipush 10, 2) := by decide +kernel
theorem dX4_inAll_7 : decode cX4_inAll 7 = .ok (.if_icmp .ge 18, 3) := by decide +kernel
theorem dX4_inAll_10 : decode cX4_inAll 10 = .ok (.iload_n 2, 1) := by decide +kernel
theorem dX4_inAll_11 : decode cX4_inAll 11 = .ok (.aload_n 0, 1) := by decide +kernel
theorem dX4_inAll_12 : decode cX4_inAll 12 = .ok (.iload_n 3, 1) := by decide +kernel
theorem dX4_inAll_13 : decode cX4_inAll 13 = .ok (.iload_n 1, 1) := by decide +kernel
theorem dX4_inAll_14 : decode cX4_inAll 14 = .ok (.invokevirtual 33, 3) := by decide +kernel
theorem dX4_inAll_17 : decode cX4_inAll 17 = .ok (.iadd, 1) := by decide +kernel
theorem dX4_inAll_18 : decode cX4_inAll 18 = .ok (.istore_n 2, 1) := by decide +kernel
theorem dX4_inAll_19 : decode cX4_inAll 19 = .ok (.iinc 3 1, 3) := by decide +kernel
theorem dX4_inAll_22 : decode cX4_inAll 22 = .ok (.goto (-18), 3) := by decide +kernel
theorem dX4_inAll_25 : decode cX4_inAll 25 = .ok (.iload_n 2, 1) := by decide +kernel
theorem dX4_inAll_26 : decode cX4_inAll 26 = .ok (.ireturn, 1) := by decide +kernel
set_option maxRecDepth 20000 in
theorem ggX4_right_X4_inWord : GoodIn wsX4_right wsX4_inWord := goodIn_r _ [5, 6, 7, 8, 9, 10, 11, 12, 13, 14] (by decide +kernel) (by decide +kernel)
set_option maxRecDepth 20000 in
theorem gX4_right_X4_inWord : GoodIn wsX4_right (wsV RX4 33 RX4 yX4_inWord wsX4_inWord) := goodIn_app (goodIn_of _ (by decide +kernel)) ggX4_right_X4_inWord
theorem dX4_right_0 : decode cX4_right 0 = .ok (.aload_n 0, 1) := by decide +kernel
theorem dX4_right_1 : decode cX4_right 1 = .ok (.iload_n 1, 1) := by decide +kernel
theorem dX4_right_2 : decode cX4_right 2 = .ok (.iconst 0, 1) := by decide +kernel
theorem dX4_right_3 : decode cX4_right 3 = .ok (.invokevirtual 33, 3) := by decide +kernel
theorem dX4_right_6 : decode cX4_right 6 = .ok (.ifCond .ne 7, 3) := by decide +kernel
theorem dX4_right_9 : decode cX4_right 9 = .ok (.iconst 1, 1) := by decide +kernel
theorem dX4_right_10 : decode cX4_right 10 = .ok (.goto 4, 3) := by decide +kernel
theorem dX4_right_13 : decode cX4_right 13 = .ok (.iconst 0, 1) := by decide +kernel
theorem dX4_right_14 : decode cX4_right 14 = .ok (.ireturn, 1) := by decide +kernel
set_option maxRecDepth 20000 in
theorem ggX4_becomes_X4_right : GoodIn wsX4_becomes wsX4_right := goodIn_r _ [6, 7, 8, 9, 5, 10, 1, 11, 12, 13, 14, 15, 16, 17, 18] (by decide +kernel) (by decide +kernel)
set_option maxRecDepth 20000 in
theorem gX4_becomes_X4_right : GoodIn wsX4_becomes (wsV RX4 37 RX4 yX4_right wsX4_right) := goodIn_app (goodIn_of _ (by decide +kernel)) ggX4_becomes_X4_right
theorem dX4_becomes_0 : decode cX4_becomes 0 = .ok (.aload_n 0, 1) := by decide +kernel
theorem dX4_becomes_1 : decode cX4_becomes 1 = .ok (.getfield 7, 3) := by decide +kernel
theorem dX4_becomes_4 : decode cX4_becomes 4 = .ok (.iload_n 1, 1) := by decide +kernel
theorem dX4_becomes_5 : decode cX4_becomes 5 = .ok (.iload_n 2, 1) := by decide +kernel
theorem dX4_becomes_6 : decode cX4_becomes 6 = .ok (.iastore, 1) := by decide +kernel
theorem dX4_becomes_7 : decode cX4_becomes 7 = .ok (.aload_n 0, 1) := by decide +kernel
theorem dX4_becomes_8 : decode cX4_becomes 8 = .ok (.getfield 7, 3) := by decide +kernel
theorem dX4_becomes_11 : decode cX4_becomes 11 = .ok (.sipush 640, 3) := by decide +kernel
theorem dX4_becomes_14 : decode cX4_becomes 14 = .ok (.iload_n 1, 1) := by decide +kernel
theorem dX4_becomes_15 : decode cX4_becomes 15 = .ok (.bipush 32, 2) := by decide +kernel
theorem dX4_becomes_17 : decode cX4_becomes 17 = .ok (.idiv, 1) := by decide +kernel
theorem dX4_becomes_18 : decode cX4_becomes 18 = .ok (.iadd, 1) := by decide +kernel
theorem dX4_becomes_19 : decode cX4_becomes 19 = .ok (.aload_n 0, 1) := by decide +kernel
theorem dX4_becomes_20 : decode cX4_becomes 20 = .ok (.iload_n 1, 1) := by decide +kernel
theorem dX4_becomes_21 : decode cX4_becomes 21 = .ok (.bipush 32, 2) := by decide +kernel
theorem dX4_becomes_23 : decode cX4_becomes 23 = .ok (.idiv, 1) := by decide +kernel
theorem dX4_becomes_24 : decode cX4_becomes 24 = .ok (.invokevirtual 37, 3) := by decide +kernel
theorem dX4_becomes_27 : decode cX4_becomes 27 = .ok (.iastore, 1) := by decide +kernel
theorem dX4_becomes_28 : decode cX4_becomes 28 = .ok (.return_, 1) := by decide +kernel
theorem dX4_firstIn_0 : decode cX4_firstIn 0 = .ok (.bipush 32, 2) := by decide +kernel
theorem dX4_firstIn_2 : decode cX4_firstIn 2 = .ok (.iload_n 1, 1) := by decide +kernel
theorem dX4_firstIn_3 : decode cX4_firstIn 3 = .ok (.imul, 1) := by decide +kernel
theorem dX4_firstIn_4 : decode cX4_firstIn 4 = .ok (.istore_n 2, 1) := by decide +kernel
theorem dX4_firstIn_5 : decode cX4_firstIn 5 = .ok (.iload_n 2, 1) := by decide +kernel
theorem dX4_firstIn_6 : decode cX4_firstIn 6 = .ok (.bipush 32, 2) := by decide +kernel
theorem dX4_firstIn_8 : decode cX4_firstIn 8 = .ok (.iload_n 1, 1) := by decide +kernel
theorem dX4_firstIn_9 : decode cX4_firstIn 9 = .ok (.imul, 1) := by decide +kernel
theorem dX4_firstIn_10 : decode cX4_firstIn 10 = .ok (.bipush 32, 2) := by decide +kernel
theorem dX4_firstIn_12 : decode cX4_firstIn 12 = .ok (.iadd, 1) := by decide +kernel
theorem dX4_firstIn_13 : decode cX4_firstIn 13 = .ok (.if_icmp .ge 20, 3) := by decide +kernel
theorem dX4_firstIn_16 : decode cX4_firstIn 16 = .ok (.aload_n 0, 1) := by decide +kernel
theorem dX4_firstIn_17 : decode cX4_firstIn 17 = .ok (.getfield 7, 3) := by decide +kernel
theorem dX4_firstIn_20 : decode cX4_firstIn 20 = .ok (.iload_n 2, 1) := by decide +kernel
theorem dX4_firstIn_21 : decode cX4_firstIn 21 = .ok (.iaload, 1) := by decide +kernel
theorem dX4_firstIn_22 : decode cX4_firstIn 22 = .ok (.ifCond .ne 5, 3) := by decide +kernel
theorem dX4_firstIn_25 : decode cX4_firstIn 25 = .ok (.iload_n 2, 1) := by decide +kernel
theorem dX4_firstIn_26 : decode cX4_firstIn 26 = .ok (.ireturn, 1) := by decide +kernel
theorem dX4_firstIn_27 : decode cX4_firstIn 27 = .ok (.iinc 2 1, 3) := by decide +kernel
theorem dX4_firstIn_30 : decode cX4_firstIn 30 = .ok (.goto (-25), 3) := by decide +kernel
theorem dX4_firstIn_33 : decode cX4_firstIn 33 = .ok (.bipush (-9), 2) := by decide +kernel
theorem dX4_firstIn_35 : decode cX4_firstIn 35 = .ok (.ireturn, 1) := by decide +kernel
set_option maxRecDepth 20000 in
theorem ggX4_goesThrough_X4_firstIn : GoodIn wsX4_goesThrough wsX4_firstIn := goodIn_r _ [6, 1, 19, 20, 21, 22, 23, 24, 25, 26] (by decide +kernel) (by decide +kernel)
set_option maxRecDepth 20000 in
theorem gX4_goesThrough_X4_firstIn : GoodIn wsX4_goesThrough (wsV RX4 41 RX4 yX4_firstIn wsX4_firstIn) := goodIn_app (goodIn_of _ (by decide +kernel)) ggX4_goesThrough_X4_firstIn
set_option maxRecDepth 20000 in
theorem ggX4_goesThrough_X4_becomes : GoodIn wsX4_goesThrough wsX4_becomes := goodIn_r _ [10, 1, 11, 12, 13, 5, 14, 15, 16, 17, 18, 19, 20, 21, 22, 23, 24, 25, 26] (by decide +kernel) (by decide +kernel)
set_option maxRecDepth 20000 in
theorem gX4_goesThrough_X4_becomes : GoodIn wsX4_goesThrough (wsV RX4 44 RX4 yX4_becomes wsX4_becomes) := goodIn_app (goodIn_of _ (by decide +kernel)) ggX4_goesThrough_X4_becomes
theorem dX4_goesThrough_0 : decode cX4_goesThrough 0 = .ok (.iconst 0, 1) := by decide +kernel
theorem dX4_goesThrough_1 : decode cX4_goesThrough 1 = .ok (.istore_n 1, 1) := by decide +kernel
theorem dX4_goesThrough_2 : decode cX4_goesThrough 2 = .ok (.iload_n 1, 1) := by decide +kernel
theorem dX4_goesThrough_3 : decode cX4_goesThrough 3 = .ok (.bipush 10, 2) := by decide +kernel
theorem dX4_goesThrough_5 : decode cX4_goesThrough 5 = .ok (.if_icmp .ge 65, 3) := by decide +kernel
theorem dX4_goesThrough_8 : decode cX4_goesThrough 8 = .ok (.aload_n 0, 1) := by decide +kernel
theorem dX4_goesThrough_9 : decode cX4_goesThrough 9 = .ok (.getfield 7, 3) := by decide +kernel
theorem dX4_goesThrough_12 : decode cX4_goesThrough 12 = .ok (.sipush 640, 3) := by decide +kernel
theorem dX4_goesThrough_15 : decode cX4_goesThrough 15 = .ok (.iload_n 1, 1) := by decide +kernel
theorem dX4_goesThrough_16 : decode cX4_goesThrough 16 = .ok (.iadd, 1) := by decide +kernel
theorem dX4_goesThrough_17 : decode cX4_goesThrough 17 = .ok (.iaload, 1) := by decide +kernel
theorem dX4_goesThrough_18 : decode cX4_goesThrough 18 = .ok (.ifCond .ne 46, 3) := by decide +kernel
theorem dX4_goesThrough_21 : decode cX4_goesThrough 21 = .ok (.aload_n 0, 1) := by decide +kernel
theorem dX4_goesThrough_22 : decode cX4_goesThrough 22 = .ok (.getfield 7, 3) := by decide +kernel
theorem dX4_goesThrough_25 : decode cX4_goesThrough 25 = .ok (.sipush 666, 3) := by decide +kernel
theorem dX4_goesThrough_28 : decode cX4_goesThrough 28 = .ok (.dup2, 1) := by decide +kernel
theorem dX4_goesThrough_29 : decode cX4_goesThrough 29 = .ok (.iaload, 1) := by decide +kernel
theorem dX4_goesThrough_30 : decode cX4_goesThrough 30 = .ok (.iconst 1, 1) := by decide +kernel
theorem dX4_goesThrough_31 : decode cX4_goesThrough 31 = .ok (.iadd, 1) := by decide +kernel
theorem dX4_goesThrough_32 : decode cX4_goesThrough 32 = .ok (.iastore, 1) := by decide +kernel
theorem dX4_goesThrough_33 : decode cX4_goesThrough 33 = .ok (.aload_n 0, 1) := by decide +kernel
theorem dX4_goesThrough_34 : decode cX4_goesThrough 34 = .ok (.iload_n 1, 1) := by decide +kernel
theorem dX4_goesThrough_35 : decode cX4_goesThrough 35 = .ok (.invokevirtual 41, 3) := by decide +kernel
theorem dX4_goesThrough_38 : decode cX4_goesThrough 38 = .ok (.istore_n 2, 1) := by decide +kernel
theorem dX4_goesThrough_39 : decode cX4_goesThrough 39 = .ok (.iload_n 2, 1) := by decide +kernel
theorem dX4_goesThrough_40 : decode cX4_goesThrough 40 = .ok (.bipush (-9), 2) := by decide +kernel
theorem dX4_goesThrough_42 : decode cX4_goesThrough 42 = .ok (.if_icmp .eq 11, 3) := by decide +kernel
theorem dX4_goesThrough_45 : decode cX4_goesThrough 45 = .ok (.aload_n 0, 1) := by decide +kernel
theorem dX4_goesThrough_46 : decode cX4_goesThrough 46 = .ok (.iload_n 2, 1) := by decide +kernel
theorem dX4_goesThrough_47 : decode cX4_goesThrough 47 = .ok (.iconst 1, 1) := by decide +kernel
theorem dX4_goesThrough_48 : decode cX4_goesThrough 48 = .ok (.invokevirtual 44, 3) := by decide +kernel
theorem dX4_goesThrough_51 : decode cX4_goesThrough 51 = .ok (.iload_n 2, 1) := by decide +kernel
theorem dX4_goesThrough_52 : decode cX4_goesThrough 52 = .ok (.ireturn, 1) := by decide +kernel
theorem dX4_goesThrough_53 : decode cX4_goesThrough 53 = .ok (.aload_n 0, 1) := by decide +kernel
theorem dX4_goesThrough_54 : decode cX4_goesThrough 54 = .ok (.getfield 7, 3) := by decide +kernel
theorem dX4_goesThrough_57 : decode cX4_goesThrough 57 = .ok (.sipush 640, 3) := by decide +kernel
theorem dX4_goesThrough_60 : decode cX4_goesThrough 60 = .ok (.iload_n 1, 1) := by decide +kernel
theorem dX4_goesThrough_61 : decode cX4_goesThrough 61 = .ok (.iadd, 1) := by decide +kernel
theorem dX4_goesThrough_62 : decode cX4_goesThrough 62 = .ok (.iconst 1, 1) := by decide +kernel
theorem dX4_goesThrough_63 : decode cX4_goesThrough 63 = .ok (.iastore, 1) := by decide +kernel
theorem dX4_goesThrough_64 : decode cX4_goesThrough 64 = .ok (.iinc 1 1, 3) := by decide +kernel
theorem dX4_goesThrough_67 : decode cX4_goesThrough 67 = .ok (.goto (-65), 3) := by decide +kernel
theorem dX4_goesThrough_70 : decode cX4_goesThrough 70 = .ok (.bipush (-9), 2) := by decide +kernel
theorem dX4_goesThrough_72 : decode cX4_goesThrough 72 = .ok (.ireturn, 1) := by decide +kernel
set_option maxRecDepth 20000 in
theorem ggX4_clears_X4_inWord : GoodIn wsX4_clears wsX4_inWord := goodIn_r _ [6, 1, 15, 16, 17, 18, 19, 20, 21, 22] (by decide +kernel) (by decide +kernel)
set_option maxRecDepth 20000 in
theorem gX4_clears_X4_inWord : GoodIn wsX4_clears (wsV RX4 33 RX4 yX4_inWord wsX4_inWord) := goodIn_app (goodIn_of _ (by decide +kernel)) ggX4_clears_X4_inWord
set_option maxRecDepth 20000 in
theorem ggX4_clears_X4_becomes : GoodIn wsX4_clears wsX4_becomes := goodIn_r _ [10, 1, 11, 12, 13, 5, 14, 2, 3, 4, 6, 15, 16, 17, 18, 19, 20, 21, 22] (by decide +kernel) (by decide +kernel)
set_option maxRecDepth 20000 in
theorem gX4_clears_X4_becomes : GoodIn wsX4_clears (wsV RX4 44 RX4 yX4_becomes wsX4_becomes) := goodIn_app (goodIn_of _ (by decide +kernel)) ggX4_clears_X4_becomes
theorem dX4_clears_0 : decode cX4_clears 0 = .ok (.iconst 0, 1) := by decide +kernel
theorem dX4_clears_1 : decode cX4_clears 1 = .ok (.istore_n 2, 1) := by decide +kernel
theorem dX4_clears_2 : decode cX4_clears 2 = .ok (.iload_n 1, 1) := by decide +kernel
theorem dX4_clears_3 : decode cX4_clears 3 = .ok (.istore_n 3, 1) := by decide +kernel
theorem dX4_clears_4 : decode cX4_clears 4 = .ok (.iconst 0, 1) := by decide +kernel
theorem dX4_clears_5 : decode cX4_clears 5 = .ok (.istore 4, 2) := by decide +kernel
theorem dX4_clears_7 : decode cX4_clears 7 = .ok (.iload 4, 2) := by decide +kernel
theorem dX4_clears_9 : decode cX4_clears 9 = .ok (.bipush 10, 2) := by decide +kernel
theorem dX4_clears_11 : decode cX4_clears 11 = .ok (.if_icmp .ge 78, 3) := by decide +kernel
theorem dX4_clears_14 : decode cX4_clears 14 = .ok (.iload_n 3, 1) := by decide +kernel
theorem dX4_clears_15 : decode cX4_clears 15 = .ok (.ifCond .le 74, 3) := by decide +kernel
theorem dX4_clears_18 : decode cX4_clears 18 = .ok (.iload_n 3, 1) := by decide +kernel
theorem dX4_clears_19 : decode cX4_clears 19 = .ok (.aload_n 0, 1) := by decide +kernel
theorem dX4_clears_20 : decode cX4_clears 20 = .ok (.iload 4, 2) := by decide +kernel
theorem dX4_clears_22 : decode cX4_clears 22 = .ok (.iconst 2, 1) := by decide +kernel
theorem dX4_clears_23 : decode cX4_clears 23 = .ok (.invokevirtual 33, 3) := by decide +kernel
theorem dX4_clears_26 : decode cX4_clears 26 = .ok (.ifCond .le 7, 3) := by decide +kernel
theorem dX4_clears_29 : decode cX4_clears 29 = .ok (.iconst 1, 1) := by decide +kernel
theorem dX4_clears_30 : decode cX4_clears 30 = .ok (.goto 4, 3) := by decide +kernel
theorem dX4_clears_33 : decode cX4_clears 33 = .ok (.iconst 0, 1) := by decide +kernel
theorem dX4_clears_34 : decode cX4_clears 34 = .ok (.isub, 1) := by decide +kernel
theorem dX4_clears_35 : decode cX4_clears 35 = .ok (.istore_n 3, 1) := by decide +kernel
theorem dX4_clears_36 : decode cX4_clears 36 = .ok (.bipush 32, 2) := by decide +kernel
theorem dX4_clears_38 : decode cX4_clears 38 = .ok (.iload 4, 2) := by decide +kernel
theorem dX4_clears_40 : decode cX4_clears 40 = .ok (.imul, 1) := by decide +kernel
theorem dX4_clears_41 : decode cX4_clears 41 = .ok (.istore 5, 2) := by decide +kernel
theorem dX4_clears_43 : decode cX4_clears 43 = .ok (.iload 5, 2) := by decide +kernel
theorem dX4_clears_45 : decode cX4_clears 45 = .ok (.bipush 32, 2) := by decide +kernel
theorem dX4_clears_47 : decode cX4_clears 47 = .ok (.iload 4, 2) := by decide +kernel
theorem dX4_clears_49 : decode cX4_clears 49 = .ok (.imul, 1) := by decide +kernel
theorem dX4_clears_50 : decode cX4_clears 50 = .ok (.bipush 32, 2) := by decide +kernel
theorem dX4_clears_52 : decode cX4_clears 52 = .ok (.iadd, 1) := by decide +kernel
theorem dX4_clears_53 : decode cX4_clears 53 = .ok (.if_icmp .ge 30, 3) := by decide +kernel
theorem dX4_clears_56 : decode cX4_clears 56 = .ok (.aload_n 0, 1) := by decide +kernel
theorem dX4_clears_57 : decode cX4_clears 57 = .ok (.getfield 7, 3) := by decide +kernel
theorem dX4_clears_60 : decode cX4_clears 60 = .ok (.iload 5, 2) := by decide +kernel
theorem dX4_clears_62 : decode cX4_clears 62 = .ok (.iaload, 1) := by decide +kernel
theorem dX4_clears_63 : decode cX4_clears 63 = .ok (.iconst 2, 1) := by decide +kernel
theorem dX4_clears_64 : decode cX4_clears 64 = .ok (.if_icmp .ne 13, 3) := by decide +kernel
theorem dX4_clears_67 : decode cX4_clears 67 = .ok (.aload_n 0, 1) := by decide +kernel
theorem dX4_clears_68 : decode cX4_clears 68 = .ok (.iload 5, 2) := by decide +kernel
theorem dX4_clears_70 : decode cX4_clears 70 = .ok (.iconst 0, 1) := by decide +kernel
theorem dX4_clears_71 : decode cX4_clears 71 = .ok (.invokevirtual 44, 3) := by decide +kernel
theorem dX4_clears_74 : decode cX4_clears 74 = .ok (.iinc 2 1, 3) := by decide +kernel
theorem dX4_clears_77 : decode cX4_clears 77 = .ok (.iinc 5 1, 3) := by decide +kernel
theorem dX4_clears_80 : decode cX4_clears 80 = .ok (.goto (-37), 3) := by decide +kernel
theorem dX4_clears_83 : decode cX4_clears 83 = .ok (.iinc 4 1, 3) := by decide +kernel
theorem dX4_clears_86 : decode cX4_clears 86 = .ok (.goto (-79), 3) := by decide +kernel
theorem dX4_clears_89 : decode cX4_clears 89 = .ok (.iload_n 2, 1) := by decide +kernel
theorem dX4_clears_90 : decode cX4_clears 90 = .ok (.ireturn, 1) := by decide +kernel
set_option maxRecDepth 20000 in
theorem ggX4_takes1_X4_goesThrough : GoodIn wsX4_takes1 wsX4_goesThrough := goodIn_r _ [5, 6, 7, 8, 9, 4, 10, 11, 12, 13, 14, 15, 16, 17, 18, 19, 20, 21, 22, 27, 28, 29, 30, 31, 32, 33, 34] (by decide +kernel) (by decide +kernel)
set_option maxRecDepth 20000 in
theorem gX4_takes1_X4_goesThrough : GoodIn wsX4_takes1 (wsV RX4 48 RX4 yX4_goesThrough wsX4_goesThrough) := goodIn_app (goodIn_of _ (by decide +kernel)) ggX4_takes1_X4_goesThrough
set_option maxRecDepth 20000 in
theorem ggX4_takes1_X4_clears : GoodIn wsX4_takes1 wsX4_clears := goodIn_r _ [26, 6, 19, 20, 21, 4, 22, 11, 12, 13, 14, 15, 16, 17, 18, 27, 28, 29, 30, 31, 32, 33, 34] (by decide +kernel) (by decide +kernel)
set_option maxRecDepth 20000 in
theorem gX4_takes1_X4_clears : GoodIn wsX4_takes1 (wsV RX4 52 RX4 yX4_clears wsX4_clears) := goodIn_app (goodIn_of _ (by decide +kernel)) ggX4_takes1_X4_clears
theorem dX4_takes1_0 : decode cX4_takes1 0 = .ok (.aload_n 0, 1) := by decide +kernel
theorem dX4_takes1_1 : decode cX4_takes1 1 = .ok (.invokevirtual 48, 3) := by decide +kernel
theorem dX4_takes1_4 : decode cX4_takes1 4 = .ok (.istore_n 1, 1) := by decide +kernel
theorem dX4_takes1_5 : decode cX4_takes1 5 = .ok (.iload_n 1, 1) := by decide +kernel
theorem dX4_takes1_6 : decode cX4_takes1 6 = .ok (.bipush (-9), 2) := by decide +kernel
theorem dX4_takes1_8 : decode cX4_takes1 8 = .ok (.if_icmp .ne 17, 3) := by decide +kernel
theorem dX4_takes1_11 : decode cX4_takes1 11 = .ok (.aload_n 0, 1) := by decide +kernel
theorem dX4_takes1_12 : decode cX4_takes1 12 = .ok (.bipush 10, 2) := by decide +kernel
theorem dX4_takes1_14 : decode cX4_takes1 14 = .ok (.invokevirtual 52, 3) := by decide +kernel
theorem dX4_takes1_17 : decode cX4_takes1 17 = .ok (.ifCond .le 8, 3) := by decide +kernel
theorem dX4_takes1_20 : decode cX4_takes1 20 = .ok (.aload_n 0, 1) := by decide +kernel
theorem dX4_takes1_21 : decode cX4_takes1 21 = .ok (.invokevirtual 48, 3) := by decide +kernel
theorem dX4_takes1_24 : decode cX4_takes1 24 = .ok (.istore_n 1, 1) := by decide +kernel
theorem dX4_takes1_25 : decode cX4_takes1 25 = .ok (.iload_n 1, 1) := by decide +kernel
theorem dX4_takes1_26 : decode cX4_takes1 26 = .ok (.bipush (-9), 2) := by decide +kernel
theorem dX4_takes1_28 : decode cX4_takes1 28 = .ok (.if_icmp .ne 8, 3) := by decide +kernel
theorem dX4_takes1_31 : decode cX4_takes1 31 = .ok (.bipush (-3), 2) := by decide +kernel
theorem dX4_takes1_33 : decode cX4_takes1 33 = .ok (.goto 4, 3) := by decide +kernel
theorem dX4_takes1_36 : decode cX4_takes1 36 = .ok (.iload_n 1, 1) := by decide +kernel
theorem dX4_takes1_37 : decode cX4_takes1 37 = .ok (.ireturn, 1) := by decide +kernel
set_option maxRecDepth 20000 in
theorem ggX4_take_X4_notes : GoodIn wsX4_take wsX4_notes := goodIn_r _ [5, 6, 7, 8, 9, 4, 10, 45, 46, 47, 48, 49, 50, 51, 52] (by decide +kernel) (by decide +kernel)
set_option maxRecDepth 20000 in
theorem gX4_take_X4_notes : GoodIn wsX4_take (wsV RX4 55 RX4 yX4_notes wsX4_notes) := goodIn_app (goodIn_of _ (by decide +kernel)) ggX4_take_X4_notes
set_option maxRecDepth 20000 in
theorem ggX4_take_X4_takes1 : GoodIn wsX4_take wsX4_takes1 := goodIn_r _ [14, 15, 16, 17, 4, 18, 6, 19, 20, 21, 22, 23, 24, 25, 26, 27, 28, 29, 30, 31, 32, 33, 34, 35, 36, 37, 38, 45, 46, 47, 48, 49, 50, 51, 52] (by decide +kernel) (by decide +kernel)
set_option maxRecDepth 20000 in
theorem gX4_take_X4_takes1 : GoodIn wsX4_take (wsV RX4 58 RX4 yX4_takes1 wsX4_takes1) := goodIn_app (goodIn_of _ (by decide +kernel)) ggX4_take_X4_takes1
set_option maxRecDepth 20000 in
theorem ggX4_take_X4_ends : GoodIn wsX4_take wsX4_ends := goodIn_r _ [42, 7, 6, 43, 44, 8, 9, 4, 10, 45, 46, 47, 48, 49, 50, 51, 52] (by decide +kernel) (by decide +kernel)
set_option maxRecDepth 20000 in
theorem gX4_take_X4_ends : GoodIn wsX4_take (wsV RX4 61 RX4 yX4_ends wsX4_ends) := goodIn_app (goodIn_of _ (by decide +kernel)) ggX4_take_X4_ends
theorem dX4_take_0 : decode cX4_take 0 = .ok (.aload_n 0, 1) := by decide +kernel
theorem dX4_take_1 : decode cX4_take 1 = .ok (.invokevirtual 55, 3) := by decide +kernel
theorem dX4_take_4 : decode cX4_take 4 = .ok (.aload_n 0, 1) := by decide +kernel
theorem dX4_take_5 : decode cX4_take 5 = .ok (.aload_n 0, 1) := by decide +kernel
theorem dX4_take_6 : decode cX4_take 6 = .ok (.invokevirtual 58, 3) := by decide +kernel
theorem dX4_take_9 : decode cX4_take 9 = .ok (.invokevirtual 61, 3) := by decide +kernel
theorem dX4_take_12 : decode cX4_take 12 = .ok (.ireturn, 1) := by decide +kernel
theorem dX4_runFrom_0 : decode cX4_runFrom 0 = .ok (.iconst 0, 1) := by decide +kernel
theorem dX4_runFrom_1 : decode cX4_runFrom 1 = .ok (.istore_n 2, 1) := by decide +kernel
theorem dX4_runFrom_2 : decode cX4_runFrom 2 = .ok (.iconst 0, 1) := by decide +kernel
theorem dX4_runFrom_3 : decode cX4_runFrom 3 = .ok (.istore_n 3, 1) := by decide +kernel
theorem dX4_runFrom_4 : decode cX4_runFrom 4 = .ok (.iload_n 3, 1) := by decide +kernel
theorem dX4_runFrom_5 : decode cX4_runFrom 5 = .ok (.sipush 320, 3) := by decide +kernel
theorem dX4_runFrom_8 : decode cX4_runFrom 8 = .ok (.if_icmp .ge 37, 3) := by decide +kernel
theorem dX4_runFrom_11 : decode cX4_runFrom 11 = .ok (.aload_n 0, 1) := by decide +kernel
theorem dX4_runFrom_12 : decode cX4_runFrom 12 = .ok (.getfield 7, 3) := by decide +kernel
theorem dX4_runFrom_15 : decode cX4_runFrom 15 = .ok (.iload_n 3, 1) := by decide +kernel
theorem dX4_runFrom_16 : decode cX4_runFrom 16 = .ok (.iaload, 1) := by decide +kernel
theorem dX4_runFrom_17 : decode cX4_runFrom 17 = .ok (.ifCond .ne 9, 3) := by decide +kernel
theorem dX4_runFrom_20 : decode cX4_runFrom 20 = .ok (.iload_n 2, 1) := by decide +kernel
theorem dX4_runFrom_21 : decode cX4_runFrom 21 = .ok (.iconst 1, 1) := by decide +kernel
theorem dX4_runFrom_22 : decode cX4_runFrom 22 = .ok (.iadd, 1) := by decide +kernel
theorem dX4_runFrom_23 : decode cX4_runFrom 23 = .ok (.goto 4, 3) := by decide +kernel
theorem dX4_runFrom_26 : decode cX4_runFrom 26 = .ok (.iconst 0, 1) := by decide +kernel
theorem dX4_runFrom_27 : decode cX4_runFrom 27 = .ok (.istore_n 2, 1) := by decide +kernel
theorem dX4_runFrom_28 : decode cX4_runFrom 28 = .ok (.iload_n 2, 1) := by decide +kernel
theorem dX4_runFrom_29 : decode cX4_runFrom 29 = .ok (.iload_n 1, 1) := by decide +kernel
theorem dX4_runFrom_30 : decode cX4_runFrom 30 = .ok (.if_icmp .ne 9, 3) := by decide +kernel
theorem dX4_runFrom_33 : decode cX4_runFrom 33 = .ok (.iload_n 3, 1) := by decide +kernel
theorem dX4_runFrom_34 : decode cX4_runFrom 34 = .ok (.iload_n 1, 1) := by decide +kernel
theorem dX4_runFrom_35 : decode cX4_runFrom 35 = .ok (.isub, 1) := by decide +kernel
theorem dX4_runFrom_36 : decode cX4_runFrom 36 = .ok (.iconst 1, 1) := by decide +kernel
theorem dX4_runFrom_37 : decode cX4_runFrom 37 = .ok (.iadd, 1) := by decide +kernel
theorem dX4_runFrom_38 : decode cX4_runFrom 38 = .ok (.ireturn, 1) := by decide +kernel
theorem dX4_runFrom_39 : decode cX4_runFrom 39 = .ok (.iinc 3 1, 3) := by decide +kernel
theorem dX4_runFrom_42 : decode cX4_runFrom 42 = .ok (.goto (-38), 3) := by decide +kernel
theorem dX4_runFrom_45 : decode cX4_runFrom 45 = .ok (.bipush (-9), 2) := by decide +kernel
theorem dX4_runFrom_47 : decode cX4_runFrom 47 = .ok (.ireturn, 1) := by decide +kernel
set_option maxRecDepth 20000 in
theorem ggX4_takeRun_X4_in : GoodIn wsX4_takeRun wsX4_in := goodIn_r _ [5] (by decide +kernel) (by decide +kernel)
set_option maxRecDepth 20000 in
theorem gX4_takeRun_X4_in : GoodIn wsX4_takeRun (va_wsS RX4 64 yX4_in wsX4_in) := goodIn_app (goodIn_of _ (by decide +kernel)) ggX4_takeRun_X4_in
set_option maxRecDepth 20000 in
theorem ggX4_takeRun_X4_runFrom : GoodIn wsX4_takeRun wsX4_runFrom := goodIn_r _ [9, 1, 36, 37, 38, 39, 40, 41, 42, 43] (by decide +kernel) (by decide +kernel)
set_option maxRecDepth 20000 in
theorem gX4_takeRun_X4_runFrom : GoodIn wsX4_takeRun (wsV RX4 68 RX4 yX4_runFrom wsX4_runFrom) := goodIn_app (goodIn_of _ (by decide +kernel)) ggX4_takeRun_X4_runFrom
set_option maxRecDepth 20000 in
theorem ggX4_takeRun_X4_notes : GoodIn wsX4_takeRun wsX4_notes := goodIn_r _ [13, 1, 14, 15, 16, 4, 17, 36, 37, 38, 39, 40, 41, 42, 43] (by decide +kernel) (by decide +kernel)
set_option maxRecDepth 20000 in
theorem gX4_takeRun_X4_notes : GoodIn wsX4_takeRun (wsV RX4 55 RX4 yX4_notes wsX4_notes) := goodIn_app (goodIn_of _ (by decide +kernel)) ggX4_takeRun_X4_notes
set_option maxRecDepth 20000 in
theorem ggX4_takeRun_X4_becomes : GoodIn wsX4_takeRun wsX4_becomes := goodIn_r _ [21, 1, 22, 23, 24, 4, 25, 26, 27, 28, 29, 36, 37, 38, 39, 40, 41, 42, 43] (by decide +kernel) (by decide +kernel)
set_option maxRecDepth 20000 in
theorem gX4_takeRun_X4_becomes : GoodIn wsX4_takeRun (wsV RX4 44 RX4 yX4_becomes wsX4_becomes) := goodIn_app (goodIn_of _ (by decide +kernel)) ggX4_takeRun_X4_becomes
set_option maxRecDepth 20000 in
theorem ggX4_takeRun_X4_ends : GoodIn wsX4_takeRun wsX4_ends := goodIn_r _ [33, 14, 1, 34, 35, 15, 16, 4, 17, 36, 37, 38, 39, 40, 41, 42, 43] (by decide +kernel) (by decide +kernel)
set_option maxRecDepth 20000 in
theorem gX4_takeRun_X4_ends : GoodIn wsX4_takeRun (wsV RX4 61 RX4 yX4_ends wsX4_ends) := goodIn_app (goodIn_of _ (by decide +kernel)) ggX4_takeRun_X4_ends
theorem dX4_takeRun_0 : decode cX4_takeRun 0 = .ok (.iload_n 1, 1) := by decide +kernel
theorem dX4_takeRun_1 : decode cX4_takeRun 1 = .ok (.iconst 1, 1) := by decide +kernel
theorem dX4_takeRun_2 : decode cX4_takeRun 2 = .ok (.bipush 64, 2) := by decide +kernel
theorem dX4_takeRun_4 : decode cX4_takeRun 4 = .ok (.invokestatic 64, 3) := by decide +kernel
theorem dX4_takeRun_7 : decode cX4_takeRun 7 = .ok (.ifCond .ne 5, 3) := by decide +kernel
theorem dX4_takeRun_10 : decode cX4_takeRun 10 = .ok (.iconst (-1), 1) := by decide +kernel
theorem dX4_takeRun_11 : decode cX4_takeRun 11 = .ok (.ireturn, 1) := by decide +kernel
theorem dX4_takeRun_12 : decode cX4_takeRun 12 = .ok (.aload_n 0, 1) := by decide +kernel
theorem dX4_takeRun_13 : decode cX4_takeRun 13 = .ok (.iload_n 1, 1) := by decide +kernel
theorem dX4_takeRun_14 : decode cX4_takeRun 14 = .ok (.invokevirtual 68, 3) := by decide +kernel
theorem dX4_takeRun_17 : decode cX4_takeRun 17 = .ok (.istore_n 2, 1) := by decide +kernel
theorem dX4_takeRun_18 : decode cX4_takeRun 18 = .ok (.iload_n 2, 1) := by decide +kernel
theorem dX4_takeRun_19 : decode cX4_takeRun 19 = .ok (.bipush (-9), 2) := by decide +kernel
theorem dX4_takeRun_21 : decode cX4_takeRun 21 = .ok (.if_icmp .ne 6, 3) := by decide +kernel
theorem dX4_takeRun_24 : decode cX4_takeRun 24 = .ok (.bipush (-3), 2) := by decide +kernel
theorem dX4_takeRun_26 : decode cX4_takeRun 26 = .ok (.ireturn, 1) := by decide +kernel
theorem dX4_takeRun_27 : decode cX4_takeRun 27 = .ok (.aload_n 0, 1) := by decide +kernel
theorem dX4_takeRun_28 : decode cX4_takeRun 28 = .ok (.invokevirtual 55, 3) := by decide +kernel
theorem dX4_takeRun_31 : decode cX4_takeRun 31 = .ok (.aload_n 0, 1) := by decide +kernel
theorem dX4_takeRun_32 : decode cX4_takeRun 32 = .ok (.getfield 7, 3) := by decide +kernel
theorem dX4_takeRun_35 : decode cX4_takeRun 35 = .ok (.sipush 666, 3) := by decide +kernel
theorem dX4_takeRun_38 : decode cX4_takeRun 38 = .ok (.dup2, 1) := by decide +kernel
theorem dX4_takeRun_39 : decode cX4_takeRun 39 = .ok (.iaload, 1) := by decide +kernel
theorem dX4_takeRun_40 : decode cX4_takeRun 40 = .ok (.iload_n 2, 1) := by decide +kernel
theorem dX4_takeRun_41 : decode cX4_takeRun 41 = .ok (.iload_n 1, 1) := by decide +kernel
theorem dX4_takeRun_42 : decode cX4_takeRun 42 = .ok (.iadd, 1) := by decide +kernel
theorem dX4_takeRun_43 : decode cX4_takeRun 43 = .ok (.iconst 1, 1) := by decide +kernel
theorem dX4_takeRun_44 : decode cX4_takeRun 44 = .ok (.isub, 1) := by decide +kernel
theorem dX4_takeRun_45 : decode cX4_takeRun 45 = .ok (.bipush 32, 2) := by decide +kernel
theorem dX4_takeRun_47 : decode cX4_takeRun 47 = .ok (.idiv, 1) := by decide +kernel
theorem dX4_takeRun_48 : decode cX4_takeRun 48 = .ok (.iconst 1, 1) := by decide +kernel
theorem dX4_takeRun_49 : decode cX4_takeRun 49 = .ok (.iadd, 1) := by decide +kernel
theorem dX4_takeRun_50 : decode cX4_takeRun 50 = .ok (.iadd, 1) := by decide +kernel
theorem dX4_takeRun_51 : decode cX4_takeRun 51 = .ok (.iastore, 1) := by decide +kernel
theorem dX4_takeRun_52 : decode cX4_takeRun 52 = .ok (.iload_n 2, 1) := by decide +kernel
theorem dX4_takeRun_53 : decode cX4_takeRun 53 = .ok (.istore_n 3, 1) := by decide +kernel
theorem dX4_takeRun_54 : decode cX4_takeRun 54 = .ok (.iload_n 3, 1) := by decide +kernel
theorem dX4_takeRun_55 : decode cX4_takeRun 55 = .ok (.iload_n 2, 1) := by decide +kernel
theorem dX4_takeRun_56 : decode cX4_takeRun 56 = .ok (.iload_n 1, 1) := by decide +kernel
theorem dX4_takeRun_57 : decode cX4_takeRun 57 = .ok (.iadd, 1) := by decide +kernel
theorem dX4_takeRun_58 : decode cX4_takeRun 58 = .ok (.if_icmp .ge 15, 3) := by decide +kernel
theorem dX4_takeRun_61 : decode cX4_takeRun 61 = .ok (.aload_n 0, 1) := by decide +kernel
theorem dX4_takeRun_62 : decode cX4_takeRun 62 = .ok (.iload_n 3, 1) := by decide +kernel
theorem dX4_takeRun_63 : decode cX4_takeRun 63 = .ok (.iconst 1, 1) := by decide +kernel
theorem dX4_takeRun_64 : decode cX4_takeRun 64 = .ok (.invokevirtual 44, 3) := by decide +kernel
theorem dX4_takeRun_67 : decode cX4_takeRun 67 = .ok (.iinc 3 1, 3) := by decide +kernel
theorem dX4_takeRun_70 : decode cX4_takeRun 70 = .ok (.goto (-16), 3) := by decide +kernel
theorem dX4_takeRun_73 : decode cX4_takeRun 73 = .ok (.aload_n 0, 1) := by decide +kernel
theorem dX4_takeRun_74 : decode cX4_takeRun 74 = .ok (.iload_n 2, 1) := by decide +kernel
theorem dX4_takeRun_75 : decode cX4_takeRun 75 = .ok (.invokevirtual 61, 3) := by decide +kernel
theorem dX4_takeRun_78 : decode cX4_takeRun 78 = .ok (.ireturn, 1) := by decide +kernel
set_option maxRecDepth 20000 in
theorem ggX4_givesBack_X4_in : GoodIn wsX4_givesBack wsX4_in := goodIn_r _ [5] (by decide +kernel) (by decide +kernel)
set_option maxRecDepth 20000 in
theorem gX4_givesBack_X4_in : GoodIn wsX4_givesBack (va_wsS RX4 64 yX4_in wsX4_in) := goodIn_app (goodIn_of _ (by decide +kernel)) ggX4_givesBack_X4_in
set_option maxRecDepth 20000 in
theorem ggX4_givesBack_X4_becomes : GoodIn wsX4_givesBack wsX4_becomes := goodIn_r _ [9, 1, 10, 11, 12, 4, 13, 14, 15, 16, 17, 18, 19, 20, 21, 22, 23, 24, 25] (by decide +kernel) (by decide +kernel)
set_option maxRecDepth 20000 in
theorem gX4_givesBack_X4_becomes : GoodIn wsX4_givesBack (wsV RX4 44 RX4 yX4_becomes wsX4_becomes) := goodIn_app (goodIn_of _ (by decide +kernel)) ggX4_givesBack_X4_becomes
theorem dX4_givesBack_0 : decode cX4_givesBack 0 = .ok (.iload_n 1, 1) := by decide +kernel
theorem dX4_givesBack_1 : decode cX4_givesBack 1 = .ok (.iconst 0, 1) := by decide +kernel
theorem dX4_givesBack_2 : decode cX4_givesBack 2 = .ok (.sipush 319, 3) := by decide +kernel
theorem dX4_givesBack_5 : decode cX4_givesBack 5 = .ok (.invokestatic 64, 3) := by decide +kernel
theorem dX4_givesBack_8 : decode cX4_givesBack 8 = .ok (.ifCond .eq 14, 3) := by decide +kernel
theorem dX4_givesBack_11 : decode cX4_givesBack 11 = .ok (.iload_n 2, 1) := by decide +kernel
theorem dX4_givesBack_12 : decode cX4_givesBack 12 = .ok (.iload_n 1, 1) := by decide +kernel
theorem dX4_givesBack_13 : decode cX4_givesBack 13 = .ok (.sipush 319, 3) := by decide +kernel
theorem dX4_givesBack_16 : decode cX4_givesBack 16 = .ok (.invokestatic 64, 3) := by decide +kernel
theorem dX4_givesBack_19 : decode cX4_givesBack 19 = .ok (.ifCond .ne 5, 3) := by decide +kernel
theorem dX4_givesBack_22 : decode cX4_givesBack 22 = .ok (.iconst (-1), 1) := by decide +kernel
theorem dX4_givesBack_23 : decode cX4_givesBack 23 = .ok (.ireturn, 1) := by decide +kernel
theorem dX4_givesBack_24 : decode cX4_givesBack 24 = .ok (.iconst 0, 1) := by decide +kernel
theorem dX4_givesBack_25 : decode cX4_givesBack 25 = .ok (.istore_n 3, 1) := by decide +kernel
theorem dX4_givesBack_26 : decode cX4_givesBack 26 = .ok (.iload_n 1, 1) := by decide +kernel
theorem dX4_givesBack_27 : decode cX4_givesBack 27 = .ok (.istore 4, 2) := by decide +kernel
theorem dX4_givesBack_29 : decode cX4_givesBack 29 = .ok (.iload 4, 2) := by decide +kernel
theorem dX4_givesBack_31 : decode cX4_givesBack 31 = .ok (.iload_n 2, 1) := by decide +kernel
theorem dX4_givesBack_32 : decode cX4_givesBack 32 = .ok (.if_icmp .gt 48, 3) := by decide +kernel
theorem dX4_givesBack_35 : decode cX4_givesBack 35 = .ok (.aload_n 0, 1) := by decide +kernel
theorem dX4_givesBack_36 : decode cX4_givesBack 36 = .ok (.getfield 7, 3) := by decide +kernel
theorem dX4_givesBack_39 : decode cX4_givesBack 39 = .ok (.iload 4, 2) := by decide +kernel
theorem dX4_givesBack_41 : decode cX4_givesBack 41 = .ok (.iaload, 1) := by decide +kernel
theorem dX4_givesBack_42 : decode cX4_givesBack 42 = .ok (.iconst 1, 1) := by decide +kernel
theorem dX4_givesBack_43 : decode cX4_givesBack 43 = .ok (.if_icmp .ne 31, 3) := by decide +kernel
theorem dX4_givesBack_46 : decode cX4_givesBack 46 = .ok (.aload_n 0, 1) := by decide +kernel
theorem dX4_givesBack_47 : decode cX4_givesBack 47 = .ok (.iload 4, 2) := by decide +kernel
theorem dX4_givesBack_49 : decode cX4_givesBack 49 = .ok (.aload_n 0, 1) := by decide +kernel
theorem dX4_givesBack_50 : decode cX4_givesBack 50 = .ok (.getfield 7, 3) := by decide +kernel
theorem dX4_givesBack_53 : decode cX4_givesBack 53 = .ok (.sipush 320, 3) := by decide +kernel
theorem dX4_givesBack_56 : decode cX4_givesBack 56 = .ok (.iload 4, 2) := by decide +kernel
theorem dX4_givesBack_58 : decode cX4_givesBack 58 = .ok (.iadd, 1) := by decide +kernel
theorem dX4_givesBack_59 : decode cX4_givesBack 59 = .ok (.iaload, 1) := by decide +kernel
theorem dX4_givesBack_60 : decode cX4_givesBack 60 = .ok (.ifCond .le 7, 3) := by decide +kernel
theorem dX4_givesBack_63 : decode cX4_givesBack 63 = .ok (.iconst 3, 1) := by decide +kernel
theorem dX4_givesBack_64 : decode cX4_givesBack 64 = .ok (.goto 4, 3) := by decide +kernel
theorem dX4_givesBack_67 : decode cX4_givesBack 67 = .ok (.iconst 2, 1) := by decide +kernel
theorem dX4_givesBack_68 : decode cX4_givesBack 68 = .ok (.invokevirtual 44, 3) := by decide +kernel
theorem dX4_givesBack_71 : decode cX4_givesBack 71 = .ok (.iinc 3 1, 3) := by decide +kernel
theorem dX4_givesBack_74 : decode cX4_givesBack 74 = .ok (.iinc 4 1, 3) := by decide +kernel
theorem dX4_givesBack_77 : decode cX4_givesBack 77 = .ok (.goto (-48), 3) := by decide +kernel
theorem dX4_givesBack_80 : decode cX4_givesBack 80 = .ok (.iload_n 3, 1) := by decide +kernel
theorem dX4_givesBack_81 : decode cX4_givesBack 81 = .ok (.ifCond .ne 8, 3) := by decide +kernel
theorem dX4_givesBack_84 : decode cX4_givesBack 84 = .ok (.bipush (-2), 2) := by decide +kernel
theorem dX4_givesBack_86 : decode cX4_givesBack 86 = .ok (.goto 4, 3) := by decide +kernel
theorem dX4_givesBack_89 : decode cX4_givesBack 89 = .ok (.iload_n 3, 1) := by decide +kernel
theorem dX4_givesBack_90 : decode cX4_givesBack 90 = .ok (.ireturn, 1) := by decide +kernel
set_option maxRecDepth 20000 in
theorem ggX4_giveBack_X4_notes : GoodIn wsX4_giveBack wsX4_notes := goodIn_r _ [5, 6, 7, 8, 9, 4, 10, 36, 37, 38, 39, 40, 41, 42, 43] (by decide +kernel) (by decide +kernel)
set_option maxRecDepth 20000 in
theorem gX4_giveBack_X4_notes : GoodIn wsX4_giveBack (wsV RX4 55 RX4 yX4_notes wsX4_notes) := goodIn_app (goodIn_of _ (by decide +kernel)) ggX4_giveBack_X4_notes
set_option maxRecDepth 20000 in
theorem ggX4_giveBack_X4_givesBack : GoodIn wsX4_giveBack wsX4_givesBack := goodIn_r _ [14, 6, 15, 16, 4, 17, 18, 19, 20, 21, 22, 23, 24, 25, 26, 27, 28, 29, 36, 37, 38, 39, 40, 41, 42, 43] (by decide +kernel) (by decide +kernel)
set_option maxRecDepth 20000 in
theorem gX4_giveBack_X4_givesBack : GoodIn wsX4_giveBack (wsV RX4 71 RX4 yX4_givesBack wsX4_givesBack) := goodIn_app (goodIn_of _ (by decide +kernel)) ggX4_giveBack_X4_givesBack
set_option maxRecDepth 20000 in
theorem ggX4_giveBack_X4_ends : GoodIn wsX4_giveBack wsX4_ends := goodIn_r _ [33, 7, 6, 34, 35, 8, 9, 4, 10, 36, 37, 38, 39, 40, 41, 42, 43] (by decide +kernel) (by decide +kernel)
set_option maxRecDepth 20000 in
theorem gX4_giveBack_X4_ends : GoodIn wsX4_giveBack (wsV RX4 61 RX4 yX4_ends wsX4_ends) := goodIn_app (goodIn_of _ (by decide +kernel)) ggX4_giveBack_X4_ends
theorem dX4_giveBack_0 : decode cX4_giveBack 0 = .ok (.aload_n 0, 1) := by decide +kernel
theorem dX4_giveBack_1 : decode cX4_giveBack 1 = .ok (.invokevirtual 55, 3) := by decide +kernel
theorem dX4_giveBack_4 : decode cX4_giveBack 4 = .ok (.aload_n 0, 1) := by decide +kernel
theorem dX4_giveBack_5 : decode cX4_giveBack 5 = .ok (.aload_n 0, 1) := by decide +kernel
theorem dX4_giveBack_6 : decode cX4_giveBack 6 = .ok (.iload_n 1, 1) := by decide +kernel
theorem dX4_giveBack_7 : decode cX4_giveBack 7 = .ok (.iload_n 2, 1) := by decide +kernel
theorem dX4_giveBack_8 : decode cX4_giveBack 8 = .ok (.invokevirtual 71, 3) := by decide +kernel
theorem dX4_giveBack_11 : decode cX4_giveBack 11 = .ok (.invokevirtual 61, 3) := by decide +kernel
theorem dX4_giveBack_14 : decode cX4_giveBack 14 = .ok (.ireturn, 1) := by decide +kernel
set_option maxRecDepth 20000 in
theorem ggX4_clearsSome_X4_in : GoodIn wsX4_clearsSome wsX4_in := goodIn_r _ [4] (by decide +kernel) (by decide +kernel)
set_option maxRecDepth 20000 in
theorem gX4_clearsSome_X4_in : GoodIn wsX4_clearsSome (va_wsS RX4 64 yX4_in wsX4_in) := goodIn_app (goodIn_of _ (by decide +kernel)) ggX4_clearsSome_X4_in
set_option maxRecDepth 20000 in
theorem ggX4_clearsSome_X4_clears : GoodIn wsX4_clearsSome wsX4_clears := goodIn_r _ [8, 9, 10, 11, 12, 3, 13, 14, 15, 16, 17, 18, 19, 20, 21, 22, 23, 24, 25, 26, 27, 28, 29] (by decide +kernel) (by decide +kernel)
set_option maxRecDepth 20000 in
theorem gX4_clearsSome_X4_clears : GoodIn wsX4_clearsSome (wsV RX4 52 RX4 yX4_clears wsX4_clears) := goodIn_app (goodIn_of _ (by decide +kernel)) ggX4_clearsSome_X4_clears
theorem dX4_clearsSome_0 : decode cX4_clearsSome 0 = .ok (.iload_n 1, 1) := by decide +kernel
theorem dX4_clearsSome_1 : decode cX4_clearsSome 1 = .ok (.iconst 1, 1) := by decide +kernel
theorem dX4_clearsSome_2 : decode cX4_clearsSome 2 = .ok (.bipush 10, 2) := by decide +kernel
theorem dX4_clearsSome_4 : decode cX4_clearsSome 4 = .ok (.invokestatic 64, 3) := by decide +kernel
theorem dX4_clearsSome_7 : decode cX4_clearsSome 7 = .ok (.ifCond .eq 11, 3) := by decide +kernel
theorem dX4_clearsSome_10 : decode cX4_clearsSome 10 = .ok (.aload_n 0, 1) := by decide +kernel
theorem dX4_clearsSome_11 : decode cX4_clearsSome 11 = .ok (.iload_n 1, 1) := by decide +kernel
theorem dX4_clearsSome_12 : decode cX4_clearsSome 12 = .ok (.invokevirtual 52, 3) := by decide +kernel
theorem dX4_clearsSome_15 : decode cX4_clearsSome 15 = .ok (.goto 4, 3) := by decide +kernel
theorem dX4_clearsSome_18 : decode cX4_clearsSome 18 = .ok (.iconst (-1), 1) := by decide +kernel
theorem dX4_clearsSome_19 : decode cX4_clearsSome 19 = .ok (.ireturn, 1) := by decide +kernel
set_option maxRecDepth 20000 in
theorem ggX4_clear_X4_notes : GoodIn wsX4_clear wsX4_notes := goodIn_r _ [5, 6, 7, 8, 9, 4, 10, 40, 41, 42, 43, 44, 45, 46, 47] (by decide +kernel) (by decide +kernel)
set_option maxRecDepth 20000 in
theorem gX4_clear_X4_notes : GoodIn wsX4_clear (wsV RX4 55 RX4 yX4_notes wsX4_notes) := goodIn_app (goodIn_of _ (by decide +kernel)) ggX4_clear_X4_notes
set_option maxRecDepth 20000 in
theorem ggX4_clear_X4_clearsSome : GoodIn wsX4_clear wsX4_clearsSome := goodIn_r _ [14, 15, 16, 4, 17, 18, 19, 20, 21, 6, 22, 23, 24, 25, 26, 27, 28, 29, 30, 31, 32, 33, 40, 41, 42, 43, 44, 45, 46, 47] (by decide +kernel) (by decide +kernel)
set_option maxRecDepth 20000 in
theorem gX4_clear_X4_clearsSome : GoodIn wsX4_clear (wsV RX4 74 RX4 yX4_clearsSome wsX4_clearsSome) := goodIn_app (goodIn_of _ (by decide +kernel)) ggX4_clear_X4_clearsSome
set_option maxRecDepth 20000 in
theorem ggX4_clear_X4_ends : GoodIn wsX4_clear wsX4_ends := goodIn_r _ [37, 7, 6, 38, 39, 8, 9, 4, 10, 40, 41, 42, 43, 44, 45, 46, 47] (by decide +kernel) (by decide +kernel)
set_option maxRecDepth 20000 in
theorem gX4_clear_X4_ends : GoodIn wsX4_clear (wsV RX4 61 RX4 yX4_ends wsX4_ends) := goodIn_app (goodIn_of _ (by decide +kernel)) ggX4_clear_X4_ends
theorem dX4_clear_0 : decode cX4_clear 0 = .ok (.aload_n 0, 1) := by decide +kernel
theorem dX4_clear_1 : decode cX4_clear 1 = .ok (.invokevirtual 55, 3) := by decide +kernel
theorem dX4_clear_4 : decode cX4_clear 4 = .ok (.aload_n 0, 1) := by decide +kernel
theorem dX4_clear_5 : decode cX4_clear 5 = .ok (.aload_n 0, 1) := by decide +kernel
theorem dX4_clear_6 : decode cX4_clear 6 = .ok (.iload_n 1, 1) := by decide +kernel
theorem dX4_clear_7 : decode cX4_clear 7 = .ok (.invokevirtual 74, 3) := by decide +kernel
theorem dX4_clear_10 : decode cX4_clear 10 = .ok (.invokevirtual 61, 3) := by decide +kernel
theorem dX4_clear_13 : decode cX4_clear 13 = .ok (.ireturn, 1) := by decide +kernel
set_option maxRecDepth 20000 in
theorem ggX4_isBlock_X4_in : GoodIn wsX4_isBlock wsX4_in := goodIn_r _ [5] (by decide +kernel) (by decide +kernel)
set_option maxRecDepth 20000 in
theorem gX4_isBlock_X4_in : GoodIn wsX4_isBlock (va_wsS RX4 64 yX4_in wsX4_in) := goodIn_app (goodIn_of _ (by decide +kernel)) ggX4_isBlock_X4_in
theorem dX4_isBlock_0 : decode cX4_isBlock 0 = .ok (.iload_n 1, 1) := by decide +kernel
theorem dX4_isBlock_1 : decode cX4_isBlock 1 = .ok (.iconst 0, 1) := by decide +kernel
theorem dX4_isBlock_2 : decode cX4_isBlock 2 = .ok (.bipush 7, 2) := by decide +kernel
theorem dX4_isBlock_4 : decode cX4_isBlock 4 = .ok (.invokestatic 64, 3) := by decide +kernel
theorem dX4_isBlock_7 : decode cX4_isBlock 7 = .ok (.ifCond .eq 24, 3) := by decide +kernel
theorem dX4_isBlock_10 : decode cX4_isBlock 10 = .ok (.aload_n 0, 1) := by decide +kernel
theorem dX4_isBlock_11 : decode cX4_isBlock 11 = .ok (.getfield 7, 3) := by decide +kernel
theorem dX4_isBlock_14 : decode cX4_isBlock 14 = .ok (.sipush 650, 3) := by decide +kernel
theorem dX4_isBlock_17 : decode cX4_isBlock 17 = .ok (.iconst 2, 1) := by decide +kernel
theorem dX4_isBlock_18 : decode cX4_isBlock 18 = .ok (.iload_n 1, 1) := by decide +kernel
theorem dX4_isBlock_19 : decode cX4_isBlock 19 = .ok (.imul, 1) := by decide +kernel
theorem dX4_isBlock_20 : decode cX4_isBlock 20 = .ok (.iadd, 1) := by decide +kernel
theorem dX4_isBlock_21 : decode cX4_isBlock 21 = .ok (.iconst 1, 1) := by decide +kernel
theorem dX4_isBlock_22 : decode cX4_isBlock 22 = .ok (.iadd, 1) := by decide +kernel
theorem dX4_isBlock_23 : decode cX4_isBlock 23 = .ok (.iaload, 1) := by decide +kernel
theorem dX4_isBlock_24 : decode cX4_isBlock 24 = .ok (.ifCond .le 7, 3) := by decide +kernel
theorem dX4_isBlock_27 : decode cX4_isBlock 27 = .ok (.iconst 1, 1) := by decide +kernel
theorem dX4_isBlock_28 : decode cX4_isBlock 28 = .ok (.goto 4, 3) := by decide +kernel
theorem dX4_isBlock_31 : decode cX4_isBlock 31 = .ok (.iconst 0, 1) := by decide +kernel
theorem dX4_isBlock_32 : decode cX4_isBlock 32 = .ok (.ireturn, 1) := by decide +kernel
theorem dX4_isSize_0 : decode cX4_isSize 0 = .ok (.iload_n 0, 1) := by decide +kernel
theorem dX4_isSize_1 : decode cX4_isSize 1 = .ok (.iconst 4, 1) := by decide +kernel
theorem dX4_isSize_2 : decode cX4_isSize 2 = .ok (.if_icmp .eq 21, 3) := by decide +kernel
theorem dX4_isSize_5 : decode cX4_isSize 5 = .ok (.iload_n 0, 1) := by decide +kernel
theorem dX4_isSize_6 : decode cX4_isSize 6 = .ok (.bipush 8, 2) := by decide +kernel
theorem dX4_isSize_8 : decode cX4_isSize 8 = .ok (.if_icmp .eq 15, 3) := by decide +kernel
theorem dX4_isSize_11 : decode cX4_isSize 11 = .ok (.iload_n 0, 1) := by decide +kernel
theorem dX4_isSize_12 : decode cX4_isSize 12 = .ok (.bipush 16, 2) := by decide +kernel
theorem dX4_isSize_14 : decode cX4_isSize 14 = .ok (.if_icmp .eq 9, 3) := by decide +kernel
theorem dX4_isSize_17 : decode cX4_isSize 17 = .ok (.iload_n 0, 1) := by decide +kernel
theorem dX4_isSize_18 : decode cX4_isSize 18 = .ok (.bipush 32, 2) := by decide +kernel
theorem dX4_isSize_20 : decode cX4_isSize 20 = .ok (.if_icmp .ne 7, 3) := by decide +kernel
theorem dX4_isSize_23 : decode cX4_isSize 23 = .ok (.iconst 1, 1) := by decide +kernel
theorem dX4_isSize_24 : decode cX4_isSize 24 = .ok (.goto 4, 3) := by decide +kernel
theorem dX4_isSize_27 : decode cX4_isSize 27 = .ok (.iconst 0, 1) := by decide +kernel
theorem dX4_isSize_28 : decode cX4_isSize 28 = .ok (.ireturn, 1) := by decide +kernel
theorem dX4_placeOf_0 : decode cX4_placeOf 0 = .ok (.iconst 0, 1) := by decide +kernel
theorem dX4_placeOf_1 : decode cX4_placeOf 1 = .ok (.istore_n 2, 1) := by decide +kernel
theorem dX4_placeOf_2 : decode cX4_placeOf 2 = .ok (.iload_n 2, 1) := by decide +kernel
theorem dX4_placeOf_3 : decode cX4_placeOf 3 = .ok (.sipush 320, 3) := by decide +kernel
theorem dX4_placeOf_6 : decode cX4_placeOf 6 = .ok (.if_icmp .ge 54, 3) := by decide +kernel
theorem dX4_placeOf_9 : decode cX4_placeOf 9 = .ok (.iconst 0, 1) := by decide +kernel
theorem dX4_placeOf_10 : decode cX4_placeOf 10 = .ok (.istore_n 3, 1) := by decide +kernel
theorem dX4_placeOf_11 : decode cX4_placeOf 11 = .ok (.iload_n 2, 1) := by decide +kernel
theorem dX4_placeOf_12 : decode cX4_placeOf 12 = .ok (.istore 4, 2) := by decide +kernel
theorem dX4_placeOf_14 : decode cX4_placeOf 14 = .ok (.iload 4, 2) := by decide +kernel
theorem dX4_placeOf_16 : decode cX4_placeOf 16 = .ok (.iload_n 2, 1) := by decide +kernel
theorem dX4_placeOf_17 : decode cX4_placeOf 17 = .ok (.iload_n 1, 1) := by decide +kernel
theorem dX4_placeOf_18 : decode cX4_placeOf 18 = .ok (.iadd, 1) := by decide +kernel
theorem dX4_placeOf_19 : decode cX4_placeOf 19 = .ok (.if_icmp .ge 27, 3) := by decide +kernel
theorem dX4_placeOf_22 : decode cX4_placeOf 22 = .ok (.iload_n 3, 1) := by decide +kernel
theorem dX4_placeOf_23 : decode cX4_placeOf 23 = .ok (.aload_n 0, 1) := by decide +kernel
theorem dX4_placeOf_24 : decode cX4_placeOf 24 = .ok (.getfield 7, 3) := by decide +kernel
theorem dX4_placeOf_27 : decode cX4_placeOf 27 = .ok (.iload 4, 2) := by decide +kernel
theorem dX4_placeOf_29 : decode cX4_placeOf 29 = .ok (.iaload, 1) := by decide +kernel
theorem dX4_placeOf_30 : decode cX4_placeOf 30 = .ok (.ifCond .ne 7, 3) := by decide +kernel
theorem dX4_placeOf_33 : decode cX4_placeOf 33 = .ok (.iconst 1, 1) := by decide +kernel
theorem dX4_placeOf_34 : decode cX4_placeOf 34 = .ok (.goto 4, 3) := by decide +kernel
theorem dX4_placeOf_37 : decode cX4_placeOf 37 = .ok (.iconst 0, 1) := by decide +kernel
theorem dX4_placeOf_38 : decode cX4_placeOf 38 = .ok (.iadd, 1) := by decide +kernel
theorem dX4_placeOf_39 : decode cX4_placeOf 39 = .ok (.istore_n 3, 1) := by decide +kernel
theorem dX4_placeOf_40 : decode cX4_placeOf 40 = .ok (.iinc 4 1, 3) := by decide +kernel
theorem dX4_placeOf_43 : decode cX4_placeOf 43 = .ok (.goto (-29), 3) := by decide +kernel
theorem dX4_placeOf_46 : decode cX4_placeOf 46 = .ok (.iload_n 3, 1) := by decide +kernel
theorem dX4_placeOf_47 : decode cX4_placeOf 47 = .ok (.iload_n 1, 1) := by decide +kernel
theorem dX4_placeOf_48 : decode cX4_placeOf 48 = .ok (.if_icmp .ne 5, 3) := by decide +kernel
theorem dX4_placeOf_51 : decode cX4_placeOf 51 = .ok (.iload_n 2, 1) := by decide +kernel
theorem dX4_placeOf_52 : decode cX4_placeOf 52 = .ok (.ireturn, 1) := by decide +kernel
theorem dX4_placeOf_53 : decode cX4_placeOf 53 = .ok (.iload_n 2, 1) := by decide +kernel
theorem dX4_placeOf_54 : decode cX4_placeOf 54 = .ok (.iload_n 1, 1) := by decide +kernel
theorem dX4_placeOf_55 : decode cX4_placeOf 55 = .ok (.iadd, 1) := by decide +kernel
theorem dX4_placeOf_56 : decode cX4_placeOf 56 = .ok (.istore_n 2, 1) := by decide +kernel
theorem dX4_placeOf_57 : decode cX4_placeOf 57 = .ok (.goto (-55), 3) := by decide +kernel
theorem dX4_placeOf_60 : decode cX4_placeOf 60 = .ok (.bipush (-9), 2) := by decide +kernel
theorem dX4_placeOf_62 : decode cX4_placeOf 62 = .ok (.ireturn, 1) := by decide +kernel
set_option maxRecDepth 20000 in
theorem ggX4_reserves_X4_isSize : GoodIn wsX4_reserves wsX4_isSize := goodIn_r _ [5] (by decide +kernel) (by decide +kernel)
set_option maxRecDepth 20000 in
theorem gX4_reserves_X4_isSize : GoodIn wsX4_reserves (va_wsS RX4 77 yX4_isSize wsX4_isSize) := goodIn_app (goodIn_of _ (by decide +kernel)) ggX4_reserves_X4_isSize
set_option maxRecDepth 20000 in
theorem ggX4_reserves_X4_isBlock : GoodIn wsX4_reserves wsX4_isBlock := goodIn_r _ [9, 1, 10, 11, 4, 12, 29, 30, 31, 32, 33, 34, 35, 36] (by decide +kernel) (by decide +kernel)
set_option maxRecDepth 20000 in
theorem gX4_reserves_X4_isBlock : GoodIn wsX4_reserves (wsV RX4 81 RX4 yX4_isBlock wsX4_isBlock) := goodIn_app (goodIn_of _ (by decide +kernel)) ggX4_reserves_X4_isBlock
set_option maxRecDepth 20000 in
theorem ggX4_reserves_X4_placeOf : GoodIn wsX4_reserves wsX4_placeOf := goodIn_r _ [16, 1, 29, 30, 31, 32, 33, 34, 35, 36] (by decide +kernel) (by decide +kernel)
set_option maxRecDepth 20000 in
theorem gX4_reserves_X4_placeOf : GoodIn wsX4_reserves (wsV RX4 84 RX4 yX4_placeOf wsX4_placeOf) := goodIn_app (goodIn_of _ (by decide +kernel)) ggX4_reserves_X4_placeOf
set_option maxRecDepth 20000 in
theorem ggX4_reserves_X4_becomes : GoodIn wsX4_reserves wsX4_becomes := goodIn_r _ [20, 1, 21, 22, 23, 4, 24, 25, 26, 27, 28, 29, 30, 31, 32, 33, 34, 35, 36] (by decide +kernel) (by decide +kernel)
set_option maxRecDepth 20000 in
theorem gX4_reserves_X4_becomes : GoodIn wsX4_reserves (wsV RX4 44 RX4 yX4_becomes wsX4_becomes) := goodIn_app (goodIn_of _ (by decide +kernel)) ggX4_reserves_X4_becomes
theorem dX4_reserves_0 : decode cX4_reserves 0 = .ok (.iload_n 1, 1) := by decide +kernel
theorem dX4_reserves_1 : decode cX4_reserves 1 = .ok (.invokestatic 77, 3) := by decide +kernel
theorem dX4_reserves_4 : decode cX4_reserves 4 = .ok (.ifCond .ne 5, 3) := by decide +kernel
theorem dX4_reserves_7 : decode cX4_reserves 7 = .ok (.iconst (-1), 1) := by decide +kernel
theorem dX4_reserves_8 : decode cX4_reserves 8 = .ok (.ireturn, 1) := by decide +kernel
theorem dX4_reserves_9 : decode cX4_reserves 9 = .ok (.iconst 0, 1) := by decide +kernel
theorem dX4_reserves_10 : decode cX4_reserves 10 = .ok (.istore_n 2, 1) := by decide +kernel
theorem dX4_reserves_11 : decode cX4_reserves 11 = .ok (.aload_n 0, 1) := by decide +kernel
theorem dX4_reserves_12 : decode cX4_reserves 12 = .ok (.iload_n 2, 1) := by decide +kernel
theorem dX4_reserves_13 : decode cX4_reserves 13 = .ok (.invokevirtual 81, 3) := by decide +kernel
theorem dX4_reserves_16 : decode cX4_reserves 16 = .ok (.ifCond .eq 9, 3) := by decide +kernel
theorem dX4_reserves_19 : decode cX4_reserves 19 = .ok (.iinc 2 1, 3) := by decide +kernel
theorem dX4_reserves_22 : decode cX4_reserves 22 = .ok (.goto (-11), 3) := by decide +kernel
theorem dX4_reserves_25 : decode cX4_reserves 25 = .ok (.aload_n 0, 1) := by decide +kernel
theorem dX4_reserves_26 : decode cX4_reserves 26 = .ok (.iload_n 1, 1) := by decide +kernel
theorem dX4_reserves_27 : decode cX4_reserves 27 = .ok (.invokevirtual 84, 3) := by decide +kernel
theorem dX4_reserves_30 : decode cX4_reserves 30 = .ok (.istore_n 3, 1) := by decide +kernel
theorem dX4_reserves_31 : decode cX4_reserves 31 = .ok (.iload_n 2, 1) := by decide +kernel
theorem dX4_reserves_32 : decode cX4_reserves 32 = .ok (.bipush 8, 2) := by decide +kernel
theorem dX4_reserves_34 : decode cX4_reserves 34 = .ok (.if_icmp .eq 9, 3) := by decide +kernel
theorem dX4_reserves_37 : decode cX4_reserves 37 = .ok (.iload_n 3, 1) := by decide +kernel
theorem dX4_reserves_38 : decode cX4_reserves 38 = .ok (.bipush (-9), 2) := by decide +kernel
theorem dX4_reserves_40 : decode cX4_reserves 40 = .ok (.if_icmp .ne 6, 3) := by decide +kernel
theorem dX4_reserves_43 : decode cX4_reserves 43 = .ok (.bipush (-3), 2) := by decide +kernel
theorem dX4_reserves_45 : decode cX4_reserves 45 = .ok (.ireturn, 1) := by decide +kernel
theorem dX4_reserves_46 : decode cX4_reserves 46 = .ok (.aload_n 0, 1) := by decide +kernel
theorem dX4_reserves_47 : decode cX4_reserves 47 = .ok (.getfield 7, 3) := by decide +kernel
theorem dX4_reserves_50 : decode cX4_reserves 50 = .ok (.sipush 650, 3) := by decide +kernel
theorem dX4_reserves_53 : decode cX4_reserves 53 = .ok (.iconst 2, 1) := by decide +kernel
theorem dX4_reserves_54 : decode cX4_reserves 54 = .ok (.iload_n 2, 1) := by decide +kernel
theorem dX4_reserves_55 : decode cX4_reserves 55 = .ok (.imul, 1) := by decide +kernel
theorem dX4_reserves_56 : decode cX4_reserves 56 = .ok (.iadd, 1) := by decide +kernel
theorem dX4_reserves_57 : decode cX4_reserves 57 = .ok (.iload_n 3, 1) := by decide +kernel
theorem dX4_reserves_58 : decode cX4_reserves 58 = .ok (.iastore, 1) := by decide +kernel
theorem dX4_reserves_59 : decode cX4_reserves 59 = .ok (.aload_n 0, 1) := by decide +kernel
theorem dX4_reserves_60 : decode cX4_reserves 60 = .ok (.getfield 7, 3) := by decide +kernel
theorem dX4_reserves_63 : decode cX4_reserves 63 = .ok (.sipush 650, 3) := by decide +kernel
theorem dX4_reserves_66 : decode cX4_reserves 66 = .ok (.iconst 2, 1) := by decide +kernel
theorem dX4_reserves_67 : decode cX4_reserves 67 = .ok (.iload_n 2, 1) := by decide +kernel
theorem dX4_reserves_68 : decode cX4_reserves 68 = .ok (.imul, 1) := by decide +kernel
theorem dX4_reserves_69 : decode cX4_reserves 69 = .ok (.iadd, 1) := by decide +kernel
theorem dX4_reserves_70 : decode cX4_reserves 70 = .ok (.iconst 1, 1) := by decide +kernel
theorem dX4_reserves_71 : decode cX4_reserves 71 = .ok (.iadd, 1) := by decide +kernel
theorem dX4_reserves_72 : decode cX4_reserves 72 = .ok (.iload_n 1, 1) := by decide +kernel
theorem dX4_reserves_73 : decode cX4_reserves 73 = .ok (.iastore, 1) := by decide +kernel
theorem dX4_reserves_74 : decode cX4_reserves 74 = .ok (.iload_n 3, 1) := by decide +kernel
theorem dX4_reserves_75 : decode cX4_reserves 75 = .ok (.istore 4, 2) := by decide +kernel
theorem dX4_reserves_77 : decode cX4_reserves 77 = .ok (.iload 4, 2) := by decide +kernel
theorem dX4_reserves_79 : decode cX4_reserves 79 = .ok (.iload_n 3, 1) := by decide +kernel
theorem dX4_reserves_80 : decode cX4_reserves 80 = .ok (.iload_n 1, 1) := by decide +kernel
theorem dX4_reserves_81 : decode cX4_reserves 81 = .ok (.iadd, 1) := by decide +kernel
theorem dX4_reserves_82 : decode cX4_reserves 82 = .ok (.if_icmp .ge 30, 3) := by decide +kernel
theorem dX4_reserves_85 : decode cX4_reserves 85 = .ok (.aload_n 0, 1) := by decide +kernel
theorem dX4_reserves_86 : decode cX4_reserves 86 = .ok (.getfield 7, 3) := by decide +kernel
theorem dX4_reserves_89 : decode cX4_reserves 89 = .ok (.sipush 320, 3) := by decide +kernel
theorem dX4_reserves_92 : decode cX4_reserves 92 = .ok (.iload 4, 2) := by decide +kernel
theorem dX4_reserves_94 : decode cX4_reserves 94 = .ok (.iadd, 1) := by decide +kernel
theorem dX4_reserves_95 : decode cX4_reserves 95 = .ok (.iload_n 2, 1) := by decide +kernel
theorem dX4_reserves_96 : decode cX4_reserves 96 = .ok (.iconst 1, 1) := by decide +kernel
theorem dX4_reserves_97 : decode cX4_reserves 97 = .ok (.iadd, 1) := by decide +kernel
theorem dX4_reserves_98 : decode cX4_reserves 98 = .ok (.iastore, 1) := by decide +kernel
theorem dX4_reserves_99 : decode cX4_reserves 99 = .ok (.aload_n 0, 1) := by decide +kernel
theorem dX4_reserves_100 : decode cX4_reserves 100 = .ok (.iload 4, 2) := by decide +kernel
theorem dX4_reserves_102 : decode cX4_reserves 102 = .ok (.iconst 3, 1) := by decide +kernel
theorem dX4_reserves_103 : decode cX4_reserves 103 = .ok (.invokevirtual 44, 3) := by decide +kernel
theorem dX4_reserves_106 : decode cX4_reserves 106 = .ok (.iinc 4 1, 3) := by decide +kernel
theorem dX4_reserves_109 : decode cX4_reserves 109 = .ok (.goto (-32), 3) := by decide +kernel
theorem dX4_reserves_112 : decode cX4_reserves 112 = .ok (.iload_n 2, 1) := by decide +kernel
theorem dX4_reserves_113 : decode cX4_reserves 113 = .ok (.ireturn, 1) := by decide +kernel
set_option maxRecDepth 20000 in
theorem ggX4_reserve_X4_notes : GoodIn wsX4_reserve wsX4_notes := goodIn_r _ [5, 6, 7, 8, 9, 4, 10, 47, 48, 49, 50, 51, 52, 53, 54] (by decide +kernel) (by decide +kernel)
set_option maxRecDepth 20000 in
theorem gX4_reserve_X4_notes : GoodIn wsX4_reserve (wsV RX4 55 RX4 yX4_notes wsX4_notes) := goodIn_app (goodIn_of _ (by decide +kernel)) ggX4_reserve_X4_notes
set_option maxRecDepth 20000 in
theorem ggX4_reserve_X4_reserves : GoodIn wsX4_reserve wsX4_reserves := goodIn_r _ [14, 6, 15, 16, 4, 17, 18, 19, 20, 21, 22, 23, 24, 25, 26, 27, 28, 29, 30, 31, 32, 33, 34, 35, 36, 37, 38, 39, 40, 47, 48, 49, 50, 51, 52, 53, 54] (by decide +kernel) (by decide +kernel)
set_option maxRecDepth 20000 in
theorem gX4_reserve_X4_reserves : GoodIn wsX4_reserve (wsV RX4 87 RX4 yX4_reserves wsX4_reserves) := goodIn_app (goodIn_of _ (by decide +kernel)) ggX4_reserve_X4_reserves
set_option maxRecDepth 20000 in
theorem ggX4_reserve_X4_ends : GoodIn wsX4_reserve wsX4_ends := goodIn_r _ [44, 7, 6, 45, 46, 8, 9, 4, 10, 47, 48, 49, 50, 51, 52, 53, 54] (by decide +kernel) (by decide +kernel)
set_option maxRecDepth 20000 in
theorem gX4_reserve_X4_ends : GoodIn wsX4_reserve (wsV RX4 61 RX4 yX4_ends wsX4_ends) := goodIn_app (goodIn_of _ (by decide +kernel)) ggX4_reserve_X4_ends
theorem dX4_reserve_0 : decode cX4_reserve 0 = .ok (.aload_n 0, 1) := by decide +kernel
theorem dX4_reserve_1 : decode cX4_reserve 1 = .ok (.invokevirtual 55, 3) := by decide +kernel
theorem dX4_reserve_4 : decode cX4_reserve 4 = .ok (.aload_n 0, 1) := by decide +kernel
theorem dX4_reserve_5 : decode cX4_reserve 5 = .ok (.aload_n 0, 1) := by decide +kernel
theorem dX4_reserve_6 : decode cX4_reserve 6 = .ok (.iload_n 1, 1) := by decide +kernel
theorem dX4_reserve_7 : decode cX4_reserve 7 = .ok (.invokevirtual 87, 3) := by decide +kernel
theorem dX4_reserve_10 : decode cX4_reserve 10 = .ok (.invokevirtual 61, 3) := by decide +kernel
theorem dX4_reserve_13 : decode cX4_reserve 13 = .ok (.ireturn, 1) := by decide +kernel
set_option maxRecDepth 20000 in
theorem ggX4_takesIn_X4_isBlock : GoodIn wsX4_takesIn wsX4_isBlock := goodIn_r _ [6, 1, 7, 8, 5, 9, 22, 23, 24, 25, 26, 27, 28, 29] (by decide +kernel) (by decide +kernel)
set_option maxRecDepth 20000 in
theorem gX4_takesIn_X4_isBlock : GoodIn wsX4_takesIn (wsV RX4 81 RX4 yX4_isBlock wsX4_isBlock) := goodIn_app (goodIn_of _ (by decide +kernel)) ggX4_takesIn_X4_isBlock
set_option maxRecDepth 20000 in
theorem ggX4_takesIn_X4_becomes : GoodIn wsX4_takesIn wsX4_becomes := goodIn_r _ [13, 1, 14, 15, 16, 5, 17, 18, 19, 20, 21, 22, 23, 24, 25, 26, 27, 28, 29] (by decide +kernel) (by decide +kernel)
set_option maxRecDepth 20000 in
theorem gX4_takesIn_X4_becomes : GoodIn wsX4_takesIn (wsV RX4 44 RX4 yX4_becomes wsX4_becomes) := goodIn_app (goodIn_of _ (by decide +kernel)) ggX4_takesIn_X4_becomes
theorem dX4_takesIn_0 : decode cX4_takesIn 0 = .ok (.aload_n 0, 1) := by decide +kernel
theorem dX4_takesIn_1 : decode cX4_takesIn 1 = .ok (.iload_n 1, 1) := by decide +kernel
theorem dX4_takesIn_2 : decode cX4_takesIn 2 = .ok (.invokevirtual 81, 3) := by decide +kernel
theorem dX4_takesIn_5 : decode cX4_takesIn 5 = .ok (.ifCond .ne 5, 3) := by decide +kernel
theorem dX4_takesIn_8 : decode cX4_takesIn 8 = .ok (.iconst (-1), 1) := by decide +kernel
theorem dX4_takesIn_9 : decode cX4_takesIn 9 = .ok (.ireturn, 1) := by decide +kernel
theorem dX4_takesIn_10 : decode cX4_takesIn 10 = .ok (.aload_n 0, 1) := by decide +kernel
theorem dX4_takesIn_11 : decode cX4_takesIn 11 = .ok (.getfield 7, 3) := by decide +kernel
theorem dX4_takesIn_14 : decode cX4_takesIn 14 = .ok (.sipush 650, 3) := by decide +kernel
theorem dX4_takesIn_17 : decode cX4_takesIn 17 = .ok (.iconst 2, 1) := by decide +kernel
theorem dX4_takesIn_18 : decode cX4_takesIn 18 = .ok (.iload_n 1, 1) := by decide +kernel
theorem dX4_takesIn_19 : decode cX4_takesIn 19 = .ok (.imul, 1) := by decide +kernel
theorem dX4_takesIn_20 : decode cX4_takesIn 20 = .ok (.iadd, 1) := by decide +kernel
theorem dX4_takesIn_21 : decode cX4_takesIn 21 = .ok (.iaload, 1) := by decide +kernel
theorem dX4_takesIn_22 : decode cX4_takesIn 22 = .ok (.istore_n 2, 1) := by decide +kernel
theorem dX4_takesIn_23 : decode cX4_takesIn 23 = .ok (.iload_n 2, 1) := by decide +kernel
theorem dX4_takesIn_24 : decode cX4_takesIn 24 = .ok (.istore_n 3, 1) := by decide +kernel
theorem dX4_takesIn_25 : decode cX4_takesIn 25 = .ok (.iload_n 3, 1) := by decide +kernel
theorem dX4_takesIn_26 : decode cX4_takesIn 26 = .ok (.iload_n 2, 1) := by decide +kernel
theorem dX4_takesIn_27 : decode cX4_takesIn 27 = .ok (.aload_n 0, 1) := by decide +kernel
theorem dX4_takesIn_28 : decode cX4_takesIn 28 = .ok (.getfield 7, 3) := by decide +kernel
theorem dX4_takesIn_31 : decode cX4_takesIn 31 = .ok (.sipush 650, 3) := by decide +kernel
theorem dX4_takesIn_34 : decode cX4_takesIn 34 = .ok (.iconst 2, 1) := by decide +kernel
theorem dX4_takesIn_35 : decode cX4_takesIn 35 = .ok (.iload_n 1, 1) := by decide +kernel
theorem dX4_takesIn_36 : decode cX4_takesIn 36 = .ok (.imul, 1) := by decide +kernel
theorem dX4_takesIn_37 : decode cX4_takesIn 37 = .ok (.iadd, 1) := by decide +kernel
theorem dX4_takesIn_38 : decode cX4_takesIn 38 = .ok (.iconst 1, 1) := by decide +kernel
theorem dX4_takesIn_39 : decode cX4_takesIn 39 = .ok (.iadd, 1) := by decide +kernel
theorem dX4_takesIn_40 : decode cX4_takesIn 40 = .ok (.iaload, 1) := by decide +kernel
theorem dX4_takesIn_41 : decode cX4_takesIn 41 = .ok (.iadd, 1) := by decide +kernel
theorem dX4_takesIn_42 : decode cX4_takesIn 42 = .ok (.if_icmp .ge 27, 3) := by decide +kernel
theorem dX4_takesIn_45 : decode cX4_takesIn 45 = .ok (.aload_n 0, 1) := by decide +kernel
theorem dX4_takesIn_46 : decode cX4_takesIn 46 = .ok (.getfield 7, 3) := by decide +kernel
theorem dX4_takesIn_49 : decode cX4_takesIn 49 = .ok (.iload_n 3, 1) := by decide +kernel
theorem dX4_takesIn_50 : decode cX4_takesIn 50 = .ok (.iaload, 1) := by decide +kernel
theorem dX4_takesIn_51 : decode cX4_takesIn 51 = .ok (.iconst 3, 1) := by decide +kernel
theorem dX4_takesIn_52 : decode cX4_takesIn 52 = .ok (.if_icmp .ne 11, 3) := by decide +kernel
theorem dX4_takesIn_55 : decode cX4_takesIn 55 = .ok (.aload_n 0, 1) := by decide +kernel
theorem dX4_takesIn_56 : decode cX4_takesIn 56 = .ok (.iload_n 3, 1) := by decide +kernel
theorem dX4_takesIn_57 : decode cX4_takesIn 57 = .ok (.iconst 1, 1) := by decide +kernel
theorem dX4_takesIn_58 : decode cX4_takesIn 58 = .ok (.invokevirtual 44, 3) := by decide +kernel
theorem dX4_takesIn_61 : decode cX4_takesIn 61 = .ok (.iload_n 3, 1) := by decide +kernel
theorem dX4_takesIn_62 : decode cX4_takesIn 62 = .ok (.ireturn, 1) := by decide +kernel
theorem dX4_takesIn_63 : decode cX4_takesIn 63 = .ok (.iinc 3 1, 3) := by decide +kernel
theorem dX4_takesIn_66 : decode cX4_takesIn 66 = .ok (.goto (-41), 3) := by decide +kernel
theorem dX4_takesIn_69 : decode cX4_takesIn 69 = .ok (.bipush (-3), 2) := by decide +kernel
theorem dX4_takesIn_71 : decode cX4_takesIn 71 = .ok (.ireturn, 1) := by decide +kernel
set_option maxRecDepth 20000 in
theorem ggX4_takeIn_X4_notes : GoodIn wsX4_takeIn wsX4_notes := goodIn_r _ [5, 6, 7, 8, 9, 4, 10, 40, 41, 42, 43, 44, 45, 46, 47] (by decide +kernel) (by decide +kernel)
set_option maxRecDepth 20000 in
theorem gX4_takeIn_X4_notes : GoodIn wsX4_takeIn (wsV RX4 55 RX4 yX4_notes wsX4_notes) := goodIn_app (goodIn_of _ (by decide +kernel)) ggX4_takeIn_X4_notes
set_option maxRecDepth 20000 in
theorem ggX4_takeIn_X4_takesIn : GoodIn wsX4_takeIn wsX4_takesIn := goodIn_r _ [14, 6, 15, 16, 17, 4, 18, 19, 20, 21, 22, 23, 24, 25, 26, 27, 28, 29, 30, 31, 32, 33, 40, 41, 42, 43, 44, 45, 46, 47] (by decide +kernel) (by decide +kernel)
set_option maxRecDepth 20000 in
theorem gX4_takeIn_X4_takesIn : GoodIn wsX4_takeIn (wsV RX4 90 RX4 yX4_takesIn wsX4_takesIn) := goodIn_app (goodIn_of _ (by decide +kernel)) ggX4_takeIn_X4_takesIn
set_option maxRecDepth 20000 in
theorem ggX4_takeIn_X4_ends : GoodIn wsX4_takeIn wsX4_ends := goodIn_r _ [37, 7, 6, 38, 39, 8, 9, 4, 10, 40, 41, 42, 43, 44, 45, 46, 47] (by decide +kernel) (by decide +kernel)
set_option maxRecDepth 20000 in
theorem gX4_takeIn_X4_ends : GoodIn wsX4_takeIn (wsV RX4 61 RX4 yX4_ends wsX4_ends) := goodIn_app (goodIn_of _ (by decide +kernel)) ggX4_takeIn_X4_ends
theorem dX4_takeIn_0 : decode cX4_takeIn 0 = .ok (.aload_n 0, 1) := by decide +kernel
theorem dX4_takeIn_1 : decode cX4_takeIn 1 = .ok (.invokevirtual 55, 3) := by decide +kernel
theorem dX4_takeIn_4 : decode cX4_takeIn 4 = .ok (.aload_n 0, 1) := by decide +kernel
theorem dX4_takeIn_5 : decode cX4_takeIn 5 = .ok (.aload_n 0, 1) := by decide +kernel
theorem dX4_takeIn_6 : decode cX4_takeIn 6 = .ok (.iload_n 1, 1) := by decide +kernel
theorem dX4_takeIn_7 : decode cX4_takeIn 7 = .ok (.invokevirtual 90, 3) := by decide +kernel
theorem dX4_takeIn_10 : decode cX4_takeIn 10 = .ok (.invokevirtual 61, 3) := by decide +kernel
theorem dX4_takeIn_13 : decode cX4_takeIn 13 = .ok (.ireturn, 1) := by decide +kernel
set_option maxRecDepth 20000 in
theorem ggX4_giveUp_X4_isBlock : GoodIn wsX4_giveUp wsX4_isBlock := goodIn_r _ [6, 1, 7, 8, 5, 9, 36, 37, 38, 39, 40, 41, 42, 43] (by decide +kernel) (by decide +kernel)
set_option maxRecDepth 20000 in
theorem gX4_giveUp_X4_isBlock : GoodIn wsX4_giveUp (wsV RX4 81 RX4 yX4_isBlock wsX4_isBlock) := goodIn_app (goodIn_of _ (by decide +kernel)) ggX4_giveUp_X4_isBlock
set_option maxRecDepth 20000 in
theorem ggX4_giveUp_X4_notes : GoodIn wsX4_giveUp wsX4_notes := goodIn_r _ [13, 1, 14, 15, 16, 5, 17, 36, 37, 38, 39, 40, 41, 42, 43] (by decide +kernel) (by decide +kernel)
set_option maxRecDepth 20000 in
theorem gX4_giveUp_X4_notes : GoodIn wsX4_giveUp (wsV RX4 55 RX4 yX4_notes wsX4_notes) := goodIn_app (goodIn_of _ (by decide +kernel)) ggX4_giveUp_X4_notes
set_option maxRecDepth 20000 in
theorem ggX4_giveUp_X4_becomes : GoodIn wsX4_giveUp wsX4_becomes := goodIn_r _ [21, 1, 22, 23, 24, 5, 25, 26, 27, 28, 29, 36, 37, 38, 39, 40, 41, 42, 43] (by decide +kernel) (by decide +kernel)
set_option maxRecDepth 20000 in
theorem gX4_giveUp_X4_becomes : GoodIn wsX4_giveUp (wsV RX4 44 RX4 yX4_becomes wsX4_becomes) := goodIn_app (goodIn_of _ (by decide +kernel)) ggX4_giveUp_X4_becomes
set_option maxRecDepth 20000 in
theorem ggX4_giveUp_X4_ends : GoodIn wsX4_giveUp wsX4_ends := goodIn_r _ [33, 14, 1, 34, 35, 15, 16, 5, 17, 36, 37, 38, 39, 40, 41, 42, 43] (by decide +kernel) (by decide +kernel)
set_option maxRecDepth 20000 in
theorem gX4_giveUp_X4_ends : GoodIn wsX4_giveUp (wsV RX4 61 RX4 yX4_ends wsX4_ends) := goodIn_app (goodIn_of _ (by decide +kernel)) ggX4_giveUp_X4_ends
theorem dX4_giveUp_0 : decode cX4_giveUp 0 = .ok (.aload_n 0, 1) := by decide +kernel
theorem dX4_giveUp_1 : decode cX4_giveUp 1 = .ok (.iload_n 1, 1) := by decide +kernel
theorem dX4_giveUp_2 : decode cX4_giveUp 2 = .ok (.invokevirtual 81, 3) := by decide +kernel
theorem dX4_giveUp_5 : decode cX4_giveUp 5 = .ok (.ifCond .ne 5, 3) := by decide +kernel
theorem dX4_giveUp_8 : decode cX4_giveUp 8 = .ok (.iconst (-1), 1) := by decide +kernel
theorem dX4_giveUp_9 : decode cX4_giveUp 9 = .ok (.ireturn, 1) := by decide +kernel
theorem dX4_giveUp_10 : decode cX4_giveUp 10 = .ok (.aload_n 0, 1) := by decide +kernel
theorem dX4_giveUp_11 : decode cX4_giveUp 11 = .ok (.invokevirtual 55, 3) := by decide +kernel
theorem dX4_giveUp_14 : decode cX4_giveUp 14 = .ok (.iconst 0, 1) := by decide +kernel
theorem dX4_giveUp_15 : decode cX4_giveUp 15 = .ok (.istore_n 2, 1) := by decide +kernel
theorem dX4_giveUp_16 : decode cX4_giveUp 16 = .ok (.aload_n 0, 1) := by decide +kernel
theorem dX4_giveUp_17 : decode cX4_giveUp 17 = .ok (.getfield 7, 3) := by decide +kernel
theorem dX4_giveUp_20 : decode cX4_giveUp 20 = .ok (.sipush 650, 3) := by decide +kernel
theorem dX4_giveUp_23 : decode cX4_giveUp 23 = .ok (.iconst 2, 1) := by decide +kernel
theorem dX4_giveUp_24 : decode cX4_giveUp 24 = .ok (.iload_n 1, 1) := by decide +kernel
theorem dX4_giveUp_25 : decode cX4_giveUp 25 = .ok (.imul, 1) := by decide +kernel
theorem dX4_giveUp_26 : decode cX4_giveUp 26 = .ok (.iadd, 1) := by decide +kernel
theorem dX4_giveUp_27 : decode cX4_giveUp 27 = .ok (.iaload, 1) := by decide +kernel
theorem dX4_giveUp_28 : decode cX4_giveUp 28 = .ok (.istore_n 3, 1) := by decide +kernel
theorem dX4_giveUp_29 : decode cX4_giveUp 29 = .ok (.iload_n 3, 1) := by decide +kernel
theorem dX4_giveUp_30 : decode cX4_giveUp 30 = .ok (.istore 4, 2) := by decide +kernel
theorem dX4_giveUp_32 : decode cX4_giveUp 32 = .ok (.iload 4, 2) := by decide +kernel
theorem dX4_giveUp_34 : decode cX4_giveUp 34 = .ok (.iload_n 3, 1) := by decide +kernel
theorem dX4_giveUp_35 : decode cX4_giveUp 35 = .ok (.aload_n 0, 1) := by decide +kernel
theorem dX4_giveUp_36 : decode cX4_giveUp 36 = .ok (.getfield 7, 3) := by decide +kernel
theorem dX4_giveUp_39 : decode cX4_giveUp 39 = .ok (.sipush 650, 3) := by decide +kernel
theorem dX4_giveUp_42 : decode cX4_giveUp 42 = .ok (.iconst 2, 1) := by decide +kernel
theorem dX4_giveUp_43 : decode cX4_giveUp 43 = .ok (.iload_n 1, 1) := by decide +kernel
theorem dX4_giveUp_44 : decode cX4_giveUp 44 = .ok (.imul, 1) := by decide +kernel
theorem dX4_giveUp_45 : decode cX4_giveUp 45 = .ok (.iadd, 1) := by decide +kernel
theorem dX4_giveUp_46 : decode cX4_giveUp 46 = .ok (.iconst 1, 1) := by decide +kernel
theorem dX4_giveUp_47 : decode cX4_giveUp 47 = .ok (.iadd, 1) := by decide +kernel
theorem dX4_giveUp_48 : decode cX4_giveUp 48 = .ok (.iaload, 1) := by decide +kernel
theorem dX4_giveUp_49 : decode cX4_giveUp 49 = .ok (.iadd, 1) := by decide +kernel
theorem dX4_giveUp_50 : decode cX4_giveUp 50 = .ok (.if_icmp .ge 42, 3) := by decide +kernel
theorem dX4_giveUp_53 : decode cX4_giveUp 53 = .ok (.aload_n 0, 1) := by decide +kernel
theorem dX4_giveUp_54 : decode cX4_giveUp 54 = .ok (.getfield 7, 3) := by decide +kernel
theorem dX4_giveUp_57 : decode cX4_giveUp 57 = .ok (.sipush 320, 3) := by decide +kernel
theorem dX4_giveUp_60 : decode cX4_giveUp 60 = .ok (.iload 4, 2) := by decide +kernel
theorem dX4_giveUp_62 : decode cX4_giveUp 62 = .ok (.iadd, 1) := by decide +kernel
theorem dX4_giveUp_63 : decode cX4_giveUp 63 = .ok (.iconst 0, 1) := by decide +kernel
theorem dX4_giveUp_64 : decode cX4_giveUp 64 = .ok (.iastore, 1) := by decide +kernel
theorem dX4_giveUp_65 : decode cX4_giveUp 65 = .ok (.aload_n 0, 1) := by decide +kernel
theorem dX4_giveUp_66 : decode cX4_giveUp 66 = .ok (.getfield 7, 3) := by decide +kernel
theorem dX4_giveUp_69 : decode cX4_giveUp 69 = .ok (.iload 4, 2) := by decide +kernel
theorem dX4_giveUp_71 : decode cX4_giveUp 71 = .ok (.iaload, 1) := by decide +kernel
theorem dX4_giveUp_72 : decode cX4_giveUp 72 = .ok (.iconst 3, 1) := by decide +kernel
theorem dX4_giveUp_73 : decode cX4_giveUp 73 = .ok (.if_icmp .ne 13, 3) := by decide +kernel
theorem dX4_giveUp_76 : decode cX4_giveUp 76 = .ok (.aload_n 0, 1) := by decide +kernel
theorem dX4_giveUp_77 : decode cX4_giveUp 77 = .ok (.iload 4, 2) := by decide +kernel
theorem dX4_giveUp_79 : decode cX4_giveUp 79 = .ok (.iconst 0, 1) := by decide +kernel
theorem dX4_giveUp_80 : decode cX4_giveUp 80 = .ok (.invokevirtual 44, 3) := by decide +kernel
theorem dX4_giveUp_83 : decode cX4_giveUp 83 = .ok (.iinc 2 1, 3) := by decide +kernel
theorem dX4_giveUp_86 : decode cX4_giveUp 86 = .ok (.iinc 4 1, 3) := by decide +kernel
theorem dX4_giveUp_89 : decode cX4_giveUp 89 = .ok (.goto (-57), 3) := by decide +kernel
theorem dX4_giveUp_92 : decode cX4_giveUp 92 = .ok (.aload_n 0, 1) := by decide +kernel
theorem dX4_giveUp_93 : decode cX4_giveUp 93 = .ok (.getfield 7, 3) := by decide +kernel
theorem dX4_giveUp_96 : decode cX4_giveUp 96 = .ok (.sipush 650, 3) := by decide +kernel
theorem dX4_giveUp_99 : decode cX4_giveUp 99 = .ok (.iconst 2, 1) := by decide +kernel
theorem dX4_giveUp_100 : decode cX4_giveUp 100 = .ok (.iload_n 1, 1) := by decide +kernel
theorem dX4_giveUp_101 : decode cX4_giveUp 101 = .ok (.imul, 1) := by decide +kernel
theorem dX4_giveUp_102 : decode cX4_giveUp 102 = .ok (.iadd, 1) := by decide +kernel
theorem dX4_giveUp_103 : decode cX4_giveUp 103 = .ok (.iconst 0, 1) := by decide +kernel
theorem dX4_giveUp_104 : decode cX4_giveUp 104 = .ok (.iastore, 1) := by decide +kernel
theorem dX4_giveUp_105 : decode cX4_giveUp 105 = .ok (.aload_n 0, 1) := by decide +kernel
theorem dX4_giveUp_106 : decode cX4_giveUp 106 = .ok (.getfield 7, 3) := by decide +kernel
theorem dX4_giveUp_109 : decode cX4_giveUp 109 = .ok (.sipush 650, 3) := by decide +kernel
theorem dX4_giveUp_112 : decode cX4_giveUp 112 = .ok (.iconst 2, 1) := by decide +kernel
theorem dX4_giveUp_113 : decode cX4_giveUp 113 = .ok (.iload_n 1, 1) := by decide +kernel
theorem dX4_giveUp_114 : decode cX4_giveUp 114 = .ok (.imul, 1) := by decide +kernel
theorem dX4_giveUp_115 : decode cX4_giveUp 115 = .ok (.iadd, 1) := by decide +kernel
theorem dX4_giveUp_116 : decode cX4_giveUp 116 = .ok (.iconst 1, 1) := by decide +kernel
theorem dX4_giveUp_117 : decode cX4_giveUp 117 = .ok (.iadd, 1) := by decide +kernel
theorem dX4_giveUp_118 : decode cX4_giveUp 118 = .ok (.iconst 0, 1) := by decide +kernel
theorem dX4_giveUp_119 : decode cX4_giveUp 119 = .ok (.iastore, 1) := by decide +kernel
theorem dX4_giveUp_120 : decode cX4_giveUp 120 = .ok (.aload_n 0, 1) := by decide +kernel
theorem dX4_giveUp_121 : decode cX4_giveUp 121 = .ok (.iload_n 2, 1) := by decide +kernel
theorem dX4_giveUp_122 : decode cX4_giveUp 122 = .ok (.invokevirtual 61, 3) := by decide +kernel
theorem dX4_giveUp_125 : decode cX4_giveUp 125 = .ok (.ireturn, 1) := by decide +kernel
set_option maxRecDepth 20000 in
theorem ggX4_isWord_X4_in : GoodIn wsX4_isWord wsX4_in := goodIn_r _ [4] (by decide +kernel) (by decide +kernel)
set_option maxRecDepth 20000 in
theorem gX4_isWord_X4_in : GoodIn wsX4_isWord (va_wsS RX4 64 yX4_in wsX4_in) := goodIn_app (goodIn_of _ (by decide +kernel)) ggX4_isWord_X4_in
theorem dX4_isWord_0 : decode cX4_isWord 0 = .ok (.iload_n 0, 1) := by decide +kernel
theorem dX4_isWord_1 : decode cX4_isWord 1 = .ok (.iconst 0, 1) := by decide +kernel
theorem dX4_isWord_2 : decode cX4_isWord 2 = .ok (.bipush 9, 2) := by decide +kernel
theorem dX4_isWord_4 : decode cX4_isWord 4 = .ok (.invokestatic 64, 3) := by decide +kernel
theorem dX4_isWord_7 : decode cX4_isWord 7 = .ok (.ireturn, 1) := by decide +kernel
set_option maxRecDepth 20000 in
theorem ggX4_damages_X4_isWord : GoodIn wsX4_damages wsX4_isWord := goodIn_r _ [5, 6, 7, 4, 8] (by decide +kernel) (by decide +kernel)
set_option maxRecDepth 20000 in
theorem gX4_damages_X4_isWord : GoodIn wsX4_damages (va_wsS RX4 93 yX4_isWord wsX4_isWord) := goodIn_app (goodIn_of _ (by decide +kernel)) ggX4_damages_X4_isWord
theorem dX4_damages_0 : decode cX4_damages 0 = .ok (.iload_n 1, 1) := by decide +kernel
theorem dX4_damages_1 : decode cX4_damages 1 = .ok (.invokestatic 93, 3) := by decide +kernel
theorem dX4_damages_4 : decode cX4_damages 4 = .ok (.ifCond .ne 5, 3) := by decide +kernel
theorem dX4_damages_7 : decode cX4_damages 7 = .ok (.iconst (-1), 1) := by decide +kernel
theorem dX4_damages_8 : decode cX4_damages 8 = .ok (.ireturn, 1) := by decide +kernel
theorem dX4_damages_9 : decode cX4_damages 9 = .ok (.aload_n 0, 1) := by decide +kernel
theorem dX4_damages_10 : decode cX4_damages 10 = .ok (.getfield 7, 3) := by decide +kernel
theorem dX4_damages_13 : decode cX4_damages 13 = .ok (.sipush 640, 3) := by decide +kernel
theorem dX4_damages_16 : decode cX4_damages 16 = .ok (.iload_n 1, 1) := by decide +kernel
theorem dX4_damages_17 : decode cX4_damages 17 = .ok (.iadd, 1) := by decide +kernel
theorem dX4_damages_18 : decode cX4_damages 18 = .ok (.iconst 1, 1) := by decide +kernel
theorem dX4_damages_19 : decode cX4_damages 19 = .ok (.aload_n 0, 1) := by decide +kernel
theorem dX4_damages_20 : decode cX4_damages 20 = .ok (.getfield 7, 3) := by decide +kernel
theorem dX4_damages_23 : decode cX4_damages 23 = .ok (.sipush 640, 3) := by decide +kernel
theorem dX4_damages_26 : decode cX4_damages 26 = .ok (.iload_n 1, 1) := by decide +kernel
theorem dX4_damages_27 : decode cX4_damages 27 = .ok (.iadd, 1) := by decide +kernel
theorem dX4_damages_28 : decode cX4_damages 28 = .ok (.iaload, 1) := by decide +kernel
theorem dX4_damages_29 : decode cX4_damages 29 = .ok (.isub, 1) := by decide +kernel
theorem dX4_damages_30 : decode cX4_damages 30 = .ok (.iastore, 1) := by decide +kernel
theorem dX4_damages_31 : decode cX4_damages 31 = .ok (.aload_n 0, 1) := by decide +kernel
theorem dX4_damages_32 : decode cX4_damages 32 = .ok (.getfield 7, 3) := by decide +kernel
theorem dX4_damages_35 : decode cX4_damages 35 = .ok (.sipush 640, 3) := by decide +kernel
theorem dX4_damages_38 : decode cX4_damages 38 = .ok (.iload_n 1, 1) := by decide +kernel
theorem dX4_damages_39 : decode cX4_damages 39 = .ok (.iadd, 1) := by decide +kernel
theorem dX4_damages_40 : decode cX4_damages 40 = .ok (.iaload, 1) := by decide +kernel
theorem dX4_damages_41 : decode cX4_damages 41 = .ok (.ireturn, 1) := by decide +kernel
set_option maxRecDepth 20000 in
theorem ggX4_damage_X4_notes : GoodIn wsX4_damage wsX4_notes := goodIn_r _ [5, 6, 7, 8, 9, 4, 10, 27, 28, 29, 30, 31, 32, 33, 34] (by decide +kernel) (by decide +kernel)
set_option maxRecDepth 20000 in
theorem gX4_damage_X4_notes : GoodIn wsX4_damage (wsV RX4 55 RX4 yX4_notes wsX4_notes) := goodIn_app (goodIn_of _ (by decide +kernel)) ggX4_damage_X4_notes
set_option maxRecDepth 20000 in
theorem ggX4_damage_X4_damages : GoodIn wsX4_damage wsX4_damages := goodIn_r _ [14, 6, 15, 16, 4, 17, 18, 19, 20, 27, 28, 29, 30, 31, 32, 33, 34] (by decide +kernel) (by decide +kernel)
set_option maxRecDepth 20000 in
theorem gX4_damage_X4_damages : GoodIn wsX4_damage (wsV RX4 96 RX4 yX4_damages wsX4_damages) := goodIn_app (goodIn_of _ (by decide +kernel)) ggX4_damage_X4_damages
set_option maxRecDepth 20000 in
theorem ggX4_damage_X4_ends : GoodIn wsX4_damage wsX4_ends := goodIn_r _ [24, 7, 6, 25, 26, 8, 9, 4, 10, 27, 28, 29, 30, 31, 32, 33, 34] (by decide +kernel) (by decide +kernel)
set_option maxRecDepth 20000 in
theorem gX4_damage_X4_ends : GoodIn wsX4_damage (wsV RX4 61 RX4 yX4_ends wsX4_ends) := goodIn_app (goodIn_of _ (by decide +kernel)) ggX4_damage_X4_ends
theorem dX4_damage_0 : decode cX4_damage 0 = .ok (.aload_n 0, 1) := by decide +kernel
theorem dX4_damage_1 : decode cX4_damage 1 = .ok (.invokevirtual 55, 3) := by decide +kernel
theorem dX4_damage_4 : decode cX4_damage 4 = .ok (.aload_n 0, 1) := by decide +kernel
theorem dX4_damage_5 : decode cX4_damage 5 = .ok (.aload_n 0, 1) := by decide +kernel
theorem dX4_damage_6 : decode cX4_damage 6 = .ok (.iload_n 1, 1) := by decide +kernel
theorem dX4_damage_7 : decode cX4_damage 7 = .ok (.invokevirtual 96, 3) := by decide +kernel
theorem dX4_damage_10 : decode cX4_damage 10 = .ok (.invokevirtual 61, 3) := by decide +kernel
theorem dX4_damage_13 : decode cX4_damage 13 = .ok (.ireturn, 1) := by decide +kernel
set_option maxRecDepth 20000 in
theorem ggX4_repairs_X4_right : GoodIn wsX4_repairs wsX4_right := goodIn_r _ [6, 7, 8, 9, 5, 10, 1, 11, 12, 13, 14, 15, 16, 17, 18] (by decide +kernel) (by decide +kernel)
set_option maxRecDepth 20000 in
theorem gX4_repairs_X4_right : GoodIn wsX4_repairs (wsV RX4 37 RX4 yX4_right wsX4_right) := goodIn_app (goodIn_of _ (by decide +kernel)) ggX4_repairs_X4_right
theorem dX4_repairs_0 : decode cX4_repairs 0 = .ok (.iconst 0, 1) := by decide +kernel
theorem dX4_repairs_1 : decode cX4_repairs 1 = .ok (.istore_n 1, 1) := by decide +kernel
theorem dX4_repairs_2 : decode cX4_repairs 2 = .ok (.iconst 0, 1) := by decide +kernel
theorem dX4_repairs_3 : decode cX4_repairs 3 = .ok (.istore_n 2, 1) := by decide +kernel
theorem dX4_repairs_4 : decode cX4_repairs 4 = .ok (.iload_n 2, 1) := by decide +kernel
theorem dX4_repairs_5 : decode cX4_repairs 5 = .ok (.bipush 10, 2) := by decide +kernel
theorem dX4_repairs_7 : decode cX4_repairs 7 = .ok (.if_icmp .ge 50, 3) := by decide +kernel
theorem dX4_repairs_10 : decode cX4_repairs 10 = .ok (.iload_n 1, 1) := by decide +kernel
theorem dX4_repairs_11 : decode cX4_repairs 11 = .ok (.aload_n 0, 1) := by decide +kernel
theorem dX4_repairs_12 : decode cX4_repairs 12 = .ok (.getfield 7, 3) := by decide +kernel
theorem dX4_repairs_15 : decode cX4_repairs 15 = .ok (.sipush 640, 3) := by decide +kernel
theorem dX4_repairs_18 : decode cX4_repairs 18 = .ok (.iload_n 2, 1) := by decide +kernel
theorem dX4_repairs_19 : decode cX4_repairs 19 = .ok (.iadd, 1) := by decide +kernel
theorem dX4_repairs_20 : decode cX4_repairs 20 = .ok (.iaload, 1) := by decide +kernel
theorem dX4_repairs_21 : decode cX4_repairs 21 = .ok (.aload_n 0, 1) := by decide +kernel
theorem dX4_repairs_22 : decode cX4_repairs 22 = .ok (.iload_n 2, 1) := by decide +kernel
theorem dX4_repairs_23 : decode cX4_repairs 23 = .ok (.invokevirtual 37, 3) := by decide +kernel
theorem dX4_repairs_26 : decode cX4_repairs 26 = .ok (.if_icmp .eq 7, 3) := by decide +kernel
theorem dX4_repairs_29 : decode cX4_repairs 29 = .ok (.iconst 1, 1) := by decide +kernel
theorem dX4_repairs_30 : decode cX4_repairs 30 = .ok (.goto 4, 3) := by decide +kernel
theorem dX4_repairs_33 : decode cX4_repairs 33 = .ok (.iconst 0, 1) := by decide +kernel
theorem dX4_repairs_34 : decode cX4_repairs 34 = .ok (.iadd, 1) := by decide +kernel
theorem dX4_repairs_35 : decode cX4_repairs 35 = .ok (.istore_n 1, 1) := by decide +kernel
theorem dX4_repairs_36 : decode cX4_repairs 36 = .ok (.aload_n 0, 1) := by decide +kernel
theorem dX4_repairs_37 : decode cX4_repairs 37 = .ok (.getfield 7, 3) := by decide +kernel
theorem dX4_repairs_40 : decode cX4_repairs 40 = .ok (.sipush 640, 3) := by decide +kernel
theorem dX4_repairs_43 : decode cX4_repairs 43 = .ok (.iload_n 2, 1) := by decide +kernel
theorem dX4_repairs_44 : decode cX4_repairs 44 = .ok (.iadd, 1) := by decide +kernel
theorem dX4_repairs_45 : decode cX4_repairs 45 = .ok (.aload_n 0, 1) := by decide +kernel
theorem dX4_repairs_46 : decode cX4_repairs 46 = .ok (.iload_n 2, 1) := by decide +kernel
theorem dX4_repairs_47 : decode cX4_repairs 47 = .ok (.invokevirtual 37, 3) := by decide +kernel
theorem dX4_repairs_50 : decode cX4_repairs 50 = .ok (.iastore, 1) := by decide +kernel
theorem dX4_repairs_51 : decode cX4_repairs 51 = .ok (.iinc 2 1, 3) := by decide +kernel
theorem dX4_repairs_54 : decode cX4_repairs 54 = .ok (.goto (-50), 3) := by decide +kernel
theorem dX4_repairs_57 : decode cX4_repairs 57 = .ok (.iload_n 1, 1) := by decide +kernel
theorem dX4_repairs_58 : decode cX4_repairs 58 = .ok (.ireturn, 1) := by decide +kernel
set_option maxRecDepth 20000 in
theorem ggX4_repair_X4_notes : GoodIn wsX4_repair wsX4_notes := goodIn_r _ [5, 6, 7, 8, 9, 4, 10, 29, 30, 31, 32, 33, 34, 35, 36] (by decide +kernel) (by decide +kernel)
set_option maxRecDepth 20000 in
theorem gX4_repair_X4_notes : GoodIn wsX4_repair (wsV RX4 55 RX4 yX4_notes wsX4_notes) := goodIn_app (goodIn_of _ (by decide +kernel)) ggX4_repair_X4_notes
set_option maxRecDepth 20000 in
theorem ggX4_repair_X4_repairs : GoodIn wsX4_repair wsX4_repairs := goodIn_r _ [14, 6, 15, 16, 17, 4, 18, 19, 20, 21, 22, 29, 30, 31, 32, 33, 34, 35, 36] (by decide +kernel) (by decide +kernel)
set_option maxRecDepth 20000 in
theorem gX4_repair_X4_repairs : GoodIn wsX4_repair (wsV RX4 99 RX4 yX4_repairs wsX4_repairs) := goodIn_app (goodIn_of _ (by decide +kernel)) ggX4_repair_X4_repairs
set_option maxRecDepth 20000 in
theorem ggX4_repair_X4_ends : GoodIn wsX4_repair wsX4_ends := goodIn_r _ [26, 7, 6, 27, 28, 8, 9, 4, 10, 29, 30, 31, 32, 33, 34, 35, 36] (by decide +kernel) (by decide +kernel)
set_option maxRecDepth 20000 in
theorem gX4_repair_X4_ends : GoodIn wsX4_repair (wsV RX4 61 RX4 yX4_ends wsX4_ends) := goodIn_app (goodIn_of _ (by decide +kernel)) ggX4_repair_X4_ends
theorem dX4_repair_0 : decode cX4_repair 0 = .ok (.aload_n 0, 1) := by decide +kernel
theorem dX4_repair_1 : decode cX4_repair 1 = .ok (.invokevirtual 55, 3) := by decide +kernel
theorem dX4_repair_4 : decode cX4_repair 4 = .ok (.aload_n 0, 1) := by decide +kernel
theorem dX4_repair_5 : decode cX4_repair 5 = .ok (.aload_n 0, 1) := by decide +kernel
theorem dX4_repair_6 : decode cX4_repair 6 = .ok (.invokevirtual 99, 3) := by decide +kernel
theorem dX4_repair_9 : decode cX4_repair 9 = .ok (.invokevirtual 61, 3) := by decide +kernel
theorem dX4_repair_12 : decode cX4_repair 12 = .ok (.ireturn, 1) := by decide +kernel
set_option maxRecDepth 20000 in
theorem ggX4_undo_X4_copies : GoodIn wsX4_undo wsX4_copies := goodIn_r _ [7] (by decide +kernel) (by decide +kernel)
set_option maxRecDepth 20000 in
theorem gX4_undo_X4_copies : GoodIn wsX4_undo (va_wsS RX4 25 yX4_copies wsX4_copies) := goodIn_app (goodIn_of _ (by decide +kernel)) ggX4_undo_X4_copies
theorem dX4_undo_0 : decode cX4_undo 0 = .ok (.aload_n 0, 1) := by decide +kernel
theorem dX4_undo_1 : decode cX4_undo 1 = .ok (.getfield 29, 3) := by decide +kernel
theorem dX4_undo_4 : decode cX4_undo 4 = .ok (.ifCond .ne 6, 3) := by decide +kernel
theorem dX4_undo_7 : decode cX4_undo 7 = .ok (.bipush (-2), 2) := by decide +kernel
theorem dX4_undo_9 : decode cX4_undo 9 = .ok (.ireturn, 1) := by decide +kernel
theorem dX4_undo_10 : decode cX4_undo 10 = .ok (.aload_n 0, 1) := by decide +kernel
theorem dX4_undo_11 : decode cX4_undo 11 = .ok (.dup, 1) := by decide +kernel
theorem dX4_undo_12 : decode cX4_undo 12 = .ok (.getfield 29, 3) := by decide +kernel
theorem dX4_undo_15 : decode cX4_undo 15 = .ok (.iconst 1, 1) := by decide +kernel
theorem dX4_undo_16 : decode cX4_undo 16 = .ok (.isub, 1) := by decide +kernel
theorem dX4_undo_17 : decode cX4_undo 17 = .ok (.putfield 29, 3) := by decide +kernel
theorem dX4_undo_20 : decode cX4_undo 20 = .ok (.aload_n 0, 1) := by decide +kernel
theorem dX4_undo_21 : decode cX4_undo 21 = .ok (.getfield 13, 3) := by decide +kernel
theorem dX4_undo_24 : decode cX4_undo 24 = .ok (.aload_n 0, 1) := by decide +kernel
theorem dX4_undo_25 : decode cX4_undo 25 = .ok (.getfield 29, 3) := by decide +kernel
theorem dX4_undo_28 : decode cX4_undo 28 = .ok (.sipush 667, 3) := by decide +kernel
theorem dX4_undo_31 : decode cX4_undo 31 = .ok (.imul, 1) := by decide +kernel
theorem dX4_undo_32 : decode cX4_undo 32 = .ok (.aload_n 0, 1) := by decide +kernel
theorem dX4_undo_33 : decode cX4_undo 33 = .ok (.getfield 7, 3) := by decide +kernel
theorem dX4_undo_36 : decode cX4_undo 36 = .ok (.iconst 0, 1) := by decide +kernel
theorem dX4_undo_37 : decode cX4_undo 37 = .ok (.invokestatic 25, 3) := by decide +kernel
theorem dX4_undo_40 : decode cX4_undo 40 = .ok (.aload_n 0, 1) := by decide +kernel
theorem dX4_undo_41 : decode cX4_undo 41 = .ok (.getfield 29, 3) := by decide +kernel
theorem dX4_undo_44 : decode cX4_undo 44 = .ok (.ireturn, 1) := by decide +kernel
set_option maxRecDepth 20000 in
theorem ggX4_append_X4_in : GoodIn wsX4_append wsX4_in := goodIn_r _ [6] (by decide +kernel) (by decide +kernel)
set_option maxRecDepth 20000 in
theorem gX4_append_X4_in : GoodIn wsX4_append (va_wsS RX4 64 yX4_in wsX4_in) := goodIn_app (goodIn_of _ (by decide +kernel)) ggX4_append_X4_in
theorem dX4_append_0 : decode cX4_append 0 = .ok (.iload_n 1, 1) := by decide +kernel
theorem dX4_append_1 : decode cX4_append 1 = .ok (.iconst 1, 1) := by decide +kernel
theorem dX4_append_2 : decode cX4_append 2 = .ok (.sipush 255, 3) := by decide +kernel
theorem dX4_append_5 : decode cX4_append 5 = .ok (.invokestatic 64, 3) := by decide +kernel
theorem dX4_append_8 : decode cX4_append 8 = .ok (.ifCond .ne 5, 3) := by decide +kernel
theorem dX4_append_11 : decode cX4_append 11 = .ok (.iconst (-1), 1) := by decide +kernel
theorem dX4_append_12 : decode cX4_append 12 = .ok (.ireturn, 1) := by decide +kernel
theorem dX4_append_13 : decode cX4_append 13 = .ok (.aload_n 0, 1) := by decide +kernel
theorem dX4_append_14 : decode cX4_append 14 = .ok (.getfield 102, 3) := by decide +kernel
theorem dX4_append_17 : decode cX4_append 17 = .ok (.bipush 80, 2) := by decide +kernel
theorem dX4_append_19 : decode cX4_append 19 = .ok (.if_icmp .ne 6, 3) := by decide +kernel
theorem dX4_append_22 : decode cX4_append 22 = .ok (.bipush (-3), 2) := by decide +kernel
theorem dX4_append_24 : decode cX4_append 24 = .ok (.ireturn, 1) := by decide +kernel
theorem dX4_append_25 : decode cX4_append 25 = .ok (.aload_n 0, 1) := by decide +kernel
theorem dX4_append_26 : decode cX4_append 26 = .ok (.getfield 22, 3) := by decide +kernel
theorem dX4_append_29 : decode cX4_append 29 = .ok (.aload_n 0, 1) := by decide +kernel
theorem dX4_append_30 : decode cX4_append 30 = .ok (.getfield 102, 3) := by decide +kernel
theorem dX4_append_33 : decode cX4_append 33 = .ok (.iload_n 1, 1) := by decide +kernel
theorem dX4_append_34 : decode cX4_append 34 = .ok (.iastore, 1) := by decide +kernel
theorem dX4_append_35 : decode cX4_append 35 = .ok (.aload_n 0, 1) := by decide +kernel
theorem dX4_append_36 : decode cX4_append 36 = .ok (.dup, 1) := by decide +kernel
theorem dX4_append_37 : decode cX4_append 37 = .ok (.getfield 102, 3) := by decide +kernel
theorem dX4_append_40 : decode cX4_append 40 = .ok (.iconst 1, 1) := by decide +kernel
theorem dX4_append_41 : decode cX4_append 41 = .ok (.iadd, 1) := by decide +kernel
theorem dX4_append_42 : decode cX4_append 42 = .ok (.putfield 102, 3) := by decide +kernel
theorem dX4_append_45 : decode cX4_append 45 = .ok (.aload_n 0, 1) := by decide +kernel
theorem dX4_append_46 : decode cX4_append 46 = .ok (.getfield 102, 3) := by decide +kernel
theorem dX4_append_49 : decode cX4_append 49 = .ok (.ireturn, 1) := by decide +kernel
theorem dX4_clearText_0 : decode cX4_clearText 0 = .ok (.aload_n 0, 1) := by decide +kernel
theorem dX4_clearText_1 : decode cX4_clearText 1 = .ok (.getfield 102, 3) := by decide +kernel
theorem dX4_clearText_4 : decode cX4_clearText 4 = .ok (.istore_n 1, 1) := by decide +kernel
theorem dX4_clearText_5 : decode cX4_clearText 5 = .ok (.aload_n 0, 1) := by decide +kernel
theorem dX4_clearText_6 : decode cX4_clearText 6 = .ok (.iconst 0, 1) := by decide +kernel
theorem dX4_clearText_7 : decode cX4_clearText 7 = .ok (.putfield 102, 3) := by decide +kernel
theorem dX4_clearText_10 : decode cX4_clearText 10 = .ok (.iload_n 1, 1) := by decide +kernel
theorem dX4_clearText_11 : decode cX4_clearText 11 = .ok (.ireturn, 1) := by decide +kernel
theorem dX4_signAt_0 : decode cX4_signAt 0 = .ok (.iload_n 1, 1) := by decide +kernel
theorem dX4_signAt_1 : decode cX4_signAt 1 = .ok (.aload_n 0, 1) := by decide +kernel
theorem dX4_signAt_2 : decode cX4_signAt 2 = .ok (.getfield 102, 3) := by decide +kernel
theorem dX4_signAt_5 : decode cX4_signAt 5 = .ok (.if_icmp .ge 12, 3) := by decide +kernel
theorem dX4_signAt_8 : decode cX4_signAt 8 = .ok (.aload_n 0, 1) := by decide +kernel
theorem dX4_signAt_9 : decode cX4_signAt 9 = .ok (.getfield 22, 3) := by decide +kernel
theorem dX4_signAt_12 : decode cX4_signAt 12 = .ok (.iload_n 1, 1) := by decide +kernel
theorem dX4_signAt_13 : decode cX4_signAt 13 = .ok (.iaload, 1) := by decide +kernel
theorem dX4_signAt_14 : decode cX4_signAt 14 = .ok (.goto 4, 3) := by decide +kernel
theorem dX4_signAt_17 : decode cX4_signAt 17 = .ok (.iconst 0, 1) := by decide +kernel
theorem dX4_signAt_18 : decode cX4_signAt 18 = .ok (.ireturn, 1) := by decide +kernel
set_option maxRecDepth 20000 in
theorem ggX4_isDigit_X4_signAt : GoodIn wsX4_isDigit wsX4_signAt := goodIn_r _ [6, 7, 8, 12, 13, 14, 15, 16, 17, 18, 19] (by decide +kernel) (by decide +kernel)
set_option maxRecDepth 20000 in
theorem gX4_isDigit_X4_signAt : GoodIn wsX4_isDigit (wsV RX4 108 RX4 yX4_signAt wsX4_signAt) := goodIn_app (goodIn_of _ (by decide +kernel)) ggX4_isDigit_X4_signAt
set_option maxRecDepth 20000 in
theorem ggX4_isDigit_X4_in : GoodIn wsX4_isDigit wsX4_in := goodIn_r _ [11] (by decide +kernel) (by decide +kernel)
set_option maxRecDepth 20000 in
theorem gX4_isDigit_X4_in : GoodIn wsX4_isDigit (va_wsS RX4 64 yX4_in wsX4_in) := goodIn_app (goodIn_of _ (by decide +kernel)) ggX4_isDigit_X4_in
theorem dX4_isDigit_0 : decode cX4_isDigit 0 = .ok (.aload_n 0, 1) := by decide +kernel
theorem dX4_isDigit_1 : decode cX4_isDigit 1 = .ok (.aload_n 0, 1) := by decide +kernel
theorem dX4_isDigit_2 : decode cX4_isDigit 2 = .ok (.getfield 105, 3) := by decide +kernel
theorem dX4_isDigit_5 : decode cX4_isDigit 5 = .ok (.invokevirtual 108, 3) := by decide +kernel
theorem dX4_isDigit_8 : decode cX4_isDigit 8 = .ok (.bipush 48, 2) := by decide +kernel
theorem dX4_isDigit_10 : decode cX4_isDigit 10 = .ok (.bipush 57, 2) := by decide +kernel
theorem dX4_isDigit_12 : decode cX4_isDigit 12 = .ok (.invokestatic 64, 3) := by decide +kernel
theorem dX4_isDigit_15 : decode cX4_isDigit 15 = .ok (.ireturn, 1) := by decide +kernel
set_option maxRecDepth 20000 in
theorem ggX4_number_X4_signAt : GoodIn wsX4_number wsX4_signAt := goodIn_r _ [6, 7, 8, 16, 17, 18, 19, 20, 21, 22, 23] (by decide +kernel) (by decide +kernel)
set_option maxRecDepth 20000 in
theorem gX4_number_X4_signAt : GoodIn wsX4_number (wsV RX4 108 RX4 yX4_signAt wsX4_signAt) := goodIn_app (goodIn_of _ (by decide +kernel)) ggX4_number_X4_signAt
set_option maxRecDepth 20000 in
theorem ggX4_number_X4_isDigit : GoodIn wsX4_number wsX4_isDigit := goodIn_r _ [12, 1, 2, 3, 4, 5, 6, 7, 8, 13, 14, 15, 16, 17, 18, 19, 20, 21, 22, 23] (by decide +kernel) (by decide +kernel)
set_option maxRecDepth 20000 in
theorem gX4_number_X4_isDigit : GoodIn wsX4_number (wsV RX4 111 RX4 yX4_isDigit wsX4_isDigit) := goodIn_app (goodIn_of _ (by decide +kernel)) ggX4_number_X4_isDigit
theorem dX4_number_0 : decode cX4_number 0 = .ok (.aload_n 0, 1) := by decide +kernel
theorem dX4_number_1 : decode cX4_number 1 = .ok (.aload_n 0, 1) := by decide +kernel
theorem dX4_number_2 : decode cX4_number 2 = .ok (.getfield 105, 3) := by decide +kernel
theorem dX4_number_5 : decode cX4_number 5 = .ok (.invokevirtual 108, 3) := by decide +kernel
theorem dX4_number_8 : decode cX4_number 8 = .ok (.bipush 48, 2) := by decide +kernel
theorem dX4_number_10 : decode cX4_number 10 = .ok (.isub, 1) := by decide +kernel
theorem dX4_number_11 : decode cX4_number 11 = .ok (.istore_n 1, 1) := by decide +kernel
theorem dX4_number_12 : decode cX4_number 12 = .ok (.aload_n 0, 1) := by decide +kernel
theorem dX4_number_13 : decode cX4_number 13 = .ok (.dup, 1) := by decide +kernel
theorem dX4_number_14 : decode cX4_number 14 = .ok (.getfield 105, 3) := by decide +kernel
theorem dX4_number_17 : decode cX4_number 17 = .ok (.iconst 1, 1) := by decide +kernel
theorem dX4_number_18 : decode cX4_number 18 = .ok (.iadd, 1) := by decide +kernel
theorem dX4_number_19 : decode cX4_number 19 = .ok (.putfield 105, 3) := by decide +kernel
theorem dX4_number_22 : decode cX4_number 22 = .ok (.iconst 0, 1) := by decide +kernel
theorem dX4_number_23 : decode cX4_number 23 = .ok (.istore_n 2, 1) := by decide +kernel
theorem dX4_number_24 : decode cX4_number 24 = .ok (.iload_n 2, 1) := by decide +kernel
theorem dX4_number_25 : decode cX4_number 25 = .ok (.iconst 2, 1) := by decide +kernel
theorem dX4_number_26 : decode cX4_number 26 = .ok (.if_icmp .ge 47, 3) := by decide +kernel
theorem dX4_number_29 : decode cX4_number 29 = .ok (.iload_n 1, 1) := by decide +kernel
theorem dX4_number_30 : decode cX4_number 30 = .ok (.ifCond .le 43, 3) := by decide +kernel
theorem dX4_number_33 : decode cX4_number 33 = .ok (.aload_n 0, 1) := by decide +kernel
theorem dX4_number_34 : decode cX4_number 34 = .ok (.invokevirtual 111, 3) := by decide +kernel
theorem dX4_number_37 : decode cX4_number 37 = .ok (.ifCond .eq 36, 3) := by decide +kernel
theorem dX4_number_40 : decode cX4_number 40 = .ok (.bipush 10, 2) := by decide +kernel
theorem dX4_number_42 : decode cX4_number 42 = .ok (.iload_n 1, 1) := by decide +kernel
theorem dX4_number_43 : decode cX4_number 43 = .ok (.imul, 1) := by decide +kernel
theorem dX4_number_44 : decode cX4_number 44 = .ok (.aload_n 0, 1) := by decide +kernel
theorem dX4_number_45 : decode cX4_number 45 = .ok (.aload_n 0, 1) := by decide +kernel
theorem dX4_number_46 : decode cX4_number 46 = .ok (.getfield 105, 3) := by decide +kernel
theorem dX4_number_49 : decode cX4_number 49 = .ok (.invokevirtual 108, 3) := by decide +kernel
theorem dX4_number_52 : decode cX4_number 52 = .ok (.iadd, 1) := by decide +kernel
theorem dX4_number_53 : decode cX4_number 53 = .ok (.bipush 48, 2) := by decide +kernel
theorem dX4_number_55 : decode cX4_number 55 = .ok (.isub, 1) := by decide +kernel
theorem dX4_number_56 : decode cX4_number 56 = .ok (.istore_n 1, 1) := by decide +kernel
theorem dX4_number_57 : decode cX4_number 57 = .ok (.aload_n 0, 1) := by decide +kernel
theorem dX4_number_58 : decode cX4_number 58 = .ok (.dup, 1) := by decide +kernel
theorem dX4_number_59 : decode cX4_number 59 = .ok (.getfield 105, 3) := by decide +kernel
theorem dX4_number_62 : decode cX4_number 62 = .ok (.iconst 1, 1) := by decide +kernel
theorem dX4_number_63 : decode cX4_number 63 = .ok (.iadd, 1) := by decide +kernel
theorem dX4_number_64 : decode cX4_number 64 = .ok (.putfield 105, 3) := by decide +kernel
theorem dX4_number_67 : decode cX4_number 67 = .ok (.iinc 2 1, 3) := by decide +kernel
theorem dX4_number_70 : decode cX4_number 70 = .ok (.goto (-46), 3) := by decide +kernel
theorem dX4_number_73 : decode cX4_number 73 = .ok (.iload_n 1, 1) := by decide +kernel
theorem dX4_number_74 : decode cX4_number 74 = .ok (.ireturn, 1) := by decide +kernel
set_option maxRecDepth 20000 in
theorem ggX4_takesMany_X4_in : GoodIn wsX4_takesMany wsX4_in := goodIn_r _ [4] (by decide +kernel) (by decide +kernel)
set_option maxRecDepth 20000 in
theorem gX4_takesMany_X4_in : GoodIn wsX4_takesMany (va_wsS RX4 64 yX4_in wsX4_in) := goodIn_app (goodIn_of _ (by decide +kernel)) ggX4_takesMany_X4_in
set_option maxRecDepth 20000 in
theorem ggX4_takesMany_X4_takes1 : GoodIn wsX4_takesMany wsX4_takes1 := goodIn_r _ [8, 9, 10, 11, 3, 12, 13, 14, 15, 16, 17, 18, 19, 20, 21, 22, 23, 24, 25, 26, 27, 28, 29, 30, 31, 32, 33, 34, 35, 36, 37, 38, 39, 40, 41] (by decide +kernel) (by decide +kernel)
set_option maxRecDepth 20000 in
theorem gX4_takesMany_X4_takes1 : GoodIn wsX4_takesMany (wsV RX4 58 RX4 yX4_takes1 wsX4_takes1) := goodIn_app (goodIn_of _ (by decide +kernel)) ggX4_takesMany_X4_takes1
theorem dX4_takesMany_0 : decode cX4_takesMany 0 = .ok (.iload_n 1, 1) := by decide +kernel
theorem dX4_takesMany_1 : decode cX4_takesMany 1 = .ok (.iconst 1, 1) := by decide +kernel
theorem dX4_takesMany_2 : decode cX4_takesMany 2 = .ok (.sipush 320, 3) := by decide +kernel
theorem dX4_takesMany_5 : decode cX4_takesMany 5 = .ok (.invokestatic 64, 3) := by decide +kernel
theorem dX4_takesMany_8 : decode cX4_takesMany 8 = .ok (.ifCond .ne 5, 3) := by decide +kernel
theorem dX4_takesMany_11 : decode cX4_takesMany 11 = .ok (.iconst (-1), 1) := by decide +kernel
theorem dX4_takesMany_12 : decode cX4_takesMany 12 = .ok (.ireturn, 1) := by decide +kernel
theorem dX4_takesMany_13 : decode cX4_takesMany 13 = .ok (.iconst 0, 1) := by decide +kernel
theorem dX4_takesMany_14 : decode cX4_takesMany 14 = .ok (.istore_n 2, 1) := by decide +kernel
theorem dX4_takesMany_15 : decode cX4_takesMany 15 = .ok (.iconst 0, 1) := by decide +kernel
theorem dX4_takesMany_16 : decode cX4_takesMany 16 = .ok (.istore_n 3, 1) := by decide +kernel
theorem dX4_takesMany_17 : decode cX4_takesMany 17 = .ok (.iload_n 3, 1) := by decide +kernel
theorem dX4_takesMany_18 : decode cX4_takesMany 18 = .ok (.iload_n 1, 1) := by decide +kernel
theorem dX4_takesMany_19 : decode cX4_takesMany 19 = .ok (.if_icmp .ge 18, 3) := by decide +kernel
theorem dX4_takesMany_22 : decode cX4_takesMany 22 = .ok (.iload_n 2, 1) := by decide +kernel
theorem dX4_takesMany_23 : decode cX4_takesMany 23 = .ok (.ifCond .lt 14, 3) := by decide +kernel
theorem dX4_takesMany_26 : decode cX4_takesMany 26 = .ok (.aload_n 0, 1) := by decide +kernel
theorem dX4_takesMany_27 : decode cX4_takesMany 27 = .ok (.invokevirtual 58, 3) := by decide +kernel
theorem dX4_takesMany_30 : decode cX4_takesMany 30 = .ok (.istore_n 2, 1) := by decide +kernel
theorem dX4_takesMany_31 : decode cX4_takesMany 31 = .ok (.iinc 3 1, 3) := by decide +kernel
theorem dX4_takesMany_34 : decode cX4_takesMany 34 = .ok (.goto (-17), 3) := by decide +kernel
theorem dX4_takesMany_37 : decode cX4_takesMany 37 = .ok (.iload_n 2, 1) := by decide +kernel
theorem dX4_takesMany_38 : decode cX4_takesMany 38 = .ok (.ireturn, 1) := by decide +kernel
set_option maxRecDepth 20000 in
theorem ggX4_does_X4_takesMany : GoodIn wsX4_does wsX4_takesMany := goodIn_r _ [5, 6, 7, 4, 8, 9, 10, 11, 12, 13, 14, 15, 16, 17, 18, 19, 20, 21, 22, 23, 24, 25, 26, 27, 28, 29, 30, 31, 32, 33, 34, 35, 36, 37, 76, 77, 78, 79, 80, 81, 82, 83] (by decide +kernel) (by decide +kernel)
set_option maxRecDepth 20000 in
theorem gX4_does_X4_takesMany : GoodIn wsX4_does (wsV RX4 115 RX4 yX4_takesMany wsX4_takesMany) := goodIn_app (goodIn_of _ (by decide +kernel)) ggX4_does_X4_takesMany
set_option maxRecDepth 20000 in
theorem ggX4_does_X4_givesBack : GoodIn wsX4_does wsX4_givesBack := goodIn_r _ [41, 17, 6, 7, 4, 8, 22, 23, 24, 25, 26, 27, 28, 29, 30, 31, 32, 33, 76, 77, 78, 79, 80, 81, 82, 83] (by decide +kernel) (by decide +kernel)
set_option maxRecDepth 20000 in
theorem gX4_does_X4_givesBack : GoodIn wsX4_does (wsV RX4 71 RX4 yX4_givesBack wsX4_givesBack) := goodIn_app (goodIn_of _ (by decide +kernel)) ggX4_does_X4_givesBack
set_option maxRecDepth 20000 in
theorem ggX4_does_X4_clearsSome : GoodIn wsX4_does wsX4_clearsSome := goodIn_r _ [45, 6, 7, 4, 8, 34, 35, 36, 37, 17, 30, 31, 32, 33, 22, 23, 24, 25, 26, 27, 28, 29, 76, 77, 78, 79, 80, 81, 82, 83] (by decide +kernel) (by decide +kernel)
set_option maxRecDepth 20000 in
theorem gX4_does_X4_clearsSome : GoodIn wsX4_does (wsV RX4 74 RX4 yX4_clearsSome wsX4_clearsSome) := goodIn_app (goodIn_of _ (by decide +kernel)) ggX4_does_X4_clearsSome
set_option maxRecDepth 20000 in
theorem ggX4_does_X4_reserves : GoodIn wsX4_does wsX4_reserves := goodIn_r _ [49, 17, 50, 51, 4, 52, 53, 54, 55, 56, 6, 7, 8, 57, 58, 59, 60, 22, 23, 24, 25, 26, 27, 28, 29, 30, 31, 32, 33, 76, 77, 78, 79, 80, 81, 82, 83] (by decide +kernel) (by decide +kernel)
set_option maxRecDepth 20000 in
theorem gX4_does_X4_reserves : GoodIn wsX4_does (wsV RX4 87 RX4 yX4_reserves wsX4_reserves) := goodIn_app (goodIn_of _ (by decide +kernel)) ggX4_does_X4_reserves
set_option maxRecDepth 20000 in
theorem ggX4_does_X4_takesIn : GoodIn wsX4_does wsX4_takesIn := goodIn_r _ [64, 17, 53, 54, 55, 4, 56, 6, 7, 8, 22, 23, 24, 25, 26, 27, 28, 29, 30, 31, 32, 33, 76, 77, 78, 79, 80, 81, 82, 83] (by decide +kernel) (by decide +kernel)
set_option maxRecDepth 20000 in
theorem gX4_does_X4_takesIn : GoodIn wsX4_does (wsV RX4 90 RX4 yX4_takesIn wsX4_takesIn) := goodIn_app (goodIn_of _ (by decide +kernel)) ggX4_does_X4_takesIn
set_option maxRecDepth 20000 in
theorem ggX4_does_X4_damages : GoodIn wsX4_does wsX4_damages := goodIn_r _ [68, 17, 69, 70, 4, 71, 6, 7, 8, 76, 77, 78, 79, 80, 81, 82, 83] (by decide +kernel) (by decide +kernel)
set_option maxRecDepth 20000 in
theorem gX4_does_X4_damages : GoodIn wsX4_does (wsV RX4 96 RX4 yX4_damages wsX4_damages) := goodIn_app (goodIn_of _ (by decide +kernel)) ggX4_does_X4_damages
set_option maxRecDepth 20000 in
theorem ggX4_does_X4_repairs : GoodIn wsX4_does wsX4_repairs := goodIn_r _ [75, 17, 26, 27, 28, 4, 29, 30, 31, 32, 33, 76, 77, 78, 79, 80, 81, 82, 83] (by decide +kernel) (by decide +kernel)
set_option maxRecDepth 20000 in
theorem gX4_does_X4_repairs : GoodIn wsX4_does (wsV RX4 99 RX4 yX4_repairs wsX4_repairs) := goodIn_app (goodIn_of _ (by decide +kernel)) ggX4_does_X4_repairs
theorem dX4_does_0 : decode cX4_does 0 = .ok (.iload_n 1, 1) := by decide +kernel
theorem dX4_does_1 : decode cX4_does 1 = .ok (.tableswitch 128 98 116 #[116, 104, 122, 128, 97, 128, 128, 128, 128, 128, 128, 128, 128, 128, 128, 128, 110, 128, 91], 91) := by decide +kernel
theorem dX4_does_92 : decode cX4_does 92 = .ok (.aload_n 0, 1) := by decide +kernel
theorem dX4_does_93 : decode cX4_does 93 = .ok (.iload_n 2, 1) := by decide +kernel
theorem dX4_does_94 : decode cX4_does 94 = .ok (.invokevirtual 115, 3) := by decide +kernel
theorem dX4_does_97 : decode cX4_does 97 = .ok (.ireturn, 1) := by decide +kernel
theorem dX4_does_98 : decode cX4_does 98 = .ok (.aload_n 0, 1) := by decide +kernel
theorem dX4_does_99 : decode cX4_does 99 = .ok (.iload_n 2, 1) := by decide +kernel
theorem dX4_does_100 : decode cX4_does 100 = .ok (.iload_n 3, 1) := by decide +kernel
theorem dX4_does_101 : decode cX4_does 101 = .ok (.invokevirtual 71, 3) := by decide +kernel
theorem dX4_does_104 : decode cX4_does 104 = .ok (.ireturn, 1) := by decide +kernel
theorem dX4_does_105 : decode cX4_does 105 = .ok (.aload_n 0, 1) := by decide +kernel
theorem dX4_does_106 : decode cX4_does 106 = .ok (.iload_n 2, 1) := by decide +kernel
theorem dX4_does_107 : decode cX4_does 107 = .ok (.invokevirtual 74, 3) := by decide +kernel
theorem dX4_does_110 : decode cX4_does 110 = .ok (.ireturn, 1) := by decide +kernel
theorem dX4_does_111 : decode cX4_does 111 = .ok (.aload_n 0, 1) := by decide +kernel
theorem dX4_does_112 : decode cX4_does 112 = .ok (.iload_n 2, 1) := by decide +kernel
theorem dX4_does_113 : decode cX4_does 113 = .ok (.invokevirtual 87, 3) := by decide +kernel
theorem dX4_does_116 : decode cX4_does 116 = .ok (.ireturn, 1) := by decide +kernel
theorem dX4_does_117 : decode cX4_does 117 = .ok (.aload_n 0, 1) := by decide +kernel
theorem dX4_does_118 : decode cX4_does 118 = .ok (.iload_n 2, 1) := by decide +kernel
theorem dX4_does_119 : decode cX4_does 119 = .ok (.invokevirtual 90, 3) := by decide +kernel
theorem dX4_does_122 : decode cX4_does 122 = .ok (.ireturn, 1) := by decide +kernel
theorem dX4_does_123 : decode cX4_does 123 = .ok (.aload_n 0, 1) := by decide +kernel
theorem dX4_does_124 : decode cX4_does 124 = .ok (.iload_n 2, 1) := by decide +kernel
theorem dX4_does_125 : decode cX4_does 125 = .ok (.invokevirtual 96, 3) := by decide +kernel
theorem dX4_does_128 : decode cX4_does 128 = .ok (.ireturn, 1) := by decide +kernel
theorem dX4_does_129 : decode cX4_does 129 = .ok (.aload_n 0, 1) := by decide +kernel
theorem dX4_does_130 : decode cX4_does 130 = .ok (.invokevirtual 99, 3) := by decide +kernel
theorem dX4_does_133 : decode cX4_does 133 = .ok (.ireturn, 1) := by decide +kernel
theorem dX4_isLetter_0 : decode cX4_isLetter 0 = .ok (.iload_n 0, 1) := by decide +kernel
theorem dX4_isLetter_1 : decode cX4_isLetter 1 = .ok (.bipush 116, 2) := by decide +kernel
theorem dX4_isLetter_3 : decode cX4_isLetter 3 = .ok (.if_icmp .eq 39, 3) := by decide +kernel
theorem dX4_isLetter_6 : decode cX4_isLetter 6 = .ok (.iload_n 0, 1) := by decide +kernel
theorem dX4_isLetter_7 : decode cX4_isLetter 7 = .ok (.bipush 102, 2) := by decide +kernel
theorem dX4_isLetter_9 : decode cX4_isLetter 9 = .ok (.if_icmp .eq 33, 3) := by decide +kernel
theorem dX4_isLetter_12 : decode cX4_isLetter 12 = .ok (.iload_n 0, 1) := by decide +kernel
theorem dX4_isLetter_13 : decode cX4_isLetter 13 = .ok (.bipush 99, 2) := by decide +kernel
theorem dX4_isLetter_15 : decode cX4_isLetter 15 = .ok (.if_icmp .eq 27, 3) := by decide +kernel
theorem dX4_isLetter_18 : decode cX4_isLetter 18 = .ok (.iload_n 0, 1) := by decide +kernel
theorem dX4_isLetter_19 : decode cX4_isLetter 19 = .ok (.bipush 114, 2) := by decide +kernel
theorem dX4_isLetter_21 : decode cX4_isLetter 21 = .ok (.if_icmp .eq 21, 3) := by decide +kernel
theorem dX4_isLetter_24 : decode cX4_isLetter 24 = .ok (.iload_n 0, 1) := by decide +kernel
theorem dX4_isLetter_25 : decode cX4_isLetter 25 = .ok (.bipush 98, 2) := by decide +kernel
theorem dX4_isLetter_27 : decode cX4_isLetter 27 = .ok (.if_icmp .eq 15, 3) := by decide +kernel
theorem dX4_isLetter_30 : decode cX4_isLetter 30 = .ok (.iload_n 0, 1) := by decide +kernel
theorem dX4_isLetter_31 : decode cX4_isLetter 31 = .ok (.bipush 100, 2) := by decide +kernel
theorem dX4_isLetter_33 : decode cX4_isLetter 33 = .ok (.if_icmp .eq 9, 3) := by decide +kernel
theorem dX4_isLetter_36 : decode cX4_isLetter 36 = .ok (.iload_n 0, 1) := by decide +kernel
theorem dX4_isLetter_37 : decode cX4_isLetter 37 = .ok (.bipush 97, 2) := by decide +kernel
theorem dX4_isLetter_39 : decode cX4_isLetter 39 = .ok (.if_icmp .ne 7, 3) := by decide +kernel
theorem dX4_isLetter_42 : decode cX4_isLetter 42 = .ok (.iconst 1, 1) := by decide +kernel
theorem dX4_isLetter_43 : decode cX4_isLetter 43 = .ok (.goto 4, 3) := by decide +kernel
theorem dX4_isLetter_46 : decode cX4_isLetter 46 = .ok (.iconst 0, 1) := by decide +kernel
theorem dX4_isLetter_47 : decode cX4_isLetter 47 = .ok (.ireturn, 1) := by decide +kernel
set_option maxRecDepth 20000 in
theorem ggX4_runsOne_X4_signAt : GoodIn wsX4_runsOne wsX4_signAt := goodIn_r _ [6, 7, 8, 98, 99, 100, 101, 102, 103, 104, 105] (by decide +kernel) (by decide +kernel)
set_option maxRecDepth 20000 in
theorem gX4_runsOne_X4_signAt : GoodIn wsX4_runsOne (wsV RX4 108 RX4 yX4_signAt wsX4_signAt) := goodIn_app (goodIn_of _ (by decide +kernel)) ggX4_runsOne_X4_signAt
set_option maxRecDepth 20000 in
theorem ggX4_runsOne_X4_isLetter : GoodIn wsX4_runsOne wsX4_isLetter := goodIn_r _ [11] (by decide +kernel) (by decide +kernel)
set_option maxRecDepth 20000 in
theorem gX4_runsOne_X4_isLetter : GoodIn wsX4_runsOne (va_wsS RX4 118 yX4_isLetter wsX4_isLetter) := goodIn_app (goodIn_of _ (by decide +kernel)) ggX4_runsOne_X4_isLetter
set_option maxRecDepth 20000 in
theorem ggX4_runsOne_X4_isDigit : GoodIn wsX4_runsOne wsX4_isDigit := goodIn_r _ [15, 1, 2, 3, 4, 5, 6, 7, 8, 16, 17, 18, 98, 99, 100, 101, 102, 103, 104, 105] (by decide +kernel) (by decide +kernel)
set_option maxRecDepth 20000 in
theorem gX4_runsOne_X4_isDigit : GoodIn wsX4_runsOne (wsV RX4 111 RX4 yX4_isDigit wsX4_isDigit) := goodIn_app (goodIn_of _ (by decide +kernel)) ggX4_runsOne_X4_isDigit
set_option maxRecDepth 20000 in
theorem ggX4_runsOne_X4_number : GoodIn wsX4_runsOne wsX4_number := goodIn_r _ [22, 1, 2, 3, 4, 5, 6, 7, 8, 12, 13, 14, 15, 16, 17, 18, 98, 99, 100, 101, 102, 103, 104, 105] (by decide +kernel) (by decide +kernel)
set_option maxRecDepth 20000 in
theorem gX4_runsOne_X4_number : GoodIn wsX4_runsOne (wsV RX4 121 RX4 yX4_number wsX4_number) := goodIn_app (goodIn_of _ (by decide +kernel)) ggX4_runsOne_X4_number
set_option maxRecDepth 20000 in
theorem ggX4_runsOne_X4_does : GoodIn wsX4_runsOne wsX4_does := goodIn_r _ [26, 27, 28, 29, 5, 30, 16, 17, 18, 31, 32, 33, 34, 35, 36, 37, 38, 39, 40, 41, 42, 43, 44, 45, 46, 47, 48, 49, 50, 51, 52, 53, 54, 55, 56, 57, 58, 59, 60, 61, 62, 63, 64, 65, 66, 67, 68, 69, 70, 71, 72, 73, 74, 75, 76, 77, 78, 79, 80, 81, 82, 83, 84, 85, 86, 87, 88, 89, 90, 91, 92, 93, 94, 95, 96, 97, 98, 99, 100, 101, 102, 103, 104, 105] (by decide +kernel) (by decide +kernel)
set_option maxRecDepth 20000 in
theorem gX4_runsOne_X4_does : GoodIn wsX4_runsOne (wsV RX4 124 RX4 yX4_does wsX4_does) := goodIn_app (goodIn_of _ (by decide +kernel)) ggX4_runsOne_X4_does
theorem dX4_runsOne_0 : decode cX4_runsOne 0 = .ok (.aload_n 0, 1) := by decide +kernel
theorem dX4_runsOne_1 : decode cX4_runsOne 1 = .ok (.aload_n 0, 1) := by decide +kernel
theorem dX4_runsOne_2 : decode cX4_runsOne 2 = .ok (.getfield 105, 3) := by decide +kernel
theorem dX4_runsOne_5 : decode cX4_runsOne 5 = .ok (.invokevirtual 108, 3) := by decide +kernel
theorem dX4_runsOne_8 : decode cX4_runsOne 8 = .ok (.istore_n 1, 1) := by decide +kernel
theorem dX4_runsOne_9 : decode cX4_runsOne 9 = .ok (.aload_n 0, 1) := by decide +kernel
theorem dX4_runsOne_10 : decode cX4_runsOne 10 = .ok (.getfield 105, 3) := by decide +kernel
theorem dX4_runsOne_13 : decode cX4_runsOne 13 = .ok (.istore_n 2, 1) := by decide +kernel
theorem dX4_runsOne_14 : decode cX4_runsOne 14 = .ok (.iload_n 1, 1) := by decide +kernel
theorem dX4_runsOne_15 : decode cX4_runsOne 15 = .ok (.invokestatic 118, 3) := by decide +kernel
theorem dX4_runsOne_18 : decode cX4_runsOne 18 = .ok (.ifCond .ne 5, 3) := by decide +kernel
theorem dX4_runsOne_21 : decode cX4_runsOne 21 = .ok (.iconst 0, 1) := by decide +kernel
theorem dX4_runsOne_22 : decode cX4_runsOne 22 = .ok (.ireturn, 1) := by decide +kernel
theorem dX4_runsOne_23 : decode cX4_runsOne 23 = .ok (.aload_n 0, 1) := by decide +kernel
theorem dX4_runsOne_24 : decode cX4_runsOne 24 = .ok (.dup, 1) := by decide +kernel
theorem dX4_runsOne_25 : decode cX4_runsOne 25 = .ok (.getfield 105, 3) := by decide +kernel
theorem dX4_runsOne_28 : decode cX4_runsOne 28 = .ok (.iconst 1, 1) := by decide +kernel
theorem dX4_runsOne_29 : decode cX4_runsOne 29 = .ok (.iadd, 1) := by decide +kernel
theorem dX4_runsOne_30 : decode cX4_runsOne 30 = .ok (.putfield 105, 3) := by decide +kernel
theorem dX4_runsOne_33 : decode cX4_runsOne 33 = .ok (.iconst 1, 1) := by decide +kernel
theorem dX4_runsOne_34 : decode cX4_runsOne 34 = .ok (.istore_n 3, 1) := by decide +kernel
theorem dX4_runsOne_35 : decode cX4_runsOne 35 = .ok (.iload_n 1, 1) := by decide +kernel
theorem dX4_runsOne_36 : decode cX4_runsOne 36 = .ok (.bipush 97, 2) := by decide +kernel
theorem dX4_runsOne_38 : decode cX4_runsOne 38 = .ok (.if_icmp .eq 30, 3) := by decide +kernel
theorem dX4_runsOne_41 : decode cX4_runsOne 41 = .ok (.iload_n 1, 1) := by decide +kernel
theorem dX4_runsOne_42 : decode cX4_runsOne 42 = .ok (.bipush 116, 2) := by decide +kernel
theorem dX4_runsOne_44 : decode cX4_runsOne 44 = .ok (.if_icmp .ne 10, 3) := by decide +kernel
theorem dX4_runsOne_47 : decode cX4_runsOne 47 = .ok (.aload_n 0, 1) := by decide +kernel
theorem dX4_runsOne_48 : decode cX4_runsOne 48 = .ok (.invokevirtual 111, 3) := by decide +kernel
theorem dX4_runsOne_51 : decode cX4_runsOne 51 = .ok (.ifCond .eq 17, 3) := by decide +kernel
theorem dX4_runsOne_54 : decode cX4_runsOne 54 = .ok (.aload_n 0, 1) := by decide +kernel
theorem dX4_runsOne_55 : decode cX4_runsOne 55 = .ok (.invokevirtual 111, 3) := by decide +kernel
theorem dX4_runsOne_58 : decode cX4_runsOne 58 = .ok (.ifCond .ne 5, 3) := by decide +kernel
theorem dX4_runsOne_61 : decode cX4_runsOne 61 = .ok (.iconst 0, 1) := by decide +kernel
theorem dX4_runsOne_62 : decode cX4_runsOne 62 = .ok (.ireturn, 1) := by decide +kernel
theorem dX4_runsOne_63 : decode cX4_runsOne 63 = .ok (.aload_n 0, 1) := by decide +kernel
theorem dX4_runsOne_64 : decode cX4_runsOne 64 = .ok (.invokevirtual 121, 3) := by decide +kernel
theorem dX4_runsOne_67 : decode cX4_runsOne 67 = .ok (.istore_n 3, 1) := by decide +kernel
theorem dX4_runsOne_68 : decode cX4_runsOne 68 = .ok (.iload_n 3, 1) := by decide +kernel
theorem dX4_runsOne_69 : decode cX4_runsOne 69 = .ok (.istore 4, 2) := by decide +kernel
theorem dX4_runsOne_71 : decode cX4_runsOne 71 = .ok (.iload_n 1, 1) := by decide +kernel
theorem dX4_runsOne_72 : decode cX4_runsOne 72 = .ok (.bipush 102, 2) := by decide +kernel
theorem dX4_runsOne_74 : decode cX4_runsOne 74 = .ok (.if_icmp .ne 41, 3) := by decide +kernel
theorem dX4_runsOne_77 : decode cX4_runsOne 77 = .ok (.aload_n 0, 1) := by decide +kernel
theorem dX4_runsOne_78 : decode cX4_runsOne 78 = .ok (.aload_n 0, 1) := by decide +kernel
theorem dX4_runsOne_79 : decode cX4_runsOne 79 = .ok (.getfield 105, 3) := by decide +kernel
theorem dX4_runsOne_82 : decode cX4_runsOne 82 = .ok (.invokevirtual 108, 3) := by decide +kernel
theorem dX4_runsOne_85 : decode cX4_runsOne 85 = .ok (.bipush 45, 2) := by decide +kernel
theorem dX4_runsOne_87 : decode cX4_runsOne 87 = .ok (.if_icmp .ne 28, 3) := by decide +kernel
theorem dX4_runsOne_90 : decode cX4_runsOne 90 = .ok (.aload_n 0, 1) := by decide +kernel
theorem dX4_runsOne_91 : decode cX4_runsOne 91 = .ok (.dup, 1) := by decide +kernel
theorem dX4_runsOne_92 : decode cX4_runsOne 92 = .ok (.getfield 105, 3) := by decide +kernel
theorem dX4_runsOne_95 : decode cX4_runsOne 95 = .ok (.iconst 1, 1) := by decide +kernel
theorem dX4_runsOne_96 : decode cX4_runsOne 96 = .ok (.iadd, 1) := by decide +kernel
theorem dX4_runsOne_97 : decode cX4_runsOne 97 = .ok (.putfield 105, 3) := by decide +kernel
theorem dX4_runsOne_100 : decode cX4_runsOne 100 = .ok (.aload_n 0, 1) := by decide +kernel
theorem dX4_runsOne_101 : decode cX4_runsOne 101 = .ok (.invokevirtual 111, 3) := by decide +kernel
theorem dX4_runsOne_104 : decode cX4_runsOne 104 = .ok (.ifCond .ne 5, 3) := by decide +kernel
theorem dX4_runsOne_107 : decode cX4_runsOne 107 = .ok (.iconst 0, 1) := by decide +kernel
theorem dX4_runsOne_108 : decode cX4_runsOne 108 = .ok (.ireturn, 1) := by decide +kernel
theorem dX4_runsOne_109 : decode cX4_runsOne 109 = .ok (.aload_n 0, 1) := by decide +kernel
theorem dX4_runsOne_110 : decode cX4_runsOne 110 = .ok (.invokevirtual 121, 3) := by decide +kernel
theorem dX4_runsOne_113 : decode cX4_runsOne 113 = .ok (.istore 4, 2) := by decide +kernel
theorem dX4_runsOne_115 : decode cX4_runsOne 115 = .ok (.aload_n 0, 1) := by decide +kernel
theorem dX4_runsOne_116 : decode cX4_runsOne 116 = .ok (.aload_n 0, 1) := by decide +kernel
theorem dX4_runsOne_117 : decode cX4_runsOne 117 = .ok (.getfield 105, 3) := by decide +kernel
theorem dX4_runsOne_120 : decode cX4_runsOne 120 = .ok (.invokevirtual 108, 3) := by decide +kernel
theorem dX4_runsOne_123 : decode cX4_runsOne 123 = .ok (.bipush 59, 2) := by decide +kernel
theorem dX4_runsOne_125 : decode cX4_runsOne 125 = .ok (.if_icmp .eq 5, 3) := by decide +kernel
theorem dX4_runsOne_128 : decode cX4_runsOne 128 = .ok (.iconst 0, 1) := by decide +kernel
theorem dX4_runsOne_129 : decode cX4_runsOne 129 = .ok (.ireturn, 1) := by decide +kernel
theorem dX4_runsOne_130 : decode cX4_runsOne 130 = .ok (.aload_n 0, 1) := by decide +kernel
theorem dX4_runsOne_131 : decode cX4_runsOne 131 = .ok (.iload_n 1, 1) := by decide +kernel
theorem dX4_runsOne_132 : decode cX4_runsOne 132 = .ok (.iload_n 3, 1) := by decide +kernel
theorem dX4_runsOne_133 : decode cX4_runsOne 133 = .ok (.iload 4, 2) := by decide +kernel
theorem dX4_runsOne_135 : decode cX4_runsOne 135 = .ok (.invokevirtual 124, 3) := by decide +kernel
theorem dX4_runsOne_138 : decode cX4_runsOne 138 = .ok (.ifCond .lt 7, 3) := by decide +kernel
theorem dX4_runsOne_141 : decode cX4_runsOne 141 = .ok (.iconst 1, 1) := by decide +kernel
theorem dX4_runsOne_142 : decode cX4_runsOne 142 = .ok (.goto 4, 3) := by decide +kernel
theorem dX4_runsOne_145 : decode cX4_runsOne 145 = .ok (.iconst 0, 1) := by decide +kernel
theorem dX4_runsOne_146 : decode cX4_runsOne 146 = .ok (.istore 5, 2) := by decide +kernel
theorem dX4_runsOne_148 : decode cX4_runsOne 148 = .ok (.aload_n 0, 1) := by decide +kernel
theorem dX4_runsOne_149 : decode cX4_runsOne 149 = .ok (.iload 5, 2) := by decide +kernel
theorem dX4_runsOne_151 : decode cX4_runsOne 151 = .ok (.ifCond .eq 12, 3) := by decide +kernel
theorem dX4_runsOne_154 : decode cX4_runsOne 154 = .ok (.aload_n 0, 1) := by decide +kernel
theorem dX4_runsOne_155 : decode cX4_runsOne 155 = .ok (.getfield 105, 3) := by decide +kernel
theorem dX4_runsOne_158 : decode cX4_runsOne 158 = .ok (.iconst 1, 1) := by decide +kernel
theorem dX4_runsOne_159 : decode cX4_runsOne 159 = .ok (.iadd, 1) := by decide +kernel
theorem dX4_runsOne_160 : decode cX4_runsOne 160 = .ok (.goto 4, 3) := by decide +kernel
theorem dX4_runsOne_163 : decode cX4_runsOne 163 = .ok (.iload_n 2, 1) := by decide +kernel
theorem dX4_runsOne_164 : decode cX4_runsOne 164 = .ok (.putfield 105, 3) := by decide +kernel
theorem dX4_runsOne_167 : decode cX4_runsOne 167 = .ok (.iload 5, 2) := by decide +kernel
theorem dX4_runsOne_169 : decode cX4_runsOne 169 = .ok (.ireturn, 1) := by decide +kernel
set_option maxRecDepth 20000 in
theorem ggX4_run_X4_notes : GoodIn wsX4_run wsX4_notes := goodIn_r _ [7, 8, 9, 10, 11, 6, 12, 116, 117, 118, 119, 120, 121, 122, 123] (by decide +kernel) (by decide +kernel)
set_option maxRecDepth 20000 in
theorem gX4_run_X4_notes : GoodIn wsX4_run (wsV RX4 55 RX4 yX4_notes wsX4_notes) := goodIn_app (goodIn_of _ (by decide +kernel)) ggX4_run_X4_notes
set_option maxRecDepth 20000 in
theorem ggX4_run_X4_runsOne : GoodIn wsX4_run wsX4_runsOne := goodIn_r _ [16, 1, 17, 18, 19, 6, 20, 2, 21, 22, 23, 24, 25, 26, 27, 28, 29, 30, 31, 32, 33, 34, 35, 36, 37, 38, 39, 40, 41, 42, 43, 44, 45, 46, 47, 48, 49, 50, 51, 8, 52, 53, 54, 55, 56, 57, 58, 59, 60, 61, 62, 63, 64, 65, 66, 67, 68, 69, 70, 71, 72, 73, 74, 75, 76, 77, 78, 79, 80, 81, 82, 83, 84, 85, 86, 87, 88, 89, 90, 91, 92, 93, 94, 95, 96, 97, 98, 99, 100, 101, 102, 103, 104, 105, 106, 107, 108, 109, 116, 117, 118, 119, 120, 121, 122, 123] (by decide +kernel) (by decide +kernel)
set_option maxRecDepth 20000 in
theorem gX4_run_X4_runsOne : GoodIn wsX4_run (wsV RX4 128 RX4 yX4_runsOne wsX4_runsOne) := goodIn_app (goodIn_of _ (by decide +kernel)) ggX4_run_X4_runsOne
set_option maxRecDepth 20000 in
theorem ggX4_run_X4_ends : GoodIn wsX4_run wsX4_ends := goodIn_r _ [113, 9, 8, 114, 115, 10, 11, 6, 12, 116, 117, 118, 119, 120, 121, 122, 123] (by decide +kernel) (by decide +kernel)
set_option maxRecDepth 20000 in
theorem gX4_run_X4_ends : GoodIn wsX4_run (wsV RX4 61 RX4 yX4_ends wsX4_ends) := goodIn_app (goodIn_of _ (by decide +kernel)) ggX4_run_X4_ends
theorem dX4_run_0 : decode cX4_run 0 = .ok (.aload_n 0, 1) := by decide +kernel
theorem dX4_run_1 : decode cX4_run 1 = .ok (.invokevirtual 55, 3) := by decide +kernel
theorem dX4_run_4 : decode cX4_run 4 = .ok (.aload_n 0, 1) := by decide +kernel
theorem dX4_run_5 : decode cX4_run 5 = .ok (.iconst 0, 1) := by decide +kernel
theorem dX4_run_6 : decode cX4_run 6 = .ok (.putfield 105, 3) := by decide +kernel
theorem dX4_run_9 : decode cX4_run 9 = .ok (.iconst 0, 1) := by decide +kernel
theorem dX4_run_10 : decode cX4_run 10 = .ok (.istore_n 1, 1) := by decide +kernel
theorem dX4_run_11 : decode cX4_run 11 = .ok (.aload_n 0, 1) := by decide +kernel
theorem dX4_run_12 : decode cX4_run 12 = .ok (.getfield 105, 3) := by decide +kernel
theorem dX4_run_15 : decode cX4_run 15 = .ok (.aload_n 0, 1) := by decide +kernel
theorem dX4_run_16 : decode cX4_run 16 = .ok (.getfield 102, 3) := by decide +kernel
theorem dX4_run_19 : decode cX4_run 19 = .ok (.if_icmp .ge 29, 3) := by decide +kernel
theorem dX4_run_22 : decode cX4_run 22 = .ok (.aload_n 0, 1) := by decide +kernel
theorem dX4_run_23 : decode cX4_run 23 = .ok (.invokevirtual 128, 3) := by decide +kernel
theorem dX4_run_26 : decode cX4_run 26 = .ok (.ifCond .ne 16, 3) := by decide +kernel
theorem dX4_run_29 : decode cX4_run 29 = .ok (.aload_n 0, 1) := by decide +kernel
theorem dX4_run_30 : decode cX4_run 30 = .ok (.sipush (-1000), 3) := by decide +kernel
theorem dX4_run_33 : decode cX4_run 33 = .ok (.aload_n 0, 1) := by decide +kernel
theorem dX4_run_34 : decode cX4_run 34 = .ok (.getfield 105, 3) := by decide +kernel
theorem dX4_run_37 : decode cX4_run 37 = .ok (.isub, 1) := by decide +kernel
theorem dX4_run_38 : decode cX4_run 38 = .ok (.invokevirtual 61, 3) := by decide +kernel
theorem dX4_run_41 : decode cX4_run 41 = .ok (.ireturn, 1) := by decide +kernel
theorem dX4_run_42 : decode cX4_run 42 = .ok (.iinc 1 1, 3) := by decide +kernel
theorem dX4_run_45 : decode cX4_run 45 = .ok (.goto (-34), 3) := by decide +kernel
theorem dX4_run_48 : decode cX4_run 48 = .ok (.aload_n 0, 1) := by decide +kernel
theorem dX4_run_49 : decode cX4_run 49 = .ok (.iload_n 1, 1) := by decide +kernel
theorem dX4_run_50 : decode cX4_run 50 = .ok (.invokevirtual 61, 3) := by decide +kernel
theorem dX4_run_53 : decode cX4_run 53 = .ok (.ireturn, 1) := by decide +kernel
theorem dX4_bits_0 : decode cX4_bits 0 = .ok (.iconst 0, 1) := by decide +kernel
theorem dX4_bits_1 : decode cX4_bits 1 = .ok (.istore_n 1, 1) := by decide +kernel
theorem dX4_bits_2 : decode cX4_bits 2 = .ok (.iconst 0, 1) := by decide +kernel
theorem dX4_bits_3 : decode cX4_bits 3 = .ok (.istore_n 2, 1) := by decide +kernel
theorem dX4_bits_4 : decode cX4_bits 4 = .ok (.iload_n 2, 1) := by decide +kernel
theorem dX4_bits_5 : decode cX4_bits 5 = .ok (.bipush 10, 2) := by decide +kernel
theorem dX4_bits_7 : decode cX4_bits 7 = .ok (.if_icmp .ge 22, 3) := by decide +kernel
theorem dX4_bits_10 : decode cX4_bits 10 = .ok (.iload_n 1, 1) := by decide +kernel
theorem dX4_bits_11 : decode cX4_bits 11 = .ok (.aload_n 0, 1) := by decide +kernel
theorem dX4_bits_12 : decode cX4_bits 12 = .ok (.getfield 7, 3) := by decide +kernel
theorem dX4_bits_15 : decode cX4_bits 15 = .ok (.sipush 640, 3) := by decide +kernel
theorem dX4_bits_18 : decode cX4_bits 18 = .ok (.iload_n 2, 1) := by decide +kernel
theorem dX4_bits_19 : decode cX4_bits 19 = .ok (.iadd, 1) := by decide +kernel
theorem dX4_bits_20 : decode cX4_bits 20 = .ok (.iaload, 1) := by decide +kernel
theorem dX4_bits_21 : decode cX4_bits 21 = .ok (.iadd, 1) := by decide +kernel
theorem dX4_bits_22 : decode cX4_bits 22 = .ok (.istore_n 1, 1) := by decide +kernel
theorem dX4_bits_23 : decode cX4_bits 23 = .ok (.iinc 2 1, 3) := by decide +kernel
theorem dX4_bits_26 : decode cX4_bits 26 = .ok (.goto (-22), 3) := by decide +kernel
theorem dX4_bits_29 : decode cX4_bits 29 = .ok (.iload_n 1, 1) := by decide +kernel
theorem dX4_bits_30 : decode cX4_bits 30 = .ok (.ireturn, 1) := by decide +kernel
set_option maxRecDepth 20000 in
theorem ggX4_full_X4_right : GoodIn wsX4_full wsX4_right := goodIn_r _ [5, 6, 7, 8, 4, 9, 10, 11, 12, 13, 14, 15, 16, 17, 18] (by decide +kernel) (by decide +kernel)
set_option maxRecDepth 20000 in
theorem gX4_full_X4_right : GoodIn wsX4_full (wsV RX4 37 RX4 yX4_right wsX4_right) := goodIn_app (goodIn_of _ (by decide +kernel)) ggX4_full_X4_right
theorem dX4_full_0 : decode cX4_full 0 = .ok (.iconst 0, 1) := by decide +kernel
theorem dX4_full_1 : decode cX4_full 1 = .ok (.istore_n 1, 1) := by decide +kernel
theorem dX4_full_2 : decode cX4_full 2 = .ok (.iconst 0, 1) := by decide +kernel
theorem dX4_full_3 : decode cX4_full 3 = .ok (.istore_n 2, 1) := by decide +kernel
theorem dX4_full_4 : decode cX4_full 4 = .ok (.iload_n 2, 1) := by decide +kernel
theorem dX4_full_5 : decode cX4_full 5 = .ok (.bipush 10, 2) := by decide +kernel
theorem dX4_full_7 : decode cX4_full 7 = .ok (.if_icmp .ge 17, 3) := by decide +kernel
theorem dX4_full_10 : decode cX4_full 10 = .ok (.iload_n 1, 1) := by decide +kernel
theorem dX4_full_11 : decode cX4_full 11 = .ok (.aload_n 0, 1) := by decide +kernel
theorem dX4_full_12 : decode cX4_full 12 = .ok (.iload_n 2, 1) := by decide +kernel
theorem dX4_full_13 : decode cX4_full 13 = .ok (.invokevirtual 37, 3) := by decide +kernel
theorem dX4_full_16 : decode cX4_full 16 = .ok (.iadd, 1) := by decide +kernel
theorem dX4_full_17 : decode cX4_full 17 = .ok (.istore_n 1, 1) := by decide +kernel
theorem dX4_full_18 : decode cX4_full 18 = .ok (.iinc 2 1, 3) := by decide +kernel
theorem dX4_full_21 : decode cX4_full 21 = .ok (.goto (-17), 3) := by decide +kernel
theorem dX4_full_24 : decode cX4_full 24 = .ok (.iload_n 1, 1) := by decide +kernel
theorem dX4_full_25 : decode cX4_full 25 = .ok (.ireturn, 1) := by decide +kernel
theorem dX4_runs_0 : decode cX4_runs 0 = .ok (.iconst 0, 1) := by decide +kernel
theorem dX4_runs_1 : decode cX4_runs 1 = .ok (.istore_n 2, 1) := by decide +kernel
theorem dX4_runs_2 : decode cX4_runs 2 = .ok (.iconst 0, 1) := by decide +kernel
theorem dX4_runs_3 : decode cX4_runs 3 = .ok (.istore_n 3, 1) := by decide +kernel
theorem dX4_runs_4 : decode cX4_runs 4 = .ok (.iconst 0, 1) := by decide +kernel
theorem dX4_runs_5 : decode cX4_runs 5 = .ok (.istore 4, 2) := by decide +kernel
theorem dX4_runs_7 : decode cX4_runs 7 = .ok (.iconst 0, 1) := by decide +kernel
theorem dX4_runs_8 : decode cX4_runs 8 = .ok (.istore 5, 2) := by decide +kernel
theorem dX4_runs_10 : decode cX4_runs 10 = .ok (.iload 5, 2) := by decide +kernel
theorem dX4_runs_12 : decode cX4_runs 12 = .ok (.sipush 320, 3) := by decide +kernel
theorem dX4_runs_15 : decode cX4_runs 15 = .ok (.if_icmp .ge 56, 3) := by decide +kernel
theorem dX4_runs_18 : decode cX4_runs 18 = .ok (.aload_n 0, 1) := by decide +kernel
theorem dX4_runs_19 : decode cX4_runs 19 = .ok (.getfield 7, 3) := by decide +kernel
theorem dX4_runs_22 : decode cX4_runs 22 = .ok (.iload 5, 2) := by decide +kernel
theorem dX4_runs_24 : decode cX4_runs 24 = .ok (.iaload, 1) := by decide +kernel
theorem dX4_runs_25 : decode cX4_runs 25 = .ok (.ifCond .ne 10, 3) := by decide +kernel
theorem dX4_runs_28 : decode cX4_runs 28 = .ok (.iload 4, 2) := by decide +kernel
theorem dX4_runs_30 : decode cX4_runs 30 = .ok (.iconst 1, 1) := by decide +kernel
theorem dX4_runs_31 : decode cX4_runs 31 = .ok (.iadd, 1) := by decide +kernel
theorem dX4_runs_32 : decode cX4_runs 32 = .ok (.goto 4, 3) := by decide +kernel
theorem dX4_runs_35 : decode cX4_runs 35 = .ok (.iconst 0, 1) := by decide +kernel
theorem dX4_runs_36 : decode cX4_runs 36 = .ok (.istore 4, 2) := by decide +kernel
theorem dX4_runs_38 : decode cX4_runs 38 = .ok (.iload_n 2, 1) := by decide +kernel
theorem dX4_runs_39 : decode cX4_runs 39 = .ok (.iload 4, 2) := by decide +kernel
theorem dX4_runs_41 : decode cX4_runs 41 = .ok (.iconst 1, 1) := by decide +kernel
theorem dX4_runs_42 : decode cX4_runs 42 = .ok (.if_icmp .ne 7, 3) := by decide +kernel
theorem dX4_runs_45 : decode cX4_runs 45 = .ok (.iconst 1, 1) := by decide +kernel
theorem dX4_runs_46 : decode cX4_runs 46 = .ok (.goto 4, 3) := by decide +kernel
theorem dX4_runs_49 : decode cX4_runs 49 = .ok (.iconst 0, 1) := by decide +kernel
theorem dX4_runs_50 : decode cX4_runs 50 = .ok (.iadd, 1) := by decide +kernel
theorem dX4_runs_51 : decode cX4_runs 51 = .ok (.istore_n 2, 1) := by decide +kernel
theorem dX4_runs_52 : decode cX4_runs 52 = .ok (.iload 4, 2) := by decide +kernel
theorem dX4_runs_54 : decode cX4_runs 54 = .ok (.iload_n 3, 1) := by decide +kernel
theorem dX4_runs_55 : decode cX4_runs 55 = .ok (.if_icmp .le 8, 3) := by decide +kernel
theorem dX4_runs_58 : decode cX4_runs 58 = .ok (.iload 4, 2) := by decide +kernel
theorem dX4_runs_60 : decode cX4_runs 60 = .ok (.goto 4, 3) := by decide +kernel
theorem dX4_runs_63 : decode cX4_runs 63 = .ok (.iload_n 3, 1) := by decide +kernel
theorem dX4_runs_64 : decode cX4_runs 64 = .ok (.istore_n 3, 1) := by decide +kernel
theorem dX4_runs_65 : decode cX4_runs 65 = .ok (.iinc 5 1, 3) := by decide +kernel
theorem dX4_runs_68 : decode cX4_runs 68 = .ok (.goto (-58), 3) := by decide +kernel
theorem dX4_runs_71 : decode cX4_runs 71 = .ok (.iload_n 1, 1) := by decide +kernel
theorem dX4_runs_72 : decode cX4_runs 72 = .ok (.ifCond .eq 7, 3) := by decide +kernel
theorem dX4_runs_75 : decode cX4_runs 75 = .ok (.iload_n 3, 1) := by decide +kernel
theorem dX4_runs_76 : decode cX4_runs 76 = .ok (.goto 4, 3) := by decide +kernel
theorem dX4_runs_79 : decode cX4_runs 79 = .ok (.iload_n 2, 1) := by decide +kernel
theorem dX4_runs_80 : decode cX4_runs 80 = .ok (.ireturn, 1) := by decide +kernel
set_option maxRecDepth 20000 in
theorem ggX4_blocks_X4_isBlock : GoodIn wsX4_blocks wsX4_isBlock := goodIn_r _ [5, 6, 7, 8, 4, 9, 10, 11, 12, 13, 14, 15, 16, 17] (by decide +kernel) (by decide +kernel)
set_option maxRecDepth 20000 in
theorem gX4_blocks_X4_isBlock : GoodIn wsX4_blocks (wsV RX4 81 RX4 yX4_isBlock wsX4_isBlock) := goodIn_app (goodIn_of _ (by decide +kernel)) ggX4_blocks_X4_isBlock
theorem dX4_blocks_0 : decode cX4_blocks 0 = .ok (.iconst 0, 1) := by decide +kernel
theorem dX4_blocks_1 : decode cX4_blocks 1 = .ok (.istore_n 1, 1) := by decide +kernel
theorem dX4_blocks_2 : decode cX4_blocks 2 = .ok (.iconst 0, 1) := by decide +kernel
theorem dX4_blocks_3 : decode cX4_blocks 3 = .ok (.istore_n 2, 1) := by decide +kernel
theorem dX4_blocks_4 : decode cX4_blocks 4 = .ok (.iload_n 2, 1) := by decide +kernel
theorem dX4_blocks_5 : decode cX4_blocks 5 = .ok (.bipush 8, 2) := by decide +kernel
theorem dX4_blocks_7 : decode cX4_blocks 7 = .ok (.if_icmp .ge 25, 3) := by decide +kernel
theorem dX4_blocks_10 : decode cX4_blocks 10 = .ok (.iload_n 1, 1) := by decide +kernel
theorem dX4_blocks_11 : decode cX4_blocks 11 = .ok (.aload_n 0, 1) := by decide +kernel
theorem dX4_blocks_12 : decode cX4_blocks 12 = .ok (.iload_n 2, 1) := by decide +kernel
theorem dX4_blocks_13 : decode cX4_blocks 13 = .ok (.invokevirtual 81, 3) := by decide +kernel
theorem dX4_blocks_16 : decode cX4_blocks 16 = .ok (.ifCond .eq 7, 3) := by decide +kernel
theorem dX4_blocks_19 : decode cX4_blocks 19 = .ok (.iconst 1, 1) := by decide +kernel
theorem dX4_blocks_20 : decode cX4_blocks 20 = .ok (.goto 4, 3) := by decide +kernel
theorem dX4_blocks_23 : decode cX4_blocks 23 = .ok (.iconst 0, 1) := by decide +kernel
theorem dX4_blocks_24 : decode cX4_blocks 24 = .ok (.iadd, 1) := by decide +kernel
theorem dX4_blocks_25 : decode cX4_blocks 25 = .ok (.istore_n 1, 1) := by decide +kernel
theorem dX4_blocks_26 : decode cX4_blocks 26 = .ok (.iinc 2 1, 3) := by decide +kernel
theorem dX4_blocks_29 : decode cX4_blocks 29 = .ok (.goto (-25), 3) := by decide +kernel
theorem dX4_blocks_32 : decode cX4_blocks 32 = .ok (.iload_n 1, 1) := by decide +kernel
theorem dX4_blocks_33 : decode cX4_blocks 33 = .ok (.ireturn, 1) := by decide +kernel
set_option maxRecDepth 20000 in
theorem ggX4_count_X4_inAll : GoodIn wsX4_count wsX4_inAll := goodIn_r _ [8, 9, 10, 11, 7, 12, 1, 40, 41, 42, 43, 44, 45, 46, 47] (by decide +kernel) (by decide +kernel)
set_option maxRecDepth 20000 in
theorem gX4_count_X4_inAll : GoodIn wsX4_count (wsV RX4 131 RX4 yX4_inAll wsX4_inAll) := goodIn_app (goodIn_of _ (by decide +kernel)) ggX4_count_X4_inAll
set_option maxRecDepth 20000 in
theorem ggX4_count_X4_blocks : GoodIn wsX4_count wsX4_blocks := goodIn_r _ [16, 17, 18, 19, 7, 20, 1, 21, 22, 23, 40, 41, 42, 43, 44, 45, 46, 47] (by decide +kernel) (by decide +kernel)
set_option maxRecDepth 20000 in
theorem gX4_count_X4_blocks : GoodIn wsX4_count (wsV RX4 134 RX4 yX4_blocks wsX4_blocks) := goodIn_app (goodIn_of _ (by decide +kernel)) ggX4_count_X4_blocks
set_option maxRecDepth 20000 in
theorem ggX4_count_X4_bits : GoodIn wsX4_count wsX4_bits := goodIn_r _ [27, 1, 40, 41, 42, 43, 44, 45, 46, 47] (by decide +kernel) (by decide +kernel)
set_option maxRecDepth 20000 in
theorem gX4_count_X4_bits : GoodIn wsX4_count (wsV RX4 137 RX4 yX4_bits wsX4_bits) := goodIn_app (goodIn_of _ (by decide +kernel)) ggX4_count_X4_bits
set_option maxRecDepth 20000 in
theorem ggX4_count_X4_full : GoodIn wsX4_count wsX4_full := goodIn_r _ [31, 32, 33, 34, 7, 35, 9, 10, 11, 12, 1, 40, 41, 42, 43, 44, 45, 46, 47] (by decide +kernel) (by decide +kernel)
set_option maxRecDepth 20000 in
theorem gX4_count_X4_full : GoodIn wsX4_count (wsV RX4 140 RX4 yX4_full wsX4_full) := goodIn_app (goodIn_of _ (by decide +kernel)) ggX4_count_X4_full
set_option maxRecDepth 20000 in
theorem ggX4_count_X4_runs : GoodIn wsX4_count wsX4_runs := goodIn_r _ [39, 1, 40, 41, 42, 43, 44, 45, 46, 47] (by decide +kernel) (by decide +kernel)
set_option maxRecDepth 20000 in
theorem gX4_count_X4_runs : GoodIn wsX4_count (wsV RX4 143 RX4 yX4_runs wsX4_runs) := goodIn_app (goodIn_of _ (by decide +kernel)) ggX4_count_X4_runs
theorem dX4_count_0 : decode cX4_count 0 = .ok (.iload_n 1, 1) := by decide +kernel
theorem dX4_count_1 : decode cX4_count 1 = .ok (.tableswitch 119 0 11 #[63, 63, 63, 63, 69, 74, 83, 88, 93, 93, 109, 114], 63) := by decide +kernel
theorem dX4_count_64 : decode cX4_count 64 = .ok (.aload_n 0, 1) := by decide +kernel
theorem dX4_count_65 : decode cX4_count 65 = .ok (.iload_n 1, 1) := by decide +kernel
theorem dX4_count_66 : decode cX4_count 66 = .ok (.invokevirtual 131, 3) := by decide +kernel
theorem dX4_count_69 : decode cX4_count 69 = .ok (.ireturn, 1) := by decide +kernel
theorem dX4_count_70 : decode cX4_count 70 = .ok (.aload_n 0, 1) := by decide +kernel
theorem dX4_count_71 : decode cX4_count 71 = .ok (.invokevirtual 134, 3) := by decide +kernel
theorem dX4_count_74 : decode cX4_count 74 = .ok (.ireturn, 1) := by decide +kernel
theorem dX4_count_75 : decode cX4_count 75 = .ok (.aload_n 0, 1) := by decide +kernel
theorem dX4_count_76 : decode cX4_count 76 = .ok (.getfield 7, 3) := by decide +kernel
theorem dX4_count_79 : decode cX4_count 79 = .ok (.sipush 666, 3) := by decide +kernel
theorem dX4_count_82 : decode cX4_count 82 = .ok (.iaload, 1) := by decide +kernel
theorem dX4_count_83 : decode cX4_count 83 = .ok (.ireturn, 1) := by decide +kernel
theorem dX4_count_84 : decode cX4_count 84 = .ok (.aload_n 0, 1) := by decide +kernel
theorem dX4_count_85 : decode cX4_count 85 = .ok (.invokevirtual 137, 3) := by decide +kernel
theorem dX4_count_88 : decode cX4_count 88 = .ok (.ireturn, 1) := by decide +kernel
theorem dX4_count_89 : decode cX4_count 89 = .ok (.aload_n 0, 1) := by decide +kernel
theorem dX4_count_90 : decode cX4_count 90 = .ok (.invokevirtual 140, 3) := by decide +kernel
theorem dX4_count_93 : decode cX4_count 93 = .ok (.ireturn, 1) := by decide +kernel
theorem dX4_count_94 : decode cX4_count 94 = .ok (.aload_n 0, 1) := by decide +kernel
theorem dX4_count_95 : decode cX4_count 95 = .ok (.iload_n 1, 1) := by decide +kernel
theorem dX4_count_96 : decode cX4_count 96 = .ok (.bipush 9, 2) := by decide +kernel
theorem dX4_count_98 : decode cX4_count 98 = .ok (.if_icmp .ne 7, 3) := by decide +kernel
theorem dX4_count_101 : decode cX4_count 101 = .ok (.iconst 1, 1) := by decide +kernel
theorem dX4_count_102 : decode cX4_count 102 = .ok (.goto 4, 3) := by decide +kernel
theorem dX4_count_105 : decode cX4_count 105 = .ok (.iconst 0, 1) := by decide +kernel
theorem dX4_count_106 : decode cX4_count 106 = .ok (.invokevirtual 143, 3) := by decide +kernel
theorem dX4_count_109 : decode cX4_count 109 = .ok (.ireturn, 1) := by decide +kernel
theorem dX4_count_110 : decode cX4_count 110 = .ok (.aload_n 0, 1) := by decide +kernel
theorem dX4_count_111 : decode cX4_count 111 = .ok (.getfield 29, 3) := by decide +kernel
theorem dX4_count_114 : decode cX4_count 114 = .ok (.ireturn, 1) := by decide +kernel
theorem dX4_count_115 : decode cX4_count 115 = .ok (.aload_n 0, 1) := by decide +kernel
theorem dX4_count_116 : decode cX4_count 116 = .ok (.getfield 102, 3) := by decide +kernel
theorem dX4_count_119 : decode cX4_count 119 = .ok (.ireturn, 1) := by decide +kernel
theorem dX4_count_120 : decode cX4_count 120 = .ok (.iconst (-1), 1) := by decide +kernel
theorem dX4_count_121 : decode cX4_count 121 = .ok (.ireturn, 1) := by decide +kernel
set_option maxRecDepth 20000 in
theorem ggX4_slot_X4_in : GoodIn wsX4_slot wsX4_in := goodIn_r _ [5] (by decide +kernel) (by decide +kernel)
set_option maxRecDepth 20000 in
theorem gX4_slot_X4_in : GoodIn wsX4_slot (va_wsS RX4 64 yX4_in wsX4_in) := goodIn_app (goodIn_of _ (by decide +kernel)) ggX4_slot_X4_in
theorem dX4_slot_0 : decode cX4_slot 0 = .ok (.iload_n 1, 1) := by decide +kernel
theorem dX4_slot_1 : decode cX4_slot 1 = .ok (.iconst 0, 1) := by decide +kernel
theorem dX4_slot_2 : decode cX4_slot 2 = .ok (.sipush 319, 3) := by decide +kernel
theorem dX4_slot_5 : decode cX4_slot 5 = .ok (.invokestatic 64, 3) := by decide +kernel
theorem dX4_slot_8 : decode cX4_slot 8 = .ok (.ifCond .eq 12, 3) := by decide +kernel
theorem dX4_slot_11 : decode cX4_slot 11 = .ok (.iload_n 2, 1) := by decide +kernel
theorem dX4_slot_12 : decode cX4_slot 12 = .ok (.iconst 0, 1) := by decide +kernel
theorem dX4_slot_13 : decode cX4_slot 13 = .ok (.iconst 1, 1) := by decide +kernel
theorem dX4_slot_14 : decode cX4_slot 14 = .ok (.invokestatic 64, 3) := by decide +kernel
theorem dX4_slot_17 : decode cX4_slot 17 = .ok (.ifCond .ne 5, 3) := by decide +kernel
theorem dX4_slot_20 : decode cX4_slot 20 = .ok (.iconst (-1), 1) := by decide +kernel
theorem dX4_slot_21 : decode cX4_slot 21 = .ok (.ireturn, 1) := by decide +kernel
theorem dX4_slot_22 : decode cX4_slot 22 = .ok (.iload_n 2, 1) := by decide +kernel
theorem dX4_slot_23 : decode cX4_slot 23 = .ok (.ifCond .ne 12, 3) := by decide +kernel
theorem dX4_slot_26 : decode cX4_slot 26 = .ok (.aload_n 0, 1) := by decide +kernel
theorem dX4_slot_27 : decode cX4_slot 27 = .ok (.getfield 7, 3) := by decide +kernel
theorem dX4_slot_30 : decode cX4_slot 30 = .ok (.iload_n 1, 1) := by decide +kernel
theorem dX4_slot_31 : decode cX4_slot 31 = .ok (.iaload, 1) := by decide +kernel
theorem dX4_slot_32 : decode cX4_slot 32 = .ok (.goto 33, 3) := by decide +kernel
theorem dX4_slot_35 : decode cX4_slot 35 = .ok (.aload_n 0, 1) := by decide +kernel
theorem dX4_slot_36 : decode cX4_slot 36 = .ok (.getfield 7, 3) := by decide +kernel
theorem dX4_slot_39 : decode cX4_slot 39 = .ok (.sipush 320, 3) := by decide +kernel
theorem dX4_slot_42 : decode cX4_slot 42 = .ok (.iload_n 1, 1) := by decide +kernel
theorem dX4_slot_43 : decode cX4_slot 43 = .ok (.iadd, 1) := by decide +kernel
theorem dX4_slot_44 : decode cX4_slot 44 = .ok (.iaload, 1) := by decide +kernel
theorem dX4_slot_45 : decode cX4_slot 45 = .ok (.ifCond .ne 8, 3) := by decide +kernel
theorem dX4_slot_48 : decode cX4_slot 48 = .ok (.bipush (-9), 2) := by decide +kernel
theorem dX4_slot_50 : decode cX4_slot 50 = .ok (.goto 15, 3) := by decide +kernel
theorem dX4_slot_53 : decode cX4_slot 53 = .ok (.aload_n 0, 1) := by decide +kernel
theorem dX4_slot_54 : decode cX4_slot 54 = .ok (.getfield 7, 3) := by decide +kernel
theorem dX4_slot_57 : decode cX4_slot 57 = .ok (.sipush 320, 3) := by decide +kernel
theorem dX4_slot_60 : decode cX4_slot 60 = .ok (.iload_n 1, 1) := by decide +kernel
theorem dX4_slot_61 : decode cX4_slot 61 = .ok (.iadd, 1) := by decide +kernel
theorem dX4_slot_62 : decode cX4_slot 62 = .ok (.iaload, 1) := by decide +kernel
theorem dX4_slot_63 : decode cX4_slot 63 = .ok (.iconst 1, 1) := by decide +kernel
theorem dX4_slot_64 : decode cX4_slot 64 = .ok (.isub, 1) := by decide +kernel
theorem dX4_slot_65 : decode cX4_slot 65 = .ok (.ireturn, 1) := by decide +kernel
set_option maxRecDepth 20000 in
theorem ggX4_word_X4_isWord : GoodIn wsX4_word wsX4_isWord := goodIn_r _ [5, 6, 7, 4, 8] (by decide +kernel) (by decide +kernel)
set_option maxRecDepth 20000 in
theorem gX4_word_X4_isWord : GoodIn wsX4_word (va_wsS RX4 93 yX4_isWord wsX4_isWord) := goodIn_app (goodIn_of _ (by decide +kernel)) ggX4_word_X4_isWord
set_option maxRecDepth 20000 in
theorem ggX4_word_X4_in : GoodIn wsX4_word wsX4_in := goodIn_r _ [8] (by decide +kernel) (by decide +kernel)
set_option maxRecDepth 20000 in
theorem gX4_word_X4_in : GoodIn wsX4_word (va_wsS RX4 64 yX4_in wsX4_in) := goodIn_app (goodIn_of _ (by decide +kernel)) ggX4_word_X4_in
set_option maxRecDepth 20000 in
theorem ggX4_word_X4_inWord : GoodIn wsX4_word wsX4_inWord := goodIn_r _ [12, 1, 21, 22, 23, 24, 25, 26, 27, 28] (by decide +kernel) (by decide +kernel)
set_option maxRecDepth 20000 in
theorem gX4_word_X4_inWord : GoodIn wsX4_word (wsV RX4 33 RX4 yX4_inWord wsX4_inWord) := goodIn_app (goodIn_of _ (by decide +kernel)) ggX4_word_X4_inWord
set_option maxRecDepth 20000 in
theorem ggX4_word_X4_right : GoodIn wsX4_word wsX4_right := goodIn_r _ [16, 9, 10, 11, 4, 12, 1, 21, 22, 23, 24, 25, 26, 27, 28] (by decide +kernel) (by decide +kernel)
set_option maxRecDepth 20000 in
theorem gX4_word_X4_right : GoodIn wsX4_word (wsV RX4 37 RX4 yX4_right wsX4_right) := goodIn_app (goodIn_of _ (by decide +kernel)) ggX4_word_X4_right
set_option maxRecDepth 20000 in
theorem ggX4_word_X4_firstIn : GoodIn wsX4_word wsX4_firstIn := goodIn_r _ [20, 1, 21, 22, 23, 24, 25, 26, 27, 28] (by decide +kernel) (by decide +kernel)
set_option maxRecDepth 20000 in
theorem gX4_word_X4_firstIn : GoodIn wsX4_word (wsV RX4 41 RX4 yX4_firstIn wsX4_firstIn) := goodIn_app (goodIn_of _ (by decide +kernel)) ggX4_word_X4_firstIn
theorem dX4_word_0 : decode cX4_word 0 = .ok (.iload_n 1, 1) := by decide +kernel
theorem dX4_word_1 : decode cX4_word 1 = .ok (.invokestatic 93, 3) := by decide +kernel
theorem dX4_word_4 : decode cX4_word 4 = .ok (.ifCond .eq 13, 3) := by decide +kernel
theorem dX4_word_7 : decode cX4_word 7 = .ok (.iload_n 2, 1) := by decide +kernel
theorem dX4_word_8 : decode cX4_word 8 = .ok (.iconst 0, 1) := by decide +kernel
theorem dX4_word_9 : decode cX4_word 9 = .ok (.bipush 6, 2) := by decide +kernel
theorem dX4_word_11 : decode cX4_word 11 = .ok (.invokestatic 64, 3) := by decide +kernel
theorem dX4_word_14 : decode cX4_word 14 = .ok (.ifCond .ne 5, 3) := by decide +kernel
theorem dX4_word_17 : decode cX4_word 17 = .ok (.iconst (-1), 1) := by decide +kernel
theorem dX4_word_18 : decode cX4_word 18 = .ok (.ireturn, 1) := by decide +kernel
theorem dX4_word_19 : decode cX4_word 19 = .ok (.iload_n 2, 1) := by decide +kernel
theorem dX4_word_20 : decode cX4_word 20 = .ok (.iconst 4, 1) := by decide +kernel
theorem dX4_word_21 : decode cX4_word 21 = .ok (.if_icmp .ge 12, 3) := by decide +kernel
theorem dX4_word_24 : decode cX4_word 24 = .ok (.aload_n 0, 1) := by decide +kernel
theorem dX4_word_25 : decode cX4_word 25 = .ok (.iload_n 1, 1) := by decide +kernel
theorem dX4_word_26 : decode cX4_word 26 = .ok (.iload_n 2, 1) := by decide +kernel
theorem dX4_word_27 : decode cX4_word 27 = .ok (.invokevirtual 33, 3) := by decide +kernel
theorem dX4_word_30 : decode cX4_word 30 = .ok (.goto 39, 3) := by decide +kernel
theorem dX4_word_33 : decode cX4_word 33 = .ok (.iload_n 2, 1) := by decide +kernel
theorem dX4_word_34 : decode cX4_word 34 = .ok (.iconst 4, 1) := by decide +kernel
theorem dX4_word_35 : decode cX4_word 35 = .ok (.if_icmp .ne 16, 3) := by decide +kernel
theorem dX4_word_38 : decode cX4_word 38 = .ok (.aload_n 0, 1) := by decide +kernel
theorem dX4_word_39 : decode cX4_word 39 = .ok (.getfield 7, 3) := by decide +kernel
theorem dX4_word_42 : decode cX4_word 42 = .ok (.sipush 640, 3) := by decide +kernel
theorem dX4_word_45 : decode cX4_word 45 = .ok (.iload_n 1, 1) := by decide +kernel
theorem dX4_word_46 : decode cX4_word 46 = .ok (.iadd, 1) := by decide +kernel
theorem dX4_word_47 : decode cX4_word 47 = .ok (.iaload, 1) := by decide +kernel
theorem dX4_word_48 : decode cX4_word 48 = .ok (.goto 21, 3) := by decide +kernel
theorem dX4_word_51 : decode cX4_word 51 = .ok (.iload_n 2, 1) := by decide +kernel
theorem dX4_word_52 : decode cX4_word 52 = .ok (.iconst 5, 1) := by decide +kernel
theorem dX4_word_53 : decode cX4_word 53 = .ok (.if_icmp .ne 11, 3) := by decide +kernel
theorem dX4_word_56 : decode cX4_word 56 = .ok (.aload_n 0, 1) := by decide +kernel
theorem dX4_word_57 : decode cX4_word 57 = .ok (.iload_n 1, 1) := by decide +kernel
theorem dX4_word_58 : decode cX4_word 58 = .ok (.invokevirtual 37, 3) := by decide +kernel
theorem dX4_word_61 : decode cX4_word 61 = .ok (.goto 8, 3) := by decide +kernel
theorem dX4_word_64 : decode cX4_word 64 = .ok (.aload_n 0, 1) := by decide +kernel
theorem dX4_word_65 : decode cX4_word 65 = .ok (.iload_n 1, 1) := by decide +kernel
theorem dX4_word_66 : decode cX4_word 66 = .ok (.invokevirtual 41, 3) := by decide +kernel
theorem dX4_word_69 : decode cX4_word 69 = .ok (.ireturn, 1) := by decide +kernel
set_option maxRecDepth 20000 in
theorem ggX4_block_X4_in : GoodIn wsX4_block wsX4_in := goodIn_r _ [5] (by decide +kernel) (by decide +kernel)
set_option maxRecDepth 20000 in
theorem gX4_block_X4_in : GoodIn wsX4_block (va_wsS RX4 64 yX4_in wsX4_in) := goodIn_app (goodIn_of _ (by decide +kernel)) ggX4_block_X4_in
set_option maxRecDepth 20000 in
theorem ggX4_block_X4_isBlock : GoodIn wsX4_block wsX4_isBlock := goodIn_r _ [9, 1, 2, 3, 4, 5, 10, 11, 12, 13, 14, 15, 16, 17] (by decide +kernel) (by decide +kernel)
set_option maxRecDepth 20000 in
theorem gX4_block_X4_isBlock : GoodIn wsX4_block (wsV RX4 81 RX4 yX4_isBlock wsX4_isBlock) := goodIn_app (goodIn_of _ (by decide +kernel)) ggX4_block_X4_isBlock
theorem dX4_block_0 : decode cX4_block 0 = .ok (.iload_n 1, 1) := by decide +kernel
theorem dX4_block_1 : decode cX4_block 1 = .ok (.iconst 0, 1) := by decide +kernel
theorem dX4_block_2 : decode cX4_block 2 = .ok (.bipush 7, 2) := by decide +kernel
theorem dX4_block_4 : decode cX4_block 4 = .ok (.invokestatic 64, 3) := by decide +kernel
theorem dX4_block_7 : decode cX4_block 7 = .ok (.ifCond .eq 12, 3) := by decide +kernel
theorem dX4_block_10 : decode cX4_block 10 = .ok (.iload_n 2, 1) := by decide +kernel
theorem dX4_block_11 : decode cX4_block 11 = .ok (.iconst 0, 1) := by decide +kernel
theorem dX4_block_12 : decode cX4_block 12 = .ok (.iconst 3, 1) := by decide +kernel
theorem dX4_block_13 : decode cX4_block 13 = .ok (.invokestatic 64, 3) := by decide +kernel
theorem dX4_block_16 : decode cX4_block 16 = .ok (.ifCond .ne 5, 3) := by decide +kernel
theorem dX4_block_19 : decode cX4_block 19 = .ok (.iconst (-1), 1) := by decide +kernel
theorem dX4_block_20 : decode cX4_block 20 = .ok (.ireturn, 1) := by decide +kernel
theorem dX4_block_21 : decode cX4_block 21 = .ok (.aload_n 0, 1) := by decide +kernel
theorem dX4_block_22 : decode cX4_block 22 = .ok (.iload_n 1, 1) := by decide +kernel
theorem dX4_block_23 : decode cX4_block 23 = .ok (.invokevirtual 81, 3) := by decide +kernel
theorem dX4_block_26 : decode cX4_block 26 = .ok (.ifCond .ne 6, 3) := by decide +kernel
theorem dX4_block_29 : decode cX4_block 29 = .ok (.bipush (-9), 2) := by decide +kernel
theorem dX4_block_31 : decode cX4_block 31 = .ok (.ireturn, 1) := by decide +kernel
theorem dX4_block_32 : decode cX4_block 32 = .ok (.aload_n 0, 1) := by decide +kernel
theorem dX4_block_33 : decode cX4_block 33 = .ok (.getfield 7, 3) := by decide +kernel
theorem dX4_block_36 : decode cX4_block 36 = .ok (.sipush 650, 3) := by decide +kernel
theorem dX4_block_39 : decode cX4_block 39 = .ok (.iconst 2, 1) := by decide +kernel
theorem dX4_block_40 : decode cX4_block 40 = .ok (.iload_n 1, 1) := by decide +kernel
theorem dX4_block_41 : decode cX4_block 41 = .ok (.imul, 1) := by decide +kernel
theorem dX4_block_42 : decode cX4_block 42 = .ok (.iadd, 1) := by decide +kernel
theorem dX4_block_43 : decode cX4_block 43 = .ok (.iaload, 1) := by decide +kernel
theorem dX4_block_44 : decode cX4_block 44 = .ok (.istore_n 3, 1) := by decide +kernel
theorem dX4_block_45 : decode cX4_block 45 = .ok (.aload_n 0, 1) := by decide +kernel
theorem dX4_block_46 : decode cX4_block 46 = .ok (.getfield 7, 3) := by decide +kernel
theorem dX4_block_49 : decode cX4_block 49 = .ok (.sipush 650, 3) := by decide +kernel
theorem dX4_block_52 : decode cX4_block 52 = .ok (.iconst 2, 1) := by decide +kernel
theorem dX4_block_53 : decode cX4_block 53 = .ok (.iload_n 1, 1) := by decide +kernel
theorem dX4_block_54 : decode cX4_block 54 = .ok (.imul, 1) := by decide +kernel
theorem dX4_block_55 : decode cX4_block 55 = .ok (.iadd, 1) := by decide +kernel
theorem dX4_block_56 : decode cX4_block 56 = .ok (.iconst 1, 1) := by decide +kernel
theorem dX4_block_57 : decode cX4_block 57 = .ok (.iadd, 1) := by decide +kernel
theorem dX4_block_58 : decode cX4_block 58 = .ok (.iaload, 1) := by decide +kernel
theorem dX4_block_59 : decode cX4_block 59 = .ok (.istore 4, 2) := by decide +kernel
theorem dX4_block_61 : decode cX4_block 61 = .ok (.iconst 0, 1) := by decide +kernel
theorem dX4_block_62 : decode cX4_block 62 = .ok (.istore 5, 2) := by decide +kernel
theorem dX4_block_64 : decode cX4_block 64 = .ok (.iload_n 3, 1) := by decide +kernel
theorem dX4_block_65 : decode cX4_block 65 = .ok (.istore 6, 2) := by decide +kernel
theorem dX4_block_67 : decode cX4_block 67 = .ok (.iload 6, 2) := by decide +kernel
theorem dX4_block_69 : decode cX4_block 69 = .ok (.iload_n 3, 1) := by decide +kernel
theorem dX4_block_70 : decode cX4_block 70 = .ok (.iload 4, 2) := by decide +kernel
theorem dX4_block_72 : decode cX4_block 72 = .ok (.iadd, 1) := by decide +kernel
theorem dX4_block_73 : decode cX4_block 73 = .ok (.if_icmp .ge 39, 3) := by decide +kernel
theorem dX4_block_76 : decode cX4_block 76 = .ok (.iload 5, 2) := by decide +kernel
theorem dX4_block_78 : decode cX4_block 78 = .ok (.aload_n 0, 1) := by decide +kernel
theorem dX4_block_79 : decode cX4_block 79 = .ok (.getfield 7, 3) := by decide +kernel
theorem dX4_block_82 : decode cX4_block 82 = .ok (.iload 6, 2) := by decide +kernel
theorem dX4_block_84 : decode cX4_block 84 = .ok (.iaload, 1) := by decide +kernel
theorem dX4_block_85 : decode cX4_block 85 = .ok (.iload_n 2, 1) := by decide +kernel
theorem dX4_block_86 : decode cX4_block 86 = .ok (.iconst 2, 1) := by decide +kernel
theorem dX4_block_87 : decode cX4_block 87 = .ok (.if_icmp .ne 7, 3) := by decide +kernel
theorem dX4_block_90 : decode cX4_block 90 = .ok (.iconst 1, 1) := by decide +kernel
theorem dX4_block_91 : decode cX4_block 91 = .ok (.goto 4, 3) := by decide +kernel
theorem dX4_block_94 : decode cX4_block 94 = .ok (.iconst 3, 1) := by decide +kernel
theorem dX4_block_95 : decode cX4_block 95 = .ok (.if_icmp .ne 7, 3) := by decide +kernel
theorem dX4_block_98 : decode cX4_block 98 = .ok (.iconst 1, 1) := by decide +kernel
theorem dX4_block_99 : decode cX4_block 99 = .ok (.goto 4, 3) := by decide +kernel
theorem dX4_block_102 : decode cX4_block 102 = .ok (.iconst 0, 1) := by decide +kernel
theorem dX4_block_103 : decode cX4_block 103 = .ok (.iadd, 1) := by decide +kernel
theorem dX4_block_104 : decode cX4_block 104 = .ok (.istore 5, 2) := by decide +kernel
theorem dX4_block_106 : decode cX4_block 106 = .ok (.iinc 6 1, 3) := by decide +kernel
theorem dX4_block_109 : decode cX4_block 109 = .ok (.goto (-42), 3) := by decide +kernel
theorem dX4_block_112 : decode cX4_block 112 = .ok (.iload_n 2, 1) := by decide +kernel
theorem dX4_block_113 : decode cX4_block 113 = .ok (.ifCond .ne 7, 3) := by decide +kernel
theorem dX4_block_116 : decode cX4_block 116 = .ok (.iload_n 3, 1) := by decide +kernel
theorem dX4_block_117 : decode cX4_block 117 = .ok (.goto 15, 3) := by decide +kernel
theorem dX4_block_120 : decode cX4_block 120 = .ok (.iload_n 2, 1) := by decide +kernel
theorem dX4_block_121 : decode cX4_block 121 = .ok (.iconst 1, 1) := by decide +kernel
theorem dX4_block_122 : decode cX4_block 122 = .ok (.if_icmp .ne 8, 3) := by decide +kernel
theorem dX4_block_125 : decode cX4_block 125 = .ok (.iload 4, 2) := by decide +kernel
theorem dX4_block_127 : decode cX4_block 127 = .ok (.goto 5, 3) := by decide +kernel
theorem dX4_block_130 : decode cX4_block 130 = .ok (.iload 5, 2) := by decide +kernel
theorem dX4_block_132 : decode cX4_block 132 = .ok (.ireturn, 1) := by decide +kernel
set_option maxRecDepth 20000 in
theorem ggX4_audit_X4_in : GoodIn wsX4_audit wsX4_in := goodIn_r _ [5] (by decide +kernel) (by decide +kernel)
set_option maxRecDepth 20000 in
theorem gX4_audit_X4_in : GoodIn wsX4_audit (va_wsS RX4 64 yX4_in wsX4_in) := goodIn_app (goodIn_of _ (by decide +kernel)) ggX4_audit_X4_in
set_option maxRecDepth 20000 in
theorem ggX4_audit_X4_right : GoodIn wsX4_audit wsX4_right := goodIn_r _ [9, 10, 11, 12, 4, 13, 1, 14, 15, 16, 17, 18, 19, 20, 21] (by decide +kernel) (by decide +kernel)
set_option maxRecDepth 20000 in
theorem gX4_audit_X4_right : GoodIn wsX4_audit (wsV RX4 37 RX4 yX4_right wsX4_right) := goodIn_app (goodIn_of _ (by decide +kernel)) ggX4_audit_X4_right
theorem dX4_audit_0 : decode cX4_audit 0 = .ok (.iload_n 1, 1) := by decide +kernel
theorem dX4_audit_1 : decode cX4_audit 1 = .ok (.iconst 0, 1) := by decide +kernel
theorem dX4_audit_2 : decode cX4_audit 2 = .ok (.iconst 2, 1) := by decide +kernel
theorem dX4_audit_3 : decode cX4_audit 3 = .ok (.invokestatic 64, 3) := by decide +kernel
theorem dX4_audit_6 : decode cX4_audit 6 = .ok (.ifCond .ne 5, 3) := by decide +kernel
theorem dX4_audit_9 : decode cX4_audit 9 = .ok (.iconst (-1), 1) := by decide +kernel
theorem dX4_audit_10 : decode cX4_audit 10 = .ok (.ireturn, 1) := by decide +kernel
theorem dX4_audit_11 : decode cX4_audit 11 = .ok (.iconst 0, 1) := by decide +kernel
theorem dX4_audit_12 : decode cX4_audit 12 = .ok (.istore_n 2, 1) := by decide +kernel
theorem dX4_audit_13 : decode cX4_audit 13 = .ok (.iconst 0, 1) := by decide +kernel
theorem dX4_audit_14 : decode cX4_audit 14 = .ok (.istore_n 3, 1) := by decide +kernel
theorem dX4_audit_15 : decode cX4_audit 15 = .ok (.bipush (-9), 2) := by decide +kernel
theorem dX4_audit_17 : decode cX4_audit 17 = .ok (.istore 4, 2) := by decide +kernel
theorem dX4_audit_19 : decode cX4_audit 19 = .ok (.bipush 9, 2) := by decide +kernel
theorem dX4_audit_21 : decode cX4_audit 21 = .ok (.istore 5, 2) := by decide +kernel
theorem dX4_audit_23 : decode cX4_audit 23 = .ok (.iload 5, 2) := by decide +kernel
theorem dX4_audit_25 : decode cX4_audit 25 = .ok (.ifCond .lt 86, 3) := by decide +kernel
theorem dX4_audit_28 : decode cX4_audit 28 = .ok (.aload_n 0, 1) := by decide +kernel
theorem dX4_audit_29 : decode cX4_audit 29 = .ok (.getfield 7, 3) := by decide +kernel
theorem dX4_audit_32 : decode cX4_audit 32 = .ok (.sipush 640, 3) := by decide +kernel
theorem dX4_audit_35 : decode cX4_audit 35 = .ok (.iload 5, 2) := by decide +kernel
theorem dX4_audit_37 : decode cX4_audit 37 = .ok (.iadd, 1) := by decide +kernel
theorem dX4_audit_38 : decode cX4_audit 38 = .ok (.iaload, 1) := by decide +kernel
theorem dX4_audit_39 : decode cX4_audit 39 = .ok (.aload_n 0, 1) := by decide +kernel
theorem dX4_audit_40 : decode cX4_audit 40 = .ok (.iload 5, 2) := by decide +kernel
theorem dX4_audit_42 : decode cX4_audit 42 = .ok (.invokevirtual 37, 3) := by decide +kernel
theorem dX4_audit_45 : decode cX4_audit 45 = .ok (.if_icmp .eq 7, 3) := by decide +kernel
theorem dX4_audit_48 : decode cX4_audit 48 = .ok (.iconst 1, 1) := by decide +kernel
theorem dX4_audit_49 : decode cX4_audit 49 = .ok (.goto 4, 3) := by decide +kernel
theorem dX4_audit_52 : decode cX4_audit 52 = .ok (.iconst 0, 1) := by decide +kernel
theorem dX4_audit_53 : decode cX4_audit 53 = .ok (.istore 6, 2) := by decide +kernel
theorem dX4_audit_55 : decode cX4_audit 55 = .ok (.iload_n 2, 1) := by decide +kernel
theorem dX4_audit_56 : decode cX4_audit 56 = .ok (.iload 6, 2) := by decide +kernel
theorem dX4_audit_58 : decode cX4_audit 58 = .ok (.ifCond .eq 7, 3) := by decide +kernel
theorem dX4_audit_61 : decode cX4_audit 61 = .ok (.iconst 1, 1) := by decide +kernel
theorem dX4_audit_62 : decode cX4_audit 62 = .ok (.goto 4, 3) := by decide +kernel
theorem dX4_audit_65 : decode cX4_audit 65 = .ok (.iconst 0, 1) := by decide +kernel
theorem dX4_audit_66 : decode cX4_audit 66 = .ok (.iadd, 1) := by decide +kernel
theorem dX4_audit_67 : decode cX4_audit 67 = .ok (.istore_n 2, 1) := by decide +kernel
theorem dX4_audit_68 : decode cX4_audit 68 = .ok (.iload_n 3, 1) := by decide +kernel
theorem dX4_audit_69 : decode cX4_audit 69 = .ok (.iload 6, 2) := by decide +kernel
theorem dX4_audit_71 : decode cX4_audit 71 = .ok (.ifCond .eq 17, 3) := by decide +kernel
theorem dX4_audit_74 : decode cX4_audit 74 = .ok (.aload_n 0, 1) := by decide +kernel
theorem dX4_audit_75 : decode cX4_audit 75 = .ok (.getfield 7, 3) := by decide +kernel
theorem dX4_audit_78 : decode cX4_audit 78 = .ok (.sipush 640, 3) := by decide +kernel
theorem dX4_audit_81 : decode cX4_audit 81 = .ok (.iload 5, 2) := by decide +kernel
theorem dX4_audit_83 : decode cX4_audit 83 = .ok (.iadd, 1) := by decide +kernel
theorem dX4_audit_84 : decode cX4_audit 84 = .ok (.iaload, 1) := by decide +kernel
theorem dX4_audit_85 : decode cX4_audit 85 = .ok (.goto 4, 3) := by decide +kernel
theorem dX4_audit_88 : decode cX4_audit 88 = .ok (.iconst 0, 1) := by decide +kernel
theorem dX4_audit_89 : decode cX4_audit 89 = .ok (.iadd, 1) := by decide +kernel
theorem dX4_audit_90 : decode cX4_audit 90 = .ok (.istore_n 3, 1) := by decide +kernel
theorem dX4_audit_91 : decode cX4_audit 91 = .ok (.iload 6, 2) := by decide +kernel
theorem dX4_audit_93 : decode cX4_audit 93 = .ok (.ifCond .eq 8, 3) := by decide +kernel
theorem dX4_audit_96 : decode cX4_audit 96 = .ok (.iload 5, 2) := by decide +kernel
theorem dX4_audit_98 : decode cX4_audit 98 = .ok (.goto 5, 3) := by decide +kernel
theorem dX4_audit_101 : decode cX4_audit 101 = .ok (.iload 4, 2) := by decide +kernel
theorem dX4_audit_103 : decode cX4_audit 103 = .ok (.istore 4, 2) := by decide +kernel
theorem dX4_audit_105 : decode cX4_audit 105 = .ok (.iinc 5 (-1), 3) := by decide +kernel
theorem dX4_audit_108 : decode cX4_audit 108 = .ok (.goto (-85), 3) := by decide +kernel
theorem dX4_audit_111 : decode cX4_audit 111 = .ok (.iload_n 1, 1) := by decide +kernel
theorem dX4_audit_112 : decode cX4_audit 112 = .ok (.ifCond .ne 7, 3) := by decide +kernel
theorem dX4_audit_115 : decode cX4_audit 115 = .ok (.iload_n 2, 1) := by decide +kernel
theorem dX4_audit_116 : decode cX4_audit 116 = .ok (.goto 14, 3) := by decide +kernel
theorem dX4_audit_119 : decode cX4_audit 119 = .ok (.iload_n 1, 1) := by decide +kernel
theorem dX4_audit_120 : decode cX4_audit 120 = .ok (.iconst 1, 1) := by decide +kernel
theorem dX4_audit_121 : decode cX4_audit 121 = .ok (.if_icmp .ne 8, 3) := by decide +kernel
theorem dX4_audit_124 : decode cX4_audit 124 = .ok (.iload 4, 2) := by decide +kernel
theorem dX4_audit_126 : decode cX4_audit 126 = .ok (.goto 4, 3) := by decide +kernel
theorem dX4_audit_129 : decode cX4_audit 129 = .ok (.iload_n 3, 1) := by decide +kernel
theorem dX4_audit_130 : decode cX4_audit 130 = .ok (.ireturn, 1) := by decide +kernel
set_option maxRecDepth 20000 in
theorem ggX4_next_X4_in : GoodIn wsX4_next wsX4_in := goodIn_r _ [6] (by decide +kernel) (by decide +kernel)
set_option maxRecDepth 20000 in
theorem gX4_next_X4_in : GoodIn wsX4_next (va_wsS RX4 64 yX4_in wsX4_in) := goodIn_app (goodIn_of _ (by decide +kernel)) ggX4_next_X4_in
set_option maxRecDepth 20000 in
theorem ggX4_next_X4_copies : GoodIn wsX4_next wsX4_copies := goodIn_r _ [9] (by decide +kernel) (by decide +kernel)
set_option maxRecDepth 20000 in
theorem gX4_next_X4_copies : GoodIn wsX4_next (va_wsS RX4 25 yX4_copies wsX4_copies) := goodIn_app (goodIn_of _ (by decide +kernel)) ggX4_next_X4_copies
set_option maxRecDepth 20000 in
theorem ggX4_next_X4_inAll : GoodIn wsX4_next wsX4_inAll := goodIn_r _ [13, 14, 15, 16, 5, 17, 1, 42, 43, 44, 45, 46, 47, 48, 49] (by decide +kernel) (by decide +kernel)
set_option maxRecDepth 20000 in
theorem gX4_next_X4_inAll : GoodIn wsX4_next (wsV RX4 131 RX4 yX4_inAll wsX4_inAll) := goodIn_app (goodIn_of _ (by decide +kernel)) ggX4_next_X4_inAll
set_option maxRecDepth 20000 in
theorem ggX4_next_X4_takes1 : GoodIn wsX4_next wsX4_takes1 := goodIn_r _ [21, 22, 23, 24, 5, 25, 1, 26, 27, 28, 29, 30, 31, 32, 33, 34, 35, 36, 37, 14, 15, 16, 17, 38, 39, 40, 41, 42, 43, 44, 45, 46, 47, 48, 49] (by decide +kernel) (by decide +kernel)
set_option maxRecDepth 20000 in
theorem gX4_next_X4_takes1 : GoodIn wsX4_next (wsV RX4 58 RX4 yX4_takes1 wsX4_takes1) := goodIn_app (goodIn_of _ (by decide +kernel)) ggX4_next_X4_takes1
theorem dX4_next_0 : decode cX4_next 0 = .ok (.iload_n 1, 1) := by decide +kernel
theorem dX4_next_1 : decode cX4_next 1 = .ok (.iconst 0, 1) := by decide +kernel
theorem dX4_next_2 : decode cX4_next 2 = .ok (.iconst 2, 1) := by decide +kernel
theorem dX4_next_3 : decode cX4_next 3 = .ok (.invokestatic 64, 3) := by decide +kernel
theorem dX4_next_6 : decode cX4_next 6 = .ok (.ifCond .ne 5, 3) := by decide +kernel
theorem dX4_next_9 : decode cX4_next 9 = .ok (.iconst (-1), 1) := by decide +kernel
theorem dX4_next_10 : decode cX4_next 10 = .ok (.ireturn, 1) := by decide +kernel
theorem dX4_next_11 : decode cX4_next 11 = .ok (.aload_n 0, 1) := by decide +kernel
theorem dX4_next_12 : decode cX4_next 12 = .ok (.getfield 7, 3) := by decide +kernel
theorem dX4_next_15 : decode cX4_next 15 = .ok (.iconst 0, 1) := by decide +kernel
theorem dX4_next_16 : decode cX4_next 16 = .ok (.aload_n 0, 1) := by decide +kernel
theorem dX4_next_17 : decode cX4_next 17 = .ok (.getfield 19, 3) := by decide +kernel
theorem dX4_next_20 : decode cX4_next 20 = .ok (.iconst 0, 1) := by decide +kernel
theorem dX4_next_21 : decode cX4_next 21 = .ok (.invokestatic 25, 3) := by decide +kernel
theorem dX4_next_24 : decode cX4_next 24 = .ok (.aload_n 0, 1) := by decide +kernel
theorem dX4_next_25 : decode cX4_next 25 = .ok (.iconst 2, 1) := by decide +kernel
theorem dX4_next_26 : decode cX4_next 26 = .ok (.invokevirtual 131, 3) := by decide +kernel
theorem dX4_next_29 : decode cX4_next 29 = .ok (.istore_n 2, 1) := by decide +kernel
theorem dX4_next_30 : decode cX4_next 30 = .ok (.aload_n 0, 1) := by decide +kernel
theorem dX4_next_31 : decode cX4_next 31 = .ok (.invokevirtual 58, 3) := by decide +kernel
theorem dX4_next_34 : decode cX4_next 34 = .ok (.istore_n 3, 1) := by decide +kernel
theorem dX4_next_35 : decode cX4_next 35 = .ok (.aload_n 0, 1) := by decide +kernel
theorem dX4_next_36 : decode cX4_next 36 = .ok (.getfield 7, 3) := by decide +kernel
theorem dX4_next_39 : decode cX4_next 39 = .ok (.sipush 666, 3) := by decide +kernel
theorem dX4_next_42 : decode cX4_next 42 = .ok (.iaload, 1) := by decide +kernel
theorem dX4_next_43 : decode cX4_next 43 = .ok (.aload_n 0, 1) := by decide +kernel
theorem dX4_next_44 : decode cX4_next 44 = .ok (.getfield 19, 3) := by decide +kernel
theorem dX4_next_47 : decode cX4_next 47 = .ok (.sipush 666, 3) := by decide +kernel
theorem dX4_next_50 : decode cX4_next 50 = .ok (.iaload, 1) := by decide +kernel
theorem dX4_next_51 : decode cX4_next 51 = .ok (.isub, 1) := by decide +kernel
theorem dX4_next_52 : decode cX4_next 52 = .ok (.istore 4, 2) := by decide +kernel
theorem dX4_next_54 : decode cX4_next 54 = .ok (.aload_n 0, 1) := by decide +kernel
theorem dX4_next_55 : decode cX4_next 55 = .ok (.iconst 2, 1) := by decide +kernel
theorem dX4_next_56 : decode cX4_next 56 = .ok (.invokevirtual 131, 3) := by decide +kernel
theorem dX4_next_59 : decode cX4_next 59 = .ok (.iload_n 2, 1) := by decide +kernel
theorem dX4_next_60 : decode cX4_next 60 = .ok (.if_icmp .ge 7, 3) := by decide +kernel
theorem dX4_next_63 : decode cX4_next 63 = .ok (.iconst 1, 1) := by decide +kernel
theorem dX4_next_64 : decode cX4_next 64 = .ok (.goto 4, 3) := by decide +kernel
theorem dX4_next_67 : decode cX4_next 67 = .ok (.iconst 0, 1) := by decide +kernel
theorem dX4_next_68 : decode cX4_next 68 = .ok (.istore 5, 2) := by decide +kernel
theorem dX4_next_70 : decode cX4_next 70 = .ok (.aload_n 0, 1) := by decide +kernel
theorem dX4_next_71 : decode cX4_next 71 = .ok (.getfield 19, 3) := by decide +kernel
theorem dX4_next_74 : decode cX4_next 74 = .ok (.iconst 0, 1) := by decide +kernel
theorem dX4_next_75 : decode cX4_next 75 = .ok (.aload_n 0, 1) := by decide +kernel
theorem dX4_next_76 : decode cX4_next 76 = .ok (.getfield 7, 3) := by decide +kernel
theorem dX4_next_79 : decode cX4_next 79 = .ok (.iconst 0, 1) := by decide +kernel
theorem dX4_next_80 : decode cX4_next 80 = .ok (.invokestatic 25, 3) := by decide +kernel
theorem dX4_next_83 : decode cX4_next 83 = .ok (.iload_n 3, 1) := by decide +kernel
theorem dX4_next_84 : decode cX4_next 84 = .ok (.ifCond .ge 8, 3) := by decide +kernel
theorem dX4_next_87 : decode cX4_next 87 = .ok (.bipush (-9), 2) := by decide +kernel
theorem dX4_next_89 : decode cX4_next 89 = .ok (.goto 31, 3) := by decide +kernel
theorem dX4_next_92 : decode cX4_next 92 = .ok (.iload_n 1, 1) := by decide +kernel
theorem dX4_next_93 : decode cX4_next 93 = .ok (.ifCond .ne 7, 3) := by decide +kernel
theorem dX4_next_96 : decode cX4_next 96 = .ok (.iload_n 3, 1) := by decide +kernel
theorem dX4_next_97 : decode cX4_next 97 = .ok (.goto 23, 3) := by decide +kernel
theorem dX4_next_100 : decode cX4_next 100 = .ok (.iload_n 1, 1) := by decide +kernel
theorem dX4_next_101 : decode cX4_next 101 = .ok (.iconst 1, 1) := by decide +kernel
theorem dX4_next_102 : decode cX4_next 102 = .ok (.if_icmp .ne 8, 3) := by decide +kernel
theorem dX4_next_105 : decode cX4_next 105 = .ok (.iload 4, 2) := by decide +kernel
theorem dX4_next_107 : decode cX4_next 107 = .ok (.goto 13, 3) := by decide +kernel
theorem dX4_next_110 : decode cX4_next 110 = .ok (.iload 5, 2) := by decide +kernel
theorem dX4_next_112 : decode cX4_next 112 = .ok (.ifCond .eq 7, 3) := by decide +kernel
theorem dX4_next_115 : decode cX4_next 115 = .ok (.iconst 1, 1) := by decide +kernel
theorem dX4_next_116 : decode cX4_next 116 = .ok (.goto 4, 3) := by decide +kernel
theorem dX4_next_119 : decode cX4_next 119 = .ok (.iconst 0, 1) := by decide +kernel
theorem dX4_next_120 : decode cX4_next 120 = .ok (.ireturn, 1) := by decide +kernel
set_option maxRecDepth 20000 in
theorem ggX4_runAt_X4_in : GoodIn wsX4_runAt wsX4_in := goodIn_r _ [4] (by decide +kernel) (by decide +kernel)
set_option maxRecDepth 20000 in
theorem gX4_runAt_X4_in : GoodIn wsX4_runAt (va_wsS RX4 64 yX4_in wsX4_in) := goodIn_app (goodIn_of _ (by decide +kernel)) ggX4_runAt_X4_in
set_option maxRecDepth 20000 in
theorem ggX4_runAt_X4_runFrom : GoodIn wsX4_runAt wsX4_runFrom := goodIn_r _ [8, 9, 10, 11, 12, 13, 14, 15, 16, 17] (by decide +kernel) (by decide +kernel)
set_option maxRecDepth 20000 in
theorem gX4_runAt_X4_runFrom : GoodIn wsX4_runAt (wsV RX4 68 RX4 yX4_runFrom wsX4_runFrom) := goodIn_app (goodIn_of _ (by decide +kernel)) ggX4_runAt_X4_runFrom
theorem dX4_runAt_0 : decode cX4_runAt 0 = .ok (.iload_n 1, 1) := by decide +kernel
theorem dX4_runAt_1 : decode cX4_runAt 1 = .ok (.iconst 1, 1) := by decide +kernel
theorem dX4_runAt_2 : decode cX4_runAt 2 = .ok (.bipush 64, 2) := by decide +kernel
theorem dX4_runAt_4 : decode cX4_runAt 4 = .ok (.invokestatic 64, 3) := by decide +kernel
theorem dX4_runAt_7 : decode cX4_runAt 7 = .ok (.ifCond .eq 11, 3) := by decide +kernel
theorem dX4_runAt_10 : decode cX4_runAt 10 = .ok (.aload_n 0, 1) := by decide +kernel
theorem dX4_runAt_11 : decode cX4_runAt 11 = .ok (.iload_n 1, 1) := by decide +kernel
theorem dX4_runAt_12 : decode cX4_runAt 12 = .ok (.invokevirtual 68, 3) := by decide +kernel
theorem dX4_runAt_15 : decode cX4_runAt 15 = .ok (.goto 4, 3) := by decide +kernel
theorem dX4_runAt_18 : decode cX4_runAt 18 = .ok (.iconst (-1), 1) := by decide +kernel
theorem dX4_runAt_19 : decode cX4_runAt 19 = .ok (.ireturn, 1) := by decide +kernel
set_option maxRecDepth 20000 in
theorem ggX4_placeFor_X4_isSize : GoodIn wsX4_placeFor wsX4_isSize := goodIn_r _ [4] (by decide +kernel) (by decide +kernel)
set_option maxRecDepth 20000 in
theorem gX4_placeFor_X4_isSize : GoodIn wsX4_placeFor (va_wsS RX4 77 yX4_isSize wsX4_isSize) := goodIn_app (goodIn_of _ (by decide +kernel)) ggX4_placeFor_X4_isSize
set_option maxRecDepth 20000 in
theorem ggX4_placeFor_X4_placeOf : GoodIn wsX4_placeFor wsX4_placeOf := goodIn_r _ [8, 9, 10, 11, 12, 13, 14, 15, 16, 17] (by decide +kernel) (by decide +kernel)
set_option maxRecDepth 20000 in
theorem gX4_placeFor_X4_placeOf : GoodIn wsX4_placeFor (wsV RX4 84 RX4 yX4_placeOf wsX4_placeOf) := goodIn_app (goodIn_of _ (by decide +kernel)) ggX4_placeFor_X4_placeOf
theorem dX4_placeFor_0 : decode cX4_placeFor 0 = .ok (.iload_n 1, 1) := by decide +kernel
theorem dX4_placeFor_1 : decode cX4_placeFor 1 = .ok (.invokestatic 77, 3) := by decide +kernel
theorem dX4_placeFor_4 : decode cX4_placeFor 4 = .ok (.ifCond .eq 11, 3) := by decide +kernel
theorem dX4_placeFor_7 : decode cX4_placeFor 7 = .ok (.aload_n 0, 1) := by decide +kernel
theorem dX4_placeFor_8 : decode cX4_placeFor 8 = .ok (.iload_n 1, 1) := by decide +kernel
theorem dX4_placeFor_9 : decode cX4_placeFor 9 = .ok (.invokevirtual 84, 3) := by decide +kernel
theorem dX4_placeFor_12 : decode cX4_placeFor 12 = .ok (.goto 4, 3) := by decide +kernel
theorem dX4_placeFor_15 : decode cX4_placeFor 15 = .ok (.iconst (-1), 1) := by decide +kernel
theorem dX4_placeFor_16 : decode cX4_placeFor 16 = .ok (.ireturn, 1) := by decide +kernel
set_option maxRecDepth 20000 in
theorem ggX4_takes_X4_copies : GoodIn wsX4_takes wsX4_copies := goodIn_r _ [6] (by decide +kernel) (by decide +kernel)
set_option maxRecDepth 20000 in
theorem gX4_takes_X4_copies : GoodIn wsX4_takes (va_wsS RX4 25 yX4_copies wsX4_copies) := goodIn_app (goodIn_of _ (by decide +kernel)) ggX4_takes_X4_copies
set_option maxRecDepth 20000 in
theorem ggX4_takes_X4_takes1 : GoodIn wsX4_takes wsX4_takes1 := goodIn_r _ [10, 11, 12, 13, 5, 14, 1, 15, 16, 17, 18, 19, 20, 21, 22, 23, 24, 25, 26, 27, 28, 29, 30, 31, 32, 33, 34, 35, 36, 37, 38, 39, 40, 41, 42] (by decide +kernel) (by decide +kernel)
set_option maxRecDepth 20000 in
theorem gX4_takes_X4_takes1 : GoodIn wsX4_takes (wsV RX4 58 RX4 yX4_takes1 wsX4_takes1) := goodIn_app (goodIn_of _ (by decide +kernel)) ggX4_takes_X4_takes1
theorem dX4_takes_0 : decode cX4_takes 0 = .ok (.aload_n 0, 1) := by decide +kernel
theorem dX4_takes_1 : decode cX4_takes 1 = .ok (.getfield 7, 3) := by decide +kernel
theorem dX4_takes_4 : decode cX4_takes 4 = .ok (.iconst 0, 1) := by decide +kernel
theorem dX4_takes_5 : decode cX4_takes 5 = .ok (.aload_n 0, 1) := by decide +kernel
theorem dX4_takes_6 : decode cX4_takes 6 = .ok (.getfield 19, 3) := by decide +kernel
theorem dX4_takes_9 : decode cX4_takes 9 = .ok (.iconst 0, 1) := by decide +kernel
theorem dX4_takes_10 : decode cX4_takes 10 = .ok (.invokestatic 25, 3) := by decide +kernel
theorem dX4_takes_13 : decode cX4_takes 13 = .ok (.iconst 0, 1) := by decide +kernel
theorem dX4_takes_14 : decode cX4_takes 14 = .ok (.istore_n 1, 1) := by decide +kernel
theorem dX4_takes_15 : decode cX4_takes 15 = .ok (.aload_n 0, 1) := by decide +kernel
theorem dX4_takes_16 : decode cX4_takes 16 = .ok (.invokevirtual 58, 3) := by decide +kernel
theorem dX4_takes_19 : decode cX4_takes 19 = .ok (.ifCond .lt 9, 3) := by decide +kernel
theorem dX4_takes_22 : decode cX4_takes 22 = .ok (.iinc 1 1, 3) := by decide +kernel
theorem dX4_takes_25 : decode cX4_takes 25 = .ok (.goto (-10), 3) := by decide +kernel
theorem dX4_takes_28 : decode cX4_takes 28 = .ok (.aload_n 0, 1) := by decide +kernel
theorem dX4_takes_29 : decode cX4_takes 29 = .ok (.getfield 19, 3) := by decide +kernel
theorem dX4_takes_32 : decode cX4_takes 32 = .ok (.iconst 0, 1) := by decide +kernel
theorem dX4_takes_33 : decode cX4_takes 33 = .ok (.aload_n 0, 1) := by decide +kernel
theorem dX4_takes_34 : decode cX4_takes 34 = .ok (.getfield 7, 3) := by decide +kernel
theorem dX4_takes_37 : decode cX4_takes 37 = .ok (.iconst 0, 1) := by decide +kernel
theorem dX4_takes_38 : decode cX4_takes 38 = .ok (.invokestatic 25, 3) := by decide +kernel
theorem dX4_takes_41 : decode cX4_takes 41 = .ok (.iload_n 1, 1) := by decide +kernel
theorem dX4_takes_42 : decode cX4_takes 42 = .ok (.ireturn, 1) := by decide +kernel
