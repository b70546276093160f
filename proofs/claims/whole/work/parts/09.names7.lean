set_option maxRecDepth 20000 in
theorem ggX7_init_X7_begin : GoodIn wsX7_init wsX7_begin := goodIn_r _ [29] (by decide +kernel) (by decide +kernel)
set_option maxRecDepth 20000 in
theorem gX7_init_X7_begin : GoodIn wsX7_init (va_wsS RX7 70 yX7_begin wsX7_begin) := goodIn_app (goodIn_of _ (by decide +kernel)) ggX7_init_X7_begin
theorem dX7_init_0 : decode cX7_init 0 = .ok (.aload_n 0, 1) := by decide +kernel
theorem dX7_init_1 : decode cX7_init 1 = .ok (.invokespecial 1, 3) := by decide +kernel
theorem dX7_init_4 : decode cX7_init 4 = .ok (.aload_n 0, 1) := by decide +kernel
theorem dX7_init_5 : decode cX7_init 5 = .ok (.sipush 284, 3) := by decide +kernel
theorem dX7_init_8 : decode cX7_init 8 = .ok (.newarray .int, 2) := by decide +kernel
theorem dX7_init_10 : decode cX7_init 10 = .ok (.putfield 7, 3) := by decide +kernel
theorem dX7_init_13 : decode cX7_init 13 = .ok (.aload_n 0, 1) := by decide +kernel
theorem dX7_init_14 : decode cX7_init 14 = .ok (.sipush 568, 3) := by decide +kernel
theorem dX7_init_17 : decode cX7_init 17 = .ok (.newarray .int, 2) := by decide +kernel
theorem dX7_init_19 : decode cX7_init 19 = .ok (.putfield 13, 3) := by decide +kernel
theorem dX7_init_22 : decode cX7_init 22 = .ok (.aload_n 0, 1) := by decide +kernel
theorem dX7_init_23 : decode cX7_init 23 = .ok (.iconst 2, 1) := by decide +kernel
theorem dX7_init_24 : decode cX7_init 24 = .ok (.newarray .boolean, 2) := by decide +kernel
theorem dX7_init_26 : decode cX7_init 26 = .ok (.putfield 16, 3) := by decide +kernel
theorem dX7_init_29 : decode cX7_init 29 = .ok (.aload_n 0, 1) := by decide +kernel
theorem dX7_init_30 : decode cX7_init 30 = .ok (.iconst 3, 1) := by decide +kernel
theorem dX7_init_31 : decode cX7_init 31 = .ok (.newarray .int, 2) := by decide +kernel
theorem dX7_init_33 : decode cX7_init 33 = .ok (.putfield 20, 3) := by decide +kernel
theorem dX7_init_36 : decode cX7_init 36 = .ok (.aload_n 0, 1) := by decide +kernel
theorem dX7_init_37 : decode cX7_init 37 = .ok (.lconst 1, 1) := by decide +kernel
theorem dX7_init_38 : decode cX7_init 38 = .ok (.putfield 23, 3) := by decide +kernel
theorem dX7_init_41 : decode cX7_init 41 = .ok (.aload_n 0, 1) := by decide +kernel
theorem dX7_init_42 : decode cX7_init 42 = .ok (.bipush 7, 2) := by decide +kernel
theorem dX7_init_44 : decode cX7_init 44 = .ok (.newarray .int, 2) := by decide +kernel
theorem dX7_init_46 : decode cX7_init 46 = .ok (.putfield 27, 3) := by decide +kernel
theorem dX7_init_49 : decode cX7_init 49 = .ok (.aload_n 0, 1) := by decide +kernel
theorem dX7_init_50 : decode cX7_init 50 = .ok (.bipush 7, 2) := by decide +kernel
theorem dX7_init_52 : decode cX7_init 52 = .ok (.newarray .int, 2) := by decide +kernel
theorem dX7_init_54 : decode cX7_init 54 = .ok (.putfield 30, 3) := by decide +kernel
theorem dX7_init_57 : decode cX7_init 57 = .ok (.aload_n 0, 1) := by decide +kernel
theorem dX7_init_58 : decode cX7_init 58 = .ok (.bipush 14, 2) := by decide +kernel
theorem dX7_init_60 : decode cX7_init 60 = .ok (.newarray .int, 2) := by decide +kernel
theorem dX7_init_62 : decode cX7_init 62 = .ok (.putfield 33, 3) := by decide +kernel
theorem dX7_init_65 : decode cX7_init 65 = .ok (.aload_n 0, 1) := by decide +kernel
theorem dX7_init_66 : decode cX7_init 66 = .ok (.bipush 14, 2) := by decide +kernel
theorem dX7_init_68 : decode cX7_init 68 = .ok (.newarray .int, 2) := by decide +kernel
theorem dX7_init_70 : decode cX7_init 70 = .ok (.putfield 36, 3) := by decide +kernel
theorem dX7_init_73 : decode cX7_init 73 = .ok (.aload_n 0, 1) := by decide +kernel
theorem dX7_init_74 : decode cX7_init 74 = .ok (.iconst 5, 1) := by decide +kernel
theorem dX7_init_75 : decode cX7_init 75 = .ok (.newarray .int, 2) := by decide +kernel
theorem dX7_init_77 : decode cX7_init 77 = .ok (.putfield 39, 3) := by decide +kernel
theorem dX7_init_80 : decode cX7_init 80 = .ok (.aload_n 0, 1) := by decide +kernel
theorem dX7_init_81 : decode cX7_init 81 = .ok (.bipush 6, 2) := by decide +kernel
theorem dX7_init_83 : decode cX7_init 83 = .ok (.newarray .int, 2) := by decide +kernel
theorem dX7_init_85 : decode cX7_init 85 = .ok (.putfield 42, 3) := by decide +kernel
theorem dX7_init_88 : decode cX7_init 88 = .ok (.aload_n 0, 1) := by decide +kernel
theorem dX7_init_89 : decode cX7_init 89 = .ok (.bipush 36, 2) := by decide +kernel
theorem dX7_init_91 : decode cX7_init 91 = .ok (.newarray .int, 2) := by decide +kernel
theorem dX7_init_93 : decode cX7_init 93 = .ok (.putfield 45, 3) := by decide +kernel
theorem dX7_init_96 : decode cX7_init 96 = .ok (.aload_n 0, 1) := by decide +kernel
theorem dX7_init_97 : decode cX7_init 97 = .ok (.bipush 36, 2) := by decide +kernel
theorem dX7_init_99 : decode cX7_init 99 = .ok (.newarray .int, 2) := by decide +kernel
theorem dX7_init_101 : decode cX7_init 101 = .ok (.putfield 48, 3) := by decide +kernel
theorem dX7_init_104 : decode cX7_init 104 = .ok (.aload_n 0, 1) := by decide +kernel
theorem dX7_init_105 : decode cX7_init 105 = .ok (.bipush 14, 2) := by decide +kernel
theorem dX7_init_107 : decode cX7_init 107 = .ok (.newarray .long, 2) := by decide +kernel
theorem dX7_init_109 : decode cX7_init 109 = .ok (.putfield 51, 3) := by decide +kernel
theorem dX7_init_112 : decode cX7_init 112 = .ok (.aload_n 0, 1) := by decide +kernel
theorem dX7_init_113 : decode cX7_init 113 = .ok (.bipush 14, 2) := by decide +kernel
theorem dX7_init_115 : decode cX7_init 115 = .ok (.newarray .long, 2) := by decide +kernel
theorem dX7_init_117 : decode cX7_init 117 = .ok (.putfield 55, 3) := by decide +kernel
theorem dX7_init_120 : decode cX7_init 120 = .ok (.aload_n 0, 1) := by decide +kernel
theorem dX7_init_121 : decode cX7_init 121 = .ok (.bipush 80, 2) := by decide +kernel
theorem dX7_init_123 : decode cX7_init 123 = .ok (.newarray .int, 2) := by decide +kernel
theorem dX7_init_125 : decode cX7_init 125 = .ok (.putfield 58, 3) := by decide +kernel
theorem dX7_init_128 : decode cX7_init 128 = .ok (.aload_n 0, 1) := by decide +kernel
theorem dX7_init_129 : decode cX7_init 129 = .ok (.sipush 150, 3) := by decide +kernel
theorem dX7_init_132 : decode cX7_init 132 = .ok (.newarray .int, 2) := by decide +kernel
theorem dX7_init_134 : decode cX7_init 134 = .ok (.putfield 61, 3) := by decide +kernel
theorem dX7_init_137 : decode cX7_init 137 = .ok (.aload_n 0, 1) := by decide +kernel
theorem dX7_init_138 : decode cX7_init 138 = .ok (.sipush 140, 3) := by decide +kernel
theorem dX7_init_141 : decode cX7_init 141 = .ok (.newarray .int, 2) := by decide +kernel
theorem dX7_init_143 : decode cX7_init 143 = .ok (.putfield 64, 3) := by decide +kernel
theorem dX7_init_146 : decode cX7_init 146 = .ok (.aload_n 0, 1) := by decide +kernel
theorem dX7_init_147 : decode cX7_init 147 = .ok (.bipush 6, 2) := by decide +kernel
theorem dX7_init_149 : decode cX7_init 149 = .ok (.newarray .int, 2) := by decide +kernel
theorem dX7_init_151 : decode cX7_init 151 = .ok (.putfield 67, 3) := by decide +kernel
theorem dX7_init_154 : decode cX7_init 154 = .ok (.aload_n 0, 1) := by decide +kernel
theorem dX7_init_155 : decode cX7_init 155 = .ok (.getfield 7, 3) := by decide +kernel
theorem dX7_init_158 : decode cX7_init 158 = .ok (.invokestatic 70, 3) := by decide +kernel
theorem dX7_init_161 : decode cX7_init 161 = .ok (.return_, 1) := by decide +kernel
theorem dX7_in_0 : decode cX7_in 0 = .ok (.lload_n 0, 1) := by decide +kernel
theorem dX7_in_1 : decode cX7_in 1 = .ok (.lload_n 2, 1) := by decide +kernel
theorem dX7_in_2 : decode cX7_in 2 = .ok (.lcmp, 1) := by decide +kernel
theorem dX7_in_3 : decode cX7_in 3 = .ok (.ifCond .lt 14, 3) := by decide +kernel
theorem dX7_in_6 : decode cX7_in 6 = .ok (.lload_n 0, 1) := by decide +kernel
theorem dX7_in_7 : decode cX7_in 7 = .ok (.lload 4, 2) := by decide +kernel
theorem dX7_in_9 : decode cX7_in 9 = .ok (.lcmp, 1) := by decide +kernel
theorem dX7_in_10 : decode cX7_in 10 = .ok (.ifCond .gt 7, 3) := by decide +kernel
theorem dX7_in_13 : decode cX7_in 13 = .ok (.iconst 1, 1) := by decide +kernel
theorem dX7_in_14 : decode cX7_in 14 = .ok (.goto 4, 3) := by decide +kernel
theorem dX7_in_17 : decode cX7_in 17 = .ok (.iconst 0, 1) := by decide +kernel
theorem dX7_in_18 : decode cX7_in 18 = .ok (.ireturn, 1) := by decide +kernel
theorem dX7_bad_0 : decode cX7_bad 0 = .ok (.aload_n 0, 1) := by decide +kernel
theorem dX7_bad_1 : decode cX7_bad 1 = .ok (.getfield 20, 3) := by decide +kernel
theorem dX7_bad_4 : decode cX7_bad 4 = .ok (.iconst 0, 1) := by decide +kernel
theorem dX7_bad_5 : decode cX7_bad 5 = .ok (.dup2, 1) := by decide +kernel
theorem dX7_bad_6 : decode cX7_bad 6 = .ok (.iaload, 1) := by decide +kernel
theorem dX7_bad_7 : decode cX7_bad 7 = .ok (.iconst 1, 1) := by decide +kernel
theorem dX7_bad_8 : decode cX7_bad 8 = .ok (.iadd, 1) := by decide +kernel
theorem dX7_bad_9 : decode cX7_bad 9 = .ok (.iastore, 1) := by decide +kernel
theorem dX7_bad_10 : decode cX7_bad 10 = .ok (.iload_n 1, 1) := by decide +kernel
theorem dX7_bad_11 : decode cX7_bad 11 = .ok (.ireturn, 1) := by decide +kernel
theorem dX7_no_0 : decode cX7_no 0 = .ok (.aload_n 0, 1) := by decide +kernel
theorem dX7_no_1 : decode cX7_no 1 = .ok (.getfield 20, 3) := by decide +kernel
theorem dX7_no_4 : decode cX7_no 4 = .ok (.iconst 1, 1) := by decide +kernel
theorem dX7_no_5 : decode cX7_no 5 = .ok (.dup2, 1) := by decide +kernel
theorem dX7_no_6 : decode cX7_no 6 = .ok (.iaload, 1) := by decide +kernel
theorem dX7_no_7 : decode cX7_no 7 = .ok (.iconst 1, 1) := by decide +kernel
theorem dX7_no_8 : decode cX7_no 8 = .ok (.iadd, 1) := by decide +kernel
theorem dX7_no_9 : decode cX7_no 9 = .ok (.iastore, 1) := by decide +kernel
theorem dX7_no_10 : decode cX7_no 10 = .ok (.bipush (-3), 2) := by decide +kernel
theorem dX7_no_12 : decode cX7_no 12 = .ok (.ireturn, 1) := by decide +kernel
theorem dX7_full_0 : decode cX7_full 0 = .ok (.aload_n 0, 1) := by decide +kernel
theorem dX7_full_1 : decode cX7_full 1 = .ok (.getfield 20, 3) := by decide +kernel
theorem dX7_full_4 : decode cX7_full 4 = .ok (.iconst 2, 1) := by decide +kernel
theorem dX7_full_5 : decode cX7_full 5 = .ok (.dup2, 1) := by decide +kernel
theorem dX7_full_6 : decode cX7_full 6 = .ok (.iaload, 1) := by decide +kernel
theorem dX7_full_7 : decode cX7_full 7 = .ok (.iconst 1, 1) := by decide +kernel
theorem dX7_full_8 : decode cX7_full 8 = .ok (.iadd, 1) := by decide +kernel
theorem dX7_full_9 : decode cX7_full 9 = .ok (.iastore, 1) := by decide +kernel
theorem dX7_full_10 : decode cX7_full 10 = .ok (.bipush (-4), 2) := by decide +kernel
theorem dX7_full_12 : decode cX7_full 12 = .ok (.ireturn, 1) := by decide +kernel
theorem dX7_bits_0 : decode cX7_bits 0 = .ok (.iconst 0, 1) := by decide +kernel
theorem dX7_bits_1 : decode cX7_bits 1 = .ok (.istore_n 1, 1) := by decide +kernel
theorem dX7_bits_2 : decode cX7_bits 2 = .ok (.iload_n 0, 1) := by decide +kernel
theorem dX7_bits_3 : decode cX7_bits 3 = .ok (.istore_n 2, 1) := by decide +kernel
theorem dX7_bits_4 : decode cX7_bits 4 = .ok (.iload_n 2, 1) := by decide +kernel
theorem dX7_bits_5 : decode cX7_bits 5 = .ok (.ifCond .le 16, 3) := by decide +kernel
theorem dX7_bits_8 : decode cX7_bits 8 = .ok (.iload_n 1, 1) := by decide +kernel
theorem dX7_bits_9 : decode cX7_bits 9 = .ok (.iload_n 2, 1) := by decide +kernel
theorem dX7_bits_10 : decode cX7_bits 10 = .ok (.iconst 1, 1) := by decide +kernel
theorem dX7_bits_11 : decode cX7_bits 11 = .ok (.iand, 1) := by decide +kernel
theorem dX7_bits_12 : decode cX7_bits 12 = .ok (.iadd, 1) := by decide +kernel
theorem dX7_bits_13 : decode cX7_bits 13 = .ok (.istore_n 1, 1) := by decide +kernel
theorem dX7_bits_14 : decode cX7_bits 14 = .ok (.iload_n 2, 1) := by decide +kernel
theorem dX7_bits_15 : decode cX7_bits 15 = .ok (.iconst 1, 1) := by decide +kernel
theorem dX7_bits_16 : decode cX7_bits 16 = .ok (.ishr, 1) := by decide +kernel
theorem dX7_bits_17 : decode cX7_bits 17 = .ok (.istore_n 2, 1) := by decide +kernel
theorem dX7_bits_18 : decode cX7_bits 18 = .ok (.goto (-14), 3) := by decide +kernel
theorem dX7_bits_21 : decode cX7_bits 21 = .ok (.iload_n 1, 1) := by decide +kernel
theorem dX7_bits_22 : decode cX7_bits 22 = .ok (.ireturn, 1) := by decide +kernel
theorem dX7_has_0 : decode cX7_has 0 = .ok (.iload_n 0, 1) := by decide +kernel
theorem dX7_has_1 : decode cX7_has 1 = .ok (.iload_n 1, 1) := by decide +kernel
theorem dX7_has_2 : decode cX7_has 2 = .ok (.ishr, 1) := by decide +kernel
theorem dX7_has_3 : decode cX7_has 3 = .ok (.iconst 1, 1) := by decide +kernel
theorem dX7_has_4 : decode cX7_has 4 = .ok (.iand, 1) := by decide +kernel
theorem dX7_has_5 : decode cX7_has 5 = .ok (.iconst 1, 1) := by decide +kernel
theorem dX7_has_6 : decode cX7_has 6 = .ok (.if_icmp .ne 7, 3) := by decide +kernel
theorem dX7_has_9 : decode cX7_has 9 = .ok (.iconst 1, 1) := by decide +kernel
theorem dX7_has_10 : decode cX7_has 10 = .ok (.goto 4, 3) := by decide +kernel
theorem dX7_has_13 : decode cX7_has 13 = .ok (.iconst 0, 1) := by decide +kernel
theorem dX7_has_14 : decode cX7_has 14 = .ok (.ireturn, 1) := by decide +kernel
theorem dX7_begin_0 : decode cX7_begin 0 = .ok (.iconst 0, 1) := by decide +kernel
theorem dX7_begin_1 : decode cX7_begin 1 = .ok (.istore_n 1, 1) := by decide +kernel
theorem dX7_begin_2 : decode cX7_begin 2 = .ok (.iload_n 1, 1) := by decide +kernel
theorem dX7_begin_3 : decode cX7_begin 3 = .ok (.sipush 140, 3) := by decide +kernel
theorem dX7_begin_6 : decode cX7_begin 6 = .ok (.if_icmp .ge 13, 3) := by decide +kernel
theorem dX7_begin_9 : decode cX7_begin 9 = .ok (.aload_n 0, 1) := by decide +kernel
theorem dX7_begin_10 : decode cX7_begin 10 = .ok (.iload_n 1, 1) := by decide +kernel
theorem dX7_begin_11 : decode cX7_begin 11 = .ok (.iconst 0, 1) := by decide +kernel
theorem dX7_begin_12 : decode cX7_begin 12 = .ok (.iastore, 1) := by decide +kernel
theorem dX7_begin_13 : decode cX7_begin 13 = .ok (.iinc 1 1, 3) := by decide +kernel
theorem dX7_begin_16 : decode cX7_begin 16 = .ok (.goto (-14), 3) := by decide +kernel
theorem dX7_begin_19 : decode cX7_begin 19 = .ok (.return_, 1) := by decide +kernel
theorem dX7_many_0 : decode cX7_many 0 = .ok (.aload_n 0, 1) := by decide +kernel
theorem dX7_many_1 : decode cX7_many 1 = .ok (.getfield 7, 3) := by decide +kernel
theorem dX7_many_4 : decode cX7_many 4 = .ok (.iconst 0, 1) := by decide +kernel
theorem dX7_many_5 : decode cX7_many 5 = .ok (.iaload, 1) := by decide +kernel
theorem dX7_many_6 : decode cX7_many 6 = .ok (.ireturn, 1) := by decide +kernel
theorem dX7_manyThings_0 : decode cX7_manyThings 0 = .ok (.aload_n 0, 1) := by decide +kernel
theorem dX7_manyThings_1 : decode cX7_manyThings 1 = .ok (.getfield 7, 3) := by decide +kernel
theorem dX7_manyThings_4 : decode cX7_manyThings 4 = .ok (.iconst 1, 1) := by decide +kernel
theorem dX7_manyThings_5 : decode cX7_manyThings 5 = .ok (.iaload, 1) := by decide +kernel
theorem dX7_manyThings_6 : decode cX7_manyThings 6 = .ok (.ireturn, 1) := by decide +kernel
set_option maxRecDepth 20000 in
theorem ggX7_isOne_X7_many : GoodIn wsX7_isOne wsX7_many := goodIn_r _ [5, 6, 10, 11, 12, 13, 14, 15, 16, 17, 18, 19, 20, 21, 22, 23, 24, 25, 26, 27, 28, 29, 30, 31, 32, 33, 34] (by decide +kernel) (by decide +kernel)
set_option maxRecDepth 20000 in
theorem gX7_isOne_X7_many : GoodIn wsX7_isOne (wsV RX7 74 RX7 yX7_many wsX7_many) := goodIn_app (goodIn_of _ (by decide +kernel)) ggX7_isOne_X7_many
set_option maxRecDepth 20000 in
theorem ggX7_isOne_X7_in : GoodIn wsX7_isOne wsX7_in := goodIn_r _ [9] (by decide +kernel) (by decide +kernel)
set_option maxRecDepth 20000 in
theorem gX7_isOne_X7_in : GoodIn wsX7_isOne (va_wsS RX7 78 yX7_in wsX7_in) := goodIn_app (goodIn_of _ (by decide +kernel)) ggX7_isOne_X7_in
theorem dX7_isOne_0 : decode cX7_isOne 0 = .ok (.iload_n 1, 1) := by decide +kernel
theorem dX7_isOne_1 : decode cX7_isOne 1 = .ok (.i2l, 1) := by decide +kernel
theorem dX7_isOne_2 : decode cX7_isOne 2 = .ok (.lconst 0, 1) := by decide +kernel
theorem dX7_isOne_3 : decode cX7_isOne 3 = .ok (.aload_n 0, 1) := by decide +kernel
theorem dX7_isOne_4 : decode cX7_isOne 4 = .ok (.invokevirtual 74, 3) := by decide +kernel
theorem dX7_isOne_7 : decode cX7_isOne 7 = .ok (.iconst 1, 1) := by decide +kernel
theorem dX7_isOne_8 : decode cX7_isOne 8 = .ok (.isub, 1) := by decide +kernel
theorem dX7_isOne_9 : decode cX7_isOne 9 = .ok (.i2l, 1) := by decide +kernel
theorem dX7_isOne_10 : decode cX7_isOne 10 = .ok (.invokestatic 78, 3) := by decide +kernel
theorem dX7_isOne_13 : decode cX7_isOne 13 = .ok (.ireturn, 1) := by decide +kernel
set_option maxRecDepth 20000 in
theorem ggX7_isThing_X7_manyThings : GoodIn wsX7_isThing wsX7_manyThings := goodIn_r _ [5, 6, 10, 11, 12, 13, 14, 15, 16, 17, 18, 19, 20, 21, 22, 23, 24, 25, 26, 27, 28, 29, 30, 31, 32, 33, 34] (by decide +kernel) (by decide +kernel)
set_option maxRecDepth 20000 in
theorem gX7_isThing_X7_manyThings : GoodIn wsX7_isThing (wsV RX7 82 RX7 yX7_manyThings wsX7_manyThings) := goodIn_app (goodIn_of _ (by decide +kernel)) ggX7_isThing_X7_manyThings
set_option maxRecDepth 20000 in
theorem ggX7_isThing_X7_in : GoodIn wsX7_isThing wsX7_in := goodIn_r _ [9] (by decide +kernel) (by decide +kernel)
set_option maxRecDepth 20000 in
theorem gX7_isThing_X7_in : GoodIn wsX7_isThing (va_wsS RX7 78 yX7_in wsX7_in) := goodIn_app (goodIn_of _ (by decide +kernel)) ggX7_isThing_X7_in
theorem dX7_isThing_0 : decode cX7_isThing 0 = .ok (.iload_n 1, 1) := by decide +kernel
theorem dX7_isThing_1 : decode cX7_isThing 1 = .ok (.i2l, 1) := by decide +kernel
theorem dX7_isThing_2 : decode cX7_isThing 2 = .ok (.lconst 0, 1) := by decide +kernel
theorem dX7_isThing_3 : decode cX7_isThing 3 = .ok (.aload_n 0, 1) := by decide +kernel
theorem dX7_isThing_4 : decode cX7_isThing 4 = .ok (.invokevirtual 82, 3) := by decide +kernel
theorem dX7_isThing_7 : decode cX7_isThing 7 = .ok (.iconst 1, 1) := by decide +kernel
theorem dX7_isThing_8 : decode cX7_isThing 8 = .ok (.isub, 1) := by decide +kernel
theorem dX7_isThing_9 : decode cX7_isThing 9 = .ok (.i2l, 1) := by decide +kernel
theorem dX7_isThing_10 : decode cX7_isThing 10 = .ok (.invokestatic 78, 3) := by decide +kernel
theorem dX7_isThing_13 : decode cX7_isThing 13 = .ok (.ireturn, 1) := by decide +kernel
set_option maxRecDepth 20000 in
theorem ggX7_isSort_X7_in : GoodIn wsX7_isSort wsX7_in := goodIn_r _ [5] (by decide +kernel) (by decide +kernel)
set_option maxRecDepth 20000 in
theorem gX7_isSort_X7_in : GoodIn wsX7_isSort (va_wsS RX7 78 yX7_in wsX7_in) := goodIn_app (goodIn_of _ (by decide +kernel)) ggX7_isSort_X7_in
theorem dX7_isSort_0 : decode cX7_isSort 0 = .ok (.iload_n 0, 1) := by decide +kernel
theorem dX7_isSort_1 : decode cX7_isSort 1 = .ok (.i2l, 1) := by decide +kernel
theorem dX7_isSort_2 : decode cX7_isSort 2 = .ok (.lconst 0, 1) := by decide +kernel
theorem dX7_isSort_3 : decode cX7_isSort 3 = .ok (.ldc2_w 85, 3) := by decide +kernel
theorem dX7_isSort_6 : decode cX7_isSort 6 = .ok (.invokestatic 78, 3) := by decide +kernel
theorem dX7_isSort_9 : decode cX7_isSort 9 = .ok (.ireturn, 1) := by decide +kernel
set_option maxRecDepth 20000 in
theorem ggX7_isNeed_X7_in : GoodIn wsX7_isNeed wsX7_in := goodIn_r _ [5] (by decide +kernel) (by decide +kernel)
set_option maxRecDepth 20000 in
theorem gX7_isNeed_X7_in : GoodIn wsX7_isNeed (va_wsS RX7 78 yX7_in wsX7_in) := goodIn_app (goodIn_of _ (by decide +kernel)) ggX7_isNeed_X7_in
theorem dX7_isNeed_0 : decode cX7_isNeed 0 = .ok (.iload_n 0, 1) := by decide +kernel
theorem dX7_isNeed_1 : decode cX7_isNeed 1 = .ok (.i2l, 1) := by decide +kernel
theorem dX7_isNeed_2 : decode cX7_isNeed 2 = .ok (.lconst 0, 1) := by decide +kernel
theorem dX7_isNeed_3 : decode cX7_isNeed 3 = .ok (.ldc2_w 87, 3) := by decide +kernel
theorem dX7_isNeed_6 : decode cX7_isNeed 6 = .ok (.invokestatic 78, 3) := by decide +kernel
theorem dX7_isNeed_9 : decode cX7_isNeed 9 = .ok (.ireturn, 1) := by decide +kernel
set_option maxRecDepth 20000 in
theorem ggX7_valley_X7_many : GoodIn wsX7_valley wsX7_many := goodIn_r _ [6, 1, 10, 11, 12, 13, 14, 15, 16, 17, 18, 19, 20, 21, 22, 23, 24, 25, 26, 27, 28, 29, 30, 31, 32, 33, 34] (by decide +kernel) (by decide +kernel)
set_option maxRecDepth 20000 in
theorem gX7_valley_X7_many : GoodIn wsX7_valley (wsV RX7 74 RX7 yX7_many wsX7_many) := goodIn_app (goodIn_of _ (by decide +kernel)) ggX7_valley_X7_many
set_option maxRecDepth 20000 in
theorem ggX7_valley_X7_begin : GoodIn wsX7_valley wsX7_begin := goodIn_r _ [9] (by decide +kernel) (by decide +kernel)
set_option maxRecDepth 20000 in
theorem gX7_valley_X7_begin : GoodIn wsX7_valley (va_wsS RX7 70 yX7_begin wsX7_begin) := goodIn_app (goodIn_of _ (by decide +kernel)) ggX7_valley_X7_begin
theorem dX7_valley_0 : decode cX7_valley 0 = .ok (.aload_n 0, 1) := by decide +kernel
theorem dX7_valley_1 : decode cX7_valley 1 = .ok (.invokevirtual 74, 3) := by decide +kernel
theorem dX7_valley_4 : decode cX7_valley 4 = .ok (.istore_n 1, 1) := by decide +kernel
theorem dX7_valley_5 : decode cX7_valley 5 = .ok (.aload_n 0, 1) := by decide +kernel
theorem dX7_valley_6 : decode cX7_valley 6 = .ok (.getfield 7, 3) := by decide +kernel
theorem dX7_valley_9 : decode cX7_valley 9 = .ok (.invokestatic 70, 3) := by decide +kernel
theorem dX7_valley_12 : decode cX7_valley 12 = .ok (.iload_n 1, 1) := by decide +kernel
theorem dX7_valley_13 : decode cX7_valley 13 = .ok (.ireturn, 1) := by decide +kernel
theorem dX7_layPerson_0 : decode cX7_layPerson 0 = .ok (.aload_n 0, 1) := by decide +kernel
theorem dX7_layPerson_1 : decode cX7_layPerson 1 = .ok (.iconst 0, 1) := by decide +kernel
theorem dX7_layPerson_2 : decode cX7_layPerson 2 = .ok (.iaload, 1) := by decide +kernel
theorem dX7_layPerson_3 : decode cX7_layPerson 3 = .ok (.istore 7, 2) := by decide +kernel
theorem dX7_layPerson_5 : decode cX7_layPerson 5 = .ok (.aload_n 0, 1) := by decide +kernel
theorem dX7_layPerson_6 : decode cX7_layPerson 6 = .ok (.bipush 23, 2) := by decide +kernel
theorem dX7_layPerson_8 : decode cX7_layPerson 8 = .ok (.iload 7, 2) := by decide +kernel
theorem dX7_layPerson_10 : decode cX7_layPerson 10 = .ok (.iadd, 1) := by decide +kernel
theorem dX7_layPerson_11 : decode cX7_layPerson 11 = .ok (.iload_n 1, 1) := by decide +kernel
theorem dX7_layPerson_12 : decode cX7_layPerson 12 = .ok (.iastore, 1) := by decide +kernel
theorem dX7_layPerson_13 : decode cX7_layPerson 13 = .ok (.aload_n 0, 1) := by decide +kernel
theorem dX7_layPerson_14 : decode cX7_layPerson 14 = .ok (.bipush 30, 2) := by decide +kernel
theorem dX7_layPerson_16 : decode cX7_layPerson 16 = .ok (.iload 7, 2) := by decide +kernel
theorem dX7_layPerson_18 : decode cX7_layPerson 18 = .ok (.iadd, 1) := by decide +kernel
theorem dX7_layPerson_19 : decode cX7_layPerson 19 = .ok (.iload_n 2, 1) := by decide +kernel
theorem dX7_layPerson_20 : decode cX7_layPerson 20 = .ok (.iastore, 1) := by decide +kernel
theorem dX7_layPerson_21 : decode cX7_layPerson 21 = .ok (.aload_n 0, 1) := by decide +kernel
theorem dX7_layPerson_22 : decode cX7_layPerson 22 = .ok (.bipush 37, 2) := by decide +kernel
theorem dX7_layPerson_24 : decode cX7_layPerson 24 = .ok (.iconst 4, 1) := by decide +kernel
theorem dX7_layPerson_25 : decode cX7_layPerson 25 = .ok (.iload 7, 2) := by decide +kernel
theorem dX7_layPerson_27 : decode cX7_layPerson 27 = .ok (.imul, 1) := by decide +kernel
theorem dX7_layPerson_28 : decode cX7_layPerson 28 = .ok (.iadd, 1) := by decide +kernel
theorem dX7_layPerson_29 : decode cX7_layPerson 29 = .ok (.iload_n 3, 1) := by decide +kernel
theorem dX7_layPerson_30 : decode cX7_layPerson 30 = .ok (.iastore, 1) := by decide +kernel
theorem dX7_layPerson_31 : decode cX7_layPerson 31 = .ok (.aload_n 0, 1) := by decide +kernel
theorem dX7_layPerson_32 : decode cX7_layPerson 32 = .ok (.bipush 37, 2) := by decide +kernel
theorem dX7_layPerson_34 : decode cX7_layPerson 34 = .ok (.iconst 4, 1) := by decide +kernel
theorem dX7_layPerson_35 : decode cX7_layPerson 35 = .ok (.iload 7, 2) := by decide +kernel
theorem dX7_layPerson_37 : decode cX7_layPerson 37 = .ok (.imul, 1) := by decide +kernel
theorem dX7_layPerson_38 : decode cX7_layPerson 38 = .ok (.iadd, 1) := by decide +kernel
theorem dX7_layPerson_39 : decode cX7_layPerson 39 = .ok (.iconst 1, 1) := by decide +kernel
theorem dX7_layPerson_40 : decode cX7_layPerson 40 = .ok (.iadd, 1) := by decide +kernel
theorem dX7_layPerson_41 : decode cX7_layPerson 41 = .ok (.iload 4, 2) := by decide +kernel
theorem dX7_layPerson_43 : decode cX7_layPerson 43 = .ok (.iastore, 1) := by decide +kernel
theorem dX7_layPerson_44 : decode cX7_layPerson 44 = .ok (.aload_n 0, 1) := by decide +kernel
theorem dX7_layPerson_45 : decode cX7_layPerson 45 = .ok (.bipush 37, 2) := by decide +kernel
theorem dX7_layPerson_47 : decode cX7_layPerson 47 = .ok (.iconst 4, 1) := by decide +kernel
theorem dX7_layPerson_48 : decode cX7_layPerson 48 = .ok (.iload 7, 2) := by decide +kernel
theorem dX7_layPerson_50 : decode cX7_layPerson 50 = .ok (.imul, 1) := by decide +kernel
theorem dX7_layPerson_51 : decode cX7_layPerson 51 = .ok (.iadd, 1) := by decide +kernel
theorem dX7_layPerson_52 : decode cX7_layPerson 52 = .ok (.iconst 2, 1) := by decide +kernel
theorem dX7_layPerson_53 : decode cX7_layPerson 53 = .ok (.iadd, 1) := by decide +kernel
theorem dX7_layPerson_54 : decode cX7_layPerson 54 = .ok (.iload 5, 2) := by decide +kernel
theorem dX7_layPerson_56 : decode cX7_layPerson 56 = .ok (.iastore, 1) := by decide +kernel
theorem dX7_layPerson_57 : decode cX7_layPerson 57 = .ok (.aload_n 0, 1) := by decide +kernel
theorem dX7_layPerson_58 : decode cX7_layPerson 58 = .ok (.bipush 37, 2) := by decide +kernel
theorem dX7_layPerson_60 : decode cX7_layPerson 60 = .ok (.iconst 4, 1) := by decide +kernel
theorem dX7_layPerson_61 : decode cX7_layPerson 61 = .ok (.iload 7, 2) := by decide +kernel
theorem dX7_layPerson_63 : decode cX7_layPerson 63 = .ok (.imul, 1) := by decide +kernel
theorem dX7_layPerson_64 : decode cX7_layPerson 64 = .ok (.iadd, 1) := by decide +kernel
theorem dX7_layPerson_65 : decode cX7_layPerson 65 = .ok (.iconst 3, 1) := by decide +kernel
theorem dX7_layPerson_66 : decode cX7_layPerson 66 = .ok (.iadd, 1) := by decide +kernel
theorem dX7_layPerson_67 : decode cX7_layPerson 67 = .ok (.iload 6, 2) := by decide +kernel
theorem dX7_layPerson_69 : decode cX7_layPerson 69 = .ok (.iastore, 1) := by decide +kernel
theorem dX7_layPerson_70 : decode cX7_layPerson 70 = .ok (.aload_n 0, 1) := by decide +kernel
theorem dX7_layPerson_71 : decode cX7_layPerson 71 = .ok (.bipush 15, 2) := by decide +kernel
theorem dX7_layPerson_73 : decode cX7_layPerson 73 = .ok (.iload 7, 2) := by decide +kernel
theorem dX7_layPerson_75 : decode cX7_layPerson 75 = .ok (.iadd, 1) := by decide +kernel
theorem dX7_layPerson_76 : decode cX7_layPerson 76 = .ok (.iconst 0, 1) := by decide +kernel
theorem dX7_layPerson_77 : decode cX7_layPerson 77 = .ok (.iastore, 1) := by decide +kernel
theorem dX7_layPerson_78 : decode cX7_layPerson 78 = .ok (.aload_n 0, 1) := by decide +kernel
theorem dX7_layPerson_79 : decode cX7_layPerson 79 = .ok (.iconst 0, 1) := by decide +kernel
theorem dX7_layPerson_80 : decode cX7_layPerson 80 = .ok (.dup2, 1) := by decide +kernel
theorem dX7_layPerson_81 : decode cX7_layPerson 81 = .ok (.iaload, 1) := by decide +kernel
theorem dX7_layPerson_82 : decode cX7_layPerson 82 = .ok (.iconst 1, 1) := by decide +kernel
theorem dX7_layPerson_83 : decode cX7_layPerson 83 = .ok (.iadd, 1) := by decide +kernel
theorem dX7_layPerson_84 : decode cX7_layPerson 84 = .ok (.iastore, 1) := by decide +kernel
theorem dX7_layPerson_85 : decode cX7_layPerson 85 = .ok (.return_, 1) := by decide +kernel
set_option maxRecDepth 20000 in
theorem ggX7_person_X7_in : GoodIn wsX7_person wsX7_in := goodIn_r _ [7] (by decide +kernel) (by decide +kernel)
set_option maxRecDepth 20000 in
theorem gX7_person_X7_in : GoodIn wsX7_person (va_wsS RX7 78 yX7_in wsX7_in) := goodIn_app (goodIn_of _ (by decide +kernel)) ggX7_person_X7_in
set_option maxRecDepth 20000 in
theorem ggX7_person_X7_isNeed : GoodIn wsX7_person wsX7_isNeed := goodIn_r _ [10, 11, 4, 5, 6, 7] (by decide +kernel) (by decide +kernel)
set_option maxRecDepth 20000 in
theorem gX7_person_X7_isNeed : GoodIn wsX7_person (va_wsS RX7 93 yX7_isNeed wsX7_isNeed) := goodIn_app (goodIn_of _ (by decide +kernel)) ggX7_person_X7_isNeed
set_option maxRecDepth 20000 in
theorem ggX7_person_X7_bad : GoodIn wsX7_person wsX7_bad := goodIn_r _ [15, 16, 28, 29, 30, 31, 32, 33, 34, 35, 36, 37, 38, 39, 40, 41, 42, 43, 44, 45, 46, 47, 48, 49, 50, 51, 52] (by decide +kernel) (by decide +kernel)
set_option maxRecDepth 20000 in
theorem gX7_person_X7_bad : GoodIn wsX7_person (wsV RX7 97 RX7 yX7_bad wsX7_bad) := goodIn_app (goodIn_of _ (by decide +kernel)) ggX7_person_X7_bad
set_option maxRecDepth 20000 in
theorem ggX7_person_X7_many : GoodIn wsX7_person wsX7_many := goodIn_r _ [20, 3, 28, 29, 30, 31, 32, 33, 34, 35, 36, 37, 38, 39, 40, 41, 42, 43, 44, 45, 46, 47, 48, 49, 50, 51, 52] (by decide +kernel) (by decide +kernel)
set_option maxRecDepth 20000 in
theorem gX7_person_X7_many : GoodIn wsX7_person (wsV RX7 74 RX7 yX7_many wsX7_many) := goodIn_app (goodIn_of _ (by decide +kernel)) ggX7_person_X7_many
set_option maxRecDepth 20000 in
theorem ggX7_person_X7_full : GoodIn wsX7_person wsX7_full := goodIn_r _ [24, 16, 28, 29, 30, 31, 32, 33, 34, 35, 36, 37, 38, 39, 40, 41, 42, 43, 44, 45, 46, 47, 48, 49, 50, 51, 52] (by decide +kernel) (by decide +kernel)
set_option maxRecDepth 20000 in
theorem gX7_person_X7_full : GoodIn wsX7_person (wsV RX7 101 RX7 yX7_full wsX7_full) := goodIn_app (goodIn_of _ (by decide +kernel)) ggX7_person_X7_full
set_option maxRecDepth 20000 in
theorem ggX7_person_X7_layPerson : GoodIn wsX7_person wsX7_layPerson := goodIn_r _ [27] (by decide +kernel) (by decide +kernel)
set_option maxRecDepth 20000 in
theorem gX7_person_X7_layPerson : GoodIn wsX7_person (va_wsS RX7 104 yX7_layPerson wsX7_layPerson) := goodIn_app (goodIn_of _ (by decide +kernel)) ggX7_person_X7_layPerson
theorem dX7_person_0 : decode cX7_person 0 = .ok (.iload_n 1, 1) := by decide +kernel
theorem dX7_person_1 : decode cX7_person 1 = .ok (.i2l, 1) := by decide +kernel
theorem dX7_person_2 : decode cX7_person 2 = .ok (.lconst 0, 1) := by decide +kernel
theorem dX7_person_3 : decode cX7_person 3 = .ok (.ldc2_w 89, 3) := by decide +kernel
theorem dX7_person_6 : decode cX7_person 6 = .ok (.invokestatic 78, 3) := by decide +kernel
theorem dX7_person_9 : decode cX7_person 9 = .ok (.ifCond .eq 46, 3) := by decide +kernel
theorem dX7_person_12 : decode cX7_person 12 = .ok (.iload_n 2, 1) := by decide +kernel
theorem dX7_person_13 : decode cX7_person 13 = .ok (.i2l, 1) := by decide +kernel
theorem dX7_person_14 : decode cX7_person 14 = .ok (.lconst 0, 1) := by decide +kernel
theorem dX7_person_15 : decode cX7_person 15 = .ok (.ldc2_w 91, 3) := by decide +kernel
theorem dX7_person_18 : decode cX7_person 18 = .ok (.invokestatic 78, 3) := by decide +kernel
theorem dX7_person_21 : decode cX7_person 21 = .ok (.ifCond .eq 34, 3) := by decide +kernel
theorem dX7_person_24 : decode cX7_person 24 = .ok (.iload_n 3, 1) := by decide +kernel
theorem dX7_person_25 : decode cX7_person 25 = .ok (.invokestatic 93, 3) := by decide +kernel
theorem dX7_person_28 : decode cX7_person 28 = .ok (.ifCond .eq 27, 3) := by decide +kernel
theorem dX7_person_31 : decode cX7_person 31 = .ok (.iload 4, 2) := by decide +kernel
theorem dX7_person_33 : decode cX7_person 33 = .ok (.invokestatic 93, 3) := by decide +kernel
theorem dX7_person_36 : decode cX7_person 36 = .ok (.ifCond .eq 19, 3) := by decide +kernel
theorem dX7_person_39 : decode cX7_person 39 = .ok (.iload 5, 2) := by decide +kernel
theorem dX7_person_41 : decode cX7_person 41 = .ok (.invokestatic 93, 3) := by decide +kernel
theorem dX7_person_44 : decode cX7_person 44 = .ok (.ifCond .eq 11, 3) := by decide +kernel
theorem dX7_person_47 : decode cX7_person 47 = .ok (.iload 6, 2) := by decide +kernel
theorem dX7_person_49 : decode cX7_person 49 = .ok (.invokestatic 93, 3) := by decide +kernel
theorem dX7_person_52 : decode cX7_person 52 = .ok (.ifCond .ne 10, 3) := by decide +kernel
theorem dX7_person_55 : decode cX7_person 55 = .ok (.aload_n 0, 1) := by decide +kernel
theorem dX7_person_56 : decode cX7_person 56 = .ok (.bipush (-2), 2) := by decide +kernel
theorem dX7_person_58 : decode cX7_person 58 = .ok (.invokevirtual 97, 3) := by decide +kernel
theorem dX7_person_61 : decode cX7_person 61 = .ok (.ireturn, 1) := by decide +kernel
theorem dX7_person_62 : decode cX7_person 62 = .ok (.aload_n 0, 1) := by decide +kernel
theorem dX7_person_63 : decode cX7_person 63 = .ok (.invokevirtual 74, 3) := by decide +kernel
theorem dX7_person_66 : decode cX7_person 66 = .ok (.bipush 7, 2) := by decide +kernel
theorem dX7_person_68 : decode cX7_person 68 = .ok (.if_icmp .ne 8, 3) := by decide +kernel
theorem dX7_person_71 : decode cX7_person 71 = .ok (.aload_n 0, 1) := by decide +kernel
theorem dX7_person_72 : decode cX7_person 72 = .ok (.invokevirtual 101, 3) := by decide +kernel
theorem dX7_person_75 : decode cX7_person 75 = .ok (.ireturn, 1) := by decide +kernel
theorem dX7_person_76 : decode cX7_person 76 = .ok (.aload_n 0, 1) := by decide +kernel
theorem dX7_person_77 : decode cX7_person 77 = .ok (.getfield 7, 3) := by decide +kernel
theorem dX7_person_80 : decode cX7_person 80 = .ok (.iload_n 1, 1) := by decide +kernel
theorem dX7_person_81 : decode cX7_person 81 = .ok (.iload_n 2, 1) := by decide +kernel
theorem dX7_person_82 : decode cX7_person 82 = .ok (.iload_n 3, 1) := by decide +kernel
theorem dX7_person_83 : decode cX7_person 83 = .ok (.iload 4, 2) := by decide +kernel
theorem dX7_person_85 : decode cX7_person 85 = .ok (.iload 5, 2) := by decide +kernel
theorem dX7_person_87 : decode cX7_person 87 = .ok (.iload 6, 2) := by decide +kernel
theorem dX7_person_89 : decode cX7_person 89 = .ok (.invokestatic 104, 3) := by decide +kernel
theorem dX7_person_92 : decode cX7_person 92 = .ok (.aload_n 0, 1) := by decide +kernel
theorem dX7_person_93 : decode cX7_person 93 = .ok (.getfield 7, 3) := by decide +kernel
theorem dX7_person_96 : decode cX7_person 96 = .ok (.iconst 4, 1) := by decide +kernel
theorem dX7_person_97 : decode cX7_person 97 = .ok (.iconst 0, 1) := by decide +kernel
theorem dX7_person_98 : decode cX7_person 98 = .ok (.iastore, 1) := by decide +kernel
theorem dX7_person_99 : decode cX7_person 99 = .ok (.aload_n 0, 1) := by decide +kernel
theorem dX7_person_100 : decode cX7_person 100 = .ok (.invokevirtual 74, 3) := by decide +kernel
theorem dX7_person_103 : decode cX7_person 103 = .ok (.iconst 1, 1) := by decide +kernel
theorem dX7_person_104 : decode cX7_person 104 = .ok (.isub, 1) := by decide +kernel
theorem dX7_person_105 : decode cX7_person 105 = .ok (.ireturn, 1) := by decide +kernel
theorem dX7_layThing_0 : decode cX7_layThing 0 = .ok (.aload_n 0, 1) := by decide +kernel
theorem dX7_layThing_1 : decode cX7_layThing 1 = .ok (.iconst 1, 1) := by decide +kernel
theorem dX7_layThing_2 : decode cX7_layThing 2 = .ok (.iaload, 1) := by decide +kernel
theorem dX7_layThing_3 : decode cX7_layThing 3 = .ok (.istore 4, 2) := by decide +kernel
theorem dX7_layThing_5 : decode cX7_layThing 5 = .ok (.aload_n 0, 1) := by decide +kernel
theorem dX7_layThing_6 : decode cX7_layThing 6 = .ok (.bipush 65, 2) := by decide +kernel
theorem dX7_layThing_8 : decode cX7_layThing 8 = .ok (.iload 4, 2) := by decide +kernel
theorem dX7_layThing_10 : decode cX7_layThing 10 = .ok (.iadd, 1) := by decide +kernel
theorem dX7_layThing_11 : decode cX7_layThing 11 = .ok (.iload_n 1, 1) := by decide +kernel
theorem dX7_layThing_12 : decode cX7_layThing 12 = .ok (.iastore, 1) := by decide +kernel
theorem dX7_layThing_13 : decode cX7_layThing 13 = .ok (.aload_n 0, 1) := by decide +kernel
theorem dX7_layThing_14 : decode cX7_layThing 14 = .ok (.bipush 70, 2) := by decide +kernel
theorem dX7_layThing_16 : decode cX7_layThing 16 = .ok (.iload 4, 2) := by decide +kernel
theorem dX7_layThing_18 : decode cX7_layThing 18 = .ok (.iadd, 1) := by decide +kernel
theorem dX7_layThing_19 : decode cX7_layThing 19 = .ok (.iload_n 2, 1) := by decide +kernel
theorem dX7_layThing_20 : decode cX7_layThing 20 = .ok (.iastore, 1) := by decide +kernel
theorem dX7_layThing_21 : decode cX7_layThing 21 = .ok (.aload_n 0, 1) := by decide +kernel
theorem dX7_layThing_22 : decode cX7_layThing 22 = .ok (.bipush 75, 2) := by decide +kernel
theorem dX7_layThing_24 : decode cX7_layThing 24 = .ok (.iload 4, 2) := by decide +kernel
theorem dX7_layThing_26 : decode cX7_layThing 26 = .ok (.iadd, 1) := by decide +kernel
theorem dX7_layThing_27 : decode cX7_layThing 27 = .ok (.iload_n 3, 1) := by decide +kernel
theorem dX7_layThing_28 : decode cX7_layThing 28 = .ok (.iastore, 1) := by decide +kernel
theorem dX7_layThing_29 : decode cX7_layThing 29 = .ok (.aload_n 0, 1) := by decide +kernel
theorem dX7_layThing_30 : decode cX7_layThing 30 = .ok (.iconst 5, 1) := by decide +kernel
theorem dX7_layThing_31 : decode cX7_layThing 31 = .ok (.iload 4, 2) := by decide +kernel
theorem dX7_layThing_33 : decode cX7_layThing 33 = .ok (.iadd, 1) := by decide +kernel
theorem dX7_layThing_34 : decode cX7_layThing 34 = .ok (.iload_n 3, 1) := by decide +kernel
theorem dX7_layThing_35 : decode cX7_layThing 35 = .ok (.iastore, 1) := by decide +kernel
theorem dX7_layThing_36 : decode cX7_layThing 36 = .ok (.aload_n 0, 1) := by decide +kernel
theorem dX7_layThing_37 : decode cX7_layThing 37 = .ok (.bipush 10, 2) := by decide +kernel
theorem dX7_layThing_39 : decode cX7_layThing 39 = .ok (.iload 4, 2) := by decide +kernel
theorem dX7_layThing_41 : decode cX7_layThing 41 = .ok (.iadd, 1) := by decide +kernel
theorem dX7_layThing_42 : decode cX7_layThing 42 = .ok (.iconst 0, 1) := by decide +kernel
theorem dX7_layThing_43 : decode cX7_layThing 43 = .ok (.iastore, 1) := by decide +kernel
theorem dX7_layThing_44 : decode cX7_layThing 44 = .ok (.aload_n 0, 1) := by decide +kernel
theorem dX7_layThing_45 : decode cX7_layThing 45 = .ok (.iconst 1, 1) := by decide +kernel
theorem dX7_layThing_46 : decode cX7_layThing 46 = .ok (.dup2, 1) := by decide +kernel
theorem dX7_layThing_47 : decode cX7_layThing 47 = .ok (.iaload, 1) := by decide +kernel
theorem dX7_layThing_48 : decode cX7_layThing 48 = .ok (.iconst 1, 1) := by decide +kernel
theorem dX7_layThing_49 : decode cX7_layThing 49 = .ok (.iadd, 1) := by decide +kernel
theorem dX7_layThing_50 : decode cX7_layThing 50 = .ok (.iastore, 1) := by decide +kernel
theorem dX7_layThing_51 : decode cX7_layThing 51 = .ok (.return_, 1) := by decide +kernel
set_option maxRecDepth 20000 in
theorem ggX7_thing_X7_in : GoodIn wsX7_thing wsX7_in := goodIn_r _ [6] (by decide +kernel) (by decide +kernel)
set_option maxRecDepth 20000 in
theorem gX7_thing_X7_in : GoodIn wsX7_thing (va_wsS RX7 78 yX7_in wsX7_in) := goodIn_app (goodIn_of _ (by decide +kernel)) ggX7_thing_X7_in
set_option maxRecDepth 20000 in
theorem ggX7_thing_X7_isSort : GoodIn wsX7_thing wsX7_isSort := goodIn_r _ [9, 10, 3, 4, 5, 6] (by decide +kernel) (by decide +kernel)
set_option maxRecDepth 20000 in
theorem gX7_thing_X7_isSort : GoodIn wsX7_thing (va_wsS RX7 108 yX7_isSort wsX7_isSort) := goodIn_app (goodIn_of _ (by decide +kernel)) ggX7_thing_X7_isSort
set_option maxRecDepth 20000 in
theorem ggX7_thing_X7_isOne : GoodIn wsX7_thing wsX7_isOne := goodIn_r _ [14, 15, 16, 17, 5, 18, 2, 3, 4, 6, 35, 36, 37, 38, 39, 40, 41, 42, 43, 44, 45, 46, 47, 48, 49, 50, 51, 52, 53, 54, 55, 56, 57, 58, 59] (by decide +kernel) (by decide +kernel)
set_option maxRecDepth 20000 in
theorem gX7_thing_X7_isOne : GoodIn wsX7_thing (wsV RX7 111 RX7 yX7_isOne wsX7_isOne) := goodIn_app (goodIn_of _ (by decide +kernel)) ggX7_thing_X7_isOne
set_option maxRecDepth 20000 in
theorem ggX7_thing_X7_bad : GoodIn wsX7_thing wsX7_bad := goodIn_r _ [22, 23, 35, 36, 37, 38, 39, 40, 41, 42, 43, 44, 45, 46, 47, 48, 49, 50, 51, 52, 53, 54, 55, 56, 57, 58, 59] (by decide +kernel) (by decide +kernel)
set_option maxRecDepth 20000 in
theorem gX7_thing_X7_bad : GoodIn wsX7_thing (wsV RX7 97 RX7 yX7_bad wsX7_bad) := goodIn_app (goodIn_of _ (by decide +kernel)) ggX7_thing_X7_bad
set_option maxRecDepth 20000 in
theorem ggX7_thing_X7_manyThings : GoodIn wsX7_thing wsX7_manyThings := goodIn_r _ [27, 2, 35, 36, 37, 38, 39, 40, 41, 42, 43, 44, 45, 46, 47, 48, 49, 50, 51, 52, 53, 54, 55, 56, 57, 58, 59] (by decide +kernel) (by decide +kernel)
set_option maxRecDepth 20000 in
theorem gX7_thing_X7_manyThings : GoodIn wsX7_thing (wsV RX7 82 RX7 yX7_manyThings wsX7_manyThings) := goodIn_app (goodIn_of _ (by decide +kernel)) ggX7_thing_X7_manyThings
set_option maxRecDepth 20000 in
theorem ggX7_thing_X7_full : GoodIn wsX7_thing wsX7_full := goodIn_r _ [31, 23, 35, 36, 37, 38, 39, 40, 41, 42, 43, 44, 45, 46, 47, 48, 49, 50, 51, 52, 53, 54, 55, 56, 57, 58, 59] (by decide +kernel) (by decide +kernel)
set_option maxRecDepth 20000 in
theorem gX7_thing_X7_full : GoodIn wsX7_thing (wsV RX7 101 RX7 yX7_full wsX7_full) := goodIn_app (goodIn_of _ (by decide +kernel)) ggX7_thing_X7_full
set_option maxRecDepth 20000 in
theorem ggX7_thing_X7_layThing : GoodIn wsX7_thing wsX7_layThing := goodIn_r _ [34] (by decide +kernel) (by decide +kernel)
set_option maxRecDepth 20000 in
theorem gX7_thing_X7_layThing : GoodIn wsX7_thing (va_wsS RX7 114 yX7_layThing wsX7_layThing) := goodIn_app (goodIn_of _ (by decide +kernel)) ggX7_thing_X7_layThing
theorem dX7_thing_0 : decode cX7_thing 0 = .ok (.iload_n 1, 1) := by decide +kernel
theorem dX7_thing_1 : decode cX7_thing 1 = .ok (.i2l, 1) := by decide +kernel
theorem dX7_thing_2 : decode cX7_thing 2 = .ok (.lconst 0, 1) := by decide +kernel
theorem dX7_thing_3 : decode cX7_thing 3 = .ok (.ldc2_w 89, 3) := by decide +kernel
theorem dX7_thing_6 : decode cX7_thing 6 = .ok (.invokestatic 78, 3) := by decide +kernel
theorem dX7_thing_9 : decode cX7_thing 9 = .ok (.ifCond .eq 18, 3) := by decide +kernel
theorem dX7_thing_12 : decode cX7_thing 12 = .ok (.iload_n 2, 1) := by decide +kernel
theorem dX7_thing_13 : decode cX7_thing 13 = .ok (.invokestatic 108, 3) := by decide +kernel
theorem dX7_thing_16 : decode cX7_thing 16 = .ok (.ifCond .eq 11, 3) := by decide +kernel
theorem dX7_thing_19 : decode cX7_thing 19 = .ok (.aload_n 0, 1) := by decide +kernel
theorem dX7_thing_20 : decode cX7_thing 20 = .ok (.iload_n 3, 1) := by decide +kernel
theorem dX7_thing_21 : decode cX7_thing 21 = .ok (.invokevirtual 111, 3) := by decide +kernel
theorem dX7_thing_24 : decode cX7_thing 24 = .ok (.ifCond .ne 10, 3) := by decide +kernel
theorem dX7_thing_27 : decode cX7_thing 27 = .ok (.aload_n 0, 1) := by decide +kernel
theorem dX7_thing_28 : decode cX7_thing 28 = .ok (.bipush (-2), 2) := by decide +kernel
theorem dX7_thing_30 : decode cX7_thing 30 = .ok (.invokevirtual 97, 3) := by decide +kernel
theorem dX7_thing_33 : decode cX7_thing 33 = .ok (.ireturn, 1) := by decide +kernel
theorem dX7_thing_34 : decode cX7_thing 34 = .ok (.aload_n 0, 1) := by decide +kernel
theorem dX7_thing_35 : decode cX7_thing 35 = .ok (.invokevirtual 82, 3) := by decide +kernel
theorem dX7_thing_38 : decode cX7_thing 38 = .ok (.iconst 5, 1) := by decide +kernel
theorem dX7_thing_39 : decode cX7_thing 39 = .ok (.if_icmp .ne 8, 3) := by decide +kernel
theorem dX7_thing_42 : decode cX7_thing 42 = .ok (.aload_n 0, 1) := by decide +kernel
theorem dX7_thing_43 : decode cX7_thing 43 = .ok (.invokevirtual 101, 3) := by decide +kernel
theorem dX7_thing_46 : decode cX7_thing 46 = .ok (.ireturn, 1) := by decide +kernel
theorem dX7_thing_47 : decode cX7_thing 47 = .ok (.aload_n 0, 1) := by decide +kernel
theorem dX7_thing_48 : decode cX7_thing 48 = .ok (.getfield 7, 3) := by decide +kernel
theorem dX7_thing_51 : decode cX7_thing 51 = .ok (.iload_n 1, 1) := by decide +kernel
theorem dX7_thing_52 : decode cX7_thing 52 = .ok (.iload_n 2, 1) := by decide +kernel
theorem dX7_thing_53 : decode cX7_thing 53 = .ok (.iload_n 3, 1) := by decide +kernel
theorem dX7_thing_54 : decode cX7_thing 54 = .ok (.invokestatic 114, 3) := by decide +kernel
theorem dX7_thing_57 : decode cX7_thing 57 = .ok (.aload_n 0, 1) := by decide +kernel
theorem dX7_thing_58 : decode cX7_thing 58 = .ok (.getfield 7, 3) := by decide +kernel
theorem dX7_thing_61 : decode cX7_thing 61 = .ok (.iconst 4, 1) := by decide +kernel
theorem dX7_thing_62 : decode cX7_thing 62 = .ok (.iconst 0, 1) := by decide +kernel
theorem dX7_thing_63 : decode cX7_thing 63 = .ok (.iastore, 1) := by decide +kernel
theorem dX7_thing_64 : decode cX7_thing 64 = .ok (.aload_n 0, 1) := by decide +kernel
theorem dX7_thing_65 : decode cX7_thing 65 = .ok (.invokevirtual 82, 3) := by decide +kernel
theorem dX7_thing_68 : decode cX7_thing 68 = .ok (.iconst 1, 1) := by decide +kernel
theorem dX7_thing_69 : decode cX7_thing 69 = .ok (.isub, 1) := by decide +kernel
theorem dX7_thing_70 : decode cX7_thing 70 = .ok (.ireturn, 1) := by decide +kernel
theorem dX7_showsAs_0 : decode cX7_showsAs 0 = .ok (.iload_n 3, 1) := by decide +kernel
theorem dX7_showsAs_1 : decode cX7_showsAs 1 = .ok (.iload 4, 2) := by decide +kernel
theorem dX7_showsAs_3 : decode cX7_showsAs 3 = .ok (.iadd, 1) := by decide +kernel
theorem dX7_showsAs_4 : decode cX7_showsAs 4 = .ok (.istore 5, 2) := by decide +kernel
theorem dX7_showsAs_6 : decode cX7_showsAs 6 = .ok (.iload_n 0, 1) := by decide +kernel
theorem dX7_showsAs_7 : decode cX7_showsAs 7 = .ok (.tableswitch 82 1 5 #[33, 38, 40, 57, 71], 33) := by decide +kernel
theorem dX7_showsAs_40 : decode cX7_showsAs 40 = .ok (.iload 5, 2) := by decide +kernel
theorem dX7_showsAs_42 : decode cX7_showsAs 42 = .ok (.iconst 2, 1) := by decide +kernel
theorem dX7_showsAs_43 : decode cX7_showsAs 43 = .ok (.idiv, 1) := by decide +kernel
theorem dX7_showsAs_44 : decode cX7_showsAs 44 = .ok (.ireturn, 1) := by decide +kernel
theorem dX7_showsAs_45 : decode cX7_showsAs 45 = .ok (.iload_n 3, 1) := by decide +kernel
theorem dX7_showsAs_46 : decode cX7_showsAs 46 = .ok (.ireturn, 1) := by decide +kernel
theorem dX7_showsAs_47 : decode cX7_showsAs 47 = .ok (.iload_n 2, 1) := by decide +kernel
theorem dX7_showsAs_48 : decode cX7_showsAs 48 = .ok (.iconst 2, 1) := by decide +kernel
theorem dX7_showsAs_49 : decode cX7_showsAs 49 = .ok (.irem, 1) := by decide +kernel
theorem dX7_showsAs_50 : decode cX7_showsAs 50 = .ok (.iconst 1, 1) := by decide +kernel
theorem dX7_showsAs_51 : decode cX7_showsAs 51 = .ok (.if_icmp .ne 10, 3) := by decide +kernel
theorem dX7_showsAs_54 : decode cX7_showsAs 54 = .ok (.iload 5, 2) := by decide +kernel
theorem dX7_showsAs_56 : decode cX7_showsAs 56 = .ok (.iconst 2, 1) := by decide +kernel
theorem dX7_showsAs_57 : decode cX7_showsAs 57 = .ok (.iadd, 1) := by decide +kernel
theorem dX7_showsAs_58 : decode cX7_showsAs 58 = .ok (.goto 5, 3) := by decide +kernel
theorem dX7_showsAs_61 : decode cX7_showsAs 61 = .ok (.iload 5, 2) := by decide +kernel
theorem dX7_showsAs_63 : decode cX7_showsAs 63 = .ok (.ireturn, 1) := by decide +kernel
theorem dX7_showsAs_64 : decode cX7_showsAs 64 = .ok (.iload_n 1, 1) := by decide +kernel
theorem dX7_showsAs_65 : decode cX7_showsAs 65 = .ok (.iconst 2, 1) := by decide +kernel
theorem dX7_showsAs_66 : decode cX7_showsAs 66 = .ok (.if_icmp .ne 7, 3) := by decide +kernel
theorem dX7_showsAs_69 : decode cX7_showsAs 69 = .ok (.iconst 0, 1) := by decide +kernel
theorem dX7_showsAs_70 : decode cX7_showsAs 70 = .ok (.goto 7, 3) := by decide +kernel
theorem dX7_showsAs_73 : decode cX7_showsAs 73 = .ok (.iload 5, 2) := by decide +kernel
theorem dX7_showsAs_75 : decode cX7_showsAs 75 = .ok (.iconst 2, 1) := by decide +kernel
theorem dX7_showsAs_76 : decode cX7_showsAs 76 = .ok (.idiv, 1) := by decide +kernel
theorem dX7_showsAs_77 : decode cX7_showsAs 77 = .ok (.ireturn, 1) := by decide +kernel
theorem dX7_showsAs_78 : decode cX7_showsAs 78 = .ok (.iload_n 1, 1) := by decide +kernel
theorem dX7_showsAs_79 : decode cX7_showsAs 79 = .ok (.iconst 3, 1) := by decide +kernel
theorem dX7_showsAs_80 : decode cX7_showsAs 80 = .ok (.if_icmp .ne 7, 3) := by decide +kernel
theorem dX7_showsAs_83 : decode cX7_showsAs 83 = .ok (.iload_n 3, 1) := by decide +kernel
theorem dX7_showsAs_84 : decode cX7_showsAs 84 = .ok (.goto 4, 3) := by decide +kernel
theorem dX7_showsAs_87 : decode cX7_showsAs 87 = .ok (.iconst 0, 1) := by decide +kernel
theorem dX7_showsAs_88 : decode cX7_showsAs 88 = .ok (.ireturn, 1) := by decide +kernel
theorem dX7_showsAs_89 : decode cX7_showsAs 89 = .ok (.iload 5, 2) := by decide +kernel
theorem dX7_showsAs_91 : decode cX7_showsAs 91 = .ok (.ireturn, 1) := by decide +kernel
theorem dX7_asksAs_0 : decode cX7_asksAs 0 = .ok (.iload_n 1, 1) := by decide +kernel
theorem dX7_asksAs_1 : decode cX7_asksAs 1 = .ok (.bipush 9, 2) := by decide +kernel
theorem dX7_asksAs_3 : decode cX7_asksAs 3 = .ok (.if_icmp .ge 10, 3) := by decide +kernel
theorem dX7_asksAs_6 : decode cX7_asksAs 6 = .ok (.bipush 9, 2) := by decide +kernel
theorem dX7_asksAs_8 : decode cX7_asksAs 8 = .ok (.iload_n 1, 1) := by decide +kernel
theorem dX7_asksAs_9 : decode cX7_asksAs 9 = .ok (.isub, 1) := by decide +kernel
theorem dX7_asksAs_10 : decode cX7_asksAs 10 = .ok (.goto 4, 3) := by decide +kernel
theorem dX7_asksAs_13 : decode cX7_asksAs 13 = .ok (.iconst 0, 1) := by decide +kernel
theorem dX7_asksAs_14 : decode cX7_asksAs 14 = .ok (.istore_n 2, 1) := by decide +kernel
theorem dX7_asksAs_15 : decode cX7_asksAs 15 = .ok (.iload_n 0, 1) := by decide +kernel
theorem dX7_asksAs_16 : decode cX7_asksAs 16 = .ok (.iconst 5, 1) := by decide +kernel
theorem dX7_asksAs_17 : decode cX7_asksAs 17 = .ok (.if_icmp .ne 7, 3) := by decide +kernel
theorem dX7_asksAs_20 : decode cX7_asksAs 20 = .ok (.iconst 0, 1) := by decide +kernel
theorem dX7_asksAs_21 : decode cX7_asksAs 21 = .ok (.goto 28, 3) := by decide +kernel
theorem dX7_asksAs_24 : decode cX7_asksAs 24 = .ok (.iload_n 0, 1) := by decide +kernel
theorem dX7_asksAs_25 : decode cX7_asksAs 25 = .ok (.iconst 1, 1) := by decide +kernel
theorem dX7_asksAs_26 : decode cX7_asksAs 26 = .ok (.if_icmp .ne 9, 3) := by decide +kernel
theorem dX7_asksAs_29 : decode cX7_asksAs 29 = .ok (.iconst 2, 1) := by decide +kernel
theorem dX7_asksAs_30 : decode cX7_asksAs 30 = .ok (.iload_n 2, 1) := by decide +kernel
theorem dX7_asksAs_31 : decode cX7_asksAs 31 = .ok (.imul, 1) := by decide +kernel
theorem dX7_asksAs_32 : decode cX7_asksAs 32 = .ok (.goto 17, 3) := by decide +kernel
theorem dX7_asksAs_35 : decode cX7_asksAs 35 = .ok (.iload_n 0, 1) := by decide +kernel
theorem dX7_asksAs_36 : decode cX7_asksAs 36 = .ok (.iconst 4, 1) := by decide +kernel
theorem dX7_asksAs_37 : decode cX7_asksAs 37 = .ok (.if_icmp .ne 11, 3) := by decide +kernel
theorem dX7_asksAs_40 : decode cX7_asksAs 40 = .ok (.iconst 2, 1) := by decide +kernel
theorem dX7_asksAs_41 : decode cX7_asksAs 41 = .ok (.iload_n 2, 1) := by decide +kernel
theorem dX7_asksAs_42 : decode cX7_asksAs 42 = .ok (.imul, 1) := by decide +kernel
theorem dX7_asksAs_43 : decode cX7_asksAs 43 = .ok (.iconst 3, 1) := by decide +kernel
theorem dX7_asksAs_44 : decode cX7_asksAs 44 = .ok (.iadd, 1) := by decide +kernel
theorem dX7_asksAs_45 : decode cX7_asksAs 45 = .ok (.goto 4, 3) := by decide +kernel
theorem dX7_asksAs_48 : decode cX7_asksAs 48 = .ok (.iload_n 2, 1) := by decide +kernel
theorem dX7_asksAs_49 : decode cX7_asksAs 49 = .ok (.ireturn, 1) := by decide +kernel
theorem dX7_countsAs_0 : decode cX7_countsAs 0 = .ok (.iload_n 0, 1) := by decide +kernel
theorem dX7_countsAs_1 : decode cX7_countsAs 1 = .ok (.tableswitch 70 1 5 #[35, 39, 51, 35, 56], 35) := by decide +kernel
theorem dX7_countsAs_36 : decode cX7_countsAs 36 = .ok (.iload_n 2, 1) := by decide +kernel
theorem dX7_countsAs_37 : decode cX7_countsAs 37 = .ok (.iload_n 3, 1) := by decide +kernel
theorem dX7_countsAs_38 : decode cX7_countsAs 38 = .ok (.iadd, 1) := by decide +kernel
theorem dX7_countsAs_39 : decode cX7_countsAs 39 = .ok (.ireturn, 1) := by decide +kernel
theorem dX7_countsAs_40 : decode cX7_countsAs 40 = .ok (.iload_n 1, 1) := by decide +kernel
theorem dX7_countsAs_41 : decode cX7_countsAs 41 = .ok (.bipush 6, 2) := by decide +kernel
theorem dX7_countsAs_43 : decode cX7_countsAs 43 = .ok (.if_icmp .le 7, 3) := by decide +kernel
theorem dX7_countsAs_46 : decode cX7_countsAs 46 = .ok (.iconst (-1), 1) := by decide +kernel
theorem dX7_countsAs_47 : decode cX7_countsAs 47 = .ok (.goto 4, 3) := by decide +kernel
theorem dX7_countsAs_50 : decode cX7_countsAs 50 = .ok (.iload_n 2, 1) := by decide +kernel
theorem dX7_countsAs_51 : decode cX7_countsAs 51 = .ok (.ireturn, 1) := by decide +kernel
theorem dX7_countsAs_52 : decode cX7_countsAs 52 = .ok (.bipush 40, 2) := by decide +kernel
theorem dX7_countsAs_54 : decode cX7_countsAs 54 = .ok (.iload_n 2, 1) := by decide +kernel
theorem dX7_countsAs_55 : decode cX7_countsAs 55 = .ok (.isub, 1) := by decide +kernel
theorem dX7_countsAs_56 : decode cX7_countsAs 56 = .ok (.ireturn, 1) := by decide +kernel
theorem dX7_countsAs_57 : decode cX7_countsAs 57 = .ok (.iload_n 1, 1) := by decide +kernel
theorem dX7_countsAs_58 : decode cX7_countsAs 58 = .ok (.bipush 6, 2) := by decide +kernel
theorem dX7_countsAs_60 : decode cX7_countsAs 60 = .ok (.if_icmp .le 7, 3) := by decide +kernel
theorem dX7_countsAs_63 : decode cX7_countsAs 63 = .ok (.iconst (-1), 1) := by decide +kernel
theorem dX7_countsAs_64 : decode cX7_countsAs 64 = .ok (.goto 6, 3) := by decide +kernel
theorem dX7_countsAs_67 : decode cX7_countsAs 67 = .ok (.iload_n 2, 1) := by decide +kernel
theorem dX7_countsAs_68 : decode cX7_countsAs 68 = .ok (.iload_n 1, 1) := by decide +kernel
theorem dX7_countsAs_69 : decode cX7_countsAs 69 = .ok (.iadd, 1) := by decide +kernel
theorem dX7_countsAs_70 : decode cX7_countsAs 70 = .ok (.ireturn, 1) := by decide +kernel
theorem dX7_countsAs_71 : decode cX7_countsAs 71 = .ok (.iload_n 2, 1) := by decide +kernel
theorem dX7_countsAs_72 : decode cX7_countsAs 72 = .ok (.ireturn, 1) := by decide +kernel
theorem dX7_layCoats_0 : decode cX7_layCoats 0 = .ok (.iconst 0, 1) := by decide +kernel
theorem dX7_layCoats_1 : decode cX7_layCoats 1 = .ok (.istore_n 2, 1) := by decide +kernel
theorem dX7_layCoats_2 : decode cX7_layCoats 2 = .ok (.iload_n 2, 1) := by decide +kernel
theorem dX7_layCoats_3 : decode cX7_layCoats 3 = .ok (.aload_n 1, 1) := by decide +kernel
theorem dX7_layCoats_4 : decode cX7_layCoats 4 = .ok (.iconst 0, 1) := by decide +kernel
theorem dX7_layCoats_5 : decode cX7_layCoats 5 = .ok (.iaload, 1) := by decide +kernel
theorem dX7_layCoats_6 : decode cX7_layCoats 6 = .ok (.if_icmp .ge 21, 3) := by decide +kernel
theorem dX7_layCoats_9 : decode cX7_layCoats 9 = .ok (.aload_n 0, 1) := by decide +kernel
theorem dX7_layCoats_10 : decode cX7_layCoats 10 = .ok (.getfield 27, 3) := by decide +kernel
theorem dX7_layCoats_13 : decode cX7_layCoats 13 = .ok (.iload_n 2, 1) := by decide +kernel
theorem dX7_layCoats_14 : decode cX7_layCoats 14 = .ok (.aload_n 1, 1) := by decide +kernel
theorem dX7_layCoats_15 : decode cX7_layCoats 15 = .ok (.bipush 15, 2) := by decide +kernel
theorem dX7_layCoats_17 : decode cX7_layCoats 17 = .ok (.iload_n 2, 1) := by decide +kernel
theorem dX7_layCoats_18 : decode cX7_layCoats 18 = .ok (.iadd, 1) := by decide +kernel
theorem dX7_layCoats_19 : decode cX7_layCoats 19 = .ok (.iaload, 1) := by decide +kernel
theorem dX7_layCoats_20 : decode cX7_layCoats 20 = .ok (.iastore, 1) := by decide +kernel
theorem dX7_layCoats_21 : decode cX7_layCoats 21 = .ok (.iinc 2 1, 3) := by decide +kernel
theorem dX7_layCoats_24 : decode cX7_layCoats 24 = .ok (.goto (-22), 3) := by decide +kernel
theorem dX7_layCoats_27 : decode cX7_layCoats 27 = .ok (.return_, 1) := by decide +kernel
set_option maxRecDepth 20000 in
theorem ggX7_showsOn_X7_showsAs : GoodIn wsX7_showsOn wsX7_showsAs := goodIn_r _ [5] (by decide +kernel) (by decide +kernel)
set_option maxRecDepth 20000 in
theorem gX7_showsOn_X7_showsAs : GoodIn wsX7_showsOn (va_wsS RX7 118 yX7_showsAs wsX7_showsAs) := goodIn_app (goodIn_of _ (by decide +kernel)) ggX7_showsOn_X7_showsAs
theorem dX7_showsOn_0 : decode cX7_showsOn 0 = .ok (.aload_n 1, 1) := by decide +kernel
theorem dX7_showsOn_1 : decode cX7_showsOn 1 = .ok (.bipush 23, 2) := by decide +kernel
theorem dX7_showsOn_3 : decode cX7_showsOn 3 = .ok (.iload_n 2, 1) := by decide +kernel
theorem dX7_showsOn_4 : decode cX7_showsOn 4 = .ok (.iadd, 1) := by decide +kernel
theorem dX7_showsOn_5 : decode cX7_showsOn 5 = .ok (.iaload, 1) := by decide +kernel
theorem dX7_showsOn_6 : decode cX7_showsOn 6 = .ok (.iload_n 3, 1) := by decide +kernel
theorem dX7_showsOn_7 : decode cX7_showsOn 7 = .ok (.iload 4, 2) := by decide +kernel
theorem dX7_showsOn_9 : decode cX7_showsOn 9 = .ok (.aload_n 1, 1) := by decide +kernel
theorem dX7_showsOn_10 : decode cX7_showsOn 10 = .ok (.bipush 37, 2) := by decide +kernel
theorem dX7_showsOn_12 : decode cX7_showsOn 12 = .ok (.iconst 4, 1) := by decide +kernel
theorem dX7_showsOn_13 : decode cX7_showsOn 13 = .ok (.iload_n 2, 1) := by decide +kernel
theorem dX7_showsOn_14 : decode cX7_showsOn 14 = .ok (.imul, 1) := by decide +kernel
theorem dX7_showsOn_15 : decode cX7_showsOn 15 = .ok (.iadd, 1) := by decide +kernel
theorem dX7_showsOn_16 : decode cX7_showsOn 16 = .ok (.iload_n 3, 1) := by decide +kernel
theorem dX7_showsOn_17 : decode cX7_showsOn 17 = .ok (.iadd, 1) := by decide +kernel
theorem dX7_showsOn_18 : decode cX7_showsOn 18 = .ok (.iaload, 1) := by decide +kernel
theorem dX7_showsOn_19 : decode cX7_showsOn 19 = .ok (.aload_n 0, 1) := by decide +kernel
theorem dX7_showsOn_20 : decode cX7_showsOn 20 = .ok (.getfield 27, 3) := by decide +kernel
theorem dX7_showsOn_23 : decode cX7_showsOn 23 = .ok (.iload_n 2, 1) := by decide +kernel
theorem dX7_showsOn_24 : decode cX7_showsOn 24 = .ok (.iaload, 1) := by decide +kernel
theorem dX7_showsOn_25 : decode cX7_showsOn 25 = .ok (.invokestatic 118, 3) := by decide +kernel
theorem dX7_showsOn_28 : decode cX7_showsOn 28 = .ok (.ireturn, 1) := by decide +kernel
theorem dX7_distance_0 : decode cX7_distance 0 = .ok (.iload_n 0, 1) := by decide +kernel
theorem dX7_distance_1 : decode cX7_distance 1 = .ok (.iload_n 1, 1) := by decide +kernel
theorem dX7_distance_2 : decode cX7_distance 2 = .ok (.if_icmp .ge 9, 3) := by decide +kernel
theorem dX7_distance_5 : decode cX7_distance 5 = .ok (.iload_n 1, 1) := by decide +kernel
theorem dX7_distance_6 : decode cX7_distance 6 = .ok (.iload_n 0, 1) := by decide +kernel
theorem dX7_distance_7 : decode cX7_distance 7 = .ok (.isub, 1) := by decide +kernel
theorem dX7_distance_8 : decode cX7_distance 8 = .ok (.goto 6, 3) := by decide +kernel
theorem dX7_distance_11 : decode cX7_distance 11 = .ok (.iload_n 0, 1) := by decide +kernel
theorem dX7_distance_12 : decode cX7_distance 12 = .ok (.iload_n 1, 1) := by decide +kernel
theorem dX7_distance_13 : decode cX7_distance 13 = .ok (.isub, 1) := by decide +kernel
theorem dX7_distance_14 : decode cX7_distance 14 = .ok (.ireturn, 1) := by decide +kernel
set_option maxRecDepth 20000 in
theorem ggX7_countsOn_X7_distance : GoodIn wsX7_countsOn wsX7_distance := goodIn_r _ [4] (by decide +kernel) (by decide +kernel)
set_option maxRecDepth 20000 in
theorem gX7_countsOn_X7_distance : GoodIn wsX7_countsOn (va_wsS RX7 122 yX7_distance wsX7_distance) := goodIn_app (goodIn_of _ (by decide +kernel)) ggX7_countsOn_X7_distance
set_option maxRecDepth 20000 in
theorem ggX7_countsOn_X7_showsOn : GoodIn wsX7_countsOn wsX7_showsOn := goodIn_r _ [8, 9, 10, 11, 3, 12, 16, 17, 18, 19, 20, 21, 22, 23, 24, 25, 26, 27, 28, 29, 30, 31, 32, 33, 34, 35, 36, 37, 38, 39, 40] (by decide +kernel) (by decide +kernel)
set_option maxRecDepth 20000 in
theorem gX7_countsOn_X7_showsOn : GoodIn wsX7_countsOn (wsV RX7 126 RX7 yX7_showsOn wsX7_showsOn) := goodIn_app (goodIn_of _ (by decide +kernel)) ggX7_countsOn_X7_showsOn
set_option maxRecDepth 20000 in
theorem ggX7_countsOn_X7_countsAs : GoodIn wsX7_countsOn wsX7_countsAs := goodIn_r _ [15] (by decide +kernel) (by decide +kernel)
set_option maxRecDepth 20000 in
theorem gX7_countsOn_X7_countsAs : GoodIn wsX7_countsOn (va_wsS RX7 130 yX7_countsAs wsX7_countsAs) := goodIn_app (goodIn_of _ (by decide +kernel)) ggX7_countsOn_X7_countsAs
theorem dX7_countsOn_0 : decode cX7_countsOn 0 = .ok (.aload_n 1, 1) := by decide +kernel
theorem dX7_countsOn_1 : decode cX7_countsOn 1 = .ok (.bipush 30, 2) := by decide +kernel
theorem dX7_countsOn_3 : decode cX7_countsOn 3 = .ok (.iload 5, 2) := by decide +kernel
theorem dX7_countsOn_5 : decode cX7_countsOn 5 = .ok (.iadd, 1) := by decide +kernel
theorem dX7_countsOn_6 : decode cX7_countsOn 6 = .ok (.iaload, 1) := by decide +kernel
theorem dX7_countsOn_7 : decode cX7_countsOn 7 = .ok (.aload_n 1, 1) := by decide +kernel
theorem dX7_countsOn_8 : decode cX7_countsOn 8 = .ok (.bipush 30, 2) := by decide +kernel
theorem dX7_countsOn_10 : decode cX7_countsOn 10 = .ok (.iload 6, 2) := by decide +kernel
theorem dX7_countsOn_12 : decode cX7_countsOn 12 = .ok (.iadd, 1) := by decide +kernel
theorem dX7_countsOn_13 : decode cX7_countsOn 13 = .ok (.iaload, 1) := by decide +kernel
theorem dX7_countsOn_14 : decode cX7_countsOn 14 = .ok (.invokestatic 122, 3) := by decide +kernel
theorem dX7_countsOn_17 : decode cX7_countsOn 17 = .ok (.istore 7, 2) := by decide +kernel
theorem dX7_countsOn_19 : decode cX7_countsOn 19 = .ok (.iload_n 2, 1) := by decide +kernel
theorem dX7_countsOn_20 : decode cX7_countsOn 20 = .ok (.iload 7, 2) := by decide +kernel
theorem dX7_countsOn_22 : decode cX7_countsOn 22 = .ok (.aload_n 0, 1) := by decide +kernel
theorem dX7_countsOn_23 : decode cX7_countsOn 23 = .ok (.aload_n 1, 1) := by decide +kernel
theorem dX7_countsOn_24 : decode cX7_countsOn 24 = .ok (.iload 6, 2) := by decide +kernel
theorem dX7_countsOn_26 : decode cX7_countsOn 26 = .ok (.iload_n 3, 1) := by decide +kernel
theorem dX7_countsOn_27 : decode cX7_countsOn 27 = .ok (.iload 4, 2) := by decide +kernel
theorem dX7_countsOn_29 : decode cX7_countsOn 29 = .ok (.invokevirtual 126, 3) := by decide +kernel
theorem dX7_countsOn_32 : decode cX7_countsOn 32 = .ok (.aload_n 0, 1) := by decide +kernel
theorem dX7_countsOn_33 : decode cX7_countsOn 33 = .ok (.aload_n 1, 1) := by decide +kernel
theorem dX7_countsOn_34 : decode cX7_countsOn 34 = .ok (.iload 6, 2) := by decide +kernel
theorem dX7_countsOn_36 : decode cX7_countsOn 36 = .ok (.iload_n 3, 1) := by decide +kernel
theorem dX7_countsOn_37 : decode cX7_countsOn 37 = .ok (.iconst 1, 1) := by decide +kernel
theorem dX7_countsOn_38 : decode cX7_countsOn 38 = .ok (.iadd, 1) := by decide +kernel
theorem dX7_countsOn_39 : decode cX7_countsOn 39 = .ok (.iconst 4, 1) := by decide +kernel
theorem dX7_countsOn_40 : decode cX7_countsOn 40 = .ok (.irem, 1) := by decide +kernel
theorem dX7_countsOn_41 : decode cX7_countsOn 41 = .ok (.iload 4, 2) := by decide +kernel
theorem dX7_countsOn_43 : decode cX7_countsOn 43 = .ok (.invokevirtual 126, 3) := by decide +kernel
theorem dX7_countsOn_46 : decode cX7_countsOn 46 = .ok (.invokestatic 130, 3) := by decide +kernel
theorem dX7_countsOn_49 : decode cX7_countsOn 49 = .ok (.ireturn, 1) := by decide +kernel
set_option maxRecDepth 20000 in
theorem ggX7_comesTo_X7_countsOn : GoodIn wsX7_comesTo wsX7_countsOn := goodIn_r _ [6, 7, 8, 5, 9, 10, 11, 12, 13, 14, 15, 16, 17, 18, 19, 20, 21, 22, 23, 24, 25, 26, 27, 28, 29, 30, 31, 32, 33, 34, 35, 36, 37, 38, 39, 40, 41, 42, 43, 44, 45] (by decide +kernel) (by decide +kernel)
set_option maxRecDepth 20000 in
theorem gX7_comesTo_X7_countsOn : GoodIn wsX7_comesTo (wsV RX7 135 RX7 yX7_countsOn wsX7_countsOn) := goodIn_app (goodIn_of _ (by decide +kernel)) ggX7_comesTo_X7_countsOn
theorem dX7_comesTo_0 : decode cX7_comesTo 0 = .ok (.iconst (-1), 1) := by decide +kernel
theorem dX7_comesTo_1 : decode cX7_comesTo 1 = .ok (.istore 6, 2) := by decide +kernel
theorem dX7_comesTo_3 : decode cX7_comesTo 3 = .ok (.ldc 134, 2) := by decide +kernel
theorem dX7_comesTo_5 : decode cX7_comesTo 5 = .ok (.istore 7, 2) := by decide +kernel
theorem dX7_comesTo_7 : decode cX7_comesTo 7 = .ok (.iconst 0, 1) := by decide +kernel
theorem dX7_comesTo_8 : decode cX7_comesTo 8 = .ok (.istore 8, 2) := by decide +kernel
theorem dX7_comesTo_10 : decode cX7_comesTo 10 = .ok (.iconst 0, 1) := by decide +kernel
theorem dX7_comesTo_11 : decode cX7_comesTo 11 = .ok (.istore 9, 2) := by decide +kernel
theorem dX7_comesTo_13 : decode cX7_comesTo 13 = .ok (.iload 9, 2) := by decide +kernel
theorem dX7_comesTo_15 : decode cX7_comesTo 15 = .ok (.aload_n 1, 1) := by decide +kernel
theorem dX7_comesTo_16 : decode cX7_comesTo 16 = .ok (.iconst 0, 1) := by decide +kernel
theorem dX7_comesTo_17 : decode cX7_comesTo 17 = .ok (.iaload, 1) := by decide +kernel
theorem dX7_comesTo_18 : decode cX7_comesTo 18 = .ok (.if_icmp .ge 82, 3) := by decide +kernel
theorem dX7_comesTo_21 : decode cX7_comesTo 21 = .ok (.iload 9, 2) := by decide +kernel
theorem dX7_comesTo_23 : decode cX7_comesTo 23 = .ok (.iload 5, 2) := by decide +kernel
theorem dX7_comesTo_25 : decode cX7_comesTo 25 = .ok (.if_icmp .ne 7, 3) := by decide +kernel
theorem dX7_comesTo_28 : decode cX7_comesTo 28 = .ok (.iconst (-1), 1) := by decide +kernel
theorem dX7_comesTo_29 : decode cX7_comesTo 29 = .ok (.goto 16, 3) := by decide +kernel
theorem dX7_comesTo_32 : decode cX7_comesTo 32 = .ok (.aload_n 0, 1) := by decide +kernel
theorem dX7_comesTo_33 : decode cX7_comesTo 33 = .ok (.aload_n 1, 1) := by decide +kernel
theorem dX7_comesTo_34 : decode cX7_comesTo 34 = .ok (.iload_n 2, 1) := by decide +kernel
theorem dX7_comesTo_35 : decode cX7_comesTo 35 = .ok (.iload_n 3, 1) := by decide +kernel
theorem dX7_comesTo_36 : decode cX7_comesTo 36 = .ok (.iload 4, 2) := by decide +kernel
theorem dX7_comesTo_38 : decode cX7_comesTo 38 = .ok (.iload 5, 2) := by decide +kernel
theorem dX7_comesTo_40 : decode cX7_comesTo 40 = .ok (.iload 9, 2) := by decide +kernel
theorem dX7_comesTo_42 : decode cX7_comesTo 42 = .ok (.invokevirtual 135, 3) := by decide +kernel
theorem dX7_comesTo_45 : decode cX7_comesTo 45 = .ok (.istore 10, 2) := by decide +kernel
theorem dX7_comesTo_47 : decode cX7_comesTo 47 = .ok (.iload 10, 2) := by decide +kernel
theorem dX7_comesTo_49 : decode cX7_comesTo 49 = .ok (.iconst (-1), 1) := by decide +kernel
theorem dX7_comesTo_50 : decode cX7_comesTo 50 = .ok (.if_icmp .eq 44, 3) := by decide +kernel
theorem dX7_comesTo_53 : decode cX7_comesTo 53 = .ok (.iload 10, 2) := by decide +kernel
theorem dX7_comesTo_55 : decode cX7_comesTo 55 = .ok (.iload 7, 2) := by decide +kernel
theorem dX7_comesTo_57 : decode cX7_comesTo 57 = .ok (.if_icmp .gt 37, 3) := by decide +kernel
theorem dX7_comesTo_60 : decode cX7_comesTo 60 = .ok (.iload 10, 2) := by decide +kernel
theorem dX7_comesTo_62 : decode cX7_comesTo 62 = .ok (.iload 7, 2) := by decide +kernel
theorem dX7_comesTo_64 : decode cX7_comesTo 64 = .ok (.if_icmp .ne 7, 3) := by decide +kernel
theorem dX7_comesTo_67 : decode cX7_comesTo 67 = .ok (.iconst 1, 1) := by decide +kernel
theorem dX7_comesTo_68 : decode cX7_comesTo 68 = .ok (.goto 4, 3) := by decide +kernel
theorem dX7_comesTo_71 : decode cX7_comesTo 71 = .ok (.iconst 0, 1) := by decide +kernel
theorem dX7_comesTo_72 : decode cX7_comesTo 72 = .ok (.istore 8, 2) := by decide +kernel
theorem dX7_comesTo_74 : decode cX7_comesTo 74 = .ok (.iload 10, 2) := by decide +kernel
theorem dX7_comesTo_76 : decode cX7_comesTo 76 = .ok (.iload 7, 2) := by decide +kernel
theorem dX7_comesTo_78 : decode cX7_comesTo 78 = .ok (.if_icmp .ge 8, 3) := by decide +kernel
theorem dX7_comesTo_81 : decode cX7_comesTo 81 = .ok (.iload 9, 2) := by decide +kernel
theorem dX7_comesTo_83 : decode cX7_comesTo 83 = .ok (.goto 5, 3) := by decide +kernel
theorem dX7_comesTo_86 : decode cX7_comesTo 86 = .ok (.iload 6, 2) := by decide +kernel
theorem dX7_comesTo_88 : decode cX7_comesTo 88 = .ok (.istore 6, 2) := by decide +kernel
theorem dX7_comesTo_90 : decode cX7_comesTo 90 = .ok (.iload 10, 2) := by decide +kernel
theorem dX7_comesTo_92 : decode cX7_comesTo 92 = .ok (.istore 7, 2) := by decide +kernel
theorem dX7_comesTo_94 : decode cX7_comesTo 94 = .ok (.iinc 9 1, 3) := by decide +kernel
theorem dX7_comesTo_97 : decode cX7_comesTo 97 = .ok (.goto (-84), 3) := by decide +kernel
theorem dX7_comesTo_100 : decode cX7_comesTo 100 = .ok (.iload 8, 2) := by decide +kernel
theorem dX7_comesTo_102 : decode cX7_comesTo 102 = .ok (.ifCond .eq 12, 3) := by decide +kernel
theorem dX7_comesTo_105 : decode cX7_comesTo 105 = .ok (.iload_n 2, 1) := by decide +kernel
theorem dX7_comesTo_106 : decode cX7_comesTo 106 = .ok (.iconst 4, 1) := by decide +kernel
theorem dX7_comesTo_107 : decode cX7_comesTo 107 = .ok (.if_icmp .eq 7, 3) := by decide +kernel
theorem dX7_comesTo_110 : decode cX7_comesTo 110 = .ok (.iconst (-1), 1) := by decide +kernel
theorem dX7_comesTo_111 : decode cX7_comesTo 111 = .ok (.goto 5, 3) := by decide +kernel
theorem dX7_comesTo_114 : decode cX7_comesTo 114 = .ok (.iload 6, 2) := by decide +kernel
theorem dX7_comesTo_116 : decode cX7_comesTo 116 = .ok (.ireturn, 1) := by decide +kernel
set_option maxRecDepth 20000 in
theorem ggX7_comesNow_X7_comesTo : GoodIn wsX7_comesNow wsX7_comesTo := goodIn_r _ [6, 7, 8, 9, 10, 5, 11, 12, 13, 14, 15, 16, 17, 18, 19, 20, 21, 22, 23, 24, 25, 26, 27, 28, 29, 30, 31, 32, 33, 34, 35, 36, 37, 38, 39, 40, 41, 42, 43, 44, 45, 46, 47, 48, 49, 50] (by decide +kernel) (by decide +kernel)
set_option maxRecDepth 20000 in
theorem gX7_comesNow_X7_comesTo : GoodIn wsX7_comesNow (wsV RX7 139 RX7 yX7_comesTo wsX7_comesTo) := goodIn_app (goodIn_of _ (by decide +kernel)) ggX7_comesNow_X7_comesTo
theorem dX7_comesNow_0 : decode cX7_comesNow 0 = .ok (.aload_n 0, 1) := by decide +kernel
theorem dX7_comesNow_1 : decode cX7_comesNow 1 = .ok (.aload_n 0, 1) := by decide +kernel
theorem dX7_comesNow_2 : decode cX7_comesNow 2 = .ok (.getfield 7, 3) := by decide +kernel
theorem dX7_comesNow_5 : decode cX7_comesNow 5 = .ok (.aload_n 0, 1) := by decide +kernel
theorem dX7_comesNow_6 : decode cX7_comesNow 6 = .ok (.getfield 7, 3) := by decide +kernel
theorem dX7_comesNow_9 : decode cX7_comesNow 9 = .ok (.bipush 65, 2) := by decide +kernel
theorem dX7_comesNow_11 : decode cX7_comesNow 11 = .ok (.iload_n 1, 1) := by decide +kernel
theorem dX7_comesNow_12 : decode cX7_comesNow 12 = .ok (.iadd, 1) := by decide +kernel
theorem dX7_comesNow_13 : decode cX7_comesNow 13 = .ok (.iaload, 1) := by decide +kernel
theorem dX7_comesNow_14 : decode cX7_comesNow 14 = .ok (.aload_n 0, 1) := by decide +kernel
theorem dX7_comesNow_15 : decode cX7_comesNow 15 = .ok (.getfield 7, 3) := by decide +kernel
theorem dX7_comesNow_18 : decode cX7_comesNow 18 = .ok (.bipush 70, 2) := by decide +kernel
theorem dX7_comesNow_20 : decode cX7_comesNow 20 = .ok (.iload_n 1, 1) := by decide +kernel
theorem dX7_comesNow_21 : decode cX7_comesNow 21 = .ok (.iadd, 1) := by decide +kernel
theorem dX7_comesNow_22 : decode cX7_comesNow 22 = .ok (.iaload, 1) := by decide +kernel
theorem dX7_comesNow_23 : decode cX7_comesNow 23 = .ok (.aload_n 0, 1) := by decide +kernel
theorem dX7_comesNow_24 : decode cX7_comesNow 24 = .ok (.getfield 7, 3) := by decide +kernel
theorem dX7_comesNow_27 : decode cX7_comesNow 27 = .ok (.bipush 22, 2) := by decide +kernel
theorem dX7_comesNow_29 : decode cX7_comesNow 29 = .ok (.iaload, 1) := by decide +kernel
theorem dX7_comesNow_30 : decode cX7_comesNow 30 = .ok (.iload_n 2, 1) := by decide +kernel
theorem dX7_comesNow_31 : decode cX7_comesNow 31 = .ok (.invokevirtual 139, 3) := by decide +kernel
theorem dX7_comesNow_34 : decode cX7_comesNow 34 = .ok (.ireturn, 1) := by decide +kernel
theorem dX7_keep_0 : decode cX7_keep 0 = .ok (.aload_n 0, 1) := by decide +kernel
theorem dX7_keep_1 : decode cX7_keep 1 = .ok (.getfield 7, 3) := by decide +kernel
theorem dX7_keep_4 : decode cX7_keep 4 = .ok (.iconst 4, 1) := by decide +kernel
theorem dX7_keep_5 : decode cX7_keep 5 = .ok (.iaload, 1) := by decide +kernel
theorem dX7_keep_6 : decode cX7_keep 6 = .ok (.bipush 8, 2) := by decide +kernel
theorem dX7_keep_8 : decode cX7_keep 8 = .ok (.if_icmp .ne 45, 3) := by decide +kernel
theorem dX7_keep_11 : decode cX7_keep 11 = .ok (.iconst 0, 1) := by decide +kernel
theorem dX7_keep_12 : decode cX7_keep 12 = .ok (.istore_n 1, 1) := by decide +kernel
theorem dX7_keep_13 : decode cX7_keep 13 = .ok (.iload_n 1, 1) := by decide +kernel
theorem dX7_keep_14 : decode cX7_keep 14 = .ok (.bipush 126, 2) := by decide +kernel
theorem dX7_keep_16 : decode cX7_keep 16 = .ok (.if_icmp .ge 29, 3) := by decide +kernel
theorem dX7_keep_19 : decode cX7_keep 19 = .ok (.aload_n 0, 1) := by decide +kernel
theorem dX7_keep_20 : decode cX7_keep 20 = .ok (.getfield 7, 3) := by decide +kernel
theorem dX7_keep_23 : decode cX7_keep 23 = .ok (.sipush 140, 3) := by decide +kernel
theorem dX7_keep_26 : decode cX7_keep 26 = .ok (.iload_n 1, 1) := by decide +kernel
theorem dX7_keep_27 : decode cX7_keep 27 = .ok (.iadd, 1) := by decide +kernel
theorem dX7_keep_28 : decode cX7_keep 28 = .ok (.aload_n 0, 1) := by decide +kernel
theorem dX7_keep_29 : decode cX7_keep 29 = .ok (.getfield 7, 3) := by decide +kernel
theorem dX7_keep_32 : decode cX7_keep 32 = .ok (.sipush 158, 3) := by decide +kernel
theorem dX7_keep_35 : decode cX7_keep 35 = .ok (.iload_n 1, 1) := by decide +kernel
theorem dX7_keep_36 : decode cX7_keep 36 = .ok (.iadd, 1) := by decide +kernel
theorem dX7_keep_37 : decode cX7_keep 37 = .ok (.iaload, 1) := by decide +kernel
theorem dX7_keep_38 : decode cX7_keep 38 = .ok (.iastore, 1) := by decide +kernel
theorem dX7_keep_39 : decode cX7_keep 39 = .ok (.iinc 1 1, 3) := by decide +kernel
theorem dX7_keep_42 : decode cX7_keep 42 = .ok (.goto (-29), 3) := by decide +kernel
theorem dX7_keep_45 : decode cX7_keep 45 = .ok (.aload_n 0, 1) := by decide +kernel
theorem dX7_keep_46 : decode cX7_keep 46 = .ok (.getfield 7, 3) := by decide +kernel
theorem dX7_keep_49 : decode cX7_keep 49 = .ok (.iconst 4, 1) := by decide +kernel
theorem dX7_keep_50 : decode cX7_keep 50 = .ok (.bipush 7, 2) := by decide +kernel
theorem dX7_keep_52 : decode cX7_keep 52 = .ok (.iastore, 1) := by decide +kernel
theorem dX7_keep_53 : decode cX7_keep 53 = .ok (.iconst 0, 1) := by decide +kernel
theorem dX7_keep_54 : decode cX7_keep 54 = .ok (.istore_n 1, 1) := by decide +kernel
theorem dX7_keep_55 : decode cX7_keep 55 = .ok (.iload_n 1, 1) := by decide +kernel
theorem dX7_keep_56 : decode cX7_keep 56 = .ok (.bipush 18, 2) := by decide +kernel
theorem dX7_keep_58 : decode cX7_keep 58 = .ok (.if_icmp .ge 37, 3) := by decide +kernel
theorem dX7_keep_61 : decode cX7_keep 61 = .ok (.aload_n 0, 1) := by decide +kernel
theorem dX7_keep_62 : decode cX7_keep 62 = .ok (.getfield 7, 3) := by decide +kernel
theorem dX7_keep_65 : decode cX7_keep 65 = .ok (.sipush 140, 3) := by decide +kernel
theorem dX7_keep_68 : decode cX7_keep 68 = .ok (.bipush 18, 2) := by decide +kernel
theorem dX7_keep_70 : decode cX7_keep 70 = .ok (.aload_n 0, 1) := by decide +kernel
theorem dX7_keep_71 : decode cX7_keep 71 = .ok (.getfield 7, 3) := by decide +kernel
theorem dX7_keep_74 : decode cX7_keep 74 = .ok (.iconst 4, 1) := by decide +kernel
theorem dX7_keep_75 : decode cX7_keep 75 = .ok (.iaload, 1) := by decide +kernel
theorem dX7_keep_76 : decode cX7_keep 76 = .ok (.imul, 1) := by decide +kernel
theorem dX7_keep_77 : decode cX7_keep 77 = .ok (.iadd, 1) := by decide +kernel
theorem dX7_keep_78 : decode cX7_keep 78 = .ok (.iload_n 1, 1) := by decide +kernel
theorem dX7_keep_79 : decode cX7_keep 79 = .ok (.iadd, 1) := by decide +kernel
theorem dX7_keep_80 : decode cX7_keep 80 = .ok (.aload_n 0, 1) := by decide +kernel
theorem dX7_keep_81 : decode cX7_keep 81 = .ok (.getfield 7, 3) := by decide +kernel
theorem dX7_keep_84 : decode cX7_keep 84 = .ok (.iconst 5, 1) := by decide +kernel
theorem dX7_keep_85 : decode cX7_keep 85 = .ok (.iload_n 1, 1) := by decide +kernel
theorem dX7_keep_86 : decode cX7_keep 86 = .ok (.iadd, 1) := by decide +kernel
theorem dX7_keep_87 : decode cX7_keep 87 = .ok (.iaload, 1) := by decide +kernel
theorem dX7_keep_88 : decode cX7_keep 88 = .ok (.iastore, 1) := by decide +kernel
theorem dX7_keep_89 : decode cX7_keep 89 = .ok (.iinc 1 1, 3) := by decide +kernel
theorem dX7_keep_92 : decode cX7_keep 92 = .ok (.goto (-37), 3) := by decide +kernel
theorem dX7_keep_95 : decode cX7_keep 95 = .ok (.aload_n 0, 1) := by decide +kernel
theorem dX7_keep_96 : decode cX7_keep 96 = .ok (.getfield 7, 3) := by decide +kernel
theorem dX7_keep_99 : decode cX7_keep 99 = .ok (.iconst 4, 1) := by decide +kernel
theorem dX7_keep_100 : decode cX7_keep 100 = .ok (.dup2, 1) := by decide +kernel
theorem dX7_keep_101 : decode cX7_keep 101 = .ok (.iaload, 1) := by decide +kernel
theorem dX7_keep_102 : decode cX7_keep 102 = .ok (.iconst 1, 1) := by decide +kernel
theorem dX7_keep_103 : decode cX7_keep 103 = .ok (.iadd, 1) := by decide +kernel
theorem dX7_keep_104 : decode cX7_keep 104 = .ok (.iastore, 1) := by decide +kernel
theorem dX7_keep_105 : decode cX7_keep 105 = .ok (.return_, 1) := by decide +kernel
set_option maxRecDepth 20000 in
theorem ggX7_lose_X7_isThing : GoodIn wsX7_lose wsX7_isThing := goodIn_r _ [6, 7, 8, 9, 5, 10, 1, 11, 12, 13, 27, 28, 29, 30, 31, 32, 33, 34, 35, 36, 37, 38, 39, 40, 41, 42, 43, 44, 45, 46, 47, 48, 49, 50, 51] (by decide +kernel) (by decide +kernel)
set_option maxRecDepth 20000 in
theorem gX7_lose_X7_isThing : GoodIn wsX7_lose (wsV RX7 143 RX7 yX7_isThing wsX7_isThing) := goodIn_app (goodIn_of _ (by decide +kernel)) ggX7_lose_X7_isThing
set_option maxRecDepth 20000 in
theorem ggX7_lose_X7_bad : GoodIn wsX7_lose wsX7_bad := goodIn_r _ [17, 18, 27, 28, 29, 30, 31, 32, 33, 34, 35, 36, 37, 38, 39, 40, 41, 42, 43, 44, 45, 46, 47, 48, 49, 50, 51] (by decide +kernel) (by decide +kernel)
set_option maxRecDepth 20000 in
theorem gX7_lose_X7_bad : GoodIn wsX7_lose (wsV RX7 97 RX7 yX7_bad wsX7_bad) := goodIn_app (goodIn_of _ (by decide +kernel)) ggX7_lose_X7_bad
set_option maxRecDepth 20000 in
theorem ggX7_lose_X7_no : GoodIn wsX7_lose wsX7_no := goodIn_r _ [22, 18, 27, 28, 29, 30, 31, 32, 33, 34, 35, 36, 37, 38, 39, 40, 41, 42, 43, 44, 45, 46, 47, 48, 49, 50, 51] (by decide +kernel) (by decide +kernel)
set_option maxRecDepth 20000 in
theorem gX7_lose_X7_no : GoodIn wsX7_lose (wsV RX7 146 RX7 yX7_no wsX7_no) := goodIn_app (goodIn_of _ (by decide +kernel)) ggX7_lose_X7_no
set_option maxRecDepth 20000 in
theorem ggX7_lose_X7_keep : GoodIn wsX7_lose wsX7_keep := goodIn_r _ [26, 1, 27, 28, 29, 30, 31, 32, 33, 34, 35, 36, 37, 38, 39, 40, 41, 42, 43, 44, 45, 46, 47, 48, 49, 50, 51] (by decide +kernel) (by decide +kernel)
set_option maxRecDepth 20000 in
theorem gX7_lose_X7_keep : GoodIn wsX7_lose (wsV RX7 149 RX7 yX7_keep wsX7_keep) := goodIn_app (goodIn_of _ (by decide +kernel)) ggX7_lose_X7_keep
theorem dX7_lose_0 : decode cX7_lose 0 = .ok (.aload_n 0, 1) := by decide +kernel
theorem dX7_lose_1 : decode cX7_lose 1 = .ok (.iload_n 1, 1) := by decide +kernel
theorem dX7_lose_2 : decode cX7_lose 2 = .ok (.invokevirtual 143, 3) := by decide +kernel
theorem dX7_lose_5 : decode cX7_lose 5 = .ok (.ifCond .ne 10, 3) := by decide +kernel
theorem dX7_lose_8 : decode cX7_lose 8 = .ok (.aload_n 0, 1) := by decide +kernel
theorem dX7_lose_9 : decode cX7_lose 9 = .ok (.bipush (-2), 2) := by decide +kernel
theorem dX7_lose_11 : decode cX7_lose 11 = .ok (.invokevirtual 97, 3) := by decide +kernel
theorem dX7_lose_14 : decode cX7_lose 14 = .ok (.ireturn, 1) := by decide +kernel
theorem dX7_lose_15 : decode cX7_lose 15 = .ok (.aload_n 0, 1) := by decide +kernel
theorem dX7_lose_16 : decode cX7_lose 16 = .ok (.getfield 7, 3) := by decide +kernel
theorem dX7_lose_19 : decode cX7_lose 19 = .ok (.bipush 10, 2) := by decide +kernel
theorem dX7_lose_21 : decode cX7_lose 21 = .ok (.iload_n 1, 1) := by decide +kernel
theorem dX7_lose_22 : decode cX7_lose 22 = .ok (.iadd, 1) := by decide +kernel
theorem dX7_lose_23 : decode cX7_lose 23 = .ok (.iaload, 1) := by decide +kernel
theorem dX7_lose_24 : decode cX7_lose 24 = .ok (.ifCond .eq 8, 3) := by decide +kernel
theorem dX7_lose_27 : decode cX7_lose 27 = .ok (.aload_n 0, 1) := by decide +kernel
theorem dX7_lose_28 : decode cX7_lose 28 = .ok (.invokevirtual 146, 3) := by decide +kernel
theorem dX7_lose_31 : decode cX7_lose 31 = .ok (.ireturn, 1) := by decide +kernel
theorem dX7_lose_32 : decode cX7_lose 32 = .ok (.aload_n 0, 1) := by decide +kernel
theorem dX7_lose_33 : decode cX7_lose 33 = .ok (.invokevirtual 149, 3) := by decide +kernel
theorem dX7_lose_36 : decode cX7_lose 36 = .ok (.aload_n 0, 1) := by decide +kernel
theorem dX7_lose_37 : decode cX7_lose 37 = .ok (.getfield 7, 3) := by decide +kernel
theorem dX7_lose_40 : decode cX7_lose 40 = .ok (.bipush 10, 2) := by decide +kernel
theorem dX7_lose_42 : decode cX7_lose 42 = .ok (.iload_n 1, 1) := by decide +kernel
theorem dX7_lose_43 : decode cX7_lose 43 = .ok (.iadd, 1) := by decide +kernel
theorem dX7_lose_44 : decode cX7_lose 44 = .ok (.iconst 1, 1) := by decide +kernel
theorem dX7_lose_45 : decode cX7_lose 45 = .ok (.iastore, 1) := by decide +kernel
theorem dX7_lose_46 : decode cX7_lose 46 = .ok (.aload_n 0, 1) := by decide +kernel
theorem dX7_lose_47 : decode cX7_lose 47 = .ok (.getfield 7, 3) := by decide +kernel
theorem dX7_lose_50 : decode cX7_lose 50 = .ok (.iconst 5, 1) := by decide +kernel
theorem dX7_lose_51 : decode cX7_lose 51 = .ok (.iload_n 1, 1) := by decide +kernel
theorem dX7_lose_52 : decode cX7_lose 52 = .ok (.iadd, 1) := by decide +kernel
theorem dX7_lose_53 : decode cX7_lose 53 = .ok (.iaload, 1) := by decide +kernel
theorem dX7_lose_54 : decode cX7_lose 54 = .ok (.ireturn, 1) := by decide +kernel
set_option maxRecDepth 20000 in
theorem ggX7_asked_X7_showsOn : GoodIn wsX7_asked wsX7_showsOn := goodIn_r _ [6, 7, 8, 9, 5, 10, 14, 15, 16, 17, 18, 19, 20, 21, 22, 23, 24, 25, 26, 27, 28, 29, 30, 31, 32, 33, 34, 35, 36, 37, 38] (by decide +kernel) (by decide +kernel)
set_option maxRecDepth 20000 in
theorem gX7_asked_X7_showsOn : GoodIn wsX7_asked (wsV RX7 126 RX7 yX7_showsOn wsX7_showsOn) := goodIn_app (goodIn_of _ (by decide +kernel)) ggX7_asked_X7_showsOn
set_option maxRecDepth 20000 in
theorem ggX7_asked_X7_asksAs : GoodIn wsX7_asked wsX7_asksAs := goodIn_r _ [13] (by decide +kernel) (by decide +kernel)
set_option maxRecDepth 20000 in
theorem gX7_asked_X7_asksAs : GoodIn wsX7_asked (va_wsS RX7 152 yX7_asksAs wsX7_asksAs) := goodIn_app (goodIn_of _ (by decide +kernel)) ggX7_asked_X7_asksAs
theorem dX7_asked_0 : decode cX7_asked 0 = .ok (.aload_n 0, 1) := by decide +kernel
theorem dX7_asked_1 : decode cX7_asked 1 = .ok (.getfield 7, 3) := by decide +kernel
theorem dX7_asked_4 : decode cX7_asked 4 = .ok (.iconst 5, 1) := by decide +kernel
theorem dX7_asked_5 : decode cX7_asked 5 = .ok (.iload_n 1, 1) := by decide +kernel
theorem dX7_asked_6 : decode cX7_asked 6 = .ok (.iadd, 1) := by decide +kernel
theorem dX7_asked_7 : decode cX7_asked 7 = .ok (.iaload, 1) := by decide +kernel
theorem dX7_asked_8 : decode cX7_asked 8 = .ok (.istore_n 2, 1) := by decide +kernel
theorem dX7_asked_9 : decode cX7_asked 9 = .ok (.aload_n 0, 1) := by decide +kernel
theorem dX7_asked_10 : decode cX7_asked 10 = .ok (.getfield 7, 3) := by decide +kernel
theorem dX7_asked_13 : decode cX7_asked 13 = .ok (.bipush 23, 2) := by decide +kernel
theorem dX7_asked_15 : decode cX7_asked 15 = .ok (.iload_n 2, 1) := by decide +kernel
theorem dX7_asked_16 : decode cX7_asked 16 = .ok (.iadd, 1) := by decide +kernel
theorem dX7_asked_17 : decode cX7_asked 17 = .ok (.iaload, 1) := by decide +kernel
theorem dX7_asked_18 : decode cX7_asked 18 = .ok (.aload_n 0, 1) := by decide +kernel
theorem dX7_asked_19 : decode cX7_asked 19 = .ok (.aload_n 0, 1) := by decide +kernel
theorem dX7_asked_20 : decode cX7_asked 20 = .ok (.getfield 7, 3) := by decide +kernel
theorem dX7_asked_23 : decode cX7_asked 23 = .ok (.iload_n 2, 1) := by decide +kernel
theorem dX7_asked_24 : decode cX7_asked 24 = .ok (.aload_n 0, 1) := by decide +kernel
theorem dX7_asked_25 : decode cX7_asked 25 = .ok (.getfield 7, 3) := by decide +kernel
theorem dX7_asked_28 : decode cX7_asked 28 = .ok (.bipush 70, 2) := by decide +kernel
theorem dX7_asked_30 : decode cX7_asked 30 = .ok (.iload_n 1, 1) := by decide +kernel
theorem dX7_asked_31 : decode cX7_asked 31 = .ok (.iadd, 1) := by decide +kernel
theorem dX7_asked_32 : decode cX7_asked 32 = .ok (.iaload, 1) := by decide +kernel
theorem dX7_asked_33 : decode cX7_asked 33 = .ok (.aload_n 0, 1) := by decide +kernel
theorem dX7_asked_34 : decode cX7_asked 34 = .ok (.getfield 7, 3) := by decide +kernel
theorem dX7_asked_37 : decode cX7_asked 37 = .ok (.bipush 22, 2) := by decide +kernel
theorem dX7_asked_39 : decode cX7_asked 39 = .ok (.iaload, 1) := by decide +kernel
theorem dX7_asked_40 : decode cX7_asked 40 = .ok (.invokevirtual 126, 3) := by decide +kernel
theorem dX7_asked_43 : decode cX7_asked 43 = .ok (.invokestatic 152, 3) := by decide +kernel
theorem dX7_asked_46 : decode cX7_asked 46 = .ok (.ireturn, 1) := by decide +kernel
set_option maxRecDepth 20000 in
theorem ggX7_back_X7_isThing : GoodIn wsX7_back wsX7_isThing := goodIn_r _ [6, 7, 8, 9, 5, 10, 1, 11, 12, 13, 46, 47, 48, 49, 50, 51, 52, 53, 54, 55, 56, 57, 58, 59, 60, 61, 62, 63, 64, 65, 66, 67, 68, 69, 70] (by decide +kernel) (by decide +kernel)
set_option maxRecDepth 20000 in
theorem gX7_back_X7_isThing : GoodIn wsX7_back (wsV RX7 143 RX7 yX7_isThing wsX7_isThing) := goodIn_app (goodIn_of _ (by decide +kernel)) ggX7_back_X7_isThing
set_option maxRecDepth 20000 in
theorem ggX7_back_X7_bad : GoodIn wsX7_back wsX7_bad := goodIn_r _ [17, 18, 46, 47, 48, 49, 50, 51, 52, 53, 54, 55, 56, 57, 58, 59, 60, 61, 62, 63, 64, 65, 66, 67, 68, 69, 70] (by decide +kernel) (by decide +kernel)
set_option maxRecDepth 20000 in
theorem gX7_back_X7_bad : GoodIn wsX7_back (wsV RX7 97 RX7 yX7_bad wsX7_bad) := goodIn_app (goodIn_of _ (by decide +kernel)) ggX7_back_X7_bad
set_option maxRecDepth 20000 in
theorem ggX7_back_X7_no : GoodIn wsX7_back wsX7_no := goodIn_r _ [22, 18, 46, 47, 48, 49, 50, 51, 52, 53, 54, 55, 56, 57, 58, 59, 60, 61, 62, 63, 64, 65, 66, 67, 68, 69, 70] (by decide +kernel) (by decide +kernel)
set_option maxRecDepth 20000 in
theorem gX7_back_X7_no : GoodIn wsX7_back (wsV RX7 146 RX7 yX7_no wsX7_no) := goodIn_app (goodIn_of _ (by decide +kernel)) ggX7_back_X7_no
set_option maxRecDepth 20000 in
theorem ggX7_back_X7_layCoats : GoodIn wsX7_back wsX7_layCoats := goodIn_r _ [26, 27, 46, 47, 48, 49, 50, 51, 52, 53, 54, 55, 56, 57, 58, 59, 60, 61, 62, 63, 64, 65, 66, 67, 68, 69, 70] (by decide +kernel) (by decide +kernel)
set_option maxRecDepth 20000 in
theorem gX7_back_X7_layCoats : GoodIn wsX7_back (wsV RX7 155 RX7 yX7_layCoats wsX7_layCoats) := goodIn_app (goodIn_of _ (by decide +kernel)) ggX7_back_X7_layCoats
set_option maxRecDepth 20000 in
theorem ggX7_back_X7_asked : GoodIn wsX7_back wsX7_asked := goodIn_r _ [31, 1, 32, 33, 34, 5, 35, 27, 36, 37, 38, 39, 40, 41, 46, 47, 48, 49, 50, 51, 52, 53, 54, 55, 56, 57, 58, 59, 60, 61, 62, 63, 64, 65, 66, 67, 68, 69, 70] (by decide +kernel) (by decide +kernel)
set_option maxRecDepth 20000 in
theorem gX7_back_X7_asked : GoodIn wsX7_back (wsV RX7 158 RX7 yX7_asked wsX7_asked) := goodIn_app (goodIn_of _ (by decide +kernel)) ggX7_back_X7_asked
set_option maxRecDepth 20000 in
theorem ggX7_back_X7_keep : GoodIn wsX7_back wsX7_keep := goodIn_r _ [45, 1, 46, 47, 48, 49, 50, 51, 52, 53, 54, 55, 56, 57, 58, 59, 60, 61, 62, 63, 64, 65, 66, 67, 68, 69, 70] (by decide +kernel) (by decide +kernel)
set_option maxRecDepth 20000 in
theorem gX7_back_X7_keep : GoodIn wsX7_back (wsV RX7 149 RX7 yX7_keep wsX7_keep) := goodIn_app (goodIn_of _ (by decide +kernel)) ggX7_back_X7_keep
theorem dX7_back_0 : decode cX7_back 0 = .ok (.aload_n 0, 1) := by decide +kernel
theorem dX7_back_1 : decode cX7_back 1 = .ok (.iload_n 1, 1) := by decide +kernel
theorem dX7_back_2 : decode cX7_back 2 = .ok (.invokevirtual 143, 3) := by decide +kernel
theorem dX7_back_5 : decode cX7_back 5 = .ok (.ifCond .ne 10, 3) := by decide +kernel
theorem dX7_back_8 : decode cX7_back 8 = .ok (.aload_n 0, 1) := by decide +kernel
theorem dX7_back_9 : decode cX7_back 9 = .ok (.bipush (-2), 2) := by decide +kernel
theorem dX7_back_11 : decode cX7_back 11 = .ok (.invokevirtual 97, 3) := by decide +kernel
theorem dX7_back_14 : decode cX7_back 14 = .ok (.ireturn, 1) := by decide +kernel
theorem dX7_back_15 : decode cX7_back 15 = .ok (.aload_n 0, 1) := by decide +kernel
theorem dX7_back_16 : decode cX7_back 16 = .ok (.getfield 7, 3) := by decide +kernel
theorem dX7_back_19 : decode cX7_back 19 = .ok (.bipush 10, 2) := by decide +kernel
theorem dX7_back_21 : decode cX7_back 21 = .ok (.iload_n 1, 1) := by decide +kernel
theorem dX7_back_22 : decode cX7_back 22 = .ok (.iadd, 1) := by decide +kernel
theorem dX7_back_23 : decode cX7_back 23 = .ok (.iaload, 1) := by decide +kernel
theorem dX7_back_24 : decode cX7_back 24 = .ok (.ifCond .ne 23, 3) := by decide +kernel
theorem dX7_back_27 : decode cX7_back 27 = .ok (.aload_n 0, 1) := by decide +kernel
theorem dX7_back_28 : decode cX7_back 28 = .ok (.getfield 7, 3) := by decide +kernel
theorem dX7_back_31 : decode cX7_back 31 = .ok (.iconst 5, 1) := by decide +kernel
theorem dX7_back_32 : decode cX7_back 32 = .ok (.iload_n 1, 1) := by decide +kernel
theorem dX7_back_33 : decode cX7_back 33 = .ok (.iadd, 1) := by decide +kernel
theorem dX7_back_34 : decode cX7_back 34 = .ok (.iaload, 1) := by decide +kernel
theorem dX7_back_35 : decode cX7_back 35 = .ok (.aload_n 0, 1) := by decide +kernel
theorem dX7_back_36 : decode cX7_back 36 = .ok (.getfield 7, 3) := by decide +kernel
theorem dX7_back_39 : decode cX7_back 39 = .ok (.bipush 75, 2) := by decide +kernel
theorem dX7_back_41 : decode cX7_back 41 = .ok (.iload_n 1, 1) := by decide +kernel
theorem dX7_back_42 : decode cX7_back 42 = .ok (.iadd, 1) := by decide +kernel
theorem dX7_back_43 : decode cX7_back 43 = .ok (.iaload, 1) := by decide +kernel
theorem dX7_back_44 : decode cX7_back 44 = .ok (.if_icmp .ne 8, 3) := by decide +kernel
theorem dX7_back_47 : decode cX7_back 47 = .ok (.aload_n 0, 1) := by decide +kernel
theorem dX7_back_48 : decode cX7_back 48 = .ok (.invokevirtual 146, 3) := by decide +kernel
theorem dX7_back_51 : decode cX7_back 51 = .ok (.ireturn, 1) := by decide +kernel
theorem dX7_back_52 : decode cX7_back 52 = .ok (.aload_n 0, 1) := by decide +kernel
theorem dX7_back_53 : decode cX7_back 53 = .ok (.aload_n 0, 1) := by decide +kernel
theorem dX7_back_54 : decode cX7_back 54 = .ok (.getfield 7, 3) := by decide +kernel
theorem dX7_back_57 : decode cX7_back 57 = .ok (.invokevirtual 155, 3) := by decide +kernel
theorem dX7_back_60 : decode cX7_back 60 = .ok (.aload_n 0, 1) := by decide +kernel
theorem dX7_back_61 : decode cX7_back 61 = .ok (.iload_n 1, 1) := by decide +kernel
theorem dX7_back_62 : decode cX7_back 62 = .ok (.invokevirtual 158, 3) := by decide +kernel
theorem dX7_back_65 : decode cX7_back 65 = .ok (.istore_n 2, 1) := by decide +kernel
theorem dX7_back_66 : decode cX7_back 66 = .ok (.aload_n 0, 1) := by decide +kernel
theorem dX7_back_67 : decode cX7_back 67 = .ok (.invokevirtual 149, 3) := by decide +kernel
theorem dX7_back_70 : decode cX7_back 70 = .ok (.aload_n 0, 1) := by decide +kernel
theorem dX7_back_71 : decode cX7_back 71 = .ok (.getfield 7, 3) := by decide +kernel
theorem dX7_back_74 : decode cX7_back 74 = .ok (.iconst 5, 1) := by decide +kernel
theorem dX7_back_75 : decode cX7_back 75 = .ok (.iload_n 1, 1) := by decide +kernel
theorem dX7_back_76 : decode cX7_back 76 = .ok (.iadd, 1) := by decide +kernel
theorem dX7_back_77 : decode cX7_back 77 = .ok (.aload_n 0, 1) := by decide +kernel
theorem dX7_back_78 : decode cX7_back 78 = .ok (.getfield 7, 3) := by decide +kernel
theorem dX7_back_81 : decode cX7_back 81 = .ok (.bipush 75, 2) := by decide +kernel
theorem dX7_back_83 : decode cX7_back 83 = .ok (.iload_n 1, 1) := by decide +kernel
theorem dX7_back_84 : decode cX7_back 84 = .ok (.iadd, 1) := by decide +kernel
theorem dX7_back_85 : decode cX7_back 85 = .ok (.iaload, 1) := by decide +kernel
theorem dX7_back_86 : decode cX7_back 86 = .ok (.iastore, 1) := by decide +kernel
theorem dX7_back_87 : decode cX7_back 87 = .ok (.iload_n 2, 1) := by decide +kernel
theorem dX7_back_88 : decode cX7_back 88 = .ok (.ireturn, 1) := by decide +kernel
set_option maxRecDepth 20000 in
theorem ggX7_coat_X7_isOne : GoodIn wsX7_coat wsX7_isOne := goodIn_r _ [6, 7, 8, 9, 5, 10, 1, 11, 12, 13, 27, 28, 29, 30, 31, 32, 33, 34, 35, 36, 37, 38, 39, 40, 41, 42, 43, 44, 45, 46, 47, 48, 49, 50, 51] (by decide +kernel) (by decide +kernel)
set_option maxRecDepth 20000 in
theorem gX7_coat_X7_isOne : GoodIn wsX7_coat (wsV RX7 111 RX7 yX7_isOne wsX7_isOne) := goodIn_app (goodIn_of _ (by decide +kernel)) ggX7_coat_X7_isOne
set_option maxRecDepth 20000 in
theorem ggX7_coat_X7_isNeed : GoodIn wsX7_coat wsX7_isNeed := goodIn_r _ [16, 17, 11, 12, 5, 13] (by decide +kernel) (by decide +kernel)
set_option maxRecDepth 20000 in
theorem gX7_coat_X7_isNeed : GoodIn wsX7_coat (va_wsS RX7 93 yX7_isNeed wsX7_isNeed) := goodIn_app (goodIn_of _ (by decide +kernel)) ggX7_coat_X7_isNeed
set_option maxRecDepth 20000 in
theorem ggX7_coat_X7_bad : GoodIn wsX7_coat wsX7_bad := goodIn_r _ [21, 22, 27, 28, 29, 30, 31, 32, 33, 34, 35, 36, 37, 38, 39, 40, 41, 42, 43, 44, 45, 46, 47, 48, 49, 50, 51] (by decide +kernel) (by decide +kernel)
set_option maxRecDepth 20000 in
theorem gX7_coat_X7_bad : GoodIn wsX7_coat (wsV RX7 97 RX7 yX7_bad wsX7_bad) := goodIn_app (goodIn_of _ (by decide +kernel)) ggX7_coat_X7_bad
set_option maxRecDepth 20000 in
theorem ggX7_coat_X7_keep : GoodIn wsX7_coat wsX7_keep := goodIn_r _ [26, 1, 27, 28, 29, 30, 31, 32, 33, 34, 35, 36, 37, 38, 39, 40, 41, 42, 43, 44, 45, 46, 47, 48, 49, 50, 51] (by decide +kernel) (by decide +kernel)
set_option maxRecDepth 20000 in
theorem gX7_coat_X7_keep : GoodIn wsX7_coat (wsV RX7 149 RX7 yX7_keep wsX7_keep) := goodIn_app (goodIn_of _ (by decide +kernel)) ggX7_coat_X7_keep
theorem dX7_coat_0 : decode cX7_coat 0 = .ok (.aload_n 0, 1) := by decide +kernel
theorem dX7_coat_1 : decode cX7_coat 1 = .ok (.iload_n 1, 1) := by decide +kernel
theorem dX7_coat_2 : decode cX7_coat 2 = .ok (.invokevirtual 111, 3) := by decide +kernel
theorem dX7_coat_5 : decode cX7_coat 5 = .ok (.ifCond .eq 10, 3) := by decide +kernel
theorem dX7_coat_8 : decode cX7_coat 8 = .ok (.iload_n 2, 1) := by decide +kernel
theorem dX7_coat_9 : decode cX7_coat 9 = .ok (.invokestatic 93, 3) := by decide +kernel
theorem dX7_coat_12 : decode cX7_coat 12 = .ok (.ifCond .ne 10, 3) := by decide +kernel
theorem dX7_coat_15 : decode cX7_coat 15 = .ok (.aload_n 0, 1) := by decide +kernel
theorem dX7_coat_16 : decode cX7_coat 16 = .ok (.bipush (-2), 2) := by decide +kernel
theorem dX7_coat_18 : decode cX7_coat 18 = .ok (.invokevirtual 97, 3) := by decide +kernel
theorem dX7_coat_21 : decode cX7_coat 21 = .ok (.ireturn, 1) := by decide +kernel
theorem dX7_coat_22 : decode cX7_coat 22 = .ok (.aload_n 0, 1) := by decide +kernel
theorem dX7_coat_23 : decode cX7_coat 23 = .ok (.getfield 7, 3) := by decide +kernel
theorem dX7_coat_26 : decode cX7_coat 26 = .ok (.bipush 15, 2) := by decide +kernel
theorem dX7_coat_28 : decode cX7_coat 28 = .ok (.iload_n 1, 1) := by decide +kernel
theorem dX7_coat_29 : decode cX7_coat 29 = .ok (.iadd, 1) := by decide +kernel
theorem dX7_coat_30 : decode cX7_coat 30 = .ok (.iaload, 1) := by decide +kernel
theorem dX7_coat_31 : decode cX7_coat 31 = .ok (.istore_n 3, 1) := by decide +kernel
theorem dX7_coat_32 : decode cX7_coat 32 = .ok (.aload_n 0, 1) := by decide +kernel
theorem dX7_coat_33 : decode cX7_coat 33 = .ok (.invokevirtual 149, 3) := by decide +kernel
theorem dX7_coat_36 : decode cX7_coat 36 = .ok (.aload_n 0, 1) := by decide +kernel
theorem dX7_coat_37 : decode cX7_coat 37 = .ok (.getfield 7, 3) := by decide +kernel
theorem dX7_coat_40 : decode cX7_coat 40 = .ok (.bipush 15, 2) := by decide +kernel
theorem dX7_coat_42 : decode cX7_coat 42 = .ok (.iload_n 1, 1) := by decide +kernel
theorem dX7_coat_43 : decode cX7_coat 43 = .ok (.iadd, 1) := by decide +kernel
theorem dX7_coat_44 : decode cX7_coat 44 = .ok (.iload_n 2, 1) := by decide +kernel
theorem dX7_coat_45 : decode cX7_coat 45 = .ok (.iastore, 1) := by decide +kernel
theorem dX7_coat_46 : decode cX7_coat 46 = .ok (.iload_n 3, 1) := by decide +kernel
theorem dX7_coat_47 : decode cX7_coat 47 = .ok (.ireturn, 1) := by decide +kernel
set_option maxRecDepth 20000 in
theorem ggX7_goDay_X7_layCoats : GoodIn wsX7_goDay wsX7_layCoats := goodIn_r _ [5, 6, 29, 30, 31, 32, 33, 34, 35, 36, 37, 38, 39, 40, 41, 42, 43, 44, 45, 46, 47, 48, 49, 50, 51, 52, 53] (by decide +kernel) (by decide +kernel)
set_option maxRecDepth 20000 in
theorem gX7_goDay_X7_layCoats : GoodIn wsX7_goDay (wsV RX7 155 RX7 yX7_layCoats wsX7_layCoats) := goodIn_app (goodIn_of _ (by decide +kernel)) ggX7_goDay_X7_layCoats
set_option maxRecDepth 20000 in
theorem ggX7_goDay_X7_comesTo : GoodIn wsX7_goDay wsX7_comesTo := goodIn_r _ [10, 11, 12, 13, 14, 4, 15, 16, 17, 18, 19, 20, 21, 22, 6, 23, 24, 25, 26, 27, 28, 29, 30, 31, 32, 33, 34, 35, 36, 37, 38, 39, 40, 41, 42, 43, 44, 45, 46, 47, 48, 49, 50, 51, 52, 53] (by decide +kernel) (by decide +kernel)
set_option maxRecDepth 20000 in
theorem gX7_goDay_X7_comesTo : GoodIn wsX7_goDay (wsV RX7 139 RX7 yX7_comesTo wsX7_comesTo) := goodIn_app (goodIn_of _ (by decide +kernel)) ggX7_goDay_X7_comesTo
theorem dX7_goDay_0 : decode cX7_goDay 0 = .ok (.aload_n 0, 1) := by decide +kernel
theorem dX7_goDay_1 : decode cX7_goDay 1 = .ok (.aload_n 1, 1) := by decide +kernel
theorem dX7_goDay_2 : decode cX7_goDay 2 = .ok (.invokevirtual 155, 3) := by decide +kernel
theorem dX7_goDay_5 : decode cX7_goDay 5 = .ok (.iconst 0, 1) := by decide +kernel
theorem dX7_goDay_6 : decode cX7_goDay 6 = .ok (.istore_n 3, 1) := by decide +kernel
theorem dX7_goDay_7 : decode cX7_goDay 7 = .ok (.iload_n 3, 1) := by decide +kernel
theorem dX7_goDay_8 : decode cX7_goDay 8 = .ok (.aload_n 1, 1) := by decide +kernel
theorem dX7_goDay_9 : decode cX7_goDay 9 = .ok (.iconst 1, 1) := by decide +kernel
theorem dX7_goDay_10 : decode cX7_goDay 10 = .ok (.iaload, 1) := by decide +kernel
theorem dX7_goDay_11 : decode cX7_goDay 11 = .ok (.if_icmp .ge 81, 3) := by decide +kernel
theorem dX7_goDay_14 : decode cX7_goDay 14 = .ok (.aload_n 1, 1) := by decide +kernel
theorem dX7_goDay_15 : decode cX7_goDay 15 = .ok (.bipush 10, 2) := by decide +kernel
theorem dX7_goDay_17 : decode cX7_goDay 17 = .ok (.iload_n 3, 1) := by decide +kernel
theorem dX7_goDay_18 : decode cX7_goDay 18 = .ok (.iadd, 1) := by decide +kernel
theorem dX7_goDay_19 : decode cX7_goDay 19 = .ok (.iaload, 1) := by decide +kernel
theorem dX7_goDay_20 : decode cX7_goDay 20 = .ok (.ifCond .eq 66, 3) := by decide +kernel
theorem dX7_goDay_23 : decode cX7_goDay 23 = .ok (.aload_n 0, 1) := by decide +kernel
theorem dX7_goDay_24 : decode cX7_goDay 24 = .ok (.aload_n 1, 1) := by decide +kernel
theorem dX7_goDay_25 : decode cX7_goDay 25 = .ok (.aload_n 1, 1) := by decide +kernel
theorem dX7_goDay_26 : decode cX7_goDay 26 = .ok (.bipush 65, 2) := by decide +kernel
theorem dX7_goDay_28 : decode cX7_goDay 28 = .ok (.iload_n 3, 1) := by decide +kernel
theorem dX7_goDay_29 : decode cX7_goDay 29 = .ok (.iadd, 1) := by decide +kernel
theorem dX7_goDay_30 : decode cX7_goDay 30 = .ok (.iaload, 1) := by decide +kernel
theorem dX7_goDay_31 : decode cX7_goDay 31 = .ok (.aload_n 1, 1) := by decide +kernel
theorem dX7_goDay_32 : decode cX7_goDay 32 = .ok (.bipush 70, 2) := by decide +kernel
theorem dX7_goDay_34 : decode cX7_goDay 34 = .ok (.iload_n 3, 1) := by decide +kernel
theorem dX7_goDay_35 : decode cX7_goDay 35 = .ok (.iadd, 1) := by decide +kernel
theorem dX7_goDay_36 : decode cX7_goDay 36 = .ok (.iaload, 1) := by decide +kernel
theorem dX7_goDay_37 : decode cX7_goDay 37 = .ok (.iload_n 2, 1) := by decide +kernel
theorem dX7_goDay_38 : decode cX7_goDay 38 = .ok (.aload_n 1, 1) := by decide +kernel
theorem dX7_goDay_39 : decode cX7_goDay 39 = .ok (.iconst 5, 1) := by decide +kernel
theorem dX7_goDay_40 : decode cX7_goDay 40 = .ok (.iload_n 3, 1) := by decide +kernel
theorem dX7_goDay_41 : decode cX7_goDay 41 = .ok (.iadd, 1) := by decide +kernel
theorem dX7_goDay_42 : decode cX7_goDay 42 = .ok (.iaload, 1) := by decide +kernel
theorem dX7_goDay_43 : decode cX7_goDay 43 = .ok (.invokevirtual 139, 3) := by decide +kernel
theorem dX7_goDay_46 : decode cX7_goDay 46 = .ok (.istore 4, 2) := by decide +kernel
theorem dX7_goDay_48 : decode cX7_goDay 48 = .ok (.aload_n 1, 1) := by decide +kernel
theorem dX7_goDay_49 : decode cX7_goDay 49 = .ok (.bipush 10, 2) := by decide +kernel
theorem dX7_goDay_51 : decode cX7_goDay 51 = .ok (.iload_n 3, 1) := by decide +kernel
theorem dX7_goDay_52 : decode cX7_goDay 52 = .ok (.iadd, 1) := by decide +kernel
theorem dX7_goDay_53 : decode cX7_goDay 53 = .ok (.iload 4, 2) := by decide +kernel
theorem dX7_goDay_55 : decode cX7_goDay 55 = .ok (.iconst (-1), 1) := by decide +kernel
theorem dX7_goDay_56 : decode cX7_goDay 56 = .ok (.if_icmp .ne 7, 3) := by decide +kernel
theorem dX7_goDay_59 : decode cX7_goDay 59 = .ok (.iconst 2, 1) := by decide +kernel
theorem dX7_goDay_60 : decode cX7_goDay 60 = .ok (.goto 4, 3) := by decide +kernel
theorem dX7_goDay_63 : decode cX7_goDay 63 = .ok (.iconst 0, 1) := by decide +kernel
theorem dX7_goDay_64 : decode cX7_goDay 64 = .ok (.iastore, 1) := by decide +kernel
theorem dX7_goDay_65 : decode cX7_goDay 65 = .ok (.aload_n 1, 1) := by decide +kernel
theorem dX7_goDay_66 : decode cX7_goDay 66 = .ok (.iconst 5, 1) := by decide +kernel
theorem dX7_goDay_67 : decode cX7_goDay 67 = .ok (.iload_n 3, 1) := by decide +kernel
theorem dX7_goDay_68 : decode cX7_goDay 68 = .ok (.iadd, 1) := by decide +kernel
theorem dX7_goDay_69 : decode cX7_goDay 69 = .ok (.iload 4, 2) := by decide +kernel
theorem dX7_goDay_71 : decode cX7_goDay 71 = .ok (.iconst (-1), 1) := by decide +kernel
theorem dX7_goDay_72 : decode cX7_goDay 72 = .ok (.if_icmp .ne 11, 3) := by decide +kernel
theorem dX7_goDay_75 : decode cX7_goDay 75 = .ok (.aload_n 1, 1) := by decide +kernel
theorem dX7_goDay_76 : decode cX7_goDay 76 = .ok (.iconst 5, 1) := by decide +kernel
theorem dX7_goDay_77 : decode cX7_goDay 77 = .ok (.iload_n 3, 1) := by decide +kernel
theorem dX7_goDay_78 : decode cX7_goDay 78 = .ok (.iadd, 1) := by decide +kernel
theorem dX7_goDay_79 : decode cX7_goDay 79 = .ok (.iaload, 1) := by decide +kernel
theorem dX7_goDay_80 : decode cX7_goDay 80 = .ok (.goto 5, 3) := by decide +kernel
theorem dX7_goDay_83 : decode cX7_goDay 83 = .ok (.iload 4, 2) := by decide +kernel
theorem dX7_goDay_85 : decode cX7_goDay 85 = .ok (.iastore, 1) := by decide +kernel
theorem dX7_goDay_86 : decode cX7_goDay 86 = .ok (.iinc 3 1, 3) := by decide +kernel
theorem dX7_goDay_89 : decode cX7_goDay 89 = .ok (.goto (-82), 3) := by decide +kernel
theorem dX7_goDay_92 : decode cX7_goDay 92 = .ok (.return_, 1) := by decide +kernel
theorem dX7_manyIn_0 : decode cX7_manyIn 0 = .ok (.iconst 0, 1) := by decide +kernel
theorem dX7_manyIn_1 : decode cX7_manyIn 1 = .ok (.istore_n 3, 1) := by decide +kernel
theorem dX7_manyIn_2 : decode cX7_manyIn 2 = .ok (.iconst 0, 1) := by decide +kernel
theorem dX7_manyIn_3 : decode cX7_manyIn 3 = .ok (.istore 4, 2) := by decide +kernel
theorem dX7_manyIn_5 : decode cX7_manyIn 5 = .ok (.iload 4, 2) := by decide +kernel
theorem dX7_manyIn_7 : decode cX7_manyIn 7 = .ok (.aload_n 1, 1) := by decide +kernel
theorem dX7_manyIn_8 : decode cX7_manyIn 8 = .ok (.iconst 1, 1) := by decide +kernel
theorem dX7_manyIn_9 : decode cX7_manyIn 9 = .ok (.iaload, 1) := by decide +kernel
theorem dX7_manyIn_10 : decode cX7_manyIn 10 = .ok (.if_icmp .ge 28, 3) := by decide +kernel
theorem dX7_manyIn_13 : decode cX7_manyIn 13 = .ok (.iload_n 3, 1) := by decide +kernel
theorem dX7_manyIn_14 : decode cX7_manyIn 14 = .ok (.aload_n 1, 1) := by decide +kernel
theorem dX7_manyIn_15 : decode cX7_manyIn 15 = .ok (.bipush 10, 2) := by decide +kernel
theorem dX7_manyIn_17 : decode cX7_manyIn 17 = .ok (.iload 4, 2) := by decide +kernel
theorem dX7_manyIn_19 : decode cX7_manyIn 19 = .ok (.iadd, 1) := by decide +kernel
theorem dX7_manyIn_20 : decode cX7_manyIn 20 = .ok (.iaload, 1) := by decide +kernel
theorem dX7_manyIn_21 : decode cX7_manyIn 21 = .ok (.iload_n 2, 1) := by decide +kernel
theorem dX7_manyIn_22 : decode cX7_manyIn 22 = .ok (.if_icmp .ne 7, 3) := by decide +kernel
theorem dX7_manyIn_25 : decode cX7_manyIn 25 = .ok (.iconst 1, 1) := by decide +kernel
theorem dX7_manyIn_26 : decode cX7_manyIn 26 = .ok (.goto 4, 3) := by decide +kernel
theorem dX7_manyIn_29 : decode cX7_manyIn 29 = .ok (.iconst 0, 1) := by decide +kernel
theorem dX7_manyIn_30 : decode cX7_manyIn 30 = .ok (.iadd, 1) := by decide +kernel
theorem dX7_manyIn_31 : decode cX7_manyIn 31 = .ok (.istore_n 3, 1) := by decide +kernel
theorem dX7_manyIn_32 : decode cX7_manyIn 32 = .ok (.iinc 4 1, 3) := by decide +kernel
theorem dX7_manyIn_35 : decode cX7_manyIn 35 = .ok (.goto (-30), 3) := by decide +kernel
theorem dX7_manyIn_38 : decode cX7_manyIn 38 = .ok (.iload_n 3, 1) := by decide +kernel
theorem dX7_manyIn_39 : decode cX7_manyIn 39 = .ok (.ireturn, 1) := by decide +kernel
set_option maxRecDepth 20000 in
theorem ggX7_day_X7_in : GoodIn wsX7_day wsX7_in := goodIn_r _ [6] (by decide +kernel) (by decide +kernel)
set_option maxRecDepth 20000 in
theorem gX7_day_X7_in : GoodIn wsX7_day (va_wsS RX7 78 yX7_in wsX7_in) := goodIn_app (goodIn_of _ (by decide +kernel)) ggX7_day_X7_in
set_option maxRecDepth 20000 in
theorem ggX7_day_X7_bad : GoodIn wsX7_day wsX7_bad := goodIn_r _ [10, 11, 51, 52, 53, 54, 55, 56, 57, 58, 59, 60, 61, 62, 63, 64, 65, 66, 67, 68, 69, 70, 71, 72, 73, 74, 75] (by decide +kernel) (by decide +kernel)
set_option maxRecDepth 20000 in
theorem gX7_day_X7_bad : GoodIn wsX7_day (wsV RX7 97 RX7 yX7_bad wsX7_bad) := goodIn_app (goodIn_of _ (by decide +kernel)) ggX7_day_X7_bad
set_option maxRecDepth 20000 in
theorem ggX7_day_X7_keep : GoodIn wsX7_day wsX7_keep := goodIn_r _ [15, 2, 51, 52, 53, 54, 55, 56, 57, 58, 59, 60, 61, 62, 63, 64, 65, 66, 67, 68, 69, 70, 71, 72, 73, 74, 75] (by decide +kernel) (by decide +kernel)
set_option maxRecDepth 20000 in
theorem gX7_day_X7_keep : GoodIn wsX7_day (wsV RX7 149 RX7 yX7_keep wsX7_keep) := goodIn_app (goodIn_of _ (by decide +kernel)) ggX7_day_X7_keep
set_option maxRecDepth 20000 in
theorem ggX7_day_X7_goDay : GoodIn wsX7_day wsX7_goDay := goodIn_r _ [19, 20, 21, 22, 5, 23, 24, 25, 26, 27, 28, 29, 30, 31, 32, 33, 34, 35, 36, 37, 38, 39, 40, 41, 42, 43, 44, 45, 46, 51, 52, 53, 54, 55, 56, 57, 58, 59, 60, 61, 62, 63, 64, 65, 66, 67, 68, 69, 70, 71, 72, 73, 74, 75] (by decide +kernel) (by decide +kernel)
set_option maxRecDepth 20000 in
theorem gX7_day_X7_goDay : GoodIn wsX7_day (wsV RX7 163 RX7 yX7_goDay wsX7_goDay) := goodIn_app (goodIn_of _ (by decide +kernel)) ggX7_day_X7_goDay
set_option maxRecDepth 20000 in
theorem ggX7_day_X7_manyIn : GoodIn wsX7_day wsX7_manyIn := goodIn_r _ [50] (by decide +kernel) (by decide +kernel)
set_option maxRecDepth 20000 in
theorem gX7_day_X7_manyIn : GoodIn wsX7_day (wsV RX7 167 RX7 yX7_manyIn wsX7_manyIn) := goodIn_app (goodIn_of _ (by decide +kernel)) ggX7_day_X7_manyIn
theorem dX7_day_0 : decode cX7_day 0 = .ok (.iload_n 1, 1) := by decide +kernel
theorem dX7_day_1 : decode cX7_day 1 = .ok (.i2l, 1) := by decide +kernel
theorem dX7_day_2 : decode cX7_day 2 = .ok (.lconst 1, 1) := by decide +kernel
theorem dX7_day_3 : decode cX7_day 3 = .ok (.ldc2_w 161, 3) := by decide +kernel
theorem dX7_day_6 : decode cX7_day 6 = .ok (.invokestatic 78, 3) := by decide +kernel
theorem dX7_day_9 : decode cX7_day 9 = .ok (.ifCond .ne 10, 3) := by decide +kernel
theorem dX7_day_12 : decode cX7_day 12 = .ok (.aload_n 0, 1) := by decide +kernel
theorem dX7_day_13 : decode cX7_day 13 = .ok (.bipush (-2), 2) := by decide +kernel
theorem dX7_day_15 : decode cX7_day 15 = .ok (.invokevirtual 97, 3) := by decide +kernel
theorem dX7_day_18 : decode cX7_day 18 = .ok (.ireturn, 1) := by decide +kernel
theorem dX7_day_19 : decode cX7_day 19 = .ok (.aload_n 0, 1) := by decide +kernel
theorem dX7_day_20 : decode cX7_day 20 = .ok (.invokevirtual 149, 3) := by decide +kernel
theorem dX7_day_23 : decode cX7_day 23 = .ok (.iconst 0, 1) := by decide +kernel
theorem dX7_day_24 : decode cX7_day 24 = .ok (.istore_n 2, 1) := by decide +kernel
theorem dX7_day_25 : decode cX7_day 25 = .ok (.iload_n 2, 1) := by decide +kernel
theorem dX7_day_26 : decode cX7_day 26 = .ok (.iload_n 1, 1) := by decide +kernel
theorem dX7_day_27 : decode cX7_day 27 = .ok (.if_icmp .ge 48, 3) := by decide +kernel
theorem dX7_day_30 : decode cX7_day 30 = .ok (.aload_n 0, 1) := by decide +kernel
theorem dX7_day_31 : decode cX7_day 31 = .ok (.getfield 7, 3) := by decide +kernel
theorem dX7_day_34 : decode cX7_day 34 = .ok (.bipush 22, 2) := by decide +kernel
theorem dX7_day_36 : decode cX7_day 36 = .ok (.iaload, 1) := by decide +kernel
theorem dX7_day_37 : decode cX7_day 37 = .ok (.sipush 9999, 3) := by decide +kernel
theorem dX7_day_40 : decode cX7_day 40 = .ok (.if_icmp .ge 35, 3) := by decide +kernel
theorem dX7_day_43 : decode cX7_day 43 = .ok (.aload_n 0, 1) := by decide +kernel
theorem dX7_day_44 : decode cX7_day 44 = .ok (.aload_n 0, 1) := by decide +kernel
theorem dX7_day_45 : decode cX7_day 45 = .ok (.getfield 7, 3) := by decide +kernel
theorem dX7_day_48 : decode cX7_day 48 = .ok (.aload_n 0, 1) := by decide +kernel
theorem dX7_day_49 : decode cX7_day 49 = .ok (.getfield 7, 3) := by decide +kernel
theorem dX7_day_52 : decode cX7_day 52 = .ok (.bipush 22, 2) := by decide +kernel
theorem dX7_day_54 : decode cX7_day 54 = .ok (.iaload, 1) := by decide +kernel
theorem dX7_day_55 : decode cX7_day 55 = .ok (.invokevirtual 163, 3) := by decide +kernel
theorem dX7_day_58 : decode cX7_day 58 = .ok (.aload_n 0, 1) := by decide +kernel
theorem dX7_day_59 : decode cX7_day 59 = .ok (.getfield 7, 3) := by decide +kernel
theorem dX7_day_62 : decode cX7_day 62 = .ok (.bipush 22, 2) := by decide +kernel
theorem dX7_day_64 : decode cX7_day 64 = .ok (.dup2, 1) := by decide +kernel
theorem dX7_day_65 : decode cX7_day 65 = .ok (.iaload, 1) := by decide +kernel
theorem dX7_day_66 : decode cX7_day 66 = .ok (.iconst 1, 1) := by decide +kernel
theorem dX7_day_67 : decode cX7_day 67 = .ok (.iadd, 1) := by decide +kernel
theorem dX7_day_68 : decode cX7_day 68 = .ok (.iastore, 1) := by decide +kernel
theorem dX7_day_69 : decode cX7_day 69 = .ok (.iinc 2 1, 3) := by decide +kernel
theorem dX7_day_72 : decode cX7_day 72 = .ok (.goto (-47), 3) := by decide +kernel
theorem dX7_day_75 : decode cX7_day 75 = .ok (.aload_n 0, 1) := by decide +kernel
theorem dX7_day_76 : decode cX7_day 76 = .ok (.aload_n 0, 1) := by decide +kernel
theorem dX7_day_77 : decode cX7_day 77 = .ok (.getfield 7, 3) := by decide +kernel
theorem dX7_day_80 : decode cX7_day 80 = .ok (.iconst 2, 1) := by decide +kernel
theorem dX7_day_81 : decode cX7_day 81 = .ok (.invokevirtual 167, 3) := by decide +kernel
theorem dX7_day_84 : decode cX7_day 84 = .ok (.ireturn, 1) := by decide +kernel
set_option maxRecDepth 20000 in
theorem ggX7_undo_X7_no : GoodIn wsX7_undo wsX7_no := goodIn_r _ [6, 7, 8, 9, 10, 11, 12, 13, 14, 15, 16, 17, 18, 19, 20, 21, 22, 23, 24, 25, 26, 27, 28, 29, 30, 31, 32] (by decide +kernel) (by decide +kernel)
set_option maxRecDepth 20000 in
theorem gX7_undo_X7_no : GoodIn wsX7_undo (wsV RX7 146 RX7 yX7_no wsX7_no) := goodIn_app (goodIn_of _ (by decide +kernel)) ggX7_undo_X7_no
theorem dX7_undo_0 : decode cX7_undo 0 = .ok (.aload_n 0, 1) := by decide +kernel
theorem dX7_undo_1 : decode cX7_undo 1 = .ok (.getfield 7, 3) := by decide +kernel
theorem dX7_undo_4 : decode cX7_undo 4 = .ok (.iconst 4, 1) := by decide +kernel
theorem dX7_undo_5 : decode cX7_undo 5 = .ok (.iaload, 1) := by decide +kernel
theorem dX7_undo_6 : decode cX7_undo 6 = .ok (.ifCond .ne 8, 3) := by decide +kernel
theorem dX7_undo_9 : decode cX7_undo 9 = .ok (.aload_n 0, 1) := by decide +kernel
theorem dX7_undo_10 : decode cX7_undo 10 = .ok (.invokevirtual 146, 3) := by decide +kernel
theorem dX7_undo_13 : decode cX7_undo 13 = .ok (.ireturn, 1) := by decide +kernel
theorem dX7_undo_14 : decode cX7_undo 14 = .ok (.aload_n 0, 1) := by decide +kernel
theorem dX7_undo_15 : decode cX7_undo 15 = .ok (.getfield 7, 3) := by decide +kernel
theorem dX7_undo_18 : decode cX7_undo 18 = .ok (.iconst 4, 1) := by decide +kernel
theorem dX7_undo_19 : decode cX7_undo 19 = .ok (.dup2, 1) := by decide +kernel
theorem dX7_undo_20 : decode cX7_undo 20 = .ok (.iaload, 1) := by decide +kernel
theorem dX7_undo_21 : decode cX7_undo 21 = .ok (.iconst 1, 1) := by decide +kernel
theorem dX7_undo_22 : decode cX7_undo 22 = .ok (.isub, 1) := by decide +kernel
theorem dX7_undo_23 : decode cX7_undo 23 = .ok (.iastore, 1) := by decide +kernel
theorem dX7_undo_24 : decode cX7_undo 24 = .ok (.iconst 0, 1) := by decide +kernel
theorem dX7_undo_25 : decode cX7_undo 25 = .ok (.istore_n 1, 1) := by decide +kernel
theorem dX7_undo_26 : decode cX7_undo 26 = .ok (.iload_n 1, 1) := by decide +kernel
theorem dX7_undo_27 : decode cX7_undo 27 = .ok (.bipush 18, 2) := by decide +kernel
theorem dX7_undo_29 : decode cX7_undo 29 = .ok (.if_icmp .ge 37, 3) := by decide +kernel
theorem dX7_undo_32 : decode cX7_undo 32 = .ok (.aload_n 0, 1) := by decide +kernel
theorem dX7_undo_33 : decode cX7_undo 33 = .ok (.getfield 7, 3) := by decide +kernel
theorem dX7_undo_36 : decode cX7_undo 36 = .ok (.iconst 5, 1) := by decide +kernel
theorem dX7_undo_37 : decode cX7_undo 37 = .ok (.iload_n 1, 1) := by decide +kernel
theorem dX7_undo_38 : decode cX7_undo 38 = .ok (.iadd, 1) := by decide +kernel
theorem dX7_undo_39 : decode cX7_undo 39 = .ok (.aload_n 0, 1) := by decide +kernel
theorem dX7_undo_40 : decode cX7_undo 40 = .ok (.getfield 7, 3) := by decide +kernel
theorem dX7_undo_43 : decode cX7_undo 43 = .ok (.sipush 140, 3) := by decide +kernel
theorem dX7_undo_46 : decode cX7_undo 46 = .ok (.bipush 18, 2) := by decide +kernel
theorem dX7_undo_48 : decode cX7_undo 48 = .ok (.aload_n 0, 1) := by decide +kernel
theorem dX7_undo_49 : decode cX7_undo 49 = .ok (.getfield 7, 3) := by decide +kernel
theorem dX7_undo_52 : decode cX7_undo 52 = .ok (.iconst 4, 1) := by decide +kernel
theorem dX7_undo_53 : decode cX7_undo 53 = .ok (.iaload, 1) := by decide +kernel
theorem dX7_undo_54 : decode cX7_undo 54 = .ok (.imul, 1) := by decide +kernel
theorem dX7_undo_55 : decode cX7_undo 55 = .ok (.iadd, 1) := by decide +kernel
theorem dX7_undo_56 : decode cX7_undo 56 = .ok (.iload_n 1, 1) := by decide +kernel
theorem dX7_undo_57 : decode cX7_undo 57 = .ok (.iadd, 1) := by decide +kernel
theorem dX7_undo_58 : decode cX7_undo 58 = .ok (.iaload, 1) := by decide +kernel
theorem dX7_undo_59 : decode cX7_undo 59 = .ok (.iastore, 1) := by decide +kernel
theorem dX7_undo_60 : decode cX7_undo 60 = .ok (.iinc 1 1, 3) := by decide +kernel
theorem dX7_undo_63 : decode cX7_undo 63 = .ok (.goto (-37), 3) := by decide +kernel
theorem dX7_undo_66 : decode cX7_undo 66 = .ok (.aload_n 0, 1) := by decide +kernel
theorem dX7_undo_67 : decode cX7_undo 67 = .ok (.getfield 7, 3) := by decide +kernel
theorem dX7_undo_70 : decode cX7_undo 70 = .ok (.bipush 22, 2) := by decide +kernel
theorem dX7_undo_72 : decode cX7_undo 72 = .ok (.iaload, 1) := by decide +kernel
theorem dX7_undo_73 : decode cX7_undo 73 = .ok (.ireturn, 1) := by decide +kernel
set_option maxRecDepth 20000 in
theorem ggX7_manyHadBy_X7_manyThings : GoodIn wsX7_manyHadBy wsX7_manyThings := goodIn_r _ [6, 1, 7, 8, 9, 10, 11, 12, 13, 14, 15, 16, 17, 18, 19, 20, 21, 22, 23, 24, 25, 26, 27, 28, 29, 30, 31] (by decide +kernel) (by decide +kernel)
set_option maxRecDepth 20000 in
theorem gX7_manyHadBy_X7_manyThings : GoodIn wsX7_manyHadBy (wsV RX7 82 RX7 yX7_manyThings wsX7_manyThings) := goodIn_app (goodIn_of _ (by decide +kernel)) ggX7_manyHadBy_X7_manyThings
theorem dX7_manyHadBy_0 : decode cX7_manyHadBy 0 = .ok (.iconst 0, 1) := by decide +kernel
theorem dX7_manyHadBy_1 : decode cX7_manyHadBy 1 = .ok (.istore_n 2, 1) := by decide +kernel
theorem dX7_manyHadBy_2 : decode cX7_manyHadBy 2 = .ok (.iconst 0, 1) := by decide +kernel
theorem dX7_manyHadBy_3 : decode cX7_manyHadBy 3 = .ok (.istore_n 3, 1) := by decide +kernel
theorem dX7_manyHadBy_4 : decode cX7_manyHadBy 4 = .ok (.iload_n 3, 1) := by decide +kernel
theorem dX7_manyHadBy_5 : decode cX7_manyHadBy 5 = .ok (.aload_n 0, 1) := by decide +kernel
theorem dX7_manyHadBy_6 : decode cX7_manyHadBy 6 = .ok (.invokevirtual 82, 3) := by decide +kernel
theorem dX7_manyHadBy_9 : decode cX7_manyHadBy 9 = .ok (.if_icmp .ge 41, 3) := by decide +kernel
theorem dX7_manyHadBy_12 : decode cX7_manyHadBy 12 = .ok (.iload_n 2, 1) := by decide +kernel
theorem dX7_manyHadBy_13 : decode cX7_manyHadBy 13 = .ok (.aload_n 0, 1) := by decide +kernel
theorem dX7_manyHadBy_14 : decode cX7_manyHadBy 14 = .ok (.getfield 7, 3) := by decide +kernel
theorem dX7_manyHadBy_17 : decode cX7_manyHadBy 17 = .ok (.bipush 10, 2) := by decide +kernel
theorem dX7_manyHadBy_19 : decode cX7_manyHadBy 19 = .ok (.iload_n 3, 1) := by decide +kernel
theorem dX7_manyHadBy_20 : decode cX7_manyHadBy 20 = .ok (.iadd, 1) := by decide +kernel
theorem dX7_manyHadBy_21 : decode cX7_manyHadBy 21 = .ok (.iaload, 1) := by decide +kernel
theorem dX7_manyHadBy_22 : decode cX7_manyHadBy 22 = .ok (.ifCond .ne 19, 3) := by decide +kernel
theorem dX7_manyHadBy_25 : decode cX7_manyHadBy 25 = .ok (.aload_n 0, 1) := by decide +kernel
theorem dX7_manyHadBy_26 : decode cX7_manyHadBy 26 = .ok (.getfield 7, 3) := by decide +kernel
theorem dX7_manyHadBy_29 : decode cX7_manyHadBy 29 = .ok (.iconst 5, 1) := by decide +kernel
theorem dX7_manyHadBy_30 : decode cX7_manyHadBy 30 = .ok (.iload_n 3, 1) := by decide +kernel
theorem dX7_manyHadBy_31 : decode cX7_manyHadBy 31 = .ok (.iadd, 1) := by decide +kernel
theorem dX7_manyHadBy_32 : decode cX7_manyHadBy 32 = .ok (.iaload, 1) := by decide +kernel
theorem dX7_manyHadBy_33 : decode cX7_manyHadBy 33 = .ok (.iload_n 1, 1) := by decide +kernel
theorem dX7_manyHadBy_34 : decode cX7_manyHadBy 34 = .ok (.if_icmp .ne 7, 3) := by decide +kernel
theorem dX7_manyHadBy_37 : decode cX7_manyHadBy 37 = .ok (.iconst 1, 1) := by decide +kernel
theorem dX7_manyHadBy_38 : decode cX7_manyHadBy 38 = .ok (.goto 4, 3) := by decide +kernel
theorem dX7_manyHadBy_41 : decode cX7_manyHadBy 41 = .ok (.iconst 0, 1) := by decide +kernel
theorem dX7_manyHadBy_42 : decode cX7_manyHadBy 42 = .ok (.iadd, 1) := by decide +kernel
theorem dX7_manyHadBy_43 : decode cX7_manyHadBy 43 = .ok (.istore_n 2, 1) := by decide +kernel
theorem dX7_manyHadBy_44 : decode cX7_manyHadBy 44 = .ok (.iinc 3 1, 3) := by decide +kernel
theorem dX7_manyHadBy_47 : decode cX7_manyHadBy 47 = .ok (.goto (-43), 3) := by decide +kernel
theorem dX7_manyHadBy_50 : decode cX7_manyHadBy 50 = .ok (.iload_n 2, 1) := by decide +kernel
theorem dX7_manyHadBy_51 : decode cX7_manyHadBy 51 = .ok (.ireturn, 1) := by decide +kernel
set_option maxRecDepth 20000 in
theorem ggX7_of_X7_isOne : GoodIn wsX7_of wsX7_isOne := goodIn_r _ [7, 8, 9, 10, 6, 11, 2, 12, 13, 14, 28, 29, 30, 31, 32, 33, 34, 35, 36, 37, 38, 39, 40, 41, 42, 43, 44, 45, 46, 47, 48, 49, 50, 51, 52] (by decide +kernel) (by decide +kernel)
set_option maxRecDepth 20000 in
theorem gX7_of_X7_isOne : GoodIn wsX7_of (wsV RX7 111 RX7 yX7_isOne wsX7_isOne) := goodIn_app (goodIn_of _ (by decide +kernel)) ggX7_of_X7_isOne
set_option maxRecDepth 20000 in
theorem ggX7_of_X7_in : GoodIn wsX7_of wsX7_in := goodIn_r _ [14] (by decide +kernel) (by decide +kernel)
set_option maxRecDepth 20000 in
theorem gX7_of_X7_in : GoodIn wsX7_of (va_wsS RX7 78 yX7_in wsX7_in) := goodIn_app (goodIn_of _ (by decide +kernel)) ggX7_of_X7_in
set_option maxRecDepth 20000 in
theorem ggX7_of_X7_bad : GoodIn wsX7_of wsX7_bad := goodIn_r _ [18, 19, 28, 29, 30, 31, 32, 33, 34, 35, 36, 37, 38, 39, 40, 41, 42, 43, 44, 45, 46, 47, 48, 49, 50, 51, 52] (by decide +kernel) (by decide +kernel)
set_option maxRecDepth 20000 in
theorem gX7_of_X7_bad : GoodIn wsX7_of (wsV RX7 97 RX7 yX7_bad wsX7_bad) := goodIn_app (goodIn_of _ (by decide +kernel)) ggX7_of_X7_bad
set_option maxRecDepth 20000 in
theorem ggX7_of_X7_manyHadBy : GoodIn wsX7_of wsX7_manyHadBy := goodIn_r _ [23, 2, 24, 25, 26, 6, 27, 28, 29, 30, 31, 32, 33, 34, 35, 36, 37, 38, 39, 40, 41, 42, 43, 44, 45, 46, 47, 48, 49, 50, 51, 52] (by decide +kernel) (by decide +kernel)
set_option maxRecDepth 20000 in
theorem gX7_of_X7_manyHadBy : GoodIn wsX7_of (wsV RX7 173 RX7 yX7_manyHadBy wsX7_manyHadBy) := goodIn_app (goodIn_of _ (by decide +kernel)) ggX7_of_X7_manyHadBy
theorem dX7_of_0 : decode cX7_of 0 = .ok (.aload_n 0, 1) := by decide +kernel
theorem dX7_of_1 : decode cX7_of 1 = .ok (.iload_n 1, 1) := by decide +kernel
theorem dX7_of_2 : decode cX7_of 2 = .ok (.invokevirtual 111, 3) := by decide +kernel
theorem dX7_of_5 : decode cX7_of 5 = .ok (.ifCond .eq 15, 3) := by decide +kernel
theorem dX7_of_8 : decode cX7_of 8 = .ok (.iload_n 2, 1) := by decide +kernel
theorem dX7_of_9 : decode cX7_of 9 = .ok (.i2l, 1) := by decide +kernel
theorem dX7_of_10 : decode cX7_of 10 = .ok (.lconst 0, 1) := by decide +kernel
theorem dX7_of_11 : decode cX7_of 11 = .ok (.ldc2_w 171, 3) := by decide +kernel
theorem dX7_of_14 : decode cX7_of 14 = .ok (.invokestatic 78, 3) := by decide +kernel
theorem dX7_of_17 : decode cX7_of 17 = .ok (.ifCond .ne 10, 3) := by decide +kernel
theorem dX7_of_20 : decode cX7_of 20 = .ok (.aload_n 0, 1) := by decide +kernel
theorem dX7_of_21 : decode cX7_of 21 = .ok (.bipush (-2), 2) := by decide +kernel
theorem dX7_of_23 : decode cX7_of 23 = .ok (.invokevirtual 97, 3) := by decide +kernel
theorem dX7_of_26 : decode cX7_of 26 = .ok (.ireturn, 1) := by decide +kernel
theorem dX7_of_27 : decode cX7_of 27 = .ok (.iload_n 2, 1) := by decide +kernel
theorem dX7_of_28 : decode cX7_of 28 = .ok (.tableswitch 68 0 3 #[32, 42, 52, 62], 32) := by decide +kernel
theorem dX7_of_60 : decode cX7_of 60 = .ok (.aload_n 0, 1) := by decide +kernel
theorem dX7_of_61 : decode cX7_of 61 = .ok (.getfield 7, 3) := by decide +kernel
theorem dX7_of_64 : decode cX7_of 64 = .ok (.bipush 23, 2) := by decide +kernel
theorem dX7_of_66 : decode cX7_of 66 = .ok (.iload_n 1, 1) := by decide +kernel
theorem dX7_of_67 : decode cX7_of 67 = .ok (.iadd, 1) := by decide +kernel
theorem dX7_of_68 : decode cX7_of 68 = .ok (.iaload, 1) := by decide +kernel
theorem dX7_of_69 : decode cX7_of 69 = .ok (.ireturn, 1) := by decide +kernel
theorem dX7_of_70 : decode cX7_of 70 = .ok (.aload_n 0, 1) := by decide +kernel
theorem dX7_of_71 : decode cX7_of 71 = .ok (.getfield 7, 3) := by decide +kernel
theorem dX7_of_74 : decode cX7_of 74 = .ok (.bipush 30, 2) := by decide +kernel
theorem dX7_of_76 : decode cX7_of 76 = .ok (.iload_n 1, 1) := by decide +kernel
theorem dX7_of_77 : decode cX7_of 77 = .ok (.iadd, 1) := by decide +kernel
theorem dX7_of_78 : decode cX7_of 78 = .ok (.iaload, 1) := by decide +kernel
theorem dX7_of_79 : decode cX7_of 79 = .ok (.ireturn, 1) := by decide +kernel
theorem dX7_of_80 : decode cX7_of 80 = .ok (.aload_n 0, 1) := by decide +kernel
theorem dX7_of_81 : decode cX7_of 81 = .ok (.getfield 7, 3) := by decide +kernel
theorem dX7_of_84 : decode cX7_of 84 = .ok (.bipush 15, 2) := by decide +kernel
theorem dX7_of_86 : decode cX7_of 86 = .ok (.iload_n 1, 1) := by decide +kernel
theorem dX7_of_87 : decode cX7_of 87 = .ok (.iadd, 1) := by decide +kernel
theorem dX7_of_88 : decode cX7_of 88 = .ok (.iaload, 1) := by decide +kernel
theorem dX7_of_89 : decode cX7_of 89 = .ok (.ireturn, 1) := by decide +kernel
theorem dX7_of_90 : decode cX7_of 90 = .ok (.aload_n 0, 1) := by decide +kernel
theorem dX7_of_91 : decode cX7_of 91 = .ok (.iload_n 1, 1) := by decide +kernel
theorem dX7_of_92 : decode cX7_of 92 = .ok (.invokevirtual 173, 3) := by decide +kernel
theorem dX7_of_95 : decode cX7_of 95 = .ok (.ireturn, 1) := by decide +kernel
theorem dX7_of_96 : decode cX7_of 96 = .ok (.aload_n 0, 1) := by decide +kernel
theorem dX7_of_97 : decode cX7_of 97 = .ok (.getfield 7, 3) := by decide +kernel
theorem dX7_of_100 : decode cX7_of 100 = .ok (.bipush 37, 2) := by decide +kernel
theorem dX7_of_102 : decode cX7_of 102 = .ok (.iconst 4, 1) := by decide +kernel
theorem dX7_of_103 : decode cX7_of 103 = .ok (.iload_n 1, 1) := by decide +kernel
theorem dX7_of_104 : decode cX7_of 104 = .ok (.imul, 1) := by decide +kernel
theorem dX7_of_105 : decode cX7_of 105 = .ok (.iadd, 1) := by decide +kernel
theorem dX7_of_106 : decode cX7_of 106 = .ok (.iload_n 2, 1) := by decide +kernel
theorem dX7_of_107 : decode cX7_of 107 = .ok (.iadd, 1) := by decide +kernel
theorem dX7_of_108 : decode cX7_of 108 = .ok (.iconst 4, 1) := by decide +kernel
theorem dX7_of_109 : decode cX7_of 109 = .ok (.isub, 1) := by decide +kernel
theorem dX7_of_110 : decode cX7_of 110 = .ok (.iaload, 1) := by decide +kernel
theorem dX7_of_111 : decode cX7_of 111 = .ok (.ireturn, 1) := by decide +kernel
set_option maxRecDepth 20000 in
theorem ggX7_about_X7_isThing : GoodIn wsX7_about wsX7_isThing := goodIn_r _ [7, 8, 9, 10, 6, 11, 2, 12, 13, 14, 20, 21, 22, 23, 24, 25, 26, 27, 28, 29, 30, 31, 32, 33, 34, 35, 36, 37, 38, 39, 40, 41, 42, 43, 44] (by decide +kernel) (by decide +kernel)
set_option maxRecDepth 20000 in
theorem gX7_about_X7_isThing : GoodIn wsX7_about (wsV RX7 143 RX7 yX7_isThing wsX7_isThing) := goodIn_app (goodIn_of _ (by decide +kernel)) ggX7_about_X7_isThing
set_option maxRecDepth 20000 in
theorem ggX7_about_X7_in : GoodIn wsX7_about wsX7_in := goodIn_r _ [14] (by decide +kernel) (by decide +kernel)
set_option maxRecDepth 20000 in
theorem gX7_about_X7_in : GoodIn wsX7_about (va_wsS RX7 78 yX7_in wsX7_in) := goodIn_app (goodIn_of _ (by decide +kernel)) ggX7_about_X7_in
set_option maxRecDepth 20000 in
theorem ggX7_about_X7_bad : GoodIn wsX7_about wsX7_bad := goodIn_r _ [18, 19, 20, 21, 22, 23, 24, 25, 26, 27, 28, 29, 30, 31, 32, 33, 34, 35, 36, 37, 38, 39, 40, 41, 42, 43, 44] (by decide +kernel) (by decide +kernel)
set_option maxRecDepth 20000 in
theorem gX7_about_X7_bad : GoodIn wsX7_about (wsV RX7 97 RX7 yX7_bad wsX7_bad) := goodIn_app (goodIn_of _ (by decide +kernel)) ggX7_about_X7_bad
theorem dX7_about_0 : decode cX7_about 0 = .ok (.aload_n 0, 1) := by decide +kernel
theorem dX7_about_1 : decode cX7_about 1 = .ok (.iload_n 1, 1) := by decide +kernel
theorem dX7_about_2 : decode cX7_about 2 = .ok (.invokevirtual 143, 3) := by decide +kernel
theorem dX7_about_5 : decode cX7_about 5 = .ok (.ifCond .eq 15, 3) := by decide +kernel
theorem dX7_about_8 : decode cX7_about 8 = .ok (.iload_n 2, 1) := by decide +kernel
theorem dX7_about_9 : decode cX7_about 9 = .ok (.i2l, 1) := by decide +kernel
theorem dX7_about_10 : decode cX7_about 10 = .ok (.lconst 0, 1) := by decide +kernel
theorem dX7_about_11 : decode cX7_about 11 = .ok (.ldc2_w 176, 3) := by decide +kernel
theorem dX7_about_14 : decode cX7_about 14 = .ok (.invokestatic 78, 3) := by decide +kernel
theorem dX7_about_17 : decode cX7_about 17 = .ok (.ifCond .ne 10, 3) := by decide +kernel
theorem dX7_about_20 : decode cX7_about 20 = .ok (.aload_n 0, 1) := by decide +kernel
theorem dX7_about_21 : decode cX7_about 21 = .ok (.bipush (-2), 2) := by decide +kernel
theorem dX7_about_23 : decode cX7_about 23 = .ok (.invokevirtual 97, 3) := by decide +kernel
theorem dX7_about_26 : decode cX7_about 26 = .ok (.ireturn, 1) := by decide +kernel
theorem dX7_about_27 : decode cX7_about 27 = .ok (.iload_n 2, 1) := by decide +kernel
theorem dX7_about_28 : decode cX7_about 28 = .ok (.tableswitch 71 0 3 #[32, 42, 52, 62], 32) := by decide +kernel
theorem dX7_about_60 : decode cX7_about 60 = .ok (.aload_n 0, 1) := by decide +kernel
theorem dX7_about_61 : decode cX7_about 61 = .ok (.getfield 7, 3) := by decide +kernel
theorem dX7_about_64 : decode cX7_about 64 = .ok (.bipush 65, 2) := by decide +kernel
theorem dX7_about_66 : decode cX7_about 66 = .ok (.iload_n 1, 1) := by decide +kernel
theorem dX7_about_67 : decode cX7_about 67 = .ok (.iadd, 1) := by decide +kernel
theorem dX7_about_68 : decode cX7_about 68 = .ok (.iaload, 1) := by decide +kernel
theorem dX7_about_69 : decode cX7_about 69 = .ok (.ireturn, 1) := by decide +kernel
theorem dX7_about_70 : decode cX7_about 70 = .ok (.aload_n 0, 1) := by decide +kernel
theorem dX7_about_71 : decode cX7_about 71 = .ok (.getfield 7, 3) := by decide +kernel
theorem dX7_about_74 : decode cX7_about 74 = .ok (.bipush 70, 2) := by decide +kernel
theorem dX7_about_76 : decode cX7_about 76 = .ok (.iload_n 1, 1) := by decide +kernel
theorem dX7_about_77 : decode cX7_about 77 = .ok (.iadd, 1) := by decide +kernel
theorem dX7_about_78 : decode cX7_about 78 = .ok (.iaload, 1) := by decide +kernel
theorem dX7_about_79 : decode cX7_about 79 = .ok (.ireturn, 1) := by decide +kernel
theorem dX7_about_80 : decode cX7_about 80 = .ok (.aload_n 0, 1) := by decide +kernel
theorem dX7_about_81 : decode cX7_about 81 = .ok (.getfield 7, 3) := by decide +kernel
theorem dX7_about_84 : decode cX7_about 84 = .ok (.bipush 75, 2) := by decide +kernel
theorem dX7_about_86 : decode cX7_about 86 = .ok (.iload_n 1, 1) := by decide +kernel
theorem dX7_about_87 : decode cX7_about 87 = .ok (.iadd, 1) := by decide +kernel
theorem dX7_about_88 : decode cX7_about 88 = .ok (.iaload, 1) := by decide +kernel
theorem dX7_about_89 : decode cX7_about 89 = .ok (.ireturn, 1) := by decide +kernel
theorem dX7_about_90 : decode cX7_about 90 = .ok (.aload_n 0, 1) := by decide +kernel
theorem dX7_about_91 : decode cX7_about 91 = .ok (.getfield 7, 3) := by decide +kernel
theorem dX7_about_94 : decode cX7_about 94 = .ok (.iconst 5, 1) := by decide +kernel
theorem dX7_about_95 : decode cX7_about 95 = .ok (.iload_n 1, 1) := by decide +kernel
theorem dX7_about_96 : decode cX7_about 96 = .ok (.iadd, 1) := by decide +kernel
theorem dX7_about_97 : decode cX7_about 97 = .ok (.iaload, 1) := by decide +kernel
theorem dX7_about_98 : decode cX7_about 98 = .ok (.ireturn, 1) := by decide +kernel
theorem dX7_about_99 : decode cX7_about 99 = .ok (.aload_n 0, 1) := by decide +kernel
theorem dX7_about_100 : decode cX7_about 100 = .ok (.getfield 7, 3) := by decide +kernel
theorem dX7_about_103 : decode cX7_about 103 = .ok (.bipush 10, 2) := by decide +kernel
theorem dX7_about_105 : decode cX7_about 105 = .ok (.iload_n 1, 1) := by decide +kernel
theorem dX7_about_106 : decode cX7_about 106 = .ok (.iadd, 1) := by decide +kernel
theorem dX7_about_107 : decode cX7_about 107 = .ok (.iaload, 1) := by decide +kernel
theorem dX7_about_108 : decode cX7_about 108 = .ok (.ireturn, 1) := by decide +kernel
set_option maxRecDepth 20000 in
theorem ggX7_shows_X7_isOne : GoodIn wsX7_shows wsX7_isOne := goodIn_r _ [6, 7, 8, 9, 5, 10, 1, 11, 12, 13, 35, 36, 37, 38, 39, 40, 41, 42, 43, 44, 45, 46, 47, 48, 49, 50, 51, 52, 53, 54, 55, 56, 57, 58, 59] (by decide +kernel) (by decide +kernel)
set_option maxRecDepth 20000 in
theorem gX7_shows_X7_isOne : GoodIn wsX7_shows (wsV RX7 111 RX7 yX7_isOne wsX7_isOne) := goodIn_app (goodIn_of _ (by decide +kernel)) ggX7_shows_X7_isOne
set_option maxRecDepth 20000 in
theorem ggX7_shows_X7_isSort : GoodIn wsX7_shows wsX7_isSort := goodIn_r _ [16, 17, 11, 12, 5, 13] (by decide +kernel) (by decide +kernel)
set_option maxRecDepth 20000 in
theorem gX7_shows_X7_isSort : GoodIn wsX7_shows (va_wsS RX7 108 yX7_isSort wsX7_isSort) := goodIn_app (goodIn_of _ (by decide +kernel)) ggX7_shows_X7_isSort
set_option maxRecDepth 20000 in
theorem ggX7_shows_X7_bad : GoodIn wsX7_shows wsX7_bad := goodIn_r _ [21, 22, 35, 36, 37, 38, 39, 40, 41, 42, 43, 44, 45, 46, 47, 48, 49, 50, 51, 52, 53, 54, 55, 56, 57, 58, 59] (by decide +kernel) (by decide +kernel)
set_option maxRecDepth 20000 in
theorem gX7_shows_X7_bad : GoodIn wsX7_shows (wsV RX7 97 RX7 yX7_bad wsX7_bad) := goodIn_app (goodIn_of _ (by decide +kernel)) ggX7_shows_X7_bad
set_option maxRecDepth 20000 in
theorem ggX7_shows_X7_layCoats : GoodIn wsX7_shows wsX7_layCoats := goodIn_r _ [26, 27, 35, 36, 37, 38, 39, 40, 41, 42, 43, 44, 45, 46, 47, 48, 49, 50, 51, 52, 53, 54, 55, 56, 57, 58, 59] (by decide +kernel) (by decide +kernel)
set_option maxRecDepth 20000 in
theorem gX7_shows_X7_layCoats : GoodIn wsX7_shows (wsV RX7 155 RX7 yX7_layCoats wsX7_layCoats) := goodIn_app (goodIn_of _ (by decide +kernel)) ggX7_shows_X7_layCoats
set_option maxRecDepth 20000 in
theorem ggX7_shows_X7_showsOn : GoodIn wsX7_shows wsX7_showsOn := goodIn_r _ [31, 27, 32, 33, 5, 34, 35, 36, 37, 38, 39, 40, 41, 42, 43, 44, 45, 46, 47, 48, 49, 50, 51, 52, 53, 54, 55, 56, 57, 58, 59] (by decide +kernel) (by decide +kernel)
set_option maxRecDepth 20000 in
theorem gX7_shows_X7_showsOn : GoodIn wsX7_shows (wsV RX7 126 RX7 yX7_showsOn wsX7_showsOn) := goodIn_app (goodIn_of _ (by decide +kernel)) ggX7_shows_X7_showsOn
theorem dX7_shows_0 : decode cX7_shows 0 = .ok (.aload_n 0, 1) := by decide +kernel
theorem dX7_shows_1 : decode cX7_shows 1 = .ok (.iload_n 1, 1) := by decide +kernel
theorem dX7_shows_2 : decode cX7_shows 2 = .ok (.invokevirtual 111, 3) := by decide +kernel
theorem dX7_shows_5 : decode cX7_shows 5 = .ok (.ifCond .eq 10, 3) := by decide +kernel
theorem dX7_shows_8 : decode cX7_shows 8 = .ok (.iload_n 2, 1) := by decide +kernel
theorem dX7_shows_9 : decode cX7_shows 9 = .ok (.invokestatic 108, 3) := by decide +kernel
theorem dX7_shows_12 : decode cX7_shows 12 = .ok (.ifCond .ne 10, 3) := by decide +kernel
theorem dX7_shows_15 : decode cX7_shows 15 = .ok (.aload_n 0, 1) := by decide +kernel
theorem dX7_shows_16 : decode cX7_shows 16 = .ok (.bipush (-2), 2) := by decide +kernel
theorem dX7_shows_18 : decode cX7_shows 18 = .ok (.invokevirtual 97, 3) := by decide +kernel
theorem dX7_shows_21 : decode cX7_shows 21 = .ok (.ireturn, 1) := by decide +kernel
theorem dX7_shows_22 : decode cX7_shows 22 = .ok (.aload_n 0, 1) := by decide +kernel
theorem dX7_shows_23 : decode cX7_shows 23 = .ok (.aload_n 0, 1) := by decide +kernel
theorem dX7_shows_24 : decode cX7_shows 24 = .ok (.getfield 7, 3) := by decide +kernel
theorem dX7_shows_27 : decode cX7_shows 27 = .ok (.invokevirtual 155, 3) := by decide +kernel
theorem dX7_shows_30 : decode cX7_shows 30 = .ok (.aload_n 0, 1) := by decide +kernel
theorem dX7_shows_31 : decode cX7_shows 31 = .ok (.aload_n 0, 1) := by decide +kernel
theorem dX7_shows_32 : decode cX7_shows 32 = .ok (.getfield 7, 3) := by decide +kernel
theorem dX7_shows_35 : decode cX7_shows 35 = .ok (.iload_n 1, 1) := by decide +kernel
theorem dX7_shows_36 : decode cX7_shows 36 = .ok (.iload_n 2, 1) := by decide +kernel
theorem dX7_shows_37 : decode cX7_shows 37 = .ok (.aload_n 0, 1) := by decide +kernel
theorem dX7_shows_38 : decode cX7_shows 38 = .ok (.getfield 7, 3) := by decide +kernel
theorem dX7_shows_41 : decode cX7_shows 41 = .ok (.bipush 22, 2) := by decide +kernel
theorem dX7_shows_43 : decode cX7_shows 43 = .ok (.iaload, 1) := by decide +kernel
theorem dX7_shows_44 : decode cX7_shows 44 = .ok (.invokevirtual 126, 3) := by decide +kernel
theorem dX7_shows_47 : decode cX7_shows 47 = .ok (.ireturn, 1) := by decide +kernel
set_option maxRecDepth 20000 in
theorem ggX7_comes_X7_isThing : GoodIn wsX7_comes wsX7_isThing := goodIn_r _ [6, 7, 8, 9, 5, 10, 1, 11, 12, 13, 50, 51, 52, 53, 54, 55, 56, 57, 58, 59, 60, 61, 62, 63, 64, 65, 66, 67, 68, 69, 70, 71, 72, 73, 74] (by decide +kernel) (by decide +kernel)
set_option maxRecDepth 20000 in
theorem gX7_comes_X7_isThing : GoodIn wsX7_comes (wsV RX7 143 RX7 yX7_isThing wsX7_isThing) := goodIn_app (goodIn_of _ (by decide +kernel)) ggX7_comes_X7_isThing
set_option maxRecDepth 20000 in
theorem ggX7_comes_X7_bad : GoodIn wsX7_comes wsX7_bad := goodIn_r _ [17, 18, 50, 51, 52, 53, 54, 55, 56, 57, 58, 59, 60, 61, 62, 63, 64, 65, 66, 67, 68, 69, 70, 71, 72, 73, 74] (by decide +kernel) (by decide +kernel)
set_option maxRecDepth 20000 in
theorem gX7_comes_X7_bad : GoodIn wsX7_comes (wsV RX7 97 RX7 yX7_bad wsX7_bad) := goodIn_app (goodIn_of _ (by decide +kernel)) ggX7_comes_X7_bad
set_option maxRecDepth 20000 in
theorem ggX7_comes_X7_layCoats : GoodIn wsX7_comes wsX7_layCoats := goodIn_r _ [22, 23, 50, 51, 52, 53, 54, 55, 56, 57, 58, 59, 60, 61, 62, 63, 64, 65, 66, 67, 68, 69, 70, 71, 72, 73, 74] (by decide +kernel) (by decide +kernel)
set_option maxRecDepth 20000 in
theorem gX7_comes_X7_layCoats : GoodIn wsX7_comes (wsV RX7 155 RX7 yX7_layCoats wsX7_layCoats) := goodIn_app (goodIn_of _ (by decide +kernel)) ggX7_comes_X7_layCoats
set_option maxRecDepth 20000 in
theorem ggX7_comes_X7_comesNow : GoodIn wsX7_comes wsX7_comesNow := goodIn_r _ [27, 1, 28, 29, 30, 5, 31, 32, 33, 34, 35, 36, 37, 38, 39, 40, 41, 42, 43, 23, 44, 45, 46, 47, 48, 49, 50, 51, 52, 53, 54, 55, 56, 57, 58, 59, 60, 61, 62, 63, 64, 65, 66, 67, 68, 69, 70, 71, 72, 73, 74] (by decide +kernel) (by decide +kernel)
set_option maxRecDepth 20000 in
theorem gX7_comes_X7_comesNow : GoodIn wsX7_comes (wsV RX7 178 RX7 yX7_comesNow wsX7_comesNow) := goodIn_app (goodIn_of _ (by decide +kernel)) ggX7_comes_X7_comesNow
theorem dX7_comes_0 : decode cX7_comes 0 = .ok (.aload_n 0, 1) := by decide +kernel
theorem dX7_comes_1 : decode cX7_comes 1 = .ok (.iload_n 1, 1) := by decide +kernel
theorem dX7_comes_2 : decode cX7_comes 2 = .ok (.invokevirtual 143, 3) := by decide +kernel
theorem dX7_comes_5 : decode cX7_comes 5 = .ok (.ifCond .ne 10, 3) := by decide +kernel
theorem dX7_comes_8 : decode cX7_comes 8 = .ok (.aload_n 0, 1) := by decide +kernel
theorem dX7_comes_9 : decode cX7_comes 9 = .ok (.bipush (-2), 2) := by decide +kernel
theorem dX7_comes_11 : decode cX7_comes 11 = .ok (.invokevirtual 97, 3) := by decide +kernel
theorem dX7_comes_14 : decode cX7_comes 14 = .ok (.ireturn, 1) := by decide +kernel
theorem dX7_comes_15 : decode cX7_comes 15 = .ok (.aload_n 0, 1) := by decide +kernel
theorem dX7_comes_16 : decode cX7_comes 16 = .ok (.aload_n 0, 1) := by decide +kernel
theorem dX7_comes_17 : decode cX7_comes 17 = .ok (.getfield 7, 3) := by decide +kernel
theorem dX7_comes_20 : decode cX7_comes 20 = .ok (.invokevirtual 155, 3) := by decide +kernel
theorem dX7_comes_23 : decode cX7_comes 23 = .ok (.aload_n 0, 1) := by decide +kernel
theorem dX7_comes_24 : decode cX7_comes 24 = .ok (.iload_n 1, 1) := by decide +kernel
theorem dX7_comes_25 : decode cX7_comes 25 = .ok (.aload_n 0, 1) := by decide +kernel
theorem dX7_comes_26 : decode cX7_comes 26 = .ok (.getfield 7, 3) := by decide +kernel
theorem dX7_comes_29 : decode cX7_comes 29 = .ok (.iconst 5, 1) := by decide +kernel
theorem dX7_comes_30 : decode cX7_comes 30 = .ok (.iload_n 1, 1) := by decide +kernel
theorem dX7_comes_31 : decode cX7_comes 31 = .ok (.iadd, 1) := by decide +kernel
theorem dX7_comes_32 : decode cX7_comes 32 = .ok (.iaload, 1) := by decide +kernel
theorem dX7_comes_33 : decode cX7_comes 33 = .ok (.invokevirtual 178, 3) := by decide +kernel
theorem dX7_comes_36 : decode cX7_comes 36 = .ok (.ireturn, 1) := by decide +kernel
set_option maxRecDepth 20000 in
theorem ggX7_chain_X7_isThing : GoodIn wsX7_chain wsX7_isThing := goodIn_r _ [7, 8, 9, 10, 6, 11, 2, 12, 13, 14, 51, 52, 53, 54, 55, 56, 57, 58, 59, 60, 61, 62, 63, 64, 65, 66, 67, 68, 69, 70, 71, 72, 73, 74, 75] (by decide +kernel) (by decide +kernel)
set_option maxRecDepth 20000 in
theorem gX7_chain_X7_isThing : GoodIn wsX7_chain (wsV RX7 143 RX7 yX7_isThing wsX7_isThing) := goodIn_app (goodIn_of _ (by decide +kernel)) ggX7_chain_X7_isThing
set_option maxRecDepth 20000 in
theorem ggX7_chain_X7_in : GoodIn wsX7_chain wsX7_in := goodIn_r _ [14] (by decide +kernel) (by decide +kernel)
set_option maxRecDepth 20000 in
theorem gX7_chain_X7_in : GoodIn wsX7_chain (va_wsS RX7 78 yX7_in wsX7_in) := goodIn_app (goodIn_of _ (by decide +kernel)) ggX7_chain_X7_in
set_option maxRecDepth 20000 in
theorem ggX7_chain_X7_bad : GoodIn wsX7_chain wsX7_bad := goodIn_r _ [18, 19, 51, 52, 53, 54, 55, 56, 57, 58, 59, 60, 61, 62, 63, 64, 65, 66, 67, 68, 69, 70, 71, 72, 73, 74, 75] (by decide +kernel) (by decide +kernel)
set_option maxRecDepth 20000 in
theorem gX7_chain_X7_bad : GoodIn wsX7_chain (wsV RX7 97 RX7 yX7_bad wsX7_bad) := goodIn_app (goodIn_of _ (by decide +kernel)) ggX7_chain_X7_bad
set_option maxRecDepth 20000 in
theorem ggX7_chain_X7_layCoats : GoodIn wsX7_chain wsX7_layCoats := goodIn_r _ [23, 24, 51, 52, 53, 54, 55, 56, 57, 58, 59, 60, 61, 62, 63, 64, 65, 66, 67, 68, 69, 70, 71, 72, 73, 74, 75] (by decide +kernel) (by decide +kernel)
set_option maxRecDepth 20000 in
theorem gX7_chain_X7_layCoats : GoodIn wsX7_chain (wsV RX7 155 RX7 yX7_layCoats wsX7_layCoats) := goodIn_app (goodIn_of _ (by decide +kernel)) ggX7_chain_X7_layCoats
set_option maxRecDepth 20000 in
theorem ggX7_chain_X7_comesNow : GoodIn wsX7_chain wsX7_comesNow := goodIn_r _ [28, 2, 29, 30, 31, 6, 32, 33, 34, 35, 36, 37, 38, 39, 40, 41, 42, 43, 44, 24, 45, 46, 47, 48, 49, 50, 51, 52, 53, 54, 55, 56, 57, 58, 59, 60, 61, 62, 63, 64, 65, 66, 67, 68, 69, 70, 71, 72, 73, 74, 75] (by decide +kernel) (by decide +kernel)
set_option maxRecDepth 20000 in
theorem gX7_chain_X7_comesNow : GoodIn wsX7_chain (wsV RX7 178 RX7 yX7_comesNow wsX7_comesNow) := goodIn_app (goodIn_of _ (by decide +kernel)) ggX7_chain_X7_comesNow
theorem dX7_chain_0 : decode cX7_chain 0 = .ok (.aload_n 0, 1) := by decide +kernel
theorem dX7_chain_1 : decode cX7_chain 1 = .ok (.iload_n 1, 1) := by decide +kernel
theorem dX7_chain_2 : decode cX7_chain 2 = .ok (.invokevirtual 143, 3) := by decide +kernel
theorem dX7_chain_5 : decode cX7_chain 5 = .ok (.ifCond .eq 15, 3) := by decide +kernel
theorem dX7_chain_8 : decode cX7_chain 8 = .ok (.iload_n 2, 1) := by decide +kernel
theorem dX7_chain_9 : decode cX7_chain 9 = .ok (.i2l, 1) := by decide +kernel
theorem dX7_chain_10 : decode cX7_chain 10 = .ok (.lconst 0, 1) := by decide +kernel
theorem dX7_chain_11 : decode cX7_chain 11 = .ok (.ldc2_w 181, 3) := by decide +kernel
theorem dX7_chain_14 : decode cX7_chain 14 = .ok (.invokestatic 78, 3) := by decide +kernel
theorem dX7_chain_17 : decode cX7_chain 17 = .ok (.ifCond .ne 10, 3) := by decide +kernel
theorem dX7_chain_20 : decode cX7_chain 20 = .ok (.aload_n 0, 1) := by decide +kernel
theorem dX7_chain_21 : decode cX7_chain 21 = .ok (.bipush (-2), 2) := by decide +kernel
theorem dX7_chain_23 : decode cX7_chain 23 = .ok (.invokevirtual 97, 3) := by decide +kernel
theorem dX7_chain_26 : decode cX7_chain 26 = .ok (.ireturn, 1) := by decide +kernel
theorem dX7_chain_27 : decode cX7_chain 27 = .ok (.aload_n 0, 1) := by decide +kernel
theorem dX7_chain_28 : decode cX7_chain 28 = .ok (.aload_n 0, 1) := by decide +kernel
theorem dX7_chain_29 : decode cX7_chain 29 = .ok (.getfield 7, 3) := by decide +kernel
theorem dX7_chain_32 : decode cX7_chain 32 = .ok (.invokevirtual 155, 3) := by decide +kernel
theorem dX7_chain_35 : decode cX7_chain 35 = .ok (.aload_n 0, 1) := by decide +kernel
theorem dX7_chain_36 : decode cX7_chain 36 = .ok (.getfield 7, 3) := by decide +kernel
theorem dX7_chain_39 : decode cX7_chain 39 = .ok (.iconst 5, 1) := by decide +kernel
theorem dX7_chain_40 : decode cX7_chain 40 = .ok (.iload_n 1, 1) := by decide +kernel
theorem dX7_chain_41 : decode cX7_chain 41 = .ok (.iadd, 1) := by decide +kernel
theorem dX7_chain_42 : decode cX7_chain 42 = .ok (.iaload, 1) := by decide +kernel
theorem dX7_chain_43 : decode cX7_chain 43 = .ok (.istore_n 3, 1) := by decide +kernel
theorem dX7_chain_44 : decode cX7_chain 44 = .ok (.iconst 0, 1) := by decide +kernel
theorem dX7_chain_45 : decode cX7_chain 45 = .ok (.istore 4, 2) := by decide +kernel
theorem dX7_chain_47 : decode cX7_chain 47 = .ok (.iload 4, 2) := by decide +kernel
theorem dX7_chain_49 : decode cX7_chain 49 = .ok (.iload_n 2, 1) := by decide +kernel
theorem dX7_chain_50 : decode cX7_chain 50 = .ok (.if_icmp .ge 21, 3) := by decide +kernel
theorem dX7_chain_53 : decode cX7_chain 53 = .ok (.iload_n 3, 1) := by decide +kernel
theorem dX7_chain_54 : decode cX7_chain 54 = .ok (.iconst (-1), 1) := by decide +kernel
theorem dX7_chain_55 : decode cX7_chain 55 = .ok (.if_icmp .eq 16, 3) := by decide +kernel
theorem dX7_chain_58 : decode cX7_chain 58 = .ok (.aload_n 0, 1) := by decide +kernel
theorem dX7_chain_59 : decode cX7_chain 59 = .ok (.iload_n 1, 1) := by decide +kernel
theorem dX7_chain_60 : decode cX7_chain 60 = .ok (.iload_n 3, 1) := by decide +kernel
theorem dX7_chain_61 : decode cX7_chain 61 = .ok (.invokevirtual 178, 3) := by decide +kernel
theorem dX7_chain_64 : decode cX7_chain 64 = .ok (.istore_n 3, 1) := by decide +kernel
theorem dX7_chain_65 : decode cX7_chain 65 = .ok (.iinc 4 1, 3) := by decide +kernel
theorem dX7_chain_68 : decode cX7_chain 68 = .ok (.goto (-21), 3) := by decide +kernel
theorem dX7_chain_71 : decode cX7_chain 71 = .ok (.iload_n 3, 1) := by decide +kernel
theorem dX7_chain_72 : decode cX7_chain 72 = .ok (.ireturn, 1) := by decide +kernel
set_option maxRecDepth 20000 in
theorem ggX7_ring_X7_isThing : GoodIn wsX7_ring wsX7_isThing := goodIn_r _ [7, 8, 9, 10, 6, 11, 1, 12, 13, 14, 55, 56, 57, 58, 59, 60, 61, 62, 63, 64, 65, 66, 67, 68, 69, 70, 71, 72, 73, 74, 75, 76, 77, 78, 79] (by decide +kernel) (by decide +kernel)
set_option maxRecDepth 20000 in
theorem gX7_ring_X7_isThing : GoodIn wsX7_ring (wsV RX7 143 RX7 yX7_isThing wsX7_isThing) := goodIn_app (goodIn_of _ (by decide +kernel)) ggX7_ring_X7_isThing
set_option maxRecDepth 20000 in
theorem ggX7_ring_X7_in : GoodIn wsX7_ring wsX7_in := goodIn_r _ [14] (by decide +kernel) (by decide +kernel)
set_option maxRecDepth 20000 in
theorem gX7_ring_X7_in : GoodIn wsX7_ring (va_wsS RX7 78 yX7_in wsX7_in) := goodIn_app (goodIn_of _ (by decide +kernel)) ggX7_ring_X7_in
set_option maxRecDepth 20000 in
theorem ggX7_ring_X7_bad : GoodIn wsX7_ring wsX7_bad := goodIn_r _ [18, 19, 55, 56, 57, 58, 59, 60, 61, 62, 63, 64, 65, 66, 67, 68, 69, 70, 71, 72, 73, 74, 75, 76, 77, 78, 79] (by decide +kernel) (by decide +kernel)
set_option maxRecDepth 20000 in
theorem gX7_ring_X7_bad : GoodIn wsX7_ring (wsV RX7 97 RX7 yX7_bad wsX7_bad) := goodIn_app (goodIn_of _ (by decide +kernel)) ggX7_ring_X7_bad
set_option maxRecDepth 20000 in
theorem ggX7_ring_X7_layCoats : GoodIn wsX7_ring wsX7_layCoats := goodIn_r _ [23, 24, 55, 56, 57, 58, 59, 60, 61, 62, 63, 64, 65, 66, 67, 68, 69, 70, 71, 72, 73, 74, 75, 76, 77, 78, 79] (by decide +kernel) (by decide +kernel)
set_option maxRecDepth 20000 in
theorem gX7_ring_X7_layCoats : GoodIn wsX7_ring (wsV RX7 155 RX7 yX7_layCoats wsX7_layCoats) := goodIn_app (goodIn_of _ (by decide +kernel)) ggX7_ring_X7_layCoats
set_option maxRecDepth 20000 in
theorem ggX7_ring_X7_many : GoodIn wsX7_ring wsX7_many := goodIn_r _ [28, 1, 55, 56, 57, 58, 59, 60, 61, 62, 63, 64, 65, 66, 67, 68, 69, 70, 71, 72, 73, 74, 75, 76, 77, 78, 79] (by decide +kernel) (by decide +kernel)
set_option maxRecDepth 20000 in
theorem gX7_ring_X7_many : GoodIn wsX7_ring (wsV RX7 74 RX7 yX7_many wsX7_many) := goodIn_app (goodIn_of _ (by decide +kernel)) ggX7_ring_X7_many
set_option maxRecDepth 20000 in
theorem ggX7_ring_X7_comesNow : GoodIn wsX7_ring wsX7_comesNow := goodIn_r _ [32, 1, 33, 34, 35, 6, 36, 37, 38, 39, 40, 41, 42, 43, 44, 45, 46, 47, 48, 24, 49, 50, 51, 52, 53, 54, 55, 56, 57, 58, 59, 60, 61, 62, 63, 64, 65, 66, 67, 68, 69, 70, 71, 72, 73, 74, 75, 76, 77, 78, 79] (by decide +kernel) (by decide +kernel)
set_option maxRecDepth 20000 in
theorem gX7_ring_X7_comesNow : GoodIn wsX7_ring (wsV RX7 178 RX7 yX7_comesNow wsX7_comesNow) := goodIn_app (goodIn_of _ (by decide +kernel)) ggX7_ring_X7_comesNow
theorem dX7_ring_0 : decode cX7_ring 0 = .ok (.aload_n 0, 1) := by decide +kernel
theorem dX7_ring_1 : decode cX7_ring 1 = .ok (.iload_n 1, 1) := by decide +kernel
theorem dX7_ring_2 : decode cX7_ring 2 = .ok (.invokevirtual 143, 3) := by decide +kernel
theorem dX7_ring_5 : decode cX7_ring 5 = .ok (.ifCond .eq 13, 3) := by decide +kernel
theorem dX7_ring_8 : decode cX7_ring 8 = .ok (.iload_n 2, 1) := by decide +kernel
theorem dX7_ring_9 : decode cX7_ring 9 = .ok (.i2l, 1) := by decide +kernel
theorem dX7_ring_10 : decode cX7_ring 10 = .ok (.lconst 0, 1) := by decide +kernel
theorem dX7_ring_11 : decode cX7_ring 11 = .ok (.lconst 1, 1) := by decide +kernel
theorem dX7_ring_12 : decode cX7_ring 12 = .ok (.invokestatic 78, 3) := by decide +kernel
theorem dX7_ring_15 : decode cX7_ring 15 = .ok (.ifCond .ne 10, 3) := by decide +kernel
theorem dX7_ring_18 : decode cX7_ring 18 = .ok (.aload_n 0, 1) := by decide +kernel
theorem dX7_ring_19 : decode cX7_ring 19 = .ok (.bipush (-2), 2) := by decide +kernel
theorem dX7_ring_21 : decode cX7_ring 21 = .ok (.invokevirtual 97, 3) := by decide +kernel
theorem dX7_ring_24 : decode cX7_ring 24 = .ok (.ireturn, 1) := by decide +kernel
theorem dX7_ring_25 : decode cX7_ring 25 = .ok (.aload_n 0, 1) := by decide +kernel
theorem dX7_ring_26 : decode cX7_ring 26 = .ok (.getfield 7, 3) := by decide +kernel
theorem dX7_ring_29 : decode cX7_ring 29 = .ok (.iconst 5, 1) := by decide +kernel
theorem dX7_ring_30 : decode cX7_ring 30 = .ok (.iload_n 1, 1) := by decide +kernel
theorem dX7_ring_31 : decode cX7_ring 31 = .ok (.iadd, 1) := by decide +kernel
theorem dX7_ring_32 : decode cX7_ring 32 = .ok (.iaload, 1) := by decide +kernel
theorem dX7_ring_33 : decode cX7_ring 33 = .ok (.istore_n 3, 1) := by decide +kernel
theorem dX7_ring_34 : decode cX7_ring 34 = .ok (.iconst 0, 1) := by decide +kernel
theorem dX7_ring_35 : decode cX7_ring 35 = .ok (.istore 4, 2) := by decide +kernel
theorem dX7_ring_37 : decode cX7_ring 37 = .ok (.aload_n 0, 1) := by decide +kernel
theorem dX7_ring_38 : decode cX7_ring 38 = .ok (.aload_n 0, 1) := by decide +kernel
theorem dX7_ring_39 : decode cX7_ring 39 = .ok (.getfield 7, 3) := by decide +kernel
theorem dX7_ring_42 : decode cX7_ring 42 = .ok (.invokevirtual 155, 3) := by decide +kernel
theorem dX7_ring_45 : decode cX7_ring 45 = .ok (.iconst 0, 1) := by decide +kernel
theorem dX7_ring_46 : decode cX7_ring 46 = .ok (.istore 5, 2) := by decide +kernel
theorem dX7_ring_48 : decode cX7_ring 48 = .ok (.iload 5, 2) := by decide +kernel
theorem dX7_ring_50 : decode cX7_ring 50 = .ok (.aload_n 0, 1) := by decide +kernel
theorem dX7_ring_51 : decode cX7_ring 51 = .ok (.invokevirtual 74, 3) := by decide +kernel
theorem dX7_ring_54 : decode cX7_ring 54 = .ok (.if_icmp .ge 17, 3) := by decide +kernel
theorem dX7_ring_57 : decode cX7_ring 57 = .ok (.aload_n 0, 1) := by decide +kernel
theorem dX7_ring_58 : decode cX7_ring 58 = .ok (.getfield 30, 3) := by decide +kernel
theorem dX7_ring_61 : decode cX7_ring 61 = .ok (.iload 5, 2) := by decide +kernel
theorem dX7_ring_63 : decode cX7_ring 63 = .ok (.iconst (-1), 1) := by decide +kernel
theorem dX7_ring_64 : decode cX7_ring 64 = .ok (.iastore, 1) := by decide +kernel
theorem dX7_ring_65 : decode cX7_ring 65 = .ok (.iinc 5 1, 3) := by decide +kernel
theorem dX7_ring_68 : decode cX7_ring 68 = .ok (.goto (-20), 3) := by decide +kernel
theorem dX7_ring_71 : decode cX7_ring 71 = .ok (.iload_n 3, 1) := by decide +kernel
theorem dX7_ring_72 : decode cX7_ring 72 = .ok (.iconst (-1), 1) := by decide +kernel
theorem dX7_ring_73 : decode cX7_ring 73 = .ok (.if_icmp .eq 34, 3) := by decide +kernel
theorem dX7_ring_76 : decode cX7_ring 76 = .ok (.aload_n 0, 1) := by decide +kernel
theorem dX7_ring_77 : decode cX7_ring 77 = .ok (.getfield 30, 3) := by decide +kernel
theorem dX7_ring_80 : decode cX7_ring 80 = .ok (.iload_n 3, 1) := by decide +kernel
theorem dX7_ring_81 : decode cX7_ring 81 = .ok (.iaload, 1) := by decide +kernel
theorem dX7_ring_82 : decode cX7_ring 82 = .ok (.iconst (-1), 1) := by decide +kernel
theorem dX7_ring_83 : decode cX7_ring 83 = .ok (.if_icmp .ne 24, 3) := by decide +kernel
theorem dX7_ring_86 : decode cX7_ring 86 = .ok (.aload_n 0, 1) := by decide +kernel
theorem dX7_ring_87 : decode cX7_ring 87 = .ok (.getfield 30, 3) := by decide +kernel
theorem dX7_ring_90 : decode cX7_ring 90 = .ok (.iload_n 3, 1) := by decide +kernel
theorem dX7_ring_91 : decode cX7_ring 91 = .ok (.iload 4, 2) := by decide +kernel
theorem dX7_ring_93 : decode cX7_ring 93 = .ok (.iastore, 1) := by decide +kernel
theorem dX7_ring_94 : decode cX7_ring 94 = .ok (.iinc 4 1, 3) := by decide +kernel
theorem dX7_ring_97 : decode cX7_ring 97 = .ok (.aload_n 0, 1) := by decide +kernel
theorem dX7_ring_98 : decode cX7_ring 98 = .ok (.iload_n 1, 1) := by decide +kernel
theorem dX7_ring_99 : decode cX7_ring 99 = .ok (.iload_n 3, 1) := by decide +kernel
theorem dX7_ring_100 : decode cX7_ring 100 = .ok (.invokevirtual 178, 3) := by decide +kernel
theorem dX7_ring_103 : decode cX7_ring 103 = .ok (.istore_n 3, 1) := by decide +kernel
theorem dX7_ring_104 : decode cX7_ring 104 = .ok (.goto (-33), 3) := by decide +kernel
theorem dX7_ring_107 : decode cX7_ring 107 = .ok (.iload_n 2, 1) := by decide +kernel
theorem dX7_ring_108 : decode cX7_ring 108 = .ok (.ifCond .ne 8, 3) := by decide +kernel
theorem dX7_ring_111 : decode cX7_ring 111 = .ok (.iload 4, 2) := by decide +kernel
theorem dX7_ring_113 : decode cX7_ring 113 = .ok (.goto 21, 3) := by decide +kernel
theorem dX7_ring_116 : decode cX7_ring 116 = .ok (.iload_n 3, 1) := by decide +kernel
theorem dX7_ring_117 : decode cX7_ring 117 = .ok (.iconst (-1), 1) := by decide +kernel
theorem dX7_ring_118 : decode cX7_ring 118 = .ok (.if_icmp .ne 7, 3) := by decide +kernel
theorem dX7_ring_121 : decode cX7_ring 121 = .ok (.iconst 0, 1) := by decide +kernel
theorem dX7_ring_122 : decode cX7_ring 122 = .ok (.goto 12, 3) := by decide +kernel
theorem dX7_ring_125 : decode cX7_ring 125 = .ok (.iload 4, 2) := by decide +kernel
theorem dX7_ring_127 : decode cX7_ring 127 = .ok (.aload_n 0, 1) := by decide +kernel
theorem dX7_ring_128 : decode cX7_ring 128 = .ok (.getfield 30, 3) := by decide +kernel
theorem dX7_ring_131 : decode cX7_ring 131 = .ok (.iload_n 3, 1) := by decide +kernel
theorem dX7_ring_132 : decode cX7_ring 132 = .ok (.iaload, 1) := by decide +kernel
theorem dX7_ring_133 : decode cX7_ring 133 = .ok (.isub, 1) := by decide +kernel
theorem dX7_ring_134 : decode cX7_ring 134 = .ok (.ireturn, 1) := by decide +kernel
theorem dX7_layStart_0 : decode cX7_layStart 0 = .ok (.iconst 0, 1) := by decide +kernel
theorem dX7_layStart_1 : decode cX7_layStart 1 = .ok (.istore_n 2, 1) := by decide +kernel
theorem dX7_layStart_2 : decode cX7_layStart 2 = .ok (.iload_n 2, 1) := by decide +kernel
theorem dX7_layStart_3 : decode cX7_layStart 3 = .ok (.bipush 14, 2) := by decide +kernel
theorem dX7_layStart_5 : decode cX7_layStart 5 = .ok (.if_icmp .ge 17, 3) := by decide +kernel
theorem dX7_layStart_8 : decode cX7_layStart 8 = .ok (.aload_n 0, 1) := by decide +kernel
theorem dX7_layStart_9 : decode cX7_layStart 9 = .ok (.getfield 33, 3) := by decide +kernel
theorem dX7_layStart_12 : decode cX7_layStart 12 = .ok (.iload_n 2, 1) := by decide +kernel
theorem dX7_layStart_13 : decode cX7_layStart 13 = .ok (.ldc 134, 2) := by decide +kernel
theorem dX7_layStart_15 : decode cX7_layStart 15 = .ok (.iastore, 1) := by decide +kernel
theorem dX7_layStart_16 : decode cX7_layStart 16 = .ok (.iinc 2 1, 3) := by decide +kernel
theorem dX7_layStart_19 : decode cX7_layStart 19 = .ok (.goto (-17), 3) := by decide +kernel
theorem dX7_layStart_22 : decode cX7_layStart 22 = .ok (.aload_n 0, 1) := by decide +kernel
theorem dX7_layStart_23 : decode cX7_layStart 23 = .ok (.getfield 33, 3) := by decide +kernel
theorem dX7_layStart_26 : decode cX7_layStart 26 = .ok (.aload_n 0, 1) := by decide +kernel
theorem dX7_layStart_27 : decode cX7_layStart 27 = .ok (.getfield 7, 3) := by decide +kernel
theorem dX7_layStart_30 : decode cX7_layStart 30 = .ok (.bipush 10, 2) := by decide +kernel
theorem dX7_layStart_32 : decode cX7_layStart 32 = .ok (.iload_n 1, 1) := by decide +kernel
theorem dX7_layStart_33 : decode cX7_layStart 33 = .ok (.iadd, 1) := by decide +kernel
theorem dX7_layStart_34 : decode cX7_layStart 34 = .ok (.iaload, 1) := by decide +kernel
theorem dX7_layStart_35 : decode cX7_layStart 35 = .ok (.ifCond .ne 14, 3) := by decide +kernel
theorem dX7_layStart_38 : decode cX7_layStart 38 = .ok (.aload_n 0, 1) := by decide +kernel
theorem dX7_layStart_39 : decode cX7_layStart 39 = .ok (.getfield 7, 3) := by decide +kernel
theorem dX7_layStart_42 : decode cX7_layStart 42 = .ok (.iconst 5, 1) := by decide +kernel
theorem dX7_layStart_43 : decode cX7_layStart 43 = .ok (.iload_n 1, 1) := by decide +kernel
theorem dX7_layStart_44 : decode cX7_layStart 44 = .ok (.iadd, 1) := by decide +kernel
theorem dX7_layStart_45 : decode cX7_layStart 45 = .ok (.iaload, 1) := by decide +kernel
theorem dX7_layStart_46 : decode cX7_layStart 46 = .ok (.goto 14, 3) := by decide +kernel
theorem dX7_layStart_49 : decode cX7_layStart 49 = .ok (.bipush 7, 2) := by decide +kernel
theorem dX7_layStart_51 : decode cX7_layStart 51 = .ok (.aload_n 0, 1) := by decide +kernel
theorem dX7_layStart_52 : decode cX7_layStart 52 = .ok (.getfield 7, 3) := by decide +kernel
theorem dX7_layStart_55 : decode cX7_layStart 55 = .ok (.iconst 5, 1) := by decide +kernel
theorem dX7_layStart_56 : decode cX7_layStart 56 = .ok (.iload_n 1, 1) := by decide +kernel
theorem dX7_layStart_57 : decode cX7_layStart 57 = .ok (.iadd, 1) := by decide +kernel
theorem dX7_layStart_58 : decode cX7_layStart 58 = .ok (.iaload, 1) := by decide +kernel
theorem dX7_layStart_59 : decode cX7_layStart 59 = .ok (.iadd, 1) := by decide +kernel
theorem dX7_layStart_60 : decode cX7_layStart 60 = .ok (.iconst 0, 1) := by decide +kernel
theorem dX7_layStart_61 : decode cX7_layStart 61 = .ok (.iastore, 1) := by decide +kernel
theorem dX7_layStart_62 : decode cX7_layStart 62 = .ok (.return_, 1) := by decide +kernel
theorem dX7_reach_0 : decode cX7_reach 0 = .ok (.aload_n 0, 1) := by decide +kernel
theorem dX7_reach_1 : decode cX7_reach 1 = .ok (.getfield 36, 3) := by decide +kernel
theorem dX7_reach_4 : decode cX7_reach 4 = .ok (.iload_n 1, 1) := by decide +kernel
theorem dX7_reach_5 : decode cX7_reach 5 = .ok (.iload_n 2, 1) := by decide +kernel
theorem dX7_reach_6 : decode cX7_reach 6 = .ok (.aload_n 0, 1) := by decide +kernel
theorem dX7_reach_7 : decode cX7_reach 7 = .ok (.getfield 36, 3) := by decide +kernel
theorem dX7_reach_10 : decode cX7_reach 10 = .ok (.iload_n 1, 1) := by decide +kernel
theorem dX7_reach_11 : decode cX7_reach 11 = .ok (.iaload, 1) := by decide +kernel
theorem dX7_reach_12 : decode cX7_reach 12 = .ok (.if_icmp .ge 7, 3) := by decide +kernel
theorem dX7_reach_15 : decode cX7_reach 15 = .ok (.iload_n 2, 1) := by decide +kernel
theorem dX7_reach_16 : decode cX7_reach 16 = .ok (.goto 9, 3) := by decide +kernel
theorem dX7_reach_19 : decode cX7_reach 19 = .ok (.aload_n 0, 1) := by decide +kernel
theorem dX7_reach_20 : decode cX7_reach 20 = .ok (.getfield 36, 3) := by decide +kernel
theorem dX7_reach_23 : decode cX7_reach 23 = .ok (.iload_n 1, 1) := by decide +kernel
theorem dX7_reach_24 : decode cX7_reach 24 = .ok (.iaload, 1) := by decide +kernel
theorem dX7_reach_25 : decode cX7_reach 25 = .ok (.iastore, 1) := by decide +kernel
theorem dX7_reach_26 : decode cX7_reach 26 = .ok (.return_, 1) := by decide +kernel
set_option maxRecDepth 20000 in
theorem ggX7_goSending_X7_many : GoodIn wsX7_goSending wsX7_many := goodIn_r _ [9, 3, 36, 37, 38, 39, 40, 41, 42, 43, 44, 45, 46, 47, 48, 49, 50, 51, 52, 53, 54, 55, 56, 57, 58, 59, 60] (by decide +kernel) (by decide +kernel)
set_option maxRecDepth 20000 in
theorem gX7_goSending_X7_many : GoodIn wsX7_goSending (wsV RX7 74 RX7 yX7_many wsX7_many) := goodIn_app (goodIn_of _ (by decide +kernel)) ggX7_goSending_X7_many
set_option maxRecDepth 20000 in
theorem ggX7_goSending_X7_comesTo : GoodIn wsX7_goSending wsX7_comesTo := goodIn_r _ [13, 2, 14, 15, 16, 8, 17, 18, 19, 20, 21, 22, 23, 24, 25, 26, 27, 28, 29, 30, 31, 36, 37, 38, 39, 40, 41, 42, 43, 44, 45, 46, 47, 48, 49, 50, 51, 52, 53, 54, 55, 56, 57, 58, 59, 60] (by decide +kernel) (by decide +kernel)
set_option maxRecDepth 20000 in
theorem gX7_goSending_X7_comesTo : GoodIn wsX7_goSending (wsV RX7 139 RX7 yX7_comesTo wsX7_comesTo) := goodIn_app (goodIn_of _ (by decide +kernel)) ggX7_goSending_X7_comesTo
set_option maxRecDepth 20000 in
theorem ggX7_goSending_X7_reach : GoodIn wsX7_goSending wsX7_reach := goodIn_r _ [35, 1, 36, 37, 38, 39, 40, 41, 42, 43, 44, 45, 46, 47, 48, 49, 50, 51, 52, 53, 54, 55, 56, 57, 58, 59, 60] (by decide +kernel) (by decide +kernel)
set_option maxRecDepth 20000 in
theorem gX7_goSending_X7_reach : GoodIn wsX7_goSending (wsV RX7 183 RX7 yX7_reach wsX7_reach) := goodIn_app (goodIn_of _ (by decide +kernel)) ggX7_goSending_X7_reach
theorem dX7_goSending_0 : decode cX7_goSending 0 = .ok (.iconst 0, 1) := by decide +kernel
theorem dX7_goSending_1 : decode cX7_goSending 1 = .ok (.istore_n 3, 1) := by decide +kernel
theorem dX7_goSending_2 : decode cX7_goSending 2 = .ok (.iload_n 3, 1) := by decide +kernel
theorem dX7_goSending_3 : decode cX7_goSending 3 = .ok (.bipush 14, 2) := by decide +kernel
theorem dX7_goSending_5 : decode cX7_goSending 5 = .ok (.if_icmp .ge 17, 3) := by decide +kernel
theorem dX7_goSending_8 : decode cX7_goSending 8 = .ok (.aload_n 0, 1) := by decide +kernel
theorem dX7_goSending_9 : decode cX7_goSending 9 = .ok (.getfield 36, 3) := by decide +kernel
theorem dX7_goSending_12 : decode cX7_goSending 12 = .ok (.iload_n 3, 1) := by decide +kernel
theorem dX7_goSending_13 : decode cX7_goSending 13 = .ok (.ldc 134, 2) := by decide +kernel
theorem dX7_goSending_15 : decode cX7_goSending 15 = .ok (.iastore, 1) := by decide +kernel
theorem dX7_goSending_16 : decode cX7_goSending 16 = .ok (.iinc 3 1, 3) := by decide +kernel
theorem dX7_goSending_19 : decode cX7_goSending 19 = .ok (.goto (-17), 3) := by decide +kernel
theorem dX7_goSending_22 : decode cX7_goSending 22 = .ok (.iconst 0, 1) := by decide +kernel
theorem dX7_goSending_23 : decode cX7_goSending 23 = .ok (.istore_n 3, 1) := by decide +kernel
theorem dX7_goSending_24 : decode cX7_goSending 24 = .ok (.iload_n 3, 1) := by decide +kernel
theorem dX7_goSending_25 : decode cX7_goSending 25 = .ok (.aload_n 0, 1) := by decide +kernel
theorem dX7_goSending_26 : decode cX7_goSending 26 = .ok (.invokevirtual 74, 3) := by decide +kernel
theorem dX7_goSending_29 : decode cX7_goSending 29 = .ok (.if_icmp .ge 121, 3) := by decide +kernel
theorem dX7_goSending_32 : decode cX7_goSending 32 = .ok (.aload_n 0, 1) := by decide +kernel
theorem dX7_goSending_33 : decode cX7_goSending 33 = .ok (.aload_n 0, 1) := by decide +kernel
theorem dX7_goSending_34 : decode cX7_goSending 34 = .ok (.getfield 7, 3) := by decide +kernel
theorem dX7_goSending_37 : decode cX7_goSending 37 = .ok (.aload_n 0, 1) := by decide +kernel
theorem dX7_goSending_38 : decode cX7_goSending 38 = .ok (.getfield 7, 3) := by decide +kernel
theorem dX7_goSending_41 : decode cX7_goSending 41 = .ok (.bipush 65, 2) := by decide +kernel
theorem dX7_goSending_43 : decode cX7_goSending 43 = .ok (.iload_n 1, 1) := by decide +kernel
theorem dX7_goSending_44 : decode cX7_goSending 44 = .ok (.iadd, 1) := by decide +kernel
theorem dX7_goSending_45 : decode cX7_goSending 45 = .ok (.iaload, 1) := by decide +kernel
theorem dX7_goSending_46 : decode cX7_goSending 46 = .ok (.aload_n 0, 1) := by decide +kernel
theorem dX7_goSending_47 : decode cX7_goSending 47 = .ok (.getfield 7, 3) := by decide +kernel
theorem dX7_goSending_50 : decode cX7_goSending 50 = .ok (.bipush 70, 2) := by decide +kernel
theorem dX7_goSending_52 : decode cX7_goSending 52 = .ok (.iload_n 1, 1) := by decide +kernel
theorem dX7_goSending_53 : decode cX7_goSending 53 = .ok (.iadd, 1) := by decide +kernel
theorem dX7_goSending_54 : decode cX7_goSending 54 = .ok (.iaload, 1) := by decide +kernel
theorem dX7_goSending_55 : decode cX7_goSending 55 = .ok (.iload_n 2, 1) := by decide +kernel
theorem dX7_goSending_56 : decode cX7_goSending 56 = .ok (.iload_n 3, 1) := by decide +kernel
theorem dX7_goSending_57 : decode cX7_goSending 57 = .ok (.invokevirtual 139, 3) := by decide +kernel
theorem dX7_goSending_60 : decode cX7_goSending 60 = .ok (.istore 4, 2) := by decide +kernel
theorem dX7_goSending_62 : decode cX7_goSending 62 = .ok (.iload 4, 2) := by decide +kernel
theorem dX7_goSending_64 : decode cX7_goSending 64 = .ok (.iconst (-1), 1) := by decide +kernel
theorem dX7_goSending_65 : decode cX7_goSending 65 = .ok (.if_icmp .ne 10, 3) := by decide +kernel
theorem dX7_goSending_68 : decode cX7_goSending 68 = .ok (.bipush 7, 2) := by decide +kernel
theorem dX7_goSending_70 : decode cX7_goSending 70 = .ok (.iload_n 3, 1) := by decide +kernel
theorem dX7_goSending_71 : decode cX7_goSending 71 = .ok (.iadd, 1) := by decide +kernel
theorem dX7_goSending_72 : decode cX7_goSending 72 = .ok (.goto 5, 3) := by decide +kernel
theorem dX7_goSending_75 : decode cX7_goSending 75 = .ok (.iload 4, 2) := by decide +kernel
theorem dX7_goSending_77 : decode cX7_goSending 77 = .ok (.istore 5, 2) := by decide +kernel
theorem dX7_goSending_79 : decode cX7_goSending 79 = .ok (.aload_n 0, 1) := by decide +kernel
theorem dX7_goSending_80 : decode cX7_goSending 80 = .ok (.getfield 33, 3) := by decide +kernel
theorem dX7_goSending_83 : decode cX7_goSending 83 = .ok (.iload_n 3, 1) := by decide +kernel
theorem dX7_goSending_84 : decode cX7_goSending 84 = .ok (.iaload, 1) := by decide +kernel
theorem dX7_goSending_85 : decode cX7_goSending 85 = .ok (.ldc 134, 2) := by decide +kernel
theorem dX7_goSending_87 : decode cX7_goSending 87 = .ok (.if_icmp .ge 28, 3) := by decide +kernel
theorem dX7_goSending_90 : decode cX7_goSending 90 = .ok (.aload_n 0, 1) := by decide +kernel
theorem dX7_goSending_91 : decode cX7_goSending 91 = .ok (.iload_n 3, 1) := by decide +kernel
theorem dX7_goSending_92 : decode cX7_goSending 92 = .ok (.aload_n 0, 1) := by decide +kernel
theorem dX7_goSending_93 : decode cX7_goSending 93 = .ok (.getfield 33, 3) := by decide +kernel
theorem dX7_goSending_96 : decode cX7_goSending 96 = .ok (.iload_n 3, 1) := by decide +kernel
theorem dX7_goSending_97 : decode cX7_goSending 97 = .ok (.iaload, 1) := by decide +kernel
theorem dX7_goSending_98 : decode cX7_goSending 98 = .ok (.invokevirtual 183, 3) := by decide +kernel
theorem dX7_goSending_101 : decode cX7_goSending 101 = .ok (.aload_n 0, 1) := by decide +kernel
theorem dX7_goSending_102 : decode cX7_goSending 102 = .ok (.iload 5, 2) := by decide +kernel
theorem dX7_goSending_104 : decode cX7_goSending 104 = .ok (.aload_n 0, 1) := by decide +kernel
theorem dX7_goSending_105 : decode cX7_goSending 105 = .ok (.getfield 33, 3) := by decide +kernel
theorem dX7_goSending_108 : decode cX7_goSending 108 = .ok (.iload_n 3, 1) := by decide +kernel
theorem dX7_goSending_109 : decode cX7_goSending 109 = .ok (.iaload, 1) := by decide +kernel
theorem dX7_goSending_110 : decode cX7_goSending 110 = .ok (.iconst 1, 1) := by decide +kernel
theorem dX7_goSending_111 : decode cX7_goSending 111 = .ok (.iadd, 1) := by decide +kernel
theorem dX7_goSending_112 : decode cX7_goSending 112 = .ok (.invokevirtual 183, 3) := by decide +kernel
theorem dX7_goSending_115 : decode cX7_goSending 115 = .ok (.aload_n 0, 1) := by decide +kernel
theorem dX7_goSending_116 : decode cX7_goSending 116 = .ok (.getfield 33, 3) := by decide +kernel
theorem dX7_goSending_119 : decode cX7_goSending 119 = .ok (.bipush 7, 2) := by decide +kernel
theorem dX7_goSending_121 : decode cX7_goSending 121 = .ok (.iload_n 3, 1) := by decide +kernel
theorem dX7_goSending_122 : decode cX7_goSending 122 = .ok (.iadd, 1) := by decide +kernel
theorem dX7_goSending_123 : decode cX7_goSending 123 = .ok (.iaload, 1) := by decide +kernel
theorem dX7_goSending_124 : decode cX7_goSending 124 = .ok (.ldc 134, 2) := by decide +kernel
theorem dX7_goSending_126 : decode cX7_goSending 126 = .ok (.if_icmp .ge 18, 3) := by decide +kernel
theorem dX7_goSending_129 : decode cX7_goSending 129 = .ok (.aload_n 0, 1) := by decide +kernel
theorem dX7_goSending_130 : decode cX7_goSending 130 = .ok (.iload 5, 2) := by decide +kernel
theorem dX7_goSending_132 : decode cX7_goSending 132 = .ok (.aload_n 0, 1) := by decide +kernel
theorem dX7_goSending_133 : decode cX7_goSending 133 = .ok (.getfield 33, 3) := by decide +kernel
theorem dX7_goSending_136 : decode cX7_goSending 136 = .ok (.bipush 7, 2) := by decide +kernel
theorem dX7_goSending_138 : decode cX7_goSending 138 = .ok (.iload_n 3, 1) := by decide +kernel
theorem dX7_goSending_139 : decode cX7_goSending 139 = .ok (.iadd, 1) := by decide +kernel
theorem dX7_goSending_140 : decode cX7_goSending 140 = .ok (.iaload, 1) := by decide +kernel
theorem dX7_goSending_141 : decode cX7_goSending 141 = .ok (.invokevirtual 183, 3) := by decide +kernel
theorem dX7_goSending_144 : decode cX7_goSending 144 = .ok (.iinc 3 1, 3) := by decide +kernel
theorem dX7_goSending_147 : decode cX7_goSending 147 = .ok (.goto (-123), 3) := by decide +kernel
theorem dX7_goSending_150 : decode cX7_goSending 150 = .ok (.iconst 0, 1) := by decide +kernel
theorem dX7_goSending_151 : decode cX7_goSending 151 = .ok (.istore_n 3, 1) := by decide +kernel
theorem dX7_goSending_152 : decode cX7_goSending 152 = .ok (.iload_n 3, 1) := by decide +kernel
theorem dX7_goSending_153 : decode cX7_goSending 153 = .ok (.bipush 14, 2) := by decide +kernel
theorem dX7_goSending_155 : decode cX7_goSending 155 = .ok (.if_icmp .ge 21, 3) := by decide +kernel
theorem dX7_goSending_158 : decode cX7_goSending 158 = .ok (.aload_n 0, 1) := by decide +kernel
theorem dX7_goSending_159 : decode cX7_goSending 159 = .ok (.getfield 33, 3) := by decide +kernel
theorem dX7_goSending_162 : decode cX7_goSending 162 = .ok (.iload_n 3, 1) := by decide +kernel
theorem dX7_goSending_163 : decode cX7_goSending 163 = .ok (.aload_n 0, 1) := by decide +kernel
theorem dX7_goSending_164 : decode cX7_goSending 164 = .ok (.getfield 36, 3) := by decide +kernel
theorem dX7_goSending_167 : decode cX7_goSending 167 = .ok (.iload_n 3, 1) := by decide +kernel
theorem dX7_goSending_168 : decode cX7_goSending 168 = .ok (.iaload, 1) := by decide +kernel
theorem dX7_goSending_169 : decode cX7_goSending 169 = .ok (.iastore, 1) := by decide +kernel
theorem dX7_goSending_170 : decode cX7_goSending 170 = .ok (.iinc 3 1, 3) := by decide +kernel
theorem dX7_goSending_173 : decode cX7_goSending 173 = .ok (.goto (-21), 3) := by decide +kernel
theorem dX7_goSending_176 : decode cX7_goSending 176 = .ok (.return_, 1) := by decide +kernel
set_option maxRecDepth 20000 in
theorem ggX7_send_X7_isThing : GoodIn wsX7_send wsX7_isThing := goodIn_r _ [8, 9, 10, 11, 7, 12, 1, 13, 14, 15, 68, 69, 70, 71, 72, 73, 74, 75, 76, 77, 78, 79, 80, 81, 82, 83, 84, 85, 86, 87, 88, 89, 90, 91, 92] (by decide +kernel) (by decide +kernel)
set_option maxRecDepth 20000 in
theorem gX7_send_X7_isThing : GoodIn wsX7_send (wsV RX7 143 RX7 yX7_isThing wsX7_isThing) := goodIn_app (goodIn_of _ (by decide +kernel)) ggX7_send_X7_isThing
set_option maxRecDepth 20000 in
theorem ggX7_send_X7_isOne : GoodIn wsX7_send wsX7_isOne := goodIn_r _ [19, 20, 21, 22, 7, 23, 1, 13, 14, 15, 68, 69, 70, 71, 72, 73, 74, 75, 76, 77, 78, 79, 80, 81, 82, 83, 84, 85, 86, 87, 88, 89, 90, 91, 92] (by decide +kernel) (by decide +kernel)
set_option maxRecDepth 20000 in
theorem gX7_send_X7_isOne : GoodIn wsX7_send (wsV RX7 111 RX7 yX7_isOne wsX7_isOne) := goodIn_app (goodIn_of _ (by decide +kernel)) ggX7_send_X7_isOne
set_option maxRecDepth 20000 in
theorem ggX7_send_X7_in : GoodIn wsX7_send wsX7_in := goodIn_r _ [15] (by decide +kernel) (by decide +kernel)
set_option maxRecDepth 20000 in
theorem gX7_send_X7_in : GoodIn wsX7_send (va_wsS RX7 78 yX7_in wsX7_in) := goodIn_app (goodIn_of _ (by decide +kernel)) ggX7_send_X7_in
set_option maxRecDepth 20000 in
theorem ggX7_send_X7_bad : GoodIn wsX7_send wsX7_bad := goodIn_r _ [27, 28, 68, 69, 70, 71, 72, 73, 74, 75, 76, 77, 78, 79, 80, 81, 82, 83, 84, 85, 86, 87, 88, 89, 90, 91, 92] (by decide +kernel) (by decide +kernel)
set_option maxRecDepth 20000 in
theorem gX7_send_X7_bad : GoodIn wsX7_send (wsV RX7 97 RX7 yX7_bad wsX7_bad) := goodIn_app (goodIn_of _ (by decide +kernel)) ggX7_send_X7_bad
set_option maxRecDepth 20000 in
theorem ggX7_send_X7_layCoats : GoodIn wsX7_send wsX7_layCoats := goodIn_r _ [32, 33, 68, 69, 70, 71, 72, 73, 74, 75, 76, 77, 78, 79, 80, 81, 82, 83, 84, 85, 86, 87, 88, 89, 90, 91, 92] (by decide +kernel) (by decide +kernel)
set_option maxRecDepth 20000 in
theorem gX7_send_X7_layCoats : GoodIn wsX7_send (wsV RX7 155 RX7 yX7_layCoats wsX7_layCoats) := goodIn_app (goodIn_of _ (by decide +kernel)) ggX7_send_X7_layCoats
set_option maxRecDepth 20000 in
theorem ggX7_send_X7_layStart : GoodIn wsX7_send wsX7_layStart := goodIn_r _ [37, 2, 3, 1, 68, 69, 70, 71, 72, 73, 74, 75, 76, 77, 78, 79, 80, 81, 82, 83, 84, 85, 86, 87, 88, 89, 90, 91, 92] (by decide +kernel) (by decide +kernel)
set_option maxRecDepth 20000 in
theorem gX7_send_X7_layStart : GoodIn wsX7_send (wsV RX7 187 RX7 yX7_layStart wsX7_layStart) := goodIn_app (goodIn_of _ (by decide +kernel)) ggX7_send_X7_layStart
set_option maxRecDepth 20000 in
theorem ggX7_send_X7_goSending : GoodIn wsX7_send wsX7_goSending := goodIn_r _ [41, 42, 3, 1, 2, 20, 21, 22, 7, 23, 43, 44, 45, 46, 47, 48, 49, 50, 51, 52, 53, 54, 55, 56, 57, 33, 58, 59, 60, 61, 62, 63, 64, 65, 66, 67, 68, 69, 70, 71, 72, 73, 74, 75, 76, 77, 78, 79, 80, 81, 82, 83, 84, 85, 86, 87, 88, 89, 90, 91, 92] (by decide +kernel) (by decide +kernel)
set_option maxRecDepth 20000 in
theorem gX7_send_X7_goSending : GoodIn wsX7_send (wsV RX7 191 RX7 yX7_goSending wsX7_goSending) := goodIn_app (goodIn_of _ (by decide +kernel)) ggX7_send_X7_goSending
theorem dX7_send_0 : decode cX7_send 0 = .ok (.aload_n 0, 1) := by decide +kernel
theorem dX7_send_1 : decode cX7_send 1 = .ok (.iload_n 1, 1) := by decide +kernel
theorem dX7_send_2 : decode cX7_send 2 = .ok (.invokevirtual 143, 3) := by decide +kernel
theorem dX7_send_5 : decode cX7_send 5 = .ok (.ifCond .eq 21, 3) := by decide +kernel
theorem dX7_send_8 : decode cX7_send 8 = .ok (.aload_n 0, 1) := by decide +kernel
theorem dX7_send_9 : decode cX7_send 9 = .ok (.iload_n 2, 1) := by decide +kernel
theorem dX7_send_10 : decode cX7_send 10 = .ok (.invokevirtual 111, 3) := by decide +kernel
theorem dX7_send_13 : decode cX7_send 13 = .ok (.ifCond .eq 13, 3) := by decide +kernel
theorem dX7_send_16 : decode cX7_send 16 = .ok (.iload_n 3, 1) := by decide +kernel
theorem dX7_send_17 : decode cX7_send 17 = .ok (.i2l, 1) := by decide +kernel
theorem dX7_send_18 : decode cX7_send 18 = .ok (.lconst 0, 1) := by decide +kernel
theorem dX7_send_19 : decode cX7_send 19 = .ok (.lconst 1, 1) := by decide +kernel
theorem dX7_send_20 : decode cX7_send 20 = .ok (.invokestatic 78, 3) := by decide +kernel
theorem dX7_send_23 : decode cX7_send 23 = .ok (.ifCond .ne 10, 3) := by decide +kernel
theorem dX7_send_26 : decode cX7_send 26 = .ok (.aload_n 0, 1) := by decide +kernel
theorem dX7_send_27 : decode cX7_send 27 = .ok (.bipush (-2), 2) := by decide +kernel
theorem dX7_send_29 : decode cX7_send 29 = .ok (.invokevirtual 97, 3) := by decide +kernel
theorem dX7_send_32 : decode cX7_send 32 = .ok (.ireturn, 1) := by decide +kernel
theorem dX7_send_33 : decode cX7_send 33 = .ok (.aload_n 0, 1) := by decide +kernel
theorem dX7_send_34 : decode cX7_send 34 = .ok (.aload_n 0, 1) := by decide +kernel
theorem dX7_send_35 : decode cX7_send 35 = .ok (.getfield 7, 3) := by decide +kernel
theorem dX7_send_38 : decode cX7_send 38 = .ok (.invokevirtual 155, 3) := by decide +kernel
theorem dX7_send_41 : decode cX7_send 41 = .ok (.aload_n 0, 1) := by decide +kernel
theorem dX7_send_42 : decode cX7_send 42 = .ok (.iload_n 1, 1) := by decide +kernel
theorem dX7_send_43 : decode cX7_send 43 = .ok (.invokevirtual 187, 3) := by decide +kernel
theorem dX7_send_46 : decode cX7_send 46 = .ok (.iconst 0, 1) := by decide +kernel
theorem dX7_send_47 : decode cX7_send 47 = .ok (.istore 4, 2) := by decide +kernel
theorem dX7_send_49 : decode cX7_send 49 = .ok (.iload 4, 2) := by decide +kernel
theorem dX7_send_51 : decode cX7_send 51 = .ok (.bipush 30, 2) := by decide +kernel
theorem dX7_send_53 : decode cX7_send 53 = .ok (.if_icmp .gt 51, 3) := by decide +kernel
theorem dX7_send_56 : decode cX7_send 56 = .ok (.aload_n 0, 1) := by decide +kernel
theorem dX7_send_57 : decode cX7_send 57 = .ok (.getfield 33, 3) := by decide +kernel
theorem dX7_send_60 : decode cX7_send 60 = .ok (.iload_n 2, 1) := by decide +kernel
theorem dX7_send_61 : decode cX7_send 61 = .ok (.iaload, 1) := by decide +kernel
theorem dX7_send_62 : decode cX7_send 62 = .ok (.ldc 134, 2) := by decide +kernel
theorem dX7_send_64 : decode cX7_send 64 = .ok (.if_icmp .ge 19, 3) := by decide +kernel
theorem dX7_send_67 : decode cX7_send 67 = .ok (.iload_n 3, 1) := by decide +kernel
theorem dX7_send_68 : decode cX7_send 68 = .ok (.ifCond .ne 8, 3) := by decide +kernel
theorem dX7_send_71 : decode cX7_send 71 = .ok (.iload 4, 2) := by decide +kernel
theorem dX7_send_73 : decode cX7_send 73 = .ok (.goto 9, 3) := by decide +kernel
theorem dX7_send_76 : decode cX7_send 76 = .ok (.aload_n 0, 1) := by decide +kernel
theorem dX7_send_77 : decode cX7_send 77 = .ok (.getfield 33, 3) := by decide +kernel
theorem dX7_send_80 : decode cX7_send 80 = .ok (.iload_n 2, 1) := by decide +kernel
theorem dX7_send_81 : decode cX7_send 81 = .ok (.iaload, 1) := by decide +kernel
theorem dX7_send_82 : decode cX7_send 82 = .ok (.ireturn, 1) := by decide +kernel
theorem dX7_send_83 : decode cX7_send 83 = .ok (.aload_n 0, 1) := by decide +kernel
theorem dX7_send_84 : decode cX7_send 84 = .ok (.iload_n 1, 1) := by decide +kernel
theorem dX7_send_85 : decode cX7_send 85 = .ok (.aload_n 0, 1) := by decide +kernel
theorem dX7_send_86 : decode cX7_send 86 = .ok (.getfield 7, 3) := by decide +kernel
theorem dX7_send_89 : decode cX7_send 89 = .ok (.bipush 22, 2) := by decide +kernel
theorem dX7_send_91 : decode cX7_send 91 = .ok (.iaload, 1) := by decide +kernel
theorem dX7_send_92 : decode cX7_send 92 = .ok (.iload 4, 2) := by decide +kernel
theorem dX7_send_94 : decode cX7_send 94 = .ok (.iadd, 1) := by decide +kernel
theorem dX7_send_95 : decode cX7_send 95 = .ok (.invokevirtual 191, 3) := by decide +kernel
theorem dX7_send_98 : decode cX7_send 98 = .ok (.iinc 4 1, 3) := by decide +kernel
theorem dX7_send_101 : decode cX7_send 101 = .ok (.goto (-52), 3) := by decide +kernel
theorem dX7_send_104 : decode cX7_send 104 = .ok (.iconst (-1), 1) := by decide +kernel
theorem dX7_send_105 : decode cX7_send 105 = .ok (.ireturn, 1) := by decide +kernel
set_option maxRecDepth 20000 in
theorem ggX7_wears_X7_isOne : GoodIn wsX7_wears wsX7_isOne := goodIn_r _ [7, 8, 9, 10, 6, 11, 1, 12, 13, 14, 58, 59, 60, 61, 62, 63, 64, 65, 66, 67, 68, 69, 70, 71, 72, 73, 74, 75, 76, 77, 78, 79, 80, 81, 82] (by decide +kernel) (by decide +kernel)
set_option maxRecDepth 20000 in
theorem gX7_wears_X7_isOne : GoodIn wsX7_wears (wsV RX7 111 RX7 yX7_isOne wsX7_isOne) := goodIn_app (goodIn_of _ (by decide +kernel)) ggX7_wears_X7_isOne
set_option maxRecDepth 20000 in
theorem ggX7_wears_X7_isThing : GoodIn wsX7_wears wsX7_isThing := goodIn_r _ [18, 19, 20, 21, 6, 22, 1, 12, 13, 14, 58, 59, 60, 61, 62, 63, 64, 65, 66, 67, 68, 69, 70, 71, 72, 73, 74, 75, 76, 77, 78, 79, 80, 81, 82] (by decide +kernel) (by decide +kernel)
set_option maxRecDepth 20000 in
theorem gX7_wears_X7_isThing : GoodIn wsX7_wears (wsV RX7 143 RX7 yX7_isThing wsX7_isThing) := goodIn_app (goodIn_of _ (by decide +kernel)) ggX7_wears_X7_isThing
set_option maxRecDepth 20000 in
theorem ggX7_wears_X7_in : GoodIn wsX7_wears wsX7_in := goodIn_r _ [14] (by decide +kernel) (by decide +kernel)
set_option maxRecDepth 20000 in
theorem gX7_wears_X7_in : GoodIn wsX7_wears (va_wsS RX7 78 yX7_in wsX7_in) := goodIn_app (goodIn_of _ (by decide +kernel)) ggX7_wears_X7_in
set_option maxRecDepth 20000 in
theorem ggX7_wears_X7_bad : GoodIn wsX7_wears wsX7_bad := goodIn_r _ [26, 27, 58, 59, 60, 61, 62, 63, 64, 65, 66, 67, 68, 69, 70, 71, 72, 73, 74, 75, 76, 77, 78, 79, 80, 81, 82] (by decide +kernel) (by decide +kernel)
set_option maxRecDepth 20000 in
theorem gX7_wears_X7_bad : GoodIn wsX7_wears (wsV RX7 97 RX7 yX7_bad wsX7_bad) := goodIn_app (goodIn_of _ (by decide +kernel)) ggX7_wears_X7_bad
set_option maxRecDepth 20000 in
theorem ggX7_wears_X7_layCoats : GoodIn wsX7_wears wsX7_layCoats := goodIn_r _ [31, 2, 58, 59, 60, 61, 62, 63, 64, 65, 66, 67, 68, 69, 70, 71, 72, 73, 74, 75, 76, 77, 78, 79, 80, 81, 82] (by decide +kernel) (by decide +kernel)
set_option maxRecDepth 20000 in
theorem gX7_wears_X7_layCoats : GoodIn wsX7_wears (wsV RX7 155 RX7 yX7_layCoats wsX7_layCoats) := goodIn_app (goodIn_of _ (by decide +kernel)) ggX7_wears_X7_layCoats
set_option maxRecDepth 20000 in
theorem ggX7_wears_X7_comesNow : GoodIn wsX7_wears wsX7_comesNow := goodIn_r _ [35, 1, 36, 37, 38, 6, 39, 40, 41, 42, 43, 44, 45, 46, 47, 48, 49, 50, 51, 2, 52, 53, 54, 55, 56, 57, 58, 59, 60, 61, 62, 63, 64, 65, 66, 67, 68, 69, 70, 71, 72, 73, 74, 75, 76, 77, 78, 79, 80, 81, 82] (by decide +kernel) (by decide +kernel)
set_option maxRecDepth 20000 in
theorem gX7_wears_X7_comesNow : GoodIn wsX7_wears (wsV RX7 178 RX7 yX7_comesNow wsX7_comesNow) := goodIn_app (goodIn_of _ (by decide +kernel)) ggX7_wears_X7_comesNow
theorem dX7_wears_0 : decode cX7_wears 0 = .ok (.aload_n 0, 1) := by decide +kernel
theorem dX7_wears_1 : decode cX7_wears 1 = .ok (.iload_n 1, 1) := by decide +kernel
theorem dX7_wears_2 : decode cX7_wears 2 = .ok (.invokevirtual 111, 3) := by decide +kernel
theorem dX7_wears_5 : decode cX7_wears 5 = .ok (.ifCond .eq 21, 3) := by decide +kernel
theorem dX7_wears_8 : decode cX7_wears 8 = .ok (.aload_n 0, 1) := by decide +kernel
theorem dX7_wears_9 : decode cX7_wears 9 = .ok (.iload_n 2, 1) := by decide +kernel
theorem dX7_wears_10 : decode cX7_wears 10 = .ok (.invokevirtual 143, 3) := by decide +kernel
theorem dX7_wears_13 : decode cX7_wears 13 = .ok (.ifCond .eq 13, 3) := by decide +kernel
theorem dX7_wears_16 : decode cX7_wears 16 = .ok (.iload_n 3, 1) := by decide +kernel
theorem dX7_wears_17 : decode cX7_wears 17 = .ok (.i2l, 1) := by decide +kernel
theorem dX7_wears_18 : decode cX7_wears 18 = .ok (.lconst 0, 1) := by decide +kernel
theorem dX7_wears_19 : decode cX7_wears 19 = .ok (.lconst 1, 1) := by decide +kernel
theorem dX7_wears_20 : decode cX7_wears 20 = .ok (.invokestatic 78, 3) := by decide +kernel
theorem dX7_wears_23 : decode cX7_wears 23 = .ok (.ifCond .ne 10, 3) := by decide +kernel
theorem dX7_wears_26 : decode cX7_wears 26 = .ok (.aload_n 0, 1) := by decide +kernel
theorem dX7_wears_27 : decode cX7_wears 27 = .ok (.bipush (-2), 2) := by decide +kernel
theorem dX7_wears_29 : decode cX7_wears 29 = .ok (.invokevirtual 97, 3) := by decide +kernel
theorem dX7_wears_32 : decode cX7_wears 32 = .ok (.ireturn, 1) := by decide +kernel
theorem dX7_wears_33 : decode cX7_wears 33 = .ok (.iload_n 1, 1) := by decide +kernel
theorem dX7_wears_34 : decode cX7_wears 34 = .ok (.aload_n 0, 1) := by decide +kernel
theorem dX7_wears_35 : decode cX7_wears 35 = .ok (.getfield 7, 3) := by decide +kernel
theorem dX7_wears_38 : decode cX7_wears 38 = .ok (.iconst 5, 1) := by decide +kernel
theorem dX7_wears_39 : decode cX7_wears 39 = .ok (.iload_n 2, 1) := by decide +kernel
theorem dX7_wears_40 : decode cX7_wears 40 = .ok (.iadd, 1) := by decide +kernel
theorem dX7_wears_41 : decode cX7_wears 41 = .ok (.iaload, 1) := by decide +kernel
theorem dX7_wears_42 : decode cX7_wears 42 = .ok (.if_icmp .ne 5, 3) := by decide +kernel
theorem dX7_wears_45 : decode cX7_wears 45 = .ok (.iconst (-1), 1) := by decide +kernel
theorem dX7_wears_46 : decode cX7_wears 46 = .ok (.ireturn, 1) := by decide +kernel
theorem dX7_wears_47 : decode cX7_wears 47 = .ok (.aload_n 0, 1) := by decide +kernel
theorem dX7_wears_48 : decode cX7_wears 48 = .ok (.aload_n 0, 1) := by decide +kernel
theorem dX7_wears_49 : decode cX7_wears 49 = .ok (.getfield 7, 3) := by decide +kernel
theorem dX7_wears_52 : decode cX7_wears 52 = .ok (.invokevirtual 155, 3) := by decide +kernel
theorem dX7_wears_55 : decode cX7_wears 55 = .ok (.iconst 0, 1) := by decide +kernel
theorem dX7_wears_56 : decode cX7_wears 56 = .ok (.istore 4, 2) := by decide +kernel
theorem dX7_wears_58 : decode cX7_wears 58 = .ok (.iload 4, 2) := by decide +kernel
theorem dX7_wears_60 : decode cX7_wears 60 = .ok (.bipush 10, 2) := by decide +kernel
theorem dX7_wears_62 : decode cX7_wears 62 = .ok (.if_icmp .ge 59, 3) := by decide +kernel
theorem dX7_wears_65 : decode cX7_wears 65 = .ok (.aload_n 0, 1) := by decide +kernel
theorem dX7_wears_66 : decode cX7_wears 66 = .ok (.getfield 27, 3) := by decide +kernel
theorem dX7_wears_69 : decode cX7_wears 69 = .ok (.iload_n 1, 1) := by decide +kernel
theorem dX7_wears_70 : decode cX7_wears 70 = .ok (.iload 4, 2) := by decide +kernel
theorem dX7_wears_72 : decode cX7_wears 72 = .ok (.iastore, 1) := by decide +kernel
theorem dX7_wears_73 : decode cX7_wears 73 = .ok (.aload_n 0, 1) := by decide +kernel
theorem dX7_wears_74 : decode cX7_wears 74 = .ok (.iload_n 2, 1) := by decide +kernel
theorem dX7_wears_75 : decode cX7_wears 75 = .ok (.aload_n 0, 1) := by decide +kernel
theorem dX7_wears_76 : decode cX7_wears 76 = .ok (.getfield 7, 3) := by decide +kernel
theorem dX7_wears_79 : decode cX7_wears 79 = .ok (.iconst 5, 1) := by decide +kernel
theorem dX7_wears_80 : decode cX7_wears 80 = .ok (.iload_n 2, 1) := by decide +kernel
theorem dX7_wears_81 : decode cX7_wears 81 = .ok (.iadd, 1) := by decide +kernel
theorem dX7_wears_82 : decode cX7_wears 82 = .ok (.iaload, 1) := by decide +kernel
theorem dX7_wears_83 : decode cX7_wears 83 = .ok (.invokevirtual 178, 3) := by decide +kernel
theorem dX7_wears_86 : decode cX7_wears 86 = .ok (.iload_n 1, 1) := by decide +kernel
theorem dX7_wears_87 : decode cX7_wears 87 = .ok (.if_icmp .ne 7, 3) := by decide +kernel
theorem dX7_wears_90 : decode cX7_wears 90 = .ok (.iconst 1, 1) := by decide +kernel
theorem dX7_wears_91 : decode cX7_wears 91 = .ok (.goto 4, 3) := by decide +kernel
theorem dX7_wears_94 : decode cX7_wears 94 = .ok (.iconst 0, 1) := by decide +kernel
theorem dX7_wears_95 : decode cX7_wears 95 = .ok (.istore 5, 2) := by decide +kernel
theorem dX7_wears_97 : decode cX7_wears 97 = .ok (.iload 5, 2) := by decide +kernel
theorem dX7_wears_99 : decode cX7_wears 99 = .ok (.iload_n 3, 1) := by decide +kernel
theorem dX7_wears_100 : decode cX7_wears 100 = .ok (.iconst 1, 1) := by decide +kernel
theorem dX7_wears_101 : decode cX7_wears 101 = .ok (.if_icmp .ne 7, 3) := by decide +kernel
theorem dX7_wears_104 : decode cX7_wears 104 = .ok (.iconst 1, 1) := by decide +kernel
theorem dX7_wears_105 : decode cX7_wears 105 = .ok (.goto 4, 3) := by decide +kernel
theorem dX7_wears_108 : decode cX7_wears 108 = .ok (.iconst 0, 1) := by decide +kernel
theorem dX7_wears_109 : decode cX7_wears 109 = .ok (.if_icmp .ne 6, 3) := by decide +kernel
theorem dX7_wears_112 : decode cX7_wears 112 = .ok (.iload 4, 2) := by decide +kernel
theorem dX7_wears_114 : decode cX7_wears 114 = .ok (.ireturn, 1) := by decide +kernel
theorem dX7_wears_115 : decode cX7_wears 115 = .ok (.iinc 4 1, 3) := by decide +kernel
theorem dX7_wears_118 : decode cX7_wears 118 = .ok (.goto (-60), 3) := by decide +kernel
theorem dX7_wears_121 : decode cX7_wears 121 = .ok (.iconst (-1), 1) := by decide +kernel
theorem dX7_wears_122 : decode cX7_wears 122 = .ok (.ireturn, 1) := by decide +kernel
set_option maxRecDepth 20000 in
theorem ggX7_layPrices_X7_layCoats : GoodIn wsX7_layPrices wsX7_layCoats := goodIn_r _ [7, 8, 27, 28, 29, 30, 31, 32, 33, 34, 35, 36, 37, 38, 39, 40, 41, 42, 43, 44, 45, 46, 47, 48, 49, 50, 51] (by decide +kernel) (by decide +kernel)
set_option maxRecDepth 20000 in
theorem gX7_layPrices_X7_layCoats : GoodIn wsX7_layPrices (wsV RX7 155 RX7 yX7_layCoats wsX7_layCoats) := goodIn_app (goodIn_of _ (by decide +kernel)) ggX7_layPrices_X7_layCoats
set_option maxRecDepth 20000 in
theorem ggX7_layPrices_X7_manyThings : GoodIn wsX7_layPrices wsX7_manyThings := goodIn_r _ [12, 1, 27, 28, 29, 30, 31, 32, 33, 34, 35, 36, 37, 38, 39, 40, 41, 42, 43, 44, 45, 46, 47, 48, 49, 50, 51] (by decide +kernel) (by decide +kernel)
set_option maxRecDepth 20000 in
theorem gX7_layPrices_X7_manyThings : GoodIn wsX7_layPrices (wsV RX7 82 RX7 yX7_manyThings wsX7_manyThings) := goodIn_app (goodIn_of _ (by decide +kernel)) ggX7_layPrices_X7_manyThings
set_option maxRecDepth 20000 in
theorem ggX7_layPrices_X7_asked : GoodIn wsX7_layPrices wsX7_asked := goodIn_r _ [16, 1, 17, 18, 19, 6, 20, 8, 21, 22, 23, 24, 25, 26, 27, 28, 29, 30, 31, 32, 33, 34, 35, 36, 37, 38, 39, 40, 41, 42, 43, 44, 45, 46, 47, 48, 49, 50, 51] (by decide +kernel) (by decide +kernel)
set_option maxRecDepth 20000 in
theorem gX7_layPrices_X7_asked : GoodIn wsX7_layPrices (wsV RX7 158 RX7 yX7_asked wsX7_asked) := goodIn_app (goodIn_of _ (by decide +kernel)) ggX7_layPrices_X7_asked
theorem dX7_layPrices_0 : decode cX7_layPrices 0 = .ok (.iconst 0, 1) := by decide +kernel
theorem dX7_layPrices_1 : decode cX7_layPrices 1 = .ok (.istore_n 1, 1) := by decide +kernel
theorem dX7_layPrices_2 : decode cX7_layPrices 2 = .ok (.aload_n 0, 1) := by decide +kernel
theorem dX7_layPrices_3 : decode cX7_layPrices 3 = .ok (.aload_n 0, 1) := by decide +kernel
theorem dX7_layPrices_4 : decode cX7_layPrices 4 = .ok (.getfield 7, 3) := by decide +kernel
theorem dX7_layPrices_7 : decode cX7_layPrices 7 = .ok (.invokevirtual 155, 3) := by decide +kernel
theorem dX7_layPrices_10 : decode cX7_layPrices 10 = .ok (.iconst 0, 1) := by decide +kernel
theorem dX7_layPrices_11 : decode cX7_layPrices 11 = .ok (.istore_n 2, 1) := by decide +kernel
theorem dX7_layPrices_12 : decode cX7_layPrices 12 = .ok (.iload_n 2, 1) := by decide +kernel
theorem dX7_layPrices_13 : decode cX7_layPrices 13 = .ok (.aload_n 0, 1) := by decide +kernel
theorem dX7_layPrices_14 : decode cX7_layPrices 14 = .ok (.invokevirtual 82, 3) := by decide +kernel
theorem dX7_layPrices_17 : decode cX7_layPrices 17 = .ok (.if_icmp .ge 55, 3) := by decide +kernel
theorem dX7_layPrices_20 : decode cX7_layPrices 20 = .ok (.aload_n 0, 1) := by decide +kernel
theorem dX7_layPrices_21 : decode cX7_layPrices 21 = .ok (.getfield 7, 3) := by decide +kernel
theorem dX7_layPrices_24 : decode cX7_layPrices 24 = .ok (.bipush 10, 2) := by decide +kernel
theorem dX7_layPrices_26 : decode cX7_layPrices 26 = .ok (.iload_n 2, 1) := by decide +kernel
theorem dX7_layPrices_27 : decode cX7_layPrices 27 = .ok (.iadd, 1) := by decide +kernel
theorem dX7_layPrices_28 : decode cX7_layPrices 28 = .ok (.iaload, 1) := by decide +kernel
theorem dX7_layPrices_29 : decode cX7_layPrices 29 = .ok (.ifCond .ne 37, 3) := by decide +kernel
theorem dX7_layPrices_32 : decode cX7_layPrices 32 = .ok (.aload_n 0, 1) := by decide +kernel
theorem dX7_layPrices_33 : decode cX7_layPrices 33 = .ok (.getfield 7, 3) := by decide +kernel
theorem dX7_layPrices_36 : decode cX7_layPrices 36 = .ok (.iconst 5, 1) := by decide +kernel
theorem dX7_layPrices_37 : decode cX7_layPrices 37 = .ok (.iload_n 2, 1) := by decide +kernel
theorem dX7_layPrices_38 : decode cX7_layPrices 38 = .ok (.iadd, 1) := by decide +kernel
theorem dX7_layPrices_39 : decode cX7_layPrices 39 = .ok (.iaload, 1) := by decide +kernel
theorem dX7_layPrices_40 : decode cX7_layPrices 40 = .ok (.aload_n 0, 1) := by decide +kernel
theorem dX7_layPrices_41 : decode cX7_layPrices 41 = .ok (.getfield 7, 3) := by decide +kernel
theorem dX7_layPrices_44 : decode cX7_layPrices 44 = .ok (.bipush 75, 2) := by decide +kernel
theorem dX7_layPrices_46 : decode cX7_layPrices 46 = .ok (.iload_n 2, 1) := by decide +kernel
theorem dX7_layPrices_47 : decode cX7_layPrices 47 = .ok (.iadd, 1) := by decide +kernel
theorem dX7_layPrices_48 : decode cX7_layPrices 48 = .ok (.iaload, 1) := by decide +kernel
theorem dX7_layPrices_49 : decode cX7_layPrices 49 = .ok (.if_icmp .eq 17, 3) := by decide +kernel
theorem dX7_layPrices_52 : decode cX7_layPrices 52 = .ok (.aload_n 0, 1) := by decide +kernel
theorem dX7_layPrices_53 : decode cX7_layPrices 53 = .ok (.getfield 39, 3) := by decide +kernel
theorem dX7_layPrices_56 : decode cX7_layPrices 56 = .ok (.iload_n 1, 1) := by decide +kernel
theorem dX7_layPrices_57 : decode cX7_layPrices 57 = .ok (.aload_n 0, 1) := by decide +kernel
theorem dX7_layPrices_58 : decode cX7_layPrices 58 = .ok (.iload_n 2, 1) := by decide +kernel
theorem dX7_layPrices_59 : decode cX7_layPrices 59 = .ok (.invokevirtual 158, 3) := by decide +kernel
theorem dX7_layPrices_62 : decode cX7_layPrices 62 = .ok (.iastore, 1) := by decide +kernel
theorem dX7_layPrices_63 : decode cX7_layPrices 63 = .ok (.iinc 1 1, 3) := by decide +kernel
theorem dX7_layPrices_66 : decode cX7_layPrices 66 = .ok (.iinc 2 1, 3) := by decide +kernel
theorem dX7_layPrices_69 : decode cX7_layPrices 69 = .ok (.goto (-57), 3) := by decide +kernel
theorem dX7_layPrices_72 : decode cX7_layPrices 72 = .ok (.iload_n 1, 1) := by decide +kernel
theorem dX7_layPrices_73 : decode cX7_layPrices 73 = .ok (.ireturn, 1) := by decide +kernel
set_option maxRecDepth 20000 in
theorem ggX7_costs_X7_layPrices : GoodIn wsX7_costs wsX7_layPrices := goodIn_r _ [6, 7, 1, 8, 9, 10, 5, 11, 12, 13, 14, 15, 16, 17, 18, 19, 20, 21, 22, 23, 24, 25, 26, 27, 28, 29, 30, 31, 32, 33, 34, 35, 36, 37, 38, 39, 40, 41, 42, 43, 44, 45, 46, 47, 48, 49, 50, 51, 52, 53, 54, 55] (by decide +kernel) (by decide +kernel)
set_option maxRecDepth 20000 in
theorem gX7_costs_X7_layPrices : GoodIn wsX7_costs (wsV RX7 194 RX7 yX7_layPrices wsX7_layPrices) := goodIn_app (goodIn_of _ (by decide +kernel)) ggX7_costs_X7_layPrices
theorem dX7_costs_0 : decode cX7_costs 0 = .ok (.iconst 0, 1) := by decide +kernel
theorem dX7_costs_1 : decode cX7_costs 1 = .ok (.istore_n 1, 1) := by decide +kernel
theorem dX7_costs_2 : decode cX7_costs 2 = .ok (.aload_n 0, 1) := by decide +kernel
theorem dX7_costs_3 : decode cX7_costs 3 = .ok (.invokevirtual 194, 3) := by decide +kernel
theorem dX7_costs_6 : decode cX7_costs 6 = .ok (.iconst 1, 1) := by decide +kernel
theorem dX7_costs_7 : decode cX7_costs 7 = .ok (.isub, 1) := by decide +kernel
theorem dX7_costs_8 : decode cX7_costs 8 = .ok (.istore_n 2, 1) := by decide +kernel
theorem dX7_costs_9 : decode cX7_costs 9 = .ok (.iload_n 2, 1) := by decide +kernel
theorem dX7_costs_10 : decode cX7_costs 10 = .ok (.ifCond .lt 18, 3) := by decide +kernel
theorem dX7_costs_13 : decode cX7_costs 13 = .ok (.iload_n 1, 1) := by decide +kernel
theorem dX7_costs_14 : decode cX7_costs 14 = .ok (.aload_n 0, 1) := by decide +kernel
theorem dX7_costs_15 : decode cX7_costs 15 = .ok (.getfield 39, 3) := by decide +kernel
theorem dX7_costs_18 : decode cX7_costs 18 = .ok (.iload_n 2, 1) := by decide +kernel
theorem dX7_costs_19 : decode cX7_costs 19 = .ok (.iaload, 1) := by decide +kernel
theorem dX7_costs_20 : decode cX7_costs 20 = .ok (.iadd, 1) := by decide +kernel
theorem dX7_costs_21 : decode cX7_costs 21 = .ok (.istore_n 1, 1) := by decide +kernel
theorem dX7_costs_22 : decode cX7_costs 22 = .ok (.iinc 2 (-1), 3) := by decide +kernel
theorem dX7_costs_25 : decode cX7_costs 25 = .ok (.goto (-16), 3) := by decide +kernel
theorem dX7_costs_28 : decode cX7_costs 28 = .ok (.iload_n 1, 1) := by decide +kernel
theorem dX7_costs_29 : decode cX7_costs 29 = .ok (.ireturn, 1) := by decide +kernel
set_option maxRecDepth 20000 in
theorem ggX7_few_X7_in : GoodIn wsX7_few wsX7_in := goodIn_r _ [6] (by decide +kernel) (by decide +kernel)
set_option maxRecDepth 20000 in
theorem gX7_few_X7_in : GoodIn wsX7_few (va_wsS RX7 78 yX7_in wsX7_in) := goodIn_app (goodIn_of _ (by decide +kernel)) ggX7_few_X7_in
set_option maxRecDepth 20000 in
theorem ggX7_few_X7_bad : GoodIn wsX7_few wsX7_bad := goodIn_r _ [10, 11, 46, 47, 48, 49, 50, 51, 52, 53, 54, 55, 56, 57, 58, 59, 60, 61, 62, 63, 64, 65, 66, 67, 68, 69, 70] (by decide +kernel) (by decide +kernel)
set_option maxRecDepth 20000 in
theorem gX7_few_X7_bad : GoodIn wsX7_few (wsV RX7 97 RX7 yX7_bad wsX7_bad) := goodIn_app (goodIn_of _ (by decide +kernel)) ggX7_few_X7_bad
set_option maxRecDepth 20000 in
theorem ggX7_few_X7_layPrices : GoodIn wsX7_few wsX7_layPrices := goodIn_r _ [15, 16, 2, 17, 18, 19, 5, 20, 21, 22, 23, 24, 25, 26, 27, 28, 29, 30, 31, 32, 33, 34, 35, 36, 37, 38, 39, 46, 47, 48, 49, 50, 51, 52, 53, 54, 55, 56, 57, 58, 59, 60, 61, 62, 63, 64, 65, 66, 67, 68, 69, 70] (by decide +kernel) (by decide +kernel)
set_option maxRecDepth 20000 in
theorem gX7_few_X7_layPrices : GoodIn wsX7_few (wsV RX7 194 RX7 yX7_layPrices wsX7_layPrices) := goodIn_app (goodIn_of _ (by decide +kernel)) ggX7_few_X7_layPrices
set_option maxRecDepth 20000 in
theorem ggX7_few_X7_has : GoodIn wsX7_few wsX7_has := goodIn_r _ [42] (by decide +kernel) (by decide +kernel)
set_option maxRecDepth 20000 in
theorem gX7_few_X7_has : GoodIn wsX7_few (va_wsS RX7 199 yX7_has wsX7_has) := goodIn_app (goodIn_of _ (by decide +kernel)) ggX7_few_X7_has
set_option maxRecDepth 20000 in
theorem ggX7_few_X7_bits : GoodIn wsX7_few wsX7_bits := goodIn_r _ [45] (by decide +kernel) (by decide +kernel)
set_option maxRecDepth 20000 in
theorem gX7_few_X7_bits : GoodIn wsX7_few (va_wsS RX7 203 yX7_bits wsX7_bits) := goodIn_app (goodIn_of _ (by decide +kernel)) ggX7_few_X7_bits
theorem dX7_few_0 : decode cX7_few 0 = .ok (.iload_n 1, 1) := by decide +kernel
theorem dX7_few_1 : decode cX7_few 1 = .ok (.i2l, 1) := by decide +kernel
theorem dX7_few_2 : decode cX7_few 2 = .ok (.lconst 0, 1) := by decide +kernel
theorem dX7_few_3 : decode cX7_few 3 = .ok (.ldc2_w 197, 3) := by decide +kernel
theorem dX7_few_6 : decode cX7_few 6 = .ok (.invokestatic 78, 3) := by decide +kernel
theorem dX7_few_9 : decode cX7_few 9 = .ok (.ifCond .ne 10, 3) := by decide +kernel
theorem dX7_few_12 : decode cX7_few 12 = .ok (.aload_n 0, 1) := by decide +kernel
theorem dX7_few_13 : decode cX7_few 13 = .ok (.bipush (-2), 2) := by decide +kernel
theorem dX7_few_15 : decode cX7_few 15 = .ok (.invokevirtual 97, 3) := by decide +kernel
theorem dX7_few_18 : decode cX7_few 18 = .ok (.ireturn, 1) := by decide +kernel
theorem dX7_few_19 : decode cX7_few 19 = .ok (.aload_n 0, 1) := by decide +kernel
theorem dX7_few_20 : decode cX7_few 20 = .ok (.invokevirtual 194, 3) := by decide +kernel
theorem dX7_few_23 : decode cX7_few 23 = .ok (.istore_n 2, 1) := by decide +kernel
theorem dX7_few_24 : decode cX7_few 24 = .ok (.iconst 0, 1) := by decide +kernel
theorem dX7_few_25 : decode cX7_few 25 = .ok (.istore_n 3, 1) := by decide +kernel
theorem dX7_few_26 : decode cX7_few 26 = .ok (.iconst 0, 1) := by decide +kernel
theorem dX7_few_27 : decode cX7_few 27 = .ok (.istore 4, 2) := by decide +kernel
theorem dX7_few_29 : decode cX7_few 29 = .ok (.iload 4, 2) := by decide +kernel
theorem dX7_few_31 : decode cX7_few 31 = .ok (.iconst 1, 1) := by decide +kernel
theorem dX7_few_32 : decode cX7_few 32 = .ok (.iload_n 2, 1) := by decide +kernel
theorem dX7_few_33 : decode cX7_few 33 = .ok (.ishl, 1) := by decide +kernel
theorem dX7_few_34 : decode cX7_few 34 = .ok (.if_icmp .ge 78, 3) := by decide +kernel
theorem dX7_few_37 : decode cX7_few 37 = .ok (.iconst 0, 1) := by decide +kernel
theorem dX7_few_38 : decode cX7_few 38 = .ok (.istore 5, 2) := by decide +kernel
theorem dX7_few_40 : decode cX7_few 40 = .ok (.iconst 0, 1) := by decide +kernel
theorem dX7_few_41 : decode cX7_few 41 = .ok (.istore 6, 2) := by decide +kernel
theorem dX7_few_43 : decode cX7_few 43 = .ok (.iload 6, 2) := by decide +kernel
theorem dX7_few_45 : decode cX7_few 45 = .ok (.iload_n 2, 1) := by decide +kernel
theorem dX7_few_46 : decode cX7_few 46 = .ok (.if_icmp .ge 35, 3) := by decide +kernel
theorem dX7_few_49 : decode cX7_few 49 = .ok (.iload 5, 2) := by decide +kernel
theorem dX7_few_51 : decode cX7_few 51 = .ok (.iload 4, 2) := by decide +kernel
theorem dX7_few_53 : decode cX7_few 53 = .ok (.iload 6, 2) := by decide +kernel
theorem dX7_few_55 : decode cX7_few 55 = .ok (.invokestatic 199, 3) := by decide +kernel
theorem dX7_few_58 : decode cX7_few 58 = .ok (.ifCond .eq 13, 3) := by decide +kernel
theorem dX7_few_61 : decode cX7_few 61 = .ok (.aload_n 0, 1) := by decide +kernel
theorem dX7_few_62 : decode cX7_few 62 = .ok (.getfield 39, 3) := by decide +kernel
theorem dX7_few_65 : decode cX7_few 65 = .ok (.iload 6, 2) := by decide +kernel
theorem dX7_few_67 : decode cX7_few 67 = .ok (.iaload, 1) := by decide +kernel
theorem dX7_few_68 : decode cX7_few 68 = .ok (.goto 4, 3) := by decide +kernel
theorem dX7_few_71 : decode cX7_few 71 = .ok (.iconst 0, 1) := by decide +kernel
theorem dX7_few_72 : decode cX7_few 72 = .ok (.iadd, 1) := by decide +kernel
theorem dX7_few_73 : decode cX7_few 73 = .ok (.istore 5, 2) := by decide +kernel
theorem dX7_few_75 : decode cX7_few 75 = .ok (.iinc 6 1, 3) := by decide +kernel
theorem dX7_few_78 : decode cX7_few 78 = .ok (.goto (-35), 3) := by decide +kernel
theorem dX7_few_81 : decode cX7_few 81 = .ok (.iload 5, 2) := by decide +kernel
theorem dX7_few_83 : decode cX7_few 83 = .ok (.iload_n 1, 1) := by decide +kernel
theorem dX7_few_84 : decode cX7_few 84 = .ok (.if_icmp .gt 20, 3) := by decide +kernel
theorem dX7_few_87 : decode cX7_few 87 = .ok (.iload 4, 2) := by decide +kernel
theorem dX7_few_89 : decode cX7_few 89 = .ok (.invokestatic 203, 3) := by decide +kernel
theorem dX7_few_92 : decode cX7_few 92 = .ok (.iload_n 3, 1) := by decide +kernel
theorem dX7_few_93 : decode cX7_few 93 = .ok (.if_icmp .le 11, 3) := by decide +kernel
theorem dX7_few_96 : decode cX7_few 96 = .ok (.iload 4, 2) := by decide +kernel
theorem dX7_few_98 : decode cX7_few 98 = .ok (.invokestatic 203, 3) := by decide +kernel
theorem dX7_few_101 : decode cX7_few 101 = .ok (.goto 4, 3) := by decide +kernel
theorem dX7_few_104 : decode cX7_few 104 = .ok (.iload_n 3, 1) := by decide +kernel
theorem dX7_few_105 : decode cX7_few 105 = .ok (.istore_n 3, 1) := by decide +kernel
theorem dX7_few_106 : decode cX7_few 106 = .ok (.iinc 4 1, 3) := by decide +kernel
theorem dX7_few_109 : decode cX7_few 109 = .ok (.goto (-80), 3) := by decide +kernel
theorem dX7_few_112 : decode cX7_few 112 = .ok (.iload_n 3, 1) := by decide +kernel
theorem dX7_few_113 : decode cX7_few 113 = .ok (.ireturn, 1) := by decide +kernel
set_option maxRecDepth 20000 in
theorem ggX7_loser_X7_isThing : GoodIn wsX7_loser wsX7_isThing := goodIn_r _ [6, 7, 8, 9, 5, 10, 1, 11, 12, 13, 58, 59, 60, 61, 62, 63, 64, 65, 66, 67, 68, 69, 70, 71, 72, 73, 74, 75, 76, 77, 78, 79, 80, 81, 82] (by decide +kernel) (by decide +kernel)
set_option maxRecDepth 20000 in
theorem gX7_loser_X7_isThing : GoodIn wsX7_loser (wsV RX7 143 RX7 yX7_isThing wsX7_isThing) := goodIn_app (goodIn_of _ (by decide +kernel)) ggX7_loser_X7_isThing
set_option maxRecDepth 20000 in
theorem ggX7_loser_X7_isOne : GoodIn wsX7_loser wsX7_isOne := goodIn_r _ [17, 18, 19, 20, 5, 21, 1, 11, 12, 13, 58, 59, 60, 61, 62, 63, 64, 65, 66, 67, 68, 69, 70, 71, 72, 73, 74, 75, 76, 77, 78, 79, 80, 81, 82] (by decide +kernel) (by decide +kernel)
set_option maxRecDepth 20000 in
theorem gX7_loser_X7_isOne : GoodIn wsX7_loser (wsV RX7 111 RX7 yX7_isOne wsX7_isOne) := goodIn_app (goodIn_of _ (by decide +kernel)) ggX7_loser_X7_isOne
set_option maxRecDepth 20000 in
theorem ggX7_loser_X7_bad : GoodIn wsX7_loser wsX7_bad := goodIn_r _ [25, 26, 58, 59, 60, 61, 62, 63, 64, 65, 66, 67, 68, 69, 70, 71, 72, 73, 74, 75, 76, 77, 78, 79, 80, 81, 82] (by decide +kernel) (by decide +kernel)
set_option maxRecDepth 20000 in
theorem gX7_loser_X7_bad : GoodIn wsX7_loser (wsV RX7 97 RX7 yX7_bad wsX7_bad) := goodIn_app (goodIn_of _ (by decide +kernel)) ggX7_loser_X7_bad
set_option maxRecDepth 20000 in
theorem ggX7_loser_X7_layCoats : GoodIn wsX7_loser wsX7_layCoats := goodIn_r _ [30, 31, 58, 59, 60, 61, 62, 63, 64, 65, 66, 67, 68, 69, 70, 71, 72, 73, 74, 75, 76, 77, 78, 79, 80, 81, 82] (by decide +kernel) (by decide +kernel)
set_option maxRecDepth 20000 in
theorem gX7_loser_X7_layCoats : GoodIn wsX7_loser (wsV RX7 155 RX7 yX7_layCoats wsX7_layCoats) := goodIn_app (goodIn_of _ (by decide +kernel)) ggX7_loser_X7_layCoats
set_option maxRecDepth 20000 in
theorem ggX7_loser_X7_many : GoodIn wsX7_loser wsX7_many := goodIn_r _ [21, 1, 58, 59, 60, 61, 62, 63, 64, 65, 66, 67, 68, 69, 70, 71, 72, 73, 74, 75, 76, 77, 78, 79, 80, 81, 82] (by decide +kernel) (by decide +kernel)
set_option maxRecDepth 20000 in
theorem gX7_loser_X7_many : GoodIn wsX7_loser (wsV RX7 74 RX7 yX7_many wsX7_many) := goodIn_app (goodIn_of _ (by decide +kernel)) ggX7_loser_X7_many
set_option maxRecDepth 20000 in
theorem ggX7_loser_X7_comesNow : GoodIn wsX7_loser wsX7_comesNow := goodIn_r _ [35, 1, 36, 37, 38, 5, 39, 40, 41, 42, 43, 44, 45, 46, 47, 48, 49, 50, 51, 31, 52, 53, 54, 55, 56, 57, 58, 59, 60, 61, 62, 63, 64, 65, 66, 67, 68, 69, 70, 71, 72, 73, 74, 75, 76, 77, 78, 79, 80, 81, 82] (by decide +kernel) (by decide +kernel)
set_option maxRecDepth 20000 in
theorem gX7_loser_X7_comesNow : GoodIn wsX7_loser (wsV RX7 178 RX7 yX7_comesNow wsX7_comesNow) := goodIn_app (goodIn_of _ (by decide +kernel)) ggX7_loser_X7_comesNow
theorem dX7_loser_0 : decode cX7_loser 0 = .ok (.aload_n 0, 1) := by decide +kernel
theorem dX7_loser_1 : decode cX7_loser 1 = .ok (.iload_n 1, 1) := by decide +kernel
theorem dX7_loser_2 : decode cX7_loser 2 = .ok (.invokevirtual 143, 3) := by decide +kernel
theorem dX7_loser_5 : decode cX7_loser 5 = .ok (.ifCond .eq 11, 3) := by decide +kernel
theorem dX7_loser_8 : decode cX7_loser 8 = .ok (.aload_n 0, 1) := by decide +kernel
theorem dX7_loser_9 : decode cX7_loser 9 = .ok (.iload_n 2, 1) := by decide +kernel
theorem dX7_loser_10 : decode cX7_loser 10 = .ok (.invokevirtual 111, 3) := by decide +kernel
theorem dX7_loser_13 : decode cX7_loser 13 = .ok (.ifCond .ne 10, 3) := by decide +kernel
theorem dX7_loser_16 : decode cX7_loser 16 = .ok (.aload_n 0, 1) := by decide +kernel
theorem dX7_loser_17 : decode cX7_loser 17 = .ok (.bipush (-2), 2) := by decide +kernel
theorem dX7_loser_19 : decode cX7_loser 19 = .ok (.invokevirtual 97, 3) := by decide +kernel
theorem dX7_loser_22 : decode cX7_loser 22 = .ok (.ireturn, 1) := by decide +kernel
theorem dX7_loser_23 : decode cX7_loser 23 = .ok (.iconst 0, 1) := by decide +kernel
theorem dX7_loser_24 : decode cX7_loser 24 = .ok (.istore_n 3, 1) := by decide +kernel
theorem dX7_loser_25 : decode cX7_loser 25 = .ok (.aload_n 0, 1) := by decide +kernel
theorem dX7_loser_26 : decode cX7_loser 26 = .ok (.aload_n 0, 1) := by decide +kernel
theorem dX7_loser_27 : decode cX7_loser 27 = .ok (.getfield 7, 3) := by decide +kernel
theorem dX7_loser_30 : decode cX7_loser 30 = .ok (.invokevirtual 155, 3) := by decide +kernel
theorem dX7_loser_33 : decode cX7_loser 33 = .ok (.iconst 0, 1) := by decide +kernel
theorem dX7_loser_34 : decode cX7_loser 34 = .ok (.istore 4, 2) := by decide +kernel
theorem dX7_loser_36 : decode cX7_loser 36 = .ok (.iload 4, 2) := by decide +kernel
theorem dX7_loser_38 : decode cX7_loser 38 = .ok (.aload_n 0, 1) := by decide +kernel
theorem dX7_loser_39 : decode cX7_loser 39 = .ok (.invokevirtual 74, 3) := by decide +kernel
theorem dX7_loser_42 : decode cX7_loser 42 = .ok (.if_icmp .ge 37, 3) := by decide +kernel
theorem dX7_loser_45 : decode cX7_loser 45 = .ok (.iload_n 3, 1) := by decide +kernel
theorem dX7_loser_46 : decode cX7_loser 46 = .ok (.iload 4, 2) := by decide +kernel
theorem dX7_loser_48 : decode cX7_loser 48 = .ok (.iload_n 2, 1) := by decide +kernel
theorem dX7_loser_49 : decode cX7_loser 49 = .ok (.if_icmp .eq 21, 3) := by decide +kernel
theorem dX7_loser_52 : decode cX7_loser 52 = .ok (.aload_n 0, 1) := by decide +kernel
theorem dX7_loser_53 : decode cX7_loser 53 = .ok (.iload_n 1, 1) := by decide +kernel
theorem dX7_loser_54 : decode cX7_loser 54 = .ok (.iload 4, 2) := by decide +kernel
theorem dX7_loser_56 : decode cX7_loser 56 = .ok (.invokevirtual 178, 3) := by decide +kernel
theorem dX7_loser_59 : decode cX7_loser 59 = .ok (.iload_n 2, 1) := by decide +kernel
theorem dX7_loser_60 : decode cX7_loser 60 = .ok (.if_icmp .ne 10, 3) := by decide +kernel
theorem dX7_loser_63 : decode cX7_loser 63 = .ok (.iconst 1, 1) := by decide +kernel
theorem dX7_loser_64 : decode cX7_loser 64 = .ok (.iload 4, 2) := by decide +kernel
theorem dX7_loser_66 : decode cX7_loser 66 = .ok (.ishl, 1) := by decide +kernel
theorem dX7_loser_67 : decode cX7_loser 67 = .ok (.goto 4, 3) := by decide +kernel
theorem dX7_loser_70 : decode cX7_loser 70 = .ok (.iconst 0, 1) := by decide +kernel
theorem dX7_loser_71 : decode cX7_loser 71 = .ok (.ior, 1) := by decide +kernel
theorem dX7_loser_72 : decode cX7_loser 72 = .ok (.istore_n 3, 1) := by decide +kernel
theorem dX7_loser_73 : decode cX7_loser 73 = .ok (.iinc 4 1, 3) := by decide +kernel
theorem dX7_loser_76 : decode cX7_loser 76 = .ok (.goto (-40), 3) := by decide +kernel
theorem dX7_loser_79 : decode cX7_loser 79 = .ok (.iload_n 3, 1) := by decide +kernel
theorem dX7_loser_80 : decode cX7_loser 80 = .ok (.ireturn, 1) := by decide +kernel
set_option maxRecDepth 20000 in
theorem ggX7_note_X7_isOne : GoodIn wsX7_note wsX7_isOne := goodIn_r _ [8, 9, 10, 11, 7, 12, 3, 13, 14, 15, 33, 34, 35, 36, 37, 38, 39, 40, 41, 42, 43, 44, 45, 46, 47, 48, 49, 50, 51, 52, 53, 54, 55, 56, 57] (by decide +kernel) (by decide +kernel)
set_option maxRecDepth 20000 in
theorem gX7_note_X7_isOne : GoodIn wsX7_note (wsV RX7 111 RX7 yX7_isOne wsX7_isOne) := goodIn_app (goodIn_of _ (by decide +kernel)) ggX7_note_X7_isOne
set_option maxRecDepth 20000 in
theorem ggX7_note_X7_isNeed : GoodIn wsX7_note wsX7_isNeed := goodIn_r _ [18, 19, 13, 14, 7, 15] (by decide +kernel) (by decide +kernel)
set_option maxRecDepth 20000 in
theorem gX7_note_X7_isNeed : GoodIn wsX7_note (va_wsS RX7 93 yX7_isNeed wsX7_isNeed) := goodIn_app (goodIn_of _ (by decide +kernel)) ggX7_note_X7_isNeed
set_option maxRecDepth 20000 in
theorem ggX7_note_X7_isSort : GoodIn wsX7_note wsX7_isSort := goodIn_r _ [22, 23, 13, 14, 7, 15] (by decide +kernel) (by decide +kernel)
set_option maxRecDepth 20000 in
theorem gX7_note_X7_isSort : GoodIn wsX7_note (va_wsS RX7 108 yX7_isSort wsX7_isSort) := goodIn_app (goodIn_of _ (by decide +kernel)) ggX7_note_X7_isSort
set_option maxRecDepth 20000 in
theorem ggX7_note_X7_in : GoodIn wsX7_note wsX7_in := goodIn_r _ [15] (by decide +kernel) (by decide +kernel)
set_option maxRecDepth 20000 in
theorem gX7_note_X7_in : GoodIn wsX7_note (va_wsS RX7 78 yX7_in wsX7_in) := goodIn_app (goodIn_of _ (by decide +kernel)) ggX7_note_X7_in
set_option maxRecDepth 20000 in
theorem ggX7_note_X7_bad : GoodIn wsX7_note wsX7_bad := goodIn_r _ [27, 28, 33, 34, 35, 36, 37, 38, 39, 40, 41, 42, 43, 44, 45, 46, 47, 48, 49, 50, 51, 52, 53, 54, 55, 56, 57] (by decide +kernel) (by decide +kernel)
set_option maxRecDepth 20000 in
theorem gX7_note_X7_bad : GoodIn wsX7_note (wsV RX7 97 RX7 yX7_bad wsX7_bad) := goodIn_app (goodIn_of _ (by decide +kernel)) ggX7_note_X7_bad
set_option maxRecDepth 20000 in
theorem ggX7_note_X7_full : GoodIn wsX7_note wsX7_full := goodIn_r _ [32, 28, 33, 34, 35, 36, 37, 38, 39, 40, 41, 42, 43, 44, 45, 46, 47, 48, 49, 50, 51, 52, 53, 54, 55, 56, 57] (by decide +kernel) (by decide +kernel)
set_option maxRecDepth 20000 in
theorem gX7_note_X7_full : GoodIn wsX7_note (wsV RX7 101 RX7 yX7_full wsX7_full) := goodIn_app (goodIn_of _ (by decide +kernel)) ggX7_note_X7_full
theorem dX7_note_0 : decode cX7_note 0 = .ok (.aload_n 0, 1) := by decide +kernel
theorem dX7_note_1 : decode cX7_note 1 = .ok (.iload_n 1, 1) := by decide +kernel
theorem dX7_note_2 : decode cX7_note 2 = .ok (.invokevirtual 111, 3) := by decide +kernel
theorem dX7_note_5 : decode cX7_note 5 = .ok (.ifCond .eq 51, 3) := by decide +kernel
theorem dX7_note_8 : decode cX7_note 8 = .ok (.iload_n 2, 1) := by decide +kernel
theorem dX7_note_9 : decode cX7_note 9 = .ok (.invokestatic 93, 3) := by decide +kernel
theorem dX7_note_12 : decode cX7_note 12 = .ok (.ifCond .eq 44, 3) := by decide +kernel
theorem dX7_note_15 : decode cX7_note 15 = .ok (.iload_n 3, 1) := by decide +kernel
theorem dX7_note_16 : decode cX7_note 16 = .ok (.invokestatic 93, 3) := by decide +kernel
theorem dX7_note_19 : decode cX7_note 19 = .ok (.ifCond .eq 37, 3) := by decide +kernel
theorem dX7_note_22 : decode cX7_note 22 = .ok (.iload 4, 2) := by decide +kernel
theorem dX7_note_24 : decode cX7_note 24 = .ok (.invokestatic 108, 3) := by decide +kernel
theorem dX7_note_27 : decode cX7_note 27 = .ok (.ifCond .eq 29, 3) := by decide +kernel
theorem dX7_note_30 : decode cX7_note 30 = .ok (.iload 5, 2) := by decide +kernel
theorem dX7_note_32 : decode cX7_note 32 = .ok (.i2l, 1) := by decide +kernel
theorem dX7_note_33 : decode cX7_note 33 = .ok (.lconst 0, 1) := by decide +kernel
theorem dX7_note_34 : decode cX7_note 34 = .ok (.ldc2_w 161, 3) := by decide +kernel
theorem dX7_note_37 : decode cX7_note 37 = .ok (.invokestatic 78, 3) := by decide +kernel
theorem dX7_note_40 : decode cX7_note 40 = .ok (.ifCond .eq 16, 3) := by decide +kernel
theorem dX7_note_43 : decode cX7_note 43 = .ok (.iload 6, 2) := by decide +kernel
theorem dX7_note_45 : decode cX7_note 45 = .ok (.i2l, 1) := by decide +kernel
theorem dX7_note_46 : decode cX7_note 46 = .ok (.lconst 0, 1) := by decide +kernel
theorem dX7_note_47 : decode cX7_note 47 = .ok (.ldc2_w 206, 3) := by decide +kernel
theorem dX7_note_50 : decode cX7_note 50 = .ok (.invokestatic 78, 3) := by decide +kernel
theorem dX7_note_53 : decode cX7_note 53 = .ok (.ifCond .ne 10, 3) := by decide +kernel
theorem dX7_note_56 : decode cX7_note 56 = .ok (.aload_n 0, 1) := by decide +kernel
theorem dX7_note_57 : decode cX7_note 57 = .ok (.bipush (-2), 2) := by decide +kernel
theorem dX7_note_59 : decode cX7_note 59 = .ok (.invokevirtual 97, 3) := by decide +kernel
theorem dX7_note_62 : decode cX7_note 62 = .ok (.ireturn, 1) := by decide +kernel
theorem dX7_note_63 : decode cX7_note 63 = .ok (.aload_n 0, 1) := by decide +kernel
theorem dX7_note_64 : decode cX7_note 64 = .ok (.getfield 7, 3) := by decide +kernel
theorem dX7_note_67 : decode cX7_note 67 = .ok (.iconst 2, 1) := by decide +kernel
theorem dX7_note_68 : decode cX7_note 68 = .ok (.iaload, 1) := by decide +kernel
theorem dX7_note_69 : decode cX7_note 69 = .ok (.bipush 6, 2) := by decide +kernel
theorem dX7_note_71 : decode cX7_note 71 = .ok (.if_icmp .ne 8, 3) := by decide +kernel
theorem dX7_note_74 : decode cX7_note 74 = .ok (.aload_n 0, 1) := by decide +kernel
theorem dX7_note_75 : decode cX7_note 75 = .ok (.invokevirtual 101, 3) := by decide +kernel
theorem dX7_note_78 : decode cX7_note 78 = .ok (.ireturn, 1) := by decide +kernel
theorem dX7_note_79 : decode cX7_note 79 = .ok (.bipush 80, 2) := by decide +kernel
theorem dX7_note_81 : decode cX7_note 81 = .ok (.bipush 6, 2) := by decide +kernel
theorem dX7_note_83 : decode cX7_note 83 = .ok (.aload_n 0, 1) := by decide +kernel
theorem dX7_note_84 : decode cX7_note 84 = .ok (.getfield 7, 3) := by decide +kernel
theorem dX7_note_87 : decode cX7_note 87 = .ok (.iconst 2, 1) := by decide +kernel
theorem dX7_note_88 : decode cX7_note 88 = .ok (.iaload, 1) := by decide +kernel
theorem dX7_note_89 : decode cX7_note 89 = .ok (.imul, 1) := by decide +kernel
theorem dX7_note_90 : decode cX7_note 90 = .ok (.iadd, 1) := by decide +kernel
theorem dX7_note_91 : decode cX7_note 91 = .ok (.istore 7, 2) := by decide +kernel
theorem dX7_note_93 : decode cX7_note 93 = .ok (.aload_n 0, 1) := by decide +kernel
theorem dX7_note_94 : decode cX7_note 94 = .ok (.getfield 7, 3) := by decide +kernel
theorem dX7_note_97 : decode cX7_note 97 = .ok (.iload 7, 2) := by decide +kernel
theorem dX7_note_99 : decode cX7_note 99 = .ok (.iload_n 1, 1) := by decide +kernel
theorem dX7_note_100 : decode cX7_note 100 = .ok (.iastore, 1) := by decide +kernel
theorem dX7_note_101 : decode cX7_note 101 = .ok (.aload_n 0, 1) := by decide +kernel
theorem dX7_note_102 : decode cX7_note 102 = .ok (.getfield 7, 3) := by decide +kernel
theorem dX7_note_105 : decode cX7_note 105 = .ok (.iload 7, 2) := by decide +kernel
theorem dX7_note_107 : decode cX7_note 107 = .ok (.iconst 1, 1) := by decide +kernel
theorem dX7_note_108 : decode cX7_note 108 = .ok (.iadd, 1) := by decide +kernel
theorem dX7_note_109 : decode cX7_note 109 = .ok (.iload_n 2, 1) := by decide +kernel
theorem dX7_note_110 : decode cX7_note 110 = .ok (.iastore, 1) := by decide +kernel
theorem dX7_note_111 : decode cX7_note 111 = .ok (.aload_n 0, 1) := by decide +kernel
theorem dX7_note_112 : decode cX7_note 112 = .ok (.getfield 7, 3) := by decide +kernel
theorem dX7_note_115 : decode cX7_note 115 = .ok (.iload 7, 2) := by decide +kernel
theorem dX7_note_117 : decode cX7_note 117 = .ok (.iconst 2, 1) := by decide +kernel
theorem dX7_note_118 : decode cX7_note 118 = .ok (.iadd, 1) := by decide +kernel
theorem dX7_note_119 : decode cX7_note 119 = .ok (.iload_n 3, 1) := by decide +kernel
theorem dX7_note_120 : decode cX7_note 120 = .ok (.iastore, 1) := by decide +kernel
theorem dX7_note_121 : decode cX7_note 121 = .ok (.aload_n 0, 1) := by decide +kernel
theorem dX7_note_122 : decode cX7_note 122 = .ok (.getfield 7, 3) := by decide +kernel
theorem dX7_note_125 : decode cX7_note 125 = .ok (.iload 7, 2) := by decide +kernel
theorem dX7_note_127 : decode cX7_note 127 = .ok (.iconst 3, 1) := by decide +kernel
theorem dX7_note_128 : decode cX7_note 128 = .ok (.iadd, 1) := by decide +kernel
theorem dX7_note_129 : decode cX7_note 129 = .ok (.iload 4, 2) := by decide +kernel
theorem dX7_note_131 : decode cX7_note 131 = .ok (.iastore, 1) := by decide +kernel
theorem dX7_note_132 : decode cX7_note 132 = .ok (.aload_n 0, 1) := by decide +kernel
theorem dX7_note_133 : decode cX7_note 133 = .ok (.getfield 7, 3) := by decide +kernel
theorem dX7_note_136 : decode cX7_note 136 = .ok (.iload 7, 2) := by decide +kernel
theorem dX7_note_138 : decode cX7_note 138 = .ok (.iconst 4, 1) := by decide +kernel
theorem dX7_note_139 : decode cX7_note 139 = .ok (.iadd, 1) := by decide +kernel
theorem dX7_note_140 : decode cX7_note 140 = .ok (.iload 5, 2) := by decide +kernel
theorem dX7_note_142 : decode cX7_note 142 = .ok (.iastore, 1) := by decide +kernel
theorem dX7_note_143 : decode cX7_note 143 = .ok (.aload_n 0, 1) := by decide +kernel
theorem dX7_note_144 : decode cX7_note 144 = .ok (.getfield 7, 3) := by decide +kernel
theorem dX7_note_147 : decode cX7_note 147 = .ok (.iload 7, 2) := by decide +kernel
theorem dX7_note_149 : decode cX7_note 149 = .ok (.iconst 5, 1) := by decide +kernel
theorem dX7_note_150 : decode cX7_note 150 = .ok (.iadd, 1) := by decide +kernel
theorem dX7_note_151 : decode cX7_note 151 = .ok (.iload 6, 2) := by decide +kernel
theorem dX7_note_153 : decode cX7_note 153 = .ok (.iastore, 1) := by decide +kernel
theorem dX7_note_154 : decode cX7_note 154 = .ok (.aload_n 0, 1) := by decide +kernel
theorem dX7_note_155 : decode cX7_note 155 = .ok (.getfield 7, 3) := by decide +kernel
theorem dX7_note_158 : decode cX7_note 158 = .ok (.iconst 2, 1) := by decide +kernel
theorem dX7_note_159 : decode cX7_note 159 = .ok (.dup2, 1) := by decide +kernel
theorem dX7_note_160 : decode cX7_note 160 = .ok (.iaload, 1) := by decide +kernel
theorem dX7_note_161 : decode cX7_note 161 = .ok (.iconst 1, 1) := by decide +kernel
theorem dX7_note_162 : decode cX7_note 162 = .ok (.iadd, 1) := by decide +kernel
theorem dX7_note_163 : decode cX7_note 163 = .ok (.iastore, 1) := by decide +kernel
theorem dX7_note_164 : decode cX7_note 164 = .ok (.aload_n 0, 1) := by decide +kernel
theorem dX7_note_165 : decode cX7_note 165 = .ok (.getfield 7, 3) := by decide +kernel
theorem dX7_note_168 : decode cX7_note 168 = .ok (.iconst 2, 1) := by decide +kernel
theorem dX7_note_169 : decode cX7_note 169 = .ok (.iaload, 1) := by decide +kernel
theorem dX7_note_170 : decode cX7_note 170 = .ok (.ireturn, 1) := by decide +kernel
set_option maxRecDepth 20000 in
theorem ggX7_came_X7_isThing : GoodIn wsX7_came wsX7_isThing := goodIn_r _ [8, 9, 10, 11, 7, 12, 3, 13, 14, 15, 33, 34, 35, 36, 37, 38, 39, 40, 41, 42, 43, 44, 45, 46, 47, 48, 49, 50, 51, 52, 53, 54, 55, 56, 57] (by decide +kernel) (by decide +kernel)
set_option maxRecDepth 20000 in
theorem gX7_came_X7_isThing : GoodIn wsX7_came (wsV RX7 143 RX7 yX7_isThing wsX7_isThing) := goodIn_app (goodIn_of _ (by decide +kernel)) ggX7_came_X7_isThing
set_option maxRecDepth 20000 in
theorem ggX7_came_X7_isOne : GoodIn wsX7_came wsX7_isOne := goodIn_r _ [19, 20, 21, 22, 7, 23, 3, 13, 14, 15, 33, 34, 35, 36, 37, 38, 39, 40, 41, 42, 43, 44, 45, 46, 47, 48, 49, 50, 51, 52, 53, 54, 55, 56, 57] (by decide +kernel) (by decide +kernel)
set_option maxRecDepth 20000 in
theorem gX7_came_X7_isOne : GoodIn wsX7_came (wsV RX7 111 RX7 yX7_isOne wsX7_isOne) := goodIn_app (goodIn_of _ (by decide +kernel)) ggX7_came_X7_isOne
set_option maxRecDepth 20000 in
theorem ggX7_came_X7_in : GoodIn wsX7_came wsX7_in := goodIn_r _ [15] (by decide +kernel) (by decide +kernel)
set_option maxRecDepth 20000 in
theorem gX7_came_X7_in : GoodIn wsX7_came (va_wsS RX7 78 yX7_in wsX7_in) := goodIn_app (goodIn_of _ (by decide +kernel)) ggX7_came_X7_in
set_option maxRecDepth 20000 in
theorem ggX7_came_X7_many : GoodIn wsX7_came wsX7_many := goodIn_r _ [23, 3, 33, 34, 35, 36, 37, 38, 39, 40, 41, 42, 43, 44, 45, 46, 47, 48, 49, 50, 51, 52, 53, 54, 55, 56, 57] (by decide +kernel) (by decide +kernel)
set_option maxRecDepth 20000 in
theorem gX7_came_X7_many : GoodIn wsX7_came (wsV RX7 74 RX7 yX7_many wsX7_many) := goodIn_app (goodIn_of _ (by decide +kernel)) ggX7_came_X7_many
set_option maxRecDepth 20000 in
theorem ggX7_came_X7_bad : GoodIn wsX7_came wsX7_bad := goodIn_r _ [27, 28, 33, 34, 35, 36, 37, 38, 39, 40, 41, 42, 43, 44, 45, 46, 47, 48, 49, 50, 51, 52, 53, 54, 55, 56, 57] (by decide +kernel) (by decide +kernel)
set_option maxRecDepth 20000 in
theorem gX7_came_X7_bad : GoodIn wsX7_came (wsV RX7 97 RX7 yX7_bad wsX7_bad) := goodIn_app (goodIn_of _ (by decide +kernel)) ggX7_came_X7_bad
set_option maxRecDepth 20000 in
theorem ggX7_came_X7_full : GoodIn wsX7_came wsX7_full := goodIn_r _ [32, 28, 33, 34, 35, 36, 37, 38, 39, 40, 41, 42, 43, 44, 45, 46, 47, 48, 49, 50, 51, 52, 53, 54, 55, 56, 57] (by decide +kernel) (by decide +kernel)
set_option maxRecDepth 20000 in
theorem gX7_came_X7_full : GoodIn wsX7_came (wsV RX7 101 RX7 yX7_full wsX7_full) := goodIn_app (goodIn_of _ (by decide +kernel)) ggX7_came_X7_full
theorem dX7_came_0 : decode cX7_came 0 = .ok (.aload_n 0, 1) := by decide +kernel
theorem dX7_came_1 : decode cX7_came 1 = .ok (.iload_n 1, 1) := by decide +kernel
theorem dX7_came_2 : decode cX7_came 2 = .ok (.invokevirtual 143, 3) := by decide +kernel
theorem dX7_came_5 : decode cX7_came 5 = .ok (.ifCond .eq 48, 3) := by decide +kernel
theorem dX7_came_8 : decode cX7_came 8 = .ok (.aload_n 0, 1) := by decide +kernel
theorem dX7_came_9 : decode cX7_came 9 = .ok (.iload_n 2, 1) := by decide +kernel
theorem dX7_came_10 : decode cX7_came 10 = .ok (.invokevirtual 111, 3) := by decide +kernel
theorem dX7_came_13 : decode cX7_came 13 = .ok (.ifCond .eq 40, 3) := by decide +kernel
theorem dX7_came_16 : decode cX7_came 16 = .ok (.iload_n 3, 1) := by decide +kernel
theorem dX7_came_17 : decode cX7_came 17 = .ok (.i2l, 1) := by decide +kernel
theorem dX7_came_18 : decode cX7_came 18 = .ok (.lconst 0, 1) := by decide +kernel
theorem dX7_came_19 : decode cX7_came 19 = .ok (.ldc2_w 161, 3) := by decide +kernel
theorem dX7_came_22 : decode cX7_came 22 = .ok (.invokestatic 78, 3) := by decide +kernel
theorem dX7_came_25 : decode cX7_came 25 = .ok (.ifCond .eq 28, 3) := by decide +kernel
theorem dX7_came_28 : decode cX7_came 28 = .ok (.iload 4, 2) := by decide +kernel
theorem dX7_came_30 : decode cX7_came 30 = .ok (.i2l, 1) := by decide +kernel
theorem dX7_came_31 : decode cX7_came 31 = .ok (.ldc2_w 208, 3) := by decide +kernel
theorem dX7_came_34 : decode cX7_came 34 = .ok (.aload_n 0, 1) := by decide +kernel
theorem dX7_came_35 : decode cX7_came 35 = .ok (.invokevirtual 74, 3) := by decide +kernel
theorem dX7_came_38 : decode cX7_came 38 = .ok (.iconst 1, 1) := by decide +kernel
theorem dX7_came_39 : decode cX7_came 39 = .ok (.isub, 1) := by decide +kernel
theorem dX7_came_40 : decode cX7_came 40 = .ok (.i2l, 1) := by decide +kernel
theorem dX7_came_41 : decode cX7_came 41 = .ok (.invokestatic 78, 3) := by decide +kernel
theorem dX7_came_44 : decode cX7_came 44 = .ok (.ifCond .eq 9, 3) := by decide +kernel
theorem dX7_came_47 : decode cX7_came 47 = .ok (.iload_n 2, 1) := by decide +kernel
theorem dX7_came_48 : decode cX7_came 48 = .ok (.iload 4, 2) := by decide +kernel
theorem dX7_came_50 : decode cX7_came 50 = .ok (.if_icmp .ne 10, 3) := by decide +kernel
theorem dX7_came_53 : decode cX7_came 53 = .ok (.aload_n 0, 1) := by decide +kernel
theorem dX7_came_54 : decode cX7_came 54 = .ok (.bipush (-2), 2) := by decide +kernel
theorem dX7_came_56 : decode cX7_came 56 = .ok (.invokevirtual 97, 3) := by decide +kernel
theorem dX7_came_59 : decode cX7_came 59 = .ok (.ireturn, 1) := by decide +kernel
theorem dX7_came_60 : decode cX7_came 60 = .ok (.aload_n 0, 1) := by decide +kernel
theorem dX7_came_61 : decode cX7_came 61 = .ok (.getfield 7, 3) := by decide +kernel
theorem dX7_came_64 : decode cX7_came 64 = .ok (.iconst 3, 1) := by decide +kernel
theorem dX7_came_65 : decode cX7_came 65 = .ok (.iaload, 1) := by decide +kernel
theorem dX7_came_66 : decode cX7_came 66 = .ok (.bipush 6, 2) := by decide +kernel
theorem dX7_came_68 : decode cX7_came 68 = .ok (.if_icmp .ne 8, 3) := by decide +kernel
theorem dX7_came_71 : decode cX7_came 71 = .ok (.aload_n 0, 1) := by decide +kernel
theorem dX7_came_72 : decode cX7_came 72 = .ok (.invokevirtual 101, 3) := by decide +kernel
theorem dX7_came_75 : decode cX7_came 75 = .ok (.ireturn, 1) := by decide +kernel
theorem dX7_came_76 : decode cX7_came 76 = .ok (.bipush 116, 2) := by decide +kernel
theorem dX7_came_78 : decode cX7_came 78 = .ok (.iconst 4, 1) := by decide +kernel
theorem dX7_came_79 : decode cX7_came 79 = .ok (.aload_n 0, 1) := by decide +kernel
theorem dX7_came_80 : decode cX7_came 80 = .ok (.getfield 7, 3) := by decide +kernel
theorem dX7_came_83 : decode cX7_came 83 = .ok (.iconst 3, 1) := by decide +kernel
theorem dX7_came_84 : decode cX7_came 84 = .ok (.iaload, 1) := by decide +kernel
theorem dX7_came_85 : decode cX7_came 85 = .ok (.imul, 1) := by decide +kernel
theorem dX7_came_86 : decode cX7_came 86 = .ok (.iadd, 1) := by decide +kernel
theorem dX7_came_87 : decode cX7_came 87 = .ok (.istore 5, 2) := by decide +kernel
theorem dX7_came_89 : decode cX7_came 89 = .ok (.aload_n 0, 1) := by decide +kernel
theorem dX7_came_90 : decode cX7_came 90 = .ok (.getfield 7, 3) := by decide +kernel
theorem dX7_came_93 : decode cX7_came 93 = .ok (.iload 5, 2) := by decide +kernel
theorem dX7_came_95 : decode cX7_came 95 = .ok (.iload_n 1, 1) := by decide +kernel
theorem dX7_came_96 : decode cX7_came 96 = .ok (.iastore, 1) := by decide +kernel
theorem dX7_came_97 : decode cX7_came 97 = .ok (.aload_n 0, 1) := by decide +kernel
theorem dX7_came_98 : decode cX7_came 98 = .ok (.getfield 7, 3) := by decide +kernel
theorem dX7_came_101 : decode cX7_came 101 = .ok (.iload 5, 2) := by decide +kernel
theorem dX7_came_103 : decode cX7_came 103 = .ok (.iconst 1, 1) := by decide +kernel
theorem dX7_came_104 : decode cX7_came 104 = .ok (.iadd, 1) := by decide +kernel
theorem dX7_came_105 : decode cX7_came 105 = .ok (.iload_n 2, 1) := by decide +kernel
theorem dX7_came_106 : decode cX7_came 106 = .ok (.iastore, 1) := by decide +kernel
theorem dX7_came_107 : decode cX7_came 107 = .ok (.aload_n 0, 1) := by decide +kernel
theorem dX7_came_108 : decode cX7_came 108 = .ok (.getfield 7, 3) := by decide +kernel
theorem dX7_came_111 : decode cX7_came 111 = .ok (.iload 5, 2) := by decide +kernel
theorem dX7_came_113 : decode cX7_came 113 = .ok (.iconst 2, 1) := by decide +kernel
theorem dX7_came_114 : decode cX7_came 114 = .ok (.iadd, 1) := by decide +kernel
theorem dX7_came_115 : decode cX7_came 115 = .ok (.iload_n 3, 1) := by decide +kernel
theorem dX7_came_116 : decode cX7_came 116 = .ok (.iastore, 1) := by decide +kernel
theorem dX7_came_117 : decode cX7_came 117 = .ok (.aload_n 0, 1) := by decide +kernel
theorem dX7_came_118 : decode cX7_came 118 = .ok (.getfield 7, 3) := by decide +kernel
theorem dX7_came_121 : decode cX7_came 121 = .ok (.iload 5, 2) := by decide +kernel
theorem dX7_came_123 : decode cX7_came 123 = .ok (.iconst 3, 1) := by decide +kernel
theorem dX7_came_124 : decode cX7_came 124 = .ok (.iadd, 1) := by decide +kernel
theorem dX7_came_125 : decode cX7_came 125 = .ok (.iload 4, 2) := by decide +kernel
theorem dX7_came_127 : decode cX7_came 127 = .ok (.iastore, 1) := by decide +kernel
theorem dX7_came_128 : decode cX7_came 128 = .ok (.aload_n 0, 1) := by decide +kernel
theorem dX7_came_129 : decode cX7_came 129 = .ok (.getfield 7, 3) := by decide +kernel
theorem dX7_came_132 : decode cX7_came 132 = .ok (.iconst 3, 1) := by decide +kernel
theorem dX7_came_133 : decode cX7_came 133 = .ok (.dup2, 1) := by decide +kernel
theorem dX7_came_134 : decode cX7_came 134 = .ok (.iaload, 1) := by decide +kernel
theorem dX7_came_135 : decode cX7_came 135 = .ok (.iconst 1, 1) := by decide +kernel
theorem dX7_came_136 : decode cX7_came 136 = .ok (.iadd, 1) := by decide +kernel
theorem dX7_came_137 : decode cX7_came 137 = .ok (.iastore, 1) := by decide +kernel
theorem dX7_came_138 : decode cX7_came 138 = .ok (.aload_n 0, 1) := by decide +kernel
theorem dX7_came_139 : decode cX7_came 139 = .ok (.getfield 7, 3) := by decide +kernel
theorem dX7_came_142 : decode cX7_came 142 = .ok (.iconst 3, 1) := by decide +kernel
theorem dX7_came_143 : decode cX7_came 143 = .ok (.iaload, 1) := by decide +kernel
theorem dX7_came_144 : decode cX7_came 144 = .ok (.ireturn, 1) := by decide +kernel
set_option maxRecDepth 20000 in
theorem ggX7_forget_X7_in : GoodIn wsX7_forget wsX7_in := goodIn_r _ [5] (by decide +kernel) (by decide +kernel)
set_option maxRecDepth 20000 in
theorem gX7_forget_X7_in : GoodIn wsX7_forget (va_wsS RX7 78 yX7_in wsX7_in) := goodIn_app (goodIn_of _ (by decide +kernel)) ggX7_forget_X7_in
set_option maxRecDepth 20000 in
theorem ggX7_forget_X7_bad : GoodIn wsX7_forget wsX7_bad := goodIn_r _ [9, 10, 11, 12, 13, 14, 15, 16, 17, 18, 19, 20, 21, 22, 23, 24, 25, 26, 27, 28, 29, 30, 31, 32, 33, 34, 35] (by decide +kernel) (by decide +kernel)
set_option maxRecDepth 20000 in
theorem gX7_forget_X7_bad : GoodIn wsX7_forget (wsV RX7 97 RX7 yX7_bad wsX7_bad) := goodIn_app (goodIn_of _ (by decide +kernel)) ggX7_forget_X7_bad
theorem dX7_forget_0 : decode cX7_forget 0 = .ok (.iload_n 1, 1) := by decide +kernel
theorem dX7_forget_1 : decode cX7_forget 1 = .ok (.i2l, 1) := by decide +kernel
theorem dX7_forget_2 : decode cX7_forget 2 = .ok (.lconst 0, 1) := by decide +kernel
theorem dX7_forget_3 : decode cX7_forget 3 = .ok (.lconst 1, 1) := by decide +kernel
theorem dX7_forget_4 : decode cX7_forget 4 = .ok (.invokestatic 78, 3) := by decide +kernel
theorem dX7_forget_7 : decode cX7_forget 7 = .ok (.ifCond .ne 10, 3) := by decide +kernel
theorem dX7_forget_10 : decode cX7_forget 10 = .ok (.aload_n 0, 1) := by decide +kernel
theorem dX7_forget_11 : decode cX7_forget 11 = .ok (.bipush (-2), 2) := by decide +kernel
theorem dX7_forget_13 : decode cX7_forget 13 = .ok (.invokevirtual 97, 3) := by decide +kernel
theorem dX7_forget_16 : decode cX7_forget 16 = .ok (.ireturn, 1) := by decide +kernel
theorem dX7_forget_17 : decode cX7_forget 17 = .ok (.aload_n 0, 1) := by decide +kernel
theorem dX7_forget_18 : decode cX7_forget 18 = .ok (.getfield 7, 3) := by decide +kernel
theorem dX7_forget_21 : decode cX7_forget 21 = .ok (.iconst 2, 1) := by decide +kernel
theorem dX7_forget_22 : decode cX7_forget 22 = .ok (.iload_n 1, 1) := by decide +kernel
theorem dX7_forget_23 : decode cX7_forget 23 = .ok (.iadd, 1) := by decide +kernel
theorem dX7_forget_24 : decode cX7_forget 24 = .ok (.iaload, 1) := by decide +kernel
theorem dX7_forget_25 : decode cX7_forget 25 = .ok (.istore_n 2, 1) := by decide +kernel
theorem dX7_forget_26 : decode cX7_forget 26 = .ok (.aload_n 0, 1) := by decide +kernel
theorem dX7_forget_27 : decode cX7_forget 27 = .ok (.getfield 7, 3) := by decide +kernel
theorem dX7_forget_30 : decode cX7_forget 30 = .ok (.iconst 2, 1) := by decide +kernel
theorem dX7_forget_31 : decode cX7_forget 31 = .ok (.iload_n 1, 1) := by decide +kernel
theorem dX7_forget_32 : decode cX7_forget 32 = .ok (.iadd, 1) := by decide +kernel
theorem dX7_forget_33 : decode cX7_forget 33 = .ok (.iconst 0, 1) := by decide +kernel
theorem dX7_forget_34 : decode cX7_forget 34 = .ok (.iastore, 1) := by decide +kernel
theorem dX7_forget_35 : decode cX7_forget 35 = .ok (.iload_n 2, 1) := by decide +kernel
theorem dX7_forget_36 : decode cX7_forget 36 = .ok (.ireturn, 1) := by decide +kernel
set_option maxRecDepth 20000 in
theorem ggX7_kindsOf_X7_showsAs : GoodIn wsX7_kindsOf wsX7_showsAs := goodIn_r _ [5] (by decide +kernel) (by decide +kernel)
set_option maxRecDepth 20000 in
theorem gX7_kindsOf_X7_showsAs : GoodIn wsX7_kindsOf (va_wsS RX7 118 yX7_showsAs wsX7_showsAs) := goodIn_app (goodIn_of _ (by decide +kernel)) ggX7_kindsOf_X7_showsAs
theorem dX7_kindsOf_0 : decode cX7_kindsOf 0 = .ok (.iconst 0, 1) := by decide +kernel
theorem dX7_kindsOf_1 : decode cX7_kindsOf 1 = .ok (.istore_n 2, 1) := by decide +kernel
theorem dX7_kindsOf_2 : decode cX7_kindsOf 2 = .ok (.iconst 0, 1) := by decide +kernel
theorem dX7_kindsOf_3 : decode cX7_kindsOf 3 = .ok (.istore_n 3, 1) := by decide +kernel
theorem dX7_kindsOf_4 : decode cX7_kindsOf 4 = .ok (.iload_n 3, 1) := by decide +kernel
theorem dX7_kindsOf_5 : decode cX7_kindsOf 5 = .ok (.bipush 6, 2) := by decide +kernel
theorem dX7_kindsOf_7 : decode cX7_kindsOf 7 = .ok (.if_icmp .ge 132, 3) := by decide +kernel
theorem dX7_kindsOf_10 : decode cX7_kindsOf 10 = .ok (.iconst 1, 1) := by decide +kernel
theorem dX7_kindsOf_11 : decode cX7_kindsOf 11 = .ok (.istore 4, 2) := by decide +kernel
theorem dX7_kindsOf_13 : decode cX7_kindsOf 13 = .ok (.iconst 0, 1) := by decide +kernel
theorem dX7_kindsOf_14 : decode cX7_kindsOf 14 = .ok (.istore 5, 2) := by decide +kernel
theorem dX7_kindsOf_16 : decode cX7_kindsOf 16 = .ok (.iload 5, 2) := by decide +kernel
theorem dX7_kindsOf_18 : decode cX7_kindsOf 18 = .ok (.aload_n 0, 1) := by decide +kernel
theorem dX7_kindsOf_19 : decode cX7_kindsOf 19 = .ok (.getfield 7, 3) := by decide +kernel
theorem dX7_kindsOf_22 : decode cX7_kindsOf 22 = .ok (.iconst 2, 1) := by decide +kernel
theorem dX7_kindsOf_23 : decode cX7_kindsOf 23 = .ok (.iaload, 1) := by decide +kernel
theorem dX7_kindsOf_24 : decode cX7_kindsOf 24 = .ok (.if_icmp .ge 94, 3) := by decide +kernel
theorem dX7_kindsOf_27 : decode cX7_kindsOf 27 = .ok (.bipush 80, 2) := by decide +kernel
theorem dX7_kindsOf_29 : decode cX7_kindsOf 29 = .ok (.bipush 6, 2) := by decide +kernel
theorem dX7_kindsOf_31 : decode cX7_kindsOf 31 = .ok (.iload 5, 2) := by decide +kernel
theorem dX7_kindsOf_33 : decode cX7_kindsOf 33 = .ok (.imul, 1) := by decide +kernel
theorem dX7_kindsOf_34 : decode cX7_kindsOf 34 = .ok (.iadd, 1) := by decide +kernel
theorem dX7_kindsOf_35 : decode cX7_kindsOf 35 = .ok (.istore 6, 2) := by decide +kernel
theorem dX7_kindsOf_37 : decode cX7_kindsOf 37 = .ok (.iload 4, 2) := by decide +kernel
theorem dX7_kindsOf_39 : decode cX7_kindsOf 39 = .ok (.ifCond .eq 70, 3) := by decide +kernel
theorem dX7_kindsOf_42 : decode cX7_kindsOf 42 = .ok (.aload_n 0, 1) := by decide +kernel
theorem dX7_kindsOf_43 : decode cX7_kindsOf 43 = .ok (.getfield 7, 3) := by decide +kernel
theorem dX7_kindsOf_46 : decode cX7_kindsOf 46 = .ok (.iload 6, 2) := by decide +kernel
theorem dX7_kindsOf_48 : decode cX7_kindsOf 48 = .ok (.iaload, 1) := by decide +kernel
theorem dX7_kindsOf_49 : decode cX7_kindsOf 49 = .ok (.iload_n 1, 1) := by decide +kernel
theorem dX7_kindsOf_50 : decode cX7_kindsOf 50 = .ok (.if_icmp .ne 55, 3) := by decide +kernel
theorem dX7_kindsOf_53 : decode cX7_kindsOf 53 = .ok (.iload_n 3, 1) := by decide +kernel
theorem dX7_kindsOf_54 : decode cX7_kindsOf 54 = .ok (.aload_n 0, 1) := by decide +kernel
theorem dX7_kindsOf_55 : decode cX7_kindsOf 55 = .ok (.getfield 7, 3) := by decide +kernel
theorem dX7_kindsOf_58 : decode cX7_kindsOf 58 = .ok (.iload 6, 2) := by decide +kernel
theorem dX7_kindsOf_60 : decode cX7_kindsOf 60 = .ok (.iconst 3, 1) := by decide +kernel
theorem dX7_kindsOf_61 : decode cX7_kindsOf 61 = .ok (.iadd, 1) := by decide +kernel
theorem dX7_kindsOf_62 : decode cX7_kindsOf 62 = .ok (.iaload, 1) := by decide +kernel
theorem dX7_kindsOf_63 : decode cX7_kindsOf 63 = .ok (.aload_n 0, 1) := by decide +kernel
theorem dX7_kindsOf_64 : decode cX7_kindsOf 64 = .ok (.getfield 7, 3) := by decide +kernel
theorem dX7_kindsOf_67 : decode cX7_kindsOf 67 = .ok (.iload 6, 2) := by decide +kernel
theorem dX7_kindsOf_69 : decode cX7_kindsOf 69 = .ok (.iconst 4, 1) := by decide +kernel
theorem dX7_kindsOf_70 : decode cX7_kindsOf 70 = .ok (.iadd, 1) := by decide +kernel
theorem dX7_kindsOf_71 : decode cX7_kindsOf 71 = .ok (.iaload, 1) := by decide +kernel
theorem dX7_kindsOf_72 : decode cX7_kindsOf 72 = .ok (.aload_n 0, 1) := by decide +kernel
theorem dX7_kindsOf_73 : decode cX7_kindsOf 73 = .ok (.getfield 7, 3) := by decide +kernel
theorem dX7_kindsOf_76 : decode cX7_kindsOf 76 = .ok (.iload 6, 2) := by decide +kernel
theorem dX7_kindsOf_78 : decode cX7_kindsOf 78 = .ok (.iconst 1, 1) := by decide +kernel
theorem dX7_kindsOf_79 : decode cX7_kindsOf 79 = .ok (.iadd, 1) := by decide +kernel
theorem dX7_kindsOf_80 : decode cX7_kindsOf 80 = .ok (.iaload, 1) := by decide +kernel
theorem dX7_kindsOf_81 : decode cX7_kindsOf 81 = .ok (.aload_n 0, 1) := by decide +kernel
theorem dX7_kindsOf_82 : decode cX7_kindsOf 82 = .ok (.getfield 7, 3) := by decide +kernel
theorem dX7_kindsOf_85 : decode cX7_kindsOf 85 = .ok (.iload 6, 2) := by decide +kernel
theorem dX7_kindsOf_87 : decode cX7_kindsOf 87 = .ok (.iconst 2, 1) := by decide +kernel
theorem dX7_kindsOf_88 : decode cX7_kindsOf 88 = .ok (.iadd, 1) := by decide +kernel
theorem dX7_kindsOf_89 : decode cX7_kindsOf 89 = .ok (.iaload, 1) := by decide +kernel
theorem dX7_kindsOf_90 : decode cX7_kindsOf 90 = .ok (.invokestatic 118, 3) := by decide +kernel
theorem dX7_kindsOf_93 : decode cX7_kindsOf 93 = .ok (.aload_n 0, 1) := by decide +kernel
theorem dX7_kindsOf_94 : decode cX7_kindsOf 94 = .ok (.getfield 7, 3) := by decide +kernel
theorem dX7_kindsOf_97 : decode cX7_kindsOf 97 = .ok (.iload 6, 2) := by decide +kernel
theorem dX7_kindsOf_99 : decode cX7_kindsOf 99 = .ok (.iconst 5, 1) := by decide +kernel
theorem dX7_kindsOf_100 : decode cX7_kindsOf 100 = .ok (.iadd, 1) := by decide +kernel
theorem dX7_kindsOf_101 : decode cX7_kindsOf 101 = .ok (.iaload, 1) := by decide +kernel
theorem dX7_kindsOf_102 : decode cX7_kindsOf 102 = .ok (.if_icmp .ne 7, 3) := by decide +kernel
theorem dX7_kindsOf_105 : decode cX7_kindsOf 105 = .ok (.iconst 1, 1) := by decide +kernel
theorem dX7_kindsOf_106 : decode cX7_kindsOf 106 = .ok (.goto 4, 3) := by decide +kernel
theorem dX7_kindsOf_109 : decode cX7_kindsOf 109 = .ok (.iconst 0, 1) := by decide +kernel
theorem dX7_kindsOf_110 : decode cX7_kindsOf 110 = .ok (.istore 4, 2) := by decide +kernel
theorem dX7_kindsOf_112 : decode cX7_kindsOf 112 = .ok (.iinc 5 1, 3) := by decide +kernel
theorem dX7_kindsOf_115 : decode cX7_kindsOf 115 = .ok (.goto (-99), 3) := by decide +kernel
theorem dX7_kindsOf_118 : decode cX7_kindsOf 118 = .ok (.iload_n 2, 1) := by decide +kernel
theorem dX7_kindsOf_119 : decode cX7_kindsOf 119 = .ok (.iload 4, 2) := by decide +kernel
theorem dX7_kindsOf_121 : decode cX7_kindsOf 121 = .ok (.ifCond .eq 9, 3) := by decide +kernel
theorem dX7_kindsOf_124 : decode cX7_kindsOf 124 = .ok (.iconst 1, 1) := by decide +kernel
theorem dX7_kindsOf_125 : decode cX7_kindsOf 125 = .ok (.iload_n 3, 1) := by decide +kernel
theorem dX7_kindsOf_126 : decode cX7_kindsOf 126 = .ok (.ishl, 1) := by decide +kernel
theorem dX7_kindsOf_127 : decode cX7_kindsOf 127 = .ok (.goto 4, 3) := by decide +kernel
theorem dX7_kindsOf_130 : decode cX7_kindsOf 130 = .ok (.iconst 0, 1) := by decide +kernel
theorem dX7_kindsOf_131 : decode cX7_kindsOf 131 = .ok (.ior, 1) := by decide +kernel
theorem dX7_kindsOf_132 : decode cX7_kindsOf 132 = .ok (.istore_n 2, 1) := by decide +kernel
theorem dX7_kindsOf_133 : decode cX7_kindsOf 133 = .ok (.iinc 3 1, 3) := by decide +kernel
theorem dX7_kindsOf_136 : decode cX7_kindsOf 136 = .ok (.goto (-132), 3) := by decide +kernel
theorem dX7_kindsOf_139 : decode cX7_kindsOf 139 = .ok (.iload_n 2, 1) := by decide +kernel
theorem dX7_kindsOf_140 : decode cX7_kindsOf 140 = .ok (.ireturn, 1) := by decide +kernel
set_option maxRecDepth 20000 in
theorem ggX7_is_X7_isOne : GoodIn wsX7_is wsX7_isOne := goodIn_r _ [5, 6, 7, 8, 4, 9, 10, 11, 12, 13, 26, 27, 28, 29, 30, 31, 32, 33, 34, 35, 36, 37, 38, 39, 40, 41, 42, 43, 44, 45, 46, 47, 48, 49, 50] (by decide +kernel) (by decide +kernel)
set_option maxRecDepth 20000 in
theorem gX7_is_X7_isOne : GoodIn wsX7_is (wsV RX7 111 RX7 yX7_isOne wsX7_isOne) := goodIn_app (goodIn_of _ (by decide +kernel)) ggX7_is_X7_isOne
set_option maxRecDepth 20000 in
theorem ggX7_is_X7_kindsOf : GoodIn wsX7_is wsX7_kindsOf := goodIn_r _ [17, 10, 18, 19, 4, 20, 26, 27, 28, 29, 30, 31, 32, 33, 34, 35, 36, 37, 38, 39, 40, 41, 42, 43, 44, 45, 46, 47, 48, 49, 50] (by decide +kernel) (by decide +kernel)
set_option maxRecDepth 20000 in
theorem gX7_is_X7_kindsOf : GoodIn wsX7_is (wsV RX7 210 RX7 yX7_kindsOf wsX7_kindsOf) := goodIn_app (goodIn_of _ (by decide +kernel)) ggX7_is_X7_kindsOf
set_option maxRecDepth 20000 in
theorem ggX7_is_X7_bad : GoodIn wsX7_is wsX7_bad := goodIn_r _ [24, 25, 26, 27, 28, 29, 30, 31, 32, 33, 34, 35, 36, 37, 38, 39, 40, 41, 42, 43, 44, 45, 46, 47, 48, 49, 50] (by decide +kernel) (by decide +kernel)
set_option maxRecDepth 20000 in
theorem gX7_is_X7_bad : GoodIn wsX7_is (wsV RX7 97 RX7 yX7_bad wsX7_bad) := goodIn_app (goodIn_of _ (by decide +kernel)) ggX7_is_X7_bad
theorem dX7_is_0 : decode cX7_is 0 = .ok (.aload_n 0, 1) := by decide +kernel
theorem dX7_is_1 : decode cX7_is 1 = .ok (.iload_n 1, 1) := by decide +kernel
theorem dX7_is_2 : decode cX7_is 2 = .ok (.invokevirtual 111, 3) := by decide +kernel
theorem dX7_is_5 : decode cX7_is 5 = .ok (.ifCond .eq 11, 3) := by decide +kernel
theorem dX7_is_8 : decode cX7_is 8 = .ok (.aload_n 0, 1) := by decide +kernel
theorem dX7_is_9 : decode cX7_is 9 = .ok (.iload_n 1, 1) := by decide +kernel
theorem dX7_is_10 : decode cX7_is 10 = .ok (.invokevirtual 210, 3) := by decide +kernel
theorem dX7_is_13 : decode cX7_is 13 = .ok (.goto 9, 3) := by decide +kernel
theorem dX7_is_16 : decode cX7_is 16 = .ok (.aload_n 0, 1) := by decide +kernel
theorem dX7_is_17 : decode cX7_is 17 = .ok (.bipush (-2), 2) := by decide +kernel
theorem dX7_is_19 : decode cX7_is 19 = .ok (.invokevirtual 97, 3) := by decide +kernel
theorem dX7_is_22 : decode cX7_is 22 = .ok (.ireturn, 1) := by decide +kernel
set_option maxRecDepth 20000 in
theorem ggX7_watch_X7_isOne : GoodIn wsX7_watch wsX7_isOne := goodIn_r _ [7, 8, 9, 10, 6, 11, 2, 12, 13, 14, 30, 31, 32, 33, 34, 35, 36, 37, 38, 39, 40, 41, 42, 43, 44, 45, 46, 47, 48, 49, 50, 51, 52, 53, 54] (by decide +kernel) (by decide +kernel)
set_option maxRecDepth 20000 in
theorem gX7_watch_X7_isOne : GoodIn wsX7_watch (wsV RX7 111 RX7 yX7_isOne wsX7_isOne) := goodIn_app (goodIn_of _ (by decide +kernel)) ggX7_watch_X7_isOne
set_option maxRecDepth 20000 in
theorem ggX7_watch_X7_bad : GoodIn wsX7_watch wsX7_bad := goodIn_r _ [18, 19, 30, 31, 32, 33, 34, 35, 36, 37, 38, 39, 40, 41, 42, 43, 44, 45, 46, 47, 48, 49, 50, 51, 52, 53, 54] (by decide +kernel) (by decide +kernel)
set_option maxRecDepth 20000 in
theorem gX7_watch_X7_bad : GoodIn wsX7_watch (wsV RX7 97 RX7 yX7_bad wsX7_bad) := goodIn_app (goodIn_of _ (by decide +kernel)) ggX7_watch_X7_bad
set_option maxRecDepth 20000 in
theorem ggX7_watch_X7_kindsOf : GoodIn wsX7_watch wsX7_kindsOf := goodIn_r _ [23, 2, 24, 25, 6, 26, 30, 31, 32, 33, 34, 35, 36, 37, 38, 39, 40, 41, 42, 43, 44, 45, 46, 47, 48, 49, 50, 51, 52, 53, 54] (by decide +kernel) (by decide +kernel)
set_option maxRecDepth 20000 in
theorem gX7_watch_X7_kindsOf : GoodIn wsX7_watch (wsV RX7 210 RX7 yX7_kindsOf wsX7_kindsOf) := goodIn_app (goodIn_of _ (by decide +kernel)) ggX7_watch_X7_kindsOf
set_option maxRecDepth 20000 in
theorem ggX7_watch_X7_showsAs : GoodIn wsX7_watch wsX7_showsAs := goodIn_r _ [26] (by decide +kernel) (by decide +kernel)
set_option maxRecDepth 20000 in
theorem gX7_watch_X7_showsAs : GoodIn wsX7_watch (va_wsS RX7 118 yX7_showsAs wsX7_showsAs) := goodIn_app (goodIn_of _ (by decide +kernel)) ggX7_watch_X7_showsAs
set_option maxRecDepth 20000 in
theorem ggX7_watch_X7_has : GoodIn wsX7_watch wsX7_has := goodIn_r _ [29] (by decide +kernel) (by decide +kernel)
set_option maxRecDepth 20000 in
theorem gX7_watch_X7_has : GoodIn wsX7_watch (va_wsS RX7 199 yX7_has wsX7_has) := goodIn_app (goodIn_of _ (by decide +kernel)) ggX7_watch_X7_has
theorem dX7_watch_0 : decode cX7_watch 0 = .ok (.aload_n 0, 1) := by decide +kernel
theorem dX7_watch_1 : decode cX7_watch 1 = .ok (.iload_n 1, 1) := by decide +kernel
theorem dX7_watch_2 : decode cX7_watch 2 = .ok (.invokevirtual 111, 3) := by decide +kernel
theorem dX7_watch_5 : decode cX7_watch 5 = .ok (.ifCond .ne 10, 3) := by decide +kernel
theorem dX7_watch_8 : decode cX7_watch 8 = .ok (.aload_n 0, 1) := by decide +kernel
theorem dX7_watch_9 : decode cX7_watch 9 = .ok (.bipush (-2), 2) := by decide +kernel
theorem dX7_watch_11 : decode cX7_watch 11 = .ok (.invokevirtual 97, 3) := by decide +kernel
theorem dX7_watch_14 : decode cX7_watch 14 = .ok (.ireturn, 1) := by decide +kernel
theorem dX7_watch_15 : decode cX7_watch 15 = .ok (.aload_n 0, 1) := by decide +kernel
theorem dX7_watch_16 : decode cX7_watch 16 = .ok (.iload_n 1, 1) := by decide +kernel
theorem dX7_watch_17 : decode cX7_watch 17 = .ok (.invokevirtual 210, 3) := by decide +kernel
theorem dX7_watch_20 : decode cX7_watch 20 = .ok (.istore_n 2, 1) := by decide +kernel
theorem dX7_watch_21 : decode cX7_watch 21 = .ok (.iconst (-1), 1) := by decide +kernel
theorem dX7_watch_22 : decode cX7_watch 22 = .ok (.istore_n 3, 1) := by decide +kernel
theorem dX7_watch_23 : decode cX7_watch 23 = .ok (.ldc 134, 2) := by decide +kernel
theorem dX7_watch_25 : decode cX7_watch 25 = .ok (.istore 4, 2) := by decide +kernel
theorem dX7_watch_27 : decode cX7_watch 27 = .ok (.iconst 0, 1) := by decide +kernel
theorem dX7_watch_28 : decode cX7_watch 28 = .ok (.istore 5, 2) := by decide +kernel
theorem dX7_watch_30 : decode cX7_watch 30 = .ok (.iload 5, 2) := by decide +kernel
theorem dX7_watch_32 : decode cX7_watch 32 = .ok (.bipush 40, 2) := by decide +kernel
theorem dX7_watch_34 : decode cX7_watch 34 = .ok (.if_icmp .ge 209, 3) := by decide +kernel
theorem dX7_watch_37 : decode cX7_watch 37 = .ok (.iload_n 2, 1) := by decide +kernel
theorem dX7_watch_38 : decode cX7_watch 38 = .ok (.ifCond .le 205, 3) := by decide +kernel
theorem dX7_watch_41 : decode cX7_watch 41 = .ok (.iload 5, 2) := by decide +kernel
theorem dX7_watch_43 : decode cX7_watch 43 = .ok (.bipush 10, 2) := by decide +kernel
theorem dX7_watch_45 : decode cX7_watch 45 = .ok (.idiv, 1) := by decide +kernel
theorem dX7_watch_46 : decode cX7_watch 46 = .ok (.istore 6, 2) := by decide +kernel
theorem dX7_watch_48 : decode cX7_watch 48 = .ok (.iconst 0, 1) := by decide +kernel
theorem dX7_watch_49 : decode cX7_watch 49 = .ok (.istore 7, 2) := by decide +kernel
theorem dX7_watch_51 : decode cX7_watch 51 = .ok (.iconst 0, 1) := by decide +kernel
theorem dX7_watch_52 : decode cX7_watch 52 = .ok (.istore 8, 2) := by decide +kernel
theorem dX7_watch_54 : decode cX7_watch 54 = .ok (.iload 8, 2) := by decide +kernel
theorem dX7_watch_56 : decode cX7_watch 56 = .ok (.bipush 6, 2) := by decide +kernel
theorem dX7_watch_58 : decode cX7_watch 58 = .ok (.if_icmp .ge 149, 3) := by decide +kernel
theorem dX7_watch_61 : decode cX7_watch 61 = .ok (.iconst 0, 1) := by decide +kernel
theorem dX7_watch_62 : decode cX7_watch 62 = .ok (.istore 9, 2) := by decide +kernel
theorem dX7_watch_64 : decode cX7_watch 64 = .ok (.iload 8, 2) := by decide +kernel
theorem dX7_watch_66 : decode cX7_watch 66 = .ok (.iload 6, 2) := by decide +kernel
theorem dX7_watch_68 : decode cX7_watch 68 = .ok (.iload 5, 2) := by decide +kernel
theorem dX7_watch_70 : decode cX7_watch 70 = .ok (.bipush 10, 2) := by decide +kernel
theorem dX7_watch_72 : decode cX7_watch 72 = .ok (.irem, 1) := by decide +kernel
theorem dX7_watch_73 : decode cX7_watch 73 = .ok (.aload_n 0, 1) := by decide +kernel
theorem dX7_watch_74 : decode cX7_watch 74 = .ok (.getfield 7, 3) := by decide +kernel
theorem dX7_watch_77 : decode cX7_watch 77 = .ok (.bipush 37, 2) := by decide +kernel
theorem dX7_watch_79 : decode cX7_watch 79 = .ok (.iconst 4, 1) := by decide +kernel
theorem dX7_watch_80 : decode cX7_watch 80 = .ok (.iload_n 1, 1) := by decide +kernel
theorem dX7_watch_81 : decode cX7_watch 81 = .ok (.imul, 1) := by decide +kernel
theorem dX7_watch_82 : decode cX7_watch 82 = .ok (.iadd, 1) := by decide +kernel
theorem dX7_watch_83 : decode cX7_watch 83 = .ok (.iload 6, 2) := by decide +kernel
theorem dX7_watch_85 : decode cX7_watch 85 = .ok (.iadd, 1) := by decide +kernel
theorem dX7_watch_86 : decode cX7_watch 86 = .ok (.iaload, 1) := by decide +kernel
theorem dX7_watch_87 : decode cX7_watch 87 = .ok (.aload_n 0, 1) := by decide +kernel
theorem dX7_watch_88 : decode cX7_watch 88 = .ok (.getfield 7, 3) := by decide +kernel
theorem dX7_watch_91 : decode cX7_watch 91 = .ok (.bipush 15, 2) := by decide +kernel
theorem dX7_watch_93 : decode cX7_watch 93 = .ok (.iload_n 1, 1) := by decide +kernel
theorem dX7_watch_94 : decode cX7_watch 94 = .ok (.iadd, 1) := by decide +kernel
theorem dX7_watch_95 : decode cX7_watch 95 = .ok (.iaload, 1) := by decide +kernel
theorem dX7_watch_96 : decode cX7_watch 96 = .ok (.invokestatic 118, 3) := by decide +kernel
theorem dX7_watch_99 : decode cX7_watch 99 = .ok (.istore 10, 2) := by decide +kernel
theorem dX7_watch_101 : decode cX7_watch 101 = .ok (.iconst 0, 1) := by decide +kernel
theorem dX7_watch_102 : decode cX7_watch 102 = .ok (.istore 11, 2) := by decide +kernel
theorem dX7_watch_104 : decode cX7_watch 104 = .ok (.iload 11, 2) := by decide +kernel
theorem dX7_watch_106 : decode cX7_watch 106 = .ok (.bipush 6, 2) := by decide +kernel
theorem dX7_watch_108 : decode cX7_watch 108 = .ok (.if_icmp .ge 77, 3) := by decide +kernel
theorem dX7_watch_111 : decode cX7_watch 111 = .ok (.iload_n 2, 1) := by decide +kernel
theorem dX7_watch_112 : decode cX7_watch 112 = .ok (.iload 8, 2) := by decide +kernel
theorem dX7_watch_114 : decode cX7_watch 114 = .ok (.invokestatic 199, 3) := by decide +kernel
theorem dX7_watch_117 : decode cX7_watch 117 = .ok (.ifCond .eq 68, 3) := by decide +kernel
theorem dX7_watch_120 : decode cX7_watch 120 = .ok (.iload 9, 2) := by decide +kernel
theorem dX7_watch_122 : decode cX7_watch 122 = .ok (.iload_n 2, 1) := by decide +kernel
theorem dX7_watch_123 : decode cX7_watch 123 = .ok (.iload 11, 2) := by decide +kernel
theorem dX7_watch_125 : decode cX7_watch 125 = .ok (.invokestatic 199, 3) := by decide +kernel
theorem dX7_watch_128 : decode cX7_watch 128 = .ok (.ifCond .eq 47, 3) := by decide +kernel
theorem dX7_watch_131 : decode cX7_watch 131 = .ok (.iload 11, 2) := by decide +kernel
theorem dX7_watch_133 : decode cX7_watch 133 = .ok (.iload 6, 2) := by decide +kernel
theorem dX7_watch_135 : decode cX7_watch 135 = .ok (.iload 5, 2) := by decide +kernel
theorem dX7_watch_137 : decode cX7_watch 137 = .ok (.bipush 10, 2) := by decide +kernel
theorem dX7_watch_139 : decode cX7_watch 139 = .ok (.irem, 1) := by decide +kernel
theorem dX7_watch_140 : decode cX7_watch 140 = .ok (.aload_n 0, 1) := by decide +kernel
theorem dX7_watch_141 : decode cX7_watch 141 = .ok (.getfield 7, 3) := by decide +kernel
theorem dX7_watch_144 : decode cX7_watch 144 = .ok (.bipush 37, 2) := by decide +kernel
theorem dX7_watch_146 : decode cX7_watch 146 = .ok (.iconst 4, 1) := by decide +kernel
theorem dX7_watch_147 : decode cX7_watch 147 = .ok (.iload_n 1, 1) := by decide +kernel
theorem dX7_watch_148 : decode cX7_watch 148 = .ok (.imul, 1) := by decide +kernel
theorem dX7_watch_149 : decode cX7_watch 149 = .ok (.iadd, 1) := by decide +kernel
theorem dX7_watch_150 : decode cX7_watch 150 = .ok (.iload 6, 2) := by decide +kernel
theorem dX7_watch_152 : decode cX7_watch 152 = .ok (.iadd, 1) := by decide +kernel
theorem dX7_watch_153 : decode cX7_watch 153 = .ok (.iaload, 1) := by decide +kernel
theorem dX7_watch_154 : decode cX7_watch 154 = .ok (.aload_n 0, 1) := by decide +kernel
theorem dX7_watch_155 : decode cX7_watch 155 = .ok (.getfield 7, 3) := by decide +kernel
theorem dX7_watch_158 : decode cX7_watch 158 = .ok (.bipush 15, 2) := by decide +kernel
theorem dX7_watch_160 : decode cX7_watch 160 = .ok (.iload_n 1, 1) := by decide +kernel
theorem dX7_watch_161 : decode cX7_watch 161 = .ok (.iadd, 1) := by decide +kernel
theorem dX7_watch_162 : decode cX7_watch 162 = .ok (.iaload, 1) := by decide +kernel
theorem dX7_watch_163 : decode cX7_watch 163 = .ok (.invokestatic 118, 3) := by decide +kernel
theorem dX7_watch_166 : decode cX7_watch 166 = .ok (.iload 10, 2) := by decide +kernel
theorem dX7_watch_168 : decode cX7_watch 168 = .ok (.if_icmp .ne 7, 3) := by decide +kernel
theorem dX7_watch_171 : decode cX7_watch 171 = .ok (.iconst 1, 1) := by decide +kernel
theorem dX7_watch_172 : decode cX7_watch 172 = .ok (.goto 4, 3) := by decide +kernel
theorem dX7_watch_175 : decode cX7_watch 175 = .ok (.iconst 0, 1) := by decide +kernel
theorem dX7_watch_176 : decode cX7_watch 176 = .ok (.iadd, 1) := by decide +kernel
theorem dX7_watch_177 : decode cX7_watch 177 = .ok (.istore 9, 2) := by decide +kernel
theorem dX7_watch_179 : decode cX7_watch 179 = .ok (.iinc 11 1, 3) := by decide +kernel
theorem dX7_watch_182 : decode cX7_watch 182 = .ok (.goto (-78), 3) := by decide +kernel
theorem dX7_watch_185 : decode cX7_watch 185 = .ok (.iload 9, 2) := by decide +kernel
theorem dX7_watch_187 : decode cX7_watch 187 = .ok (.iload 7, 2) := by decide +kernel
theorem dX7_watch_189 : decode cX7_watch 189 = .ok (.if_icmp .le 8, 3) := by decide +kernel
theorem dX7_watch_192 : decode cX7_watch 192 = .ok (.iload 9, 2) := by decide +kernel
theorem dX7_watch_194 : decode cX7_watch 194 = .ok (.goto 5, 3) := by decide +kernel
theorem dX7_watch_197 : decode cX7_watch 197 = .ok (.iload 7, 2) := by decide +kernel
theorem dX7_watch_199 : decode cX7_watch 199 = .ok (.istore 7, 2) := by decide +kernel
theorem dX7_watch_201 : decode cX7_watch 201 = .ok (.iinc 8 1, 3) := by decide +kernel
theorem dX7_watch_204 : decode cX7_watch 204 = .ok (.goto (-150), 3) := by decide +kernel
theorem dX7_watch_207 : decode cX7_watch 207 = .ok (.iload 7, 2) := by decide +kernel
theorem dX7_watch_209 : decode cX7_watch 209 = .ok (.iload 4, 2) := by decide +kernel
theorem dX7_watch_211 : decode cX7_watch 211 = .ok (.if_icmp .ge 8, 3) := by decide +kernel
theorem dX7_watch_214 : decode cX7_watch 214 = .ok (.iload 5, 2) := by decide +kernel
theorem dX7_watch_216 : decode cX7_watch 216 = .ok (.goto 4, 3) := by decide +kernel
theorem dX7_watch_219 : decode cX7_watch 219 = .ok (.iload_n 3, 1) := by decide +kernel
theorem dX7_watch_220 : decode cX7_watch 220 = .ok (.istore_n 3, 1) := by decide +kernel
theorem dX7_watch_221 : decode cX7_watch 221 = .ok (.iload 7, 2) := by decide +kernel
theorem dX7_watch_223 : decode cX7_watch 223 = .ok (.iload 4, 2) := by decide +kernel
theorem dX7_watch_225 : decode cX7_watch 225 = .ok (.if_icmp .ge 8, 3) := by decide +kernel
theorem dX7_watch_228 : decode cX7_watch 228 = .ok (.iload 7, 2) := by decide +kernel
theorem dX7_watch_230 : decode cX7_watch 230 = .ok (.goto 5, 3) := by decide +kernel
theorem dX7_watch_233 : decode cX7_watch 233 = .ok (.iload 4, 2) := by decide +kernel
theorem dX7_watch_235 : decode cX7_watch 235 = .ok (.istore 4, 2) := by decide +kernel
theorem dX7_watch_237 : decode cX7_watch 237 = .ok (.iinc 5 1, 3) := by decide +kernel
theorem dX7_watch_240 : decode cX7_watch 240 = .ok (.goto (-210), 3) := by decide +kernel
theorem dX7_watch_243 : decode cX7_watch 243 = .ok (.iload_n 3, 1) := by decide +kernel
theorem dX7_watch_244 : decode cX7_watch 244 = .ok (.ireturn, 1) := by decide +kernel
set_option maxRecDepth 20000 in
theorem ggX7_kindsOfThing_X7_layCoats : GoodIn wsX7_kindsOfThing wsX7_layCoats := goodIn_r _ [6, 7, 30, 31, 32, 33, 34, 35, 36, 37, 38, 39, 40, 41, 42, 43, 44, 45, 46, 47, 48, 49, 50, 51, 52, 53, 54] (by decide +kernel) (by decide +kernel)
set_option maxRecDepth 20000 in
theorem gX7_kindsOfThing_X7_layCoats : GoodIn wsX7_kindsOfThing (wsV RX7 155 RX7 yX7_layCoats wsX7_layCoats) := goodIn_app (goodIn_of _ (by decide +kernel)) ggX7_kindsOfThing_X7_layCoats
set_option maxRecDepth 20000 in
theorem ggX7_kindsOfThing_X7_comesTo : GoodIn wsX7_kindsOfThing wsX7_comesTo := goodIn_r _ [11, 12, 13, 14, 15, 5, 16, 17, 18, 19, 20, 21, 22, 23, 7, 24, 25, 26, 27, 28, 29, 30, 31, 32, 33, 34, 35, 36, 37, 38, 39, 40, 41, 42, 43, 44, 45, 46, 47, 48, 49, 50, 51, 52, 53, 54] (by decide +kernel) (by decide +kernel)
set_option maxRecDepth 20000 in
theorem gX7_kindsOfThing_X7_comesTo : GoodIn wsX7_kindsOfThing (wsV RX7 139 RX7 yX7_comesTo wsX7_comesTo) := goodIn_app (goodIn_of _ (by decide +kernel)) ggX7_kindsOfThing_X7_comesTo
theorem dX7_kindsOfThing_0 : decode cX7_kindsOfThing 0 = .ok (.iconst 0, 1) := by decide +kernel
theorem dX7_kindsOfThing_1 : decode cX7_kindsOfThing 1 = .ok (.istore_n 2, 1) := by decide +kernel
theorem dX7_kindsOfThing_2 : decode cX7_kindsOfThing 2 = .ok (.aload_n 0, 1) := by decide +kernel
theorem dX7_kindsOfThing_3 : decode cX7_kindsOfThing 3 = .ok (.aload_n 0, 1) := by decide +kernel
theorem dX7_kindsOfThing_4 : decode cX7_kindsOfThing 4 = .ok (.getfield 7, 3) := by decide +kernel
theorem dX7_kindsOfThing_7 : decode cX7_kindsOfThing 7 = .ok (.invokevirtual 155, 3) := by decide +kernel
theorem dX7_kindsOfThing_10 : decode cX7_kindsOfThing 10 = .ok (.iconst 0, 1) := by decide +kernel
theorem dX7_kindsOfThing_11 : decode cX7_kindsOfThing 11 = .ok (.istore_n 3, 1) := by decide +kernel
theorem dX7_kindsOfThing_12 : decode cX7_kindsOfThing 12 = .ok (.iload_n 3, 1) := by decide +kernel
theorem dX7_kindsOfThing_13 : decode cX7_kindsOfThing 13 = .ok (.bipush 6, 2) := by decide +kernel
theorem dX7_kindsOfThing_15 : decode cX7_kindsOfThing 15 = .ok (.if_icmp .ge 127, 3) := by decide +kernel
theorem dX7_kindsOfThing_18 : decode cX7_kindsOfThing 18 = .ok (.iconst 1, 1) := by decide +kernel
theorem dX7_kindsOfThing_19 : decode cX7_kindsOfThing 19 = .ok (.istore 4, 2) := by decide +kernel
theorem dX7_kindsOfThing_21 : decode cX7_kindsOfThing 21 = .ok (.iconst 0, 1) := by decide +kernel
theorem dX7_kindsOfThing_22 : decode cX7_kindsOfThing 22 = .ok (.istore 5, 2) := by decide +kernel
theorem dX7_kindsOfThing_24 : decode cX7_kindsOfThing 24 = .ok (.iload 5, 2) := by decide +kernel
theorem dX7_kindsOfThing_26 : decode cX7_kindsOfThing 26 = .ok (.aload_n 0, 1) := by decide +kernel
theorem dX7_kindsOfThing_27 : decode cX7_kindsOfThing 27 = .ok (.getfield 7, 3) := by decide +kernel
theorem dX7_kindsOfThing_30 : decode cX7_kindsOfThing 30 = .ok (.iconst 3, 1) := by decide +kernel
theorem dX7_kindsOfThing_31 : decode cX7_kindsOfThing 31 = .ok (.iaload, 1) := by decide +kernel
theorem dX7_kindsOfThing_32 : decode cX7_kindsOfThing 32 = .ok (.if_icmp .ge 89, 3) := by decide +kernel
theorem dX7_kindsOfThing_35 : decode cX7_kindsOfThing 35 = .ok (.bipush 116, 2) := by decide +kernel
theorem dX7_kindsOfThing_37 : decode cX7_kindsOfThing 37 = .ok (.iconst 4, 1) := by decide +kernel
theorem dX7_kindsOfThing_38 : decode cX7_kindsOfThing 38 = .ok (.iload 5, 2) := by decide +kernel
theorem dX7_kindsOfThing_40 : decode cX7_kindsOfThing 40 = .ok (.imul, 1) := by decide +kernel
theorem dX7_kindsOfThing_41 : decode cX7_kindsOfThing 41 = .ok (.iadd, 1) := by decide +kernel
theorem dX7_kindsOfThing_42 : decode cX7_kindsOfThing 42 = .ok (.istore 6, 2) := by decide +kernel
theorem dX7_kindsOfThing_44 : decode cX7_kindsOfThing 44 = .ok (.iload 4, 2) := by decide +kernel
theorem dX7_kindsOfThing_46 : decode cX7_kindsOfThing 46 = .ok (.ifCond .eq 66, 3) := by decide +kernel
theorem dX7_kindsOfThing_49 : decode cX7_kindsOfThing 49 = .ok (.aload_n 0, 1) := by decide +kernel
theorem dX7_kindsOfThing_50 : decode cX7_kindsOfThing 50 = .ok (.getfield 7, 3) := by decide +kernel
theorem dX7_kindsOfThing_53 : decode cX7_kindsOfThing 53 = .ok (.iload 6, 2) := by decide +kernel
theorem dX7_kindsOfThing_55 : decode cX7_kindsOfThing 55 = .ok (.iaload, 1) := by decide +kernel
theorem dX7_kindsOfThing_56 : decode cX7_kindsOfThing 56 = .ok (.iload_n 1, 1) := by decide +kernel
theorem dX7_kindsOfThing_57 : decode cX7_kindsOfThing 57 = .ok (.if_icmp .ne 51, 3) := by decide +kernel
theorem dX7_kindsOfThing_60 : decode cX7_kindsOfThing 60 = .ok (.aload_n 0, 1) := by decide +kernel
theorem dX7_kindsOfThing_61 : decode cX7_kindsOfThing 61 = .ok (.aload_n 0, 1) := by decide +kernel
theorem dX7_kindsOfThing_62 : decode cX7_kindsOfThing 62 = .ok (.getfield 7, 3) := by decide +kernel
theorem dX7_kindsOfThing_65 : decode cX7_kindsOfThing 65 = .ok (.iload_n 3, 1) := by decide +kernel
theorem dX7_kindsOfThing_66 : decode cX7_kindsOfThing 66 = .ok (.aload_n 0, 1) := by decide +kernel
theorem dX7_kindsOfThing_67 : decode cX7_kindsOfThing 67 = .ok (.getfield 7, 3) := by decide +kernel
theorem dX7_kindsOfThing_70 : decode cX7_kindsOfThing 70 = .ok (.bipush 70, 2) := by decide +kernel
theorem dX7_kindsOfThing_72 : decode cX7_kindsOfThing 72 = .ok (.iload_n 1, 1) := by decide +kernel
theorem dX7_kindsOfThing_73 : decode cX7_kindsOfThing 73 = .ok (.iadd, 1) := by decide +kernel
theorem dX7_kindsOfThing_74 : decode cX7_kindsOfThing 74 = .ok (.iaload, 1) := by decide +kernel
theorem dX7_kindsOfThing_75 : decode cX7_kindsOfThing 75 = .ok (.aload_n 0, 1) := by decide +kernel
theorem dX7_kindsOfThing_76 : decode cX7_kindsOfThing 76 = .ok (.getfield 7, 3) := by decide +kernel
theorem dX7_kindsOfThing_79 : decode cX7_kindsOfThing 79 = .ok (.iload 6, 2) := by decide +kernel
theorem dX7_kindsOfThing_81 : decode cX7_kindsOfThing 81 = .ok (.iconst 2, 1) := by decide +kernel
theorem dX7_kindsOfThing_82 : decode cX7_kindsOfThing 82 = .ok (.iadd, 1) := by decide +kernel
theorem dX7_kindsOfThing_83 : decode cX7_kindsOfThing 83 = .ok (.iaload, 1) := by decide +kernel
theorem dX7_kindsOfThing_84 : decode cX7_kindsOfThing 84 = .ok (.aload_n 0, 1) := by decide +kernel
theorem dX7_kindsOfThing_85 : decode cX7_kindsOfThing 85 = .ok (.getfield 7, 3) := by decide +kernel
theorem dX7_kindsOfThing_88 : decode cX7_kindsOfThing 88 = .ok (.iload 6, 2) := by decide +kernel
theorem dX7_kindsOfThing_90 : decode cX7_kindsOfThing 90 = .ok (.iconst 1, 1) := by decide +kernel
theorem dX7_kindsOfThing_91 : decode cX7_kindsOfThing 91 = .ok (.iadd, 1) := by decide +kernel
theorem dX7_kindsOfThing_92 : decode cX7_kindsOfThing 92 = .ok (.iaload, 1) := by decide +kernel
theorem dX7_kindsOfThing_93 : decode cX7_kindsOfThing 93 = .ok (.invokevirtual 139, 3) := by decide +kernel
theorem dX7_kindsOfThing_96 : decode cX7_kindsOfThing 96 = .ok (.aload_n 0, 1) := by decide +kernel
theorem dX7_kindsOfThing_97 : decode cX7_kindsOfThing 97 = .ok (.getfield 7, 3) := by decide +kernel
theorem dX7_kindsOfThing_100 : decode cX7_kindsOfThing 100 = .ok (.iload 6, 2) := by decide +kernel
theorem dX7_kindsOfThing_102 : decode cX7_kindsOfThing 102 = .ok (.iconst 3, 1) := by decide +kernel
theorem dX7_kindsOfThing_103 : decode cX7_kindsOfThing 103 = .ok (.iadd, 1) := by decide +kernel
theorem dX7_kindsOfThing_104 : decode cX7_kindsOfThing 104 = .ok (.iaload, 1) := by decide +kernel
theorem dX7_kindsOfThing_105 : decode cX7_kindsOfThing 105 = .ok (.if_icmp .ne 7, 3) := by decide +kernel
theorem dX7_kindsOfThing_108 : decode cX7_kindsOfThing 108 = .ok (.iconst 1, 1) := by decide +kernel
theorem dX7_kindsOfThing_109 : decode cX7_kindsOfThing 109 = .ok (.goto 4, 3) := by decide +kernel
theorem dX7_kindsOfThing_112 : decode cX7_kindsOfThing 112 = .ok (.iconst 0, 1) := by decide +kernel
theorem dX7_kindsOfThing_113 : decode cX7_kindsOfThing 113 = .ok (.istore 4, 2) := by decide +kernel
theorem dX7_kindsOfThing_115 : decode cX7_kindsOfThing 115 = .ok (.iinc 5 1, 3) := by decide +kernel
theorem dX7_kindsOfThing_118 : decode cX7_kindsOfThing 118 = .ok (.goto (-94), 3) := by decide +kernel
theorem dX7_kindsOfThing_121 : decode cX7_kindsOfThing 121 = .ok (.iload_n 2, 1) := by decide +kernel
theorem dX7_kindsOfThing_122 : decode cX7_kindsOfThing 122 = .ok (.iload 4, 2) := by decide +kernel
theorem dX7_kindsOfThing_124 : decode cX7_kindsOfThing 124 = .ok (.ifCond .eq 9, 3) := by decide +kernel
theorem dX7_kindsOfThing_127 : decode cX7_kindsOfThing 127 = .ok (.iconst 1, 1) := by decide +kernel
theorem dX7_kindsOfThing_128 : decode cX7_kindsOfThing 128 = .ok (.iload_n 3, 1) := by decide +kernel
theorem dX7_kindsOfThing_129 : decode cX7_kindsOfThing 129 = .ok (.ishl, 1) := by decide +kernel
theorem dX7_kindsOfThing_130 : decode cX7_kindsOfThing 130 = .ok (.goto 4, 3) := by decide +kernel
theorem dX7_kindsOfThing_133 : decode cX7_kindsOfThing 133 = .ok (.iconst 0, 1) := by decide +kernel
theorem dX7_kindsOfThing_134 : decode cX7_kindsOfThing 134 = .ok (.ior, 1) := by decide +kernel
theorem dX7_kindsOfThing_135 : decode cX7_kindsOfThing 135 = .ok (.istore_n 2, 1) := by decide +kernel
theorem dX7_kindsOfThing_136 : decode cX7_kindsOfThing 136 = .ok (.iinc 3 1, 3) := by decide +kernel
theorem dX7_kindsOfThing_139 : decode cX7_kindsOfThing 139 = .ok (.goto (-127), 3) := by decide +kernel
theorem dX7_kindsOfThing_142 : decode cX7_kindsOfThing 142 = .ok (.iload_n 2, 1) := by decide +kernel
theorem dX7_kindsOfThing_143 : decode cX7_kindsOfThing 143 = .ok (.ireturn, 1) := by decide +kernel
set_option maxRecDepth 20000 in
theorem ggX7_kinds_X7_isThing : GoodIn wsX7_kinds wsX7_isThing := goodIn_r _ [5, 6, 7, 8, 4, 9, 10, 11, 12, 13, 50, 51, 52, 53, 54, 55, 56, 57, 58, 59, 60, 61, 62, 63, 64, 65, 66, 67, 68, 69, 70, 71, 72, 73, 74] (by decide +kernel) (by decide +kernel)
set_option maxRecDepth 20000 in
theorem gX7_kinds_X7_isThing : GoodIn wsX7_kinds (wsV RX7 143 RX7 yX7_isThing wsX7_isThing) := goodIn_app (goodIn_of _ (by decide +kernel)) ggX7_kinds_X7_isThing
set_option maxRecDepth 20000 in
theorem ggX7_kinds_X7_kindsOfThing : GoodIn wsX7_kinds wsX7_kindsOfThing := goodIn_r _ [17, 10, 18, 19, 20, 4, 21, 22, 23, 24, 25, 26, 27, 28, 29, 30, 31, 32, 33, 34, 35, 36, 37, 38, 39, 40, 41, 42, 43, 44, 50, 51, 52, 53, 54, 55, 56, 57, 58, 59, 60, 61, 62, 63, 64, 65, 66, 67, 68, 69, 70, 71, 72, 73, 74] (by decide +kernel) (by decide +kernel)
set_option maxRecDepth 20000 in
theorem gX7_kinds_X7_kindsOfThing : GoodIn wsX7_kinds (wsV RX7 213 RX7 yX7_kindsOfThing wsX7_kindsOfThing) := goodIn_app (goodIn_of _ (by decide +kernel)) ggX7_kinds_X7_kindsOfThing
set_option maxRecDepth 20000 in
theorem ggX7_kinds_X7_bad : GoodIn wsX7_kinds wsX7_bad := goodIn_r _ [48, 49, 50, 51, 52, 53, 54, 55, 56, 57, 58, 59, 60, 61, 62, 63, 64, 65, 66, 67, 68, 69, 70, 71, 72, 73, 74] (by decide +kernel) (by decide +kernel)
set_option maxRecDepth 20000 in
theorem gX7_kinds_X7_bad : GoodIn wsX7_kinds (wsV RX7 97 RX7 yX7_bad wsX7_bad) := goodIn_app (goodIn_of _ (by decide +kernel)) ggX7_kinds_X7_bad
theorem dX7_kinds_0 : decode cX7_kinds 0 = .ok (.aload_n 0, 1) := by decide +kernel
theorem dX7_kinds_1 : decode cX7_kinds 1 = .ok (.iload_n 1, 1) := by decide +kernel
theorem dX7_kinds_2 : decode cX7_kinds 2 = .ok (.invokevirtual 143, 3) := by decide +kernel
theorem dX7_kinds_5 : decode cX7_kinds 5 = .ok (.ifCond .eq 11, 3) := by decide +kernel
theorem dX7_kinds_8 : decode cX7_kinds 8 = .ok (.aload_n 0, 1) := by decide +kernel
theorem dX7_kinds_9 : decode cX7_kinds 9 = .ok (.iload_n 1, 1) := by decide +kernel
theorem dX7_kinds_10 : decode cX7_kinds 10 = .ok (.invokevirtual 213, 3) := by decide +kernel
theorem dX7_kinds_13 : decode cX7_kinds 13 = .ok (.goto 9, 3) := by decide +kernel
theorem dX7_kinds_16 : decode cX7_kinds 16 = .ok (.aload_n 0, 1) := by decide +kernel
theorem dX7_kinds_17 : decode cX7_kinds 17 = .ok (.bipush (-2), 2) := by decide +kernel
theorem dX7_kinds_19 : decode cX7_kinds 19 = .ok (.invokevirtual 97, 3) := by decide +kernel
theorem dX7_kinds_22 : decode cX7_kinds 22 = .ok (.ireturn, 1) := by decide +kernel
set_option maxRecDepth 20000 in
theorem ggX7_by_X7_isThing : GoodIn wsX7_by wsX7_isThing := goodIn_r _ [8, 9, 10, 11, 7, 12, 3, 13, 14, 15, 58, 59, 60, 61, 62, 63, 64, 65, 66, 67, 68, 69, 70, 71, 72, 73, 74, 75, 76, 77, 78, 79, 80, 81, 82] (by decide +kernel) (by decide +kernel)
set_option maxRecDepth 20000 in
theorem gX7_by_X7_isThing : GoodIn wsX7_by (wsV RX7 143 RX7 yX7_isThing wsX7_isThing) := goodIn_app (goodIn_of _ (by decide +kernel)) ggX7_by_X7_isThing
set_option maxRecDepth 20000 in
theorem ggX7_by_X7_bad : GoodIn wsX7_by wsX7_bad := goodIn_r _ [19, 20, 58, 59, 60, 61, 62, 63, 64, 65, 66, 67, 68, 69, 70, 71, 72, 73, 74, 75, 76, 77, 78, 79, 80, 81, 82] (by decide +kernel) (by decide +kernel)
set_option maxRecDepth 20000 in
theorem gX7_by_X7_bad : GoodIn wsX7_by (wsV RX7 97 RX7 yX7_bad wsX7_bad) := goodIn_app (goodIn_of _ (by decide +kernel)) ggX7_by_X7_bad
set_option maxRecDepth 20000 in
theorem ggX7_by_X7_kindsOfThing : GoodIn wsX7_by wsX7_kindsOfThing := goodIn_r _ [24, 3, 25, 26, 27, 7, 28, 29, 30, 31, 32, 33, 1, 34, 35, 36, 37, 38, 39, 40, 41, 42, 43, 44, 45, 46, 47, 48, 49, 50, 58, 59, 60, 61, 62, 63, 64, 65, 66, 67, 68, 69, 70, 71, 72, 73, 74, 75, 76, 77, 78, 79, 80, 81, 82] (by decide +kernel) (by decide +kernel)
set_option maxRecDepth 20000 in
theorem gX7_by_X7_kindsOfThing : GoodIn wsX7_by (wsV RX7 213 RX7 yX7_kindsOfThing wsX7_kindsOfThing) := goodIn_app (goodIn_of _ (by decide +kernel)) ggX7_by_X7_kindsOfThing
set_option maxRecDepth 20000 in
theorem ggX7_by_X7_many : GoodIn wsX7_by wsX7_many := goodIn_r _ [54, 3, 58, 59, 60, 61, 62, 63, 64, 65, 66, 67, 68, 69, 70, 71, 72, 73, 74, 75, 76, 77, 78, 79, 80, 81, 82] (by decide +kernel) (by decide +kernel)
set_option maxRecDepth 20000 in
theorem gX7_by_X7_many : GoodIn wsX7_by (wsV RX7 74 RX7 yX7_many wsX7_many) := goodIn_app (goodIn_of _ (by decide +kernel)) ggX7_by_X7_many
set_option maxRecDepth 20000 in
theorem ggX7_by_X7_comesTo : GoodIn wsX7_by wsX7_comesTo := goodIn_r _ [33, 1, 34, 35, 36, 7, 37, 38, 39, 40, 41, 42, 43, 44, 29, 45, 46, 47, 48, 49, 50, 58, 59, 60, 61, 62, 63, 64, 65, 66, 67, 68, 69, 70, 71, 72, 73, 74, 75, 76, 77, 78, 79, 80, 81, 82] (by decide +kernel) (by decide +kernel)
set_option maxRecDepth 20000 in
theorem gX7_by_X7_comesTo : GoodIn wsX7_by (wsV RX7 139 RX7 yX7_comesTo wsX7_comesTo) := goodIn_app (goodIn_of _ (by decide +kernel)) ggX7_by_X7_comesTo
set_option maxRecDepth 20000 in
theorem ggX7_by_X7_has : GoodIn wsX7_by wsX7_has := goodIn_r _ [57] (by decide +kernel) (by decide +kernel)
set_option maxRecDepth 20000 in
theorem gX7_by_X7_has : GoodIn wsX7_by (va_wsS RX7 199 yX7_has wsX7_has) := goodIn_app (goodIn_of _ (by decide +kernel)) ggX7_by_X7_has
theorem dX7_by_0 : decode cX7_by 0 = .ok (.aload_n 0, 1) := by decide +kernel
theorem dX7_by_1 : decode cX7_by 1 = .ok (.iload_n 1, 1) := by decide +kernel
theorem dX7_by_2 : decode cX7_by 2 = .ok (.invokevirtual 143, 3) := by decide +kernel
theorem dX7_by_5 : decode cX7_by 5 = .ok (.ifCond .ne 10, 3) := by decide +kernel
theorem dX7_by_8 : decode cX7_by 8 = .ok (.aload_n 0, 1) := by decide +kernel
theorem dX7_by_9 : decode cX7_by 9 = .ok (.bipush (-2), 2) := by decide +kernel
theorem dX7_by_11 : decode cX7_by 11 = .ok (.invokevirtual 97, 3) := by decide +kernel
theorem dX7_by_14 : decode cX7_by 14 = .ok (.ireturn, 1) := by decide +kernel
theorem dX7_by_15 : decode cX7_by 15 = .ok (.aload_n 0, 1) := by decide +kernel
theorem dX7_by_16 : decode cX7_by 16 = .ok (.iload_n 1, 1) := by decide +kernel
theorem dX7_by_17 : decode cX7_by 17 = .ok (.invokevirtual 213, 3) := by decide +kernel
theorem dX7_by_20 : decode cX7_by 20 = .ok (.istore_n 2, 1) := by decide +kernel
theorem dX7_by_21 : decode cX7_by 21 = .ok (.iconst (-1), 1) := by decide +kernel
theorem dX7_by_22 : decode cX7_by 22 = .ok (.istore_n 3, 1) := by decide +kernel
theorem dX7_by_23 : decode cX7_by 23 = .ok (.ldc 134, 2) := by decide +kernel
theorem dX7_by_25 : decode cX7_by 25 = .ok (.istore 4, 2) := by decide +kernel
theorem dX7_by_27 : decode cX7_by 27 = .ok (.iconst 0, 1) := by decide +kernel
theorem dX7_by_28 : decode cX7_by 28 = .ok (.istore 5, 2) := by decide +kernel
theorem dX7_by_30 : decode cX7_by 30 = .ok (.iload 5, 2) := by decide +kernel
theorem dX7_by_32 : decode cX7_by 32 = .ok (.aload_n 0, 1) := by decide +kernel
theorem dX7_by_33 : decode cX7_by 33 = .ok (.invokevirtual 74, 3) := by decide +kernel
theorem dX7_by_36 : decode cX7_by 36 = .ok (.if_icmp .ge 193, 3) := by decide +kernel
theorem dX7_by_39 : decode cX7_by 39 = .ok (.iload_n 2, 1) := by decide +kernel
theorem dX7_by_40 : decode cX7_by 40 = .ok (.ifCond .le 189, 3) := by decide +kernel
theorem dX7_by_43 : decode cX7_by 43 = .ok (.iconst 0, 1) := by decide +kernel
theorem dX7_by_44 : decode cX7_by 44 = .ok (.istore 6, 2) := by decide +kernel
theorem dX7_by_46 : decode cX7_by 46 = .ok (.iconst 0, 1) := by decide +kernel
theorem dX7_by_47 : decode cX7_by 47 = .ok (.istore 7, 2) := by decide +kernel
theorem dX7_by_49 : decode cX7_by 49 = .ok (.iload 7, 2) := by decide +kernel
theorem dX7_by_51 : decode cX7_by 51 = .ok (.bipush 6, 2) := by decide +kernel
theorem dX7_by_53 : decode cX7_by 53 = .ok (.if_icmp .ge 44, 3) := by decide +kernel
theorem dX7_by_56 : decode cX7_by 56 = .ok (.aload_n 0, 1) := by decide +kernel
theorem dX7_by_57 : decode cX7_by 57 = .ok (.getfield 42, 3) := by decide +kernel
theorem dX7_by_60 : decode cX7_by 60 = .ok (.iload 7, 2) := by decide +kernel
theorem dX7_by_62 : decode cX7_by 62 = .ok (.aload_n 0, 1) := by decide +kernel
theorem dX7_by_63 : decode cX7_by 63 = .ok (.aload_n 0, 1) := by decide +kernel
theorem dX7_by_64 : decode cX7_by 64 = .ok (.getfield 7, 3) := by decide +kernel
theorem dX7_by_67 : decode cX7_by 67 = .ok (.iload 7, 2) := by decide +kernel
theorem dX7_by_69 : decode cX7_by 69 = .ok (.aload_n 0, 1) := by decide +kernel
theorem dX7_by_70 : decode cX7_by 70 = .ok (.getfield 7, 3) := by decide +kernel
theorem dX7_by_73 : decode cX7_by 73 = .ok (.bipush 70, 2) := by decide +kernel
theorem dX7_by_75 : decode cX7_by 75 = .ok (.iload_n 1, 1) := by decide +kernel
theorem dX7_by_76 : decode cX7_by 76 = .ok (.iadd, 1) := by decide +kernel
theorem dX7_by_77 : decode cX7_by 77 = .ok (.iaload, 1) := by decide +kernel
theorem dX7_by_78 : decode cX7_by 78 = .ok (.aload_n 0, 1) := by decide +kernel
theorem dX7_by_79 : decode cX7_by 79 = .ok (.getfield 7, 3) := by decide +kernel
theorem dX7_by_82 : decode cX7_by 82 = .ok (.bipush 22, 2) := by decide +kernel
theorem dX7_by_84 : decode cX7_by 84 = .ok (.iaload, 1) := by decide +kernel
theorem dX7_by_85 : decode cX7_by 85 = .ok (.iload 5, 2) := by decide +kernel
theorem dX7_by_87 : decode cX7_by 87 = .ok (.invokevirtual 139, 3) := by decide +kernel
theorem dX7_by_90 : decode cX7_by 90 = .ok (.iastore, 1) := by decide +kernel
theorem dX7_by_91 : decode cX7_by 91 = .ok (.iinc 7 1, 3) := by decide +kernel
theorem dX7_by_94 : decode cX7_by 94 = .ok (.goto (-45), 3) := by decide +kernel
theorem dX7_by_97 : decode cX7_by 97 = .ok (.iconst 0, 1) := by decide +kernel
theorem dX7_by_98 : decode cX7_by 98 = .ok (.istore 7, 2) := by decide +kernel
theorem dX7_by_100 : decode cX7_by 100 = .ok (.iload 7, 2) := by decide +kernel
theorem dX7_by_102 : decode cX7_by 102 = .ok (.bipush 6, 2) := by decide +kernel
theorem dX7_by_104 : decode cX7_by 104 = .ok (.if_icmp .ge 89, 3) := by decide +kernel
theorem dX7_by_107 : decode cX7_by 107 = .ok (.iconst 0, 1) := by decide +kernel
theorem dX7_by_108 : decode cX7_by 108 = .ok (.istore 8, 2) := by decide +kernel
theorem dX7_by_110 : decode cX7_by 110 = .ok (.iconst 0, 1) := by decide +kernel
theorem dX7_by_111 : decode cX7_by 111 = .ok (.istore 9, 2) := by decide +kernel
theorem dX7_by_113 : decode cX7_by 113 = .ok (.iload 9, 2) := by decide +kernel
theorem dX7_by_115 : decode cX7_by 115 = .ok (.bipush 6, 2) := by decide +kernel
theorem dX7_by_117 : decode cX7_by 117 = .ok (.if_icmp .ge 54, 3) := by decide +kernel
theorem dX7_by_120 : decode cX7_by 120 = .ok (.iload_n 2, 1) := by decide +kernel
theorem dX7_by_121 : decode cX7_by 121 = .ok (.iload 7, 2) := by decide +kernel
theorem dX7_by_123 : decode cX7_by 123 = .ok (.invokestatic 199, 3) := by decide +kernel
theorem dX7_by_126 : decode cX7_by 126 = .ok (.ifCond .eq 45, 3) := by decide +kernel
theorem dX7_by_129 : decode cX7_by 129 = .ok (.iload 8, 2) := by decide +kernel
theorem dX7_by_131 : decode cX7_by 131 = .ok (.iload_n 2, 1) := by decide +kernel
theorem dX7_by_132 : decode cX7_by 132 = .ok (.iload 9, 2) := by decide +kernel
theorem dX7_by_134 : decode cX7_by 134 = .ok (.invokestatic 199, 3) := by decide +kernel
theorem dX7_by_137 : decode cX7_by 137 = .ok (.ifCond .eq 24, 3) := by decide +kernel
theorem dX7_by_140 : decode cX7_by 140 = .ok (.aload_n 0, 1) := by decide +kernel
theorem dX7_by_141 : decode cX7_by 141 = .ok (.getfield 42, 3) := by decide +kernel
theorem dX7_by_144 : decode cX7_by 144 = .ok (.iload 9, 2) := by decide +kernel
theorem dX7_by_146 : decode cX7_by 146 = .ok (.iaload, 1) := by decide +kernel
theorem dX7_by_147 : decode cX7_by 147 = .ok (.aload_n 0, 1) := by decide +kernel
theorem dX7_by_148 : decode cX7_by 148 = .ok (.getfield 42, 3) := by decide +kernel
theorem dX7_by_151 : decode cX7_by 151 = .ok (.iload 7, 2) := by decide +kernel
theorem dX7_by_153 : decode cX7_by 153 = .ok (.iaload, 1) := by decide +kernel
theorem dX7_by_154 : decode cX7_by 154 = .ok (.if_icmp .ne 7, 3) := by decide +kernel
theorem dX7_by_157 : decode cX7_by 157 = .ok (.iconst 1, 1) := by decide +kernel
theorem dX7_by_158 : decode cX7_by 158 = .ok (.goto 4, 3) := by decide +kernel
theorem dX7_by_161 : decode cX7_by 161 = .ok (.iconst 0, 1) := by decide +kernel
theorem dX7_by_162 : decode cX7_by 162 = .ok (.iadd, 1) := by decide +kernel
theorem dX7_by_163 : decode cX7_by 163 = .ok (.istore 8, 2) := by decide +kernel
theorem dX7_by_165 : decode cX7_by 165 = .ok (.iinc 9 1, 3) := by decide +kernel
theorem dX7_by_168 : decode cX7_by 168 = .ok (.goto (-55), 3) := by decide +kernel
theorem dX7_by_171 : decode cX7_by 171 = .ok (.iload 8, 2) := by decide +kernel
theorem dX7_by_173 : decode cX7_by 173 = .ok (.iload 6, 2) := by decide +kernel
theorem dX7_by_175 : decode cX7_by 175 = .ok (.if_icmp .le 8, 3) := by decide +kernel
theorem dX7_by_178 : decode cX7_by 178 = .ok (.iload 8, 2) := by decide +kernel
theorem dX7_by_180 : decode cX7_by 180 = .ok (.goto 5, 3) := by decide +kernel
theorem dX7_by_183 : decode cX7_by 183 = .ok (.iload 6, 2) := by decide +kernel
theorem dX7_by_185 : decode cX7_by 185 = .ok (.istore 6, 2) := by decide +kernel
theorem dX7_by_187 : decode cX7_by 187 = .ok (.iinc 7 1, 3) := by decide +kernel
theorem dX7_by_190 : decode cX7_by 190 = .ok (.goto (-90), 3) := by decide +kernel
theorem dX7_by_193 : decode cX7_by 193 = .ok (.iload 6, 2) := by decide +kernel
theorem dX7_by_195 : decode cX7_by 195 = .ok (.iload 4, 2) := by decide +kernel
theorem dX7_by_197 : decode cX7_by 197 = .ok (.if_icmp .ge 8, 3) := by decide +kernel
theorem dX7_by_200 : decode cX7_by 200 = .ok (.iload 5, 2) := by decide +kernel
theorem dX7_by_202 : decode cX7_by 202 = .ok (.goto 4, 3) := by decide +kernel
theorem dX7_by_205 : decode cX7_by 205 = .ok (.iload_n 3, 1) := by decide +kernel
theorem dX7_by_206 : decode cX7_by 206 = .ok (.istore_n 3, 1) := by decide +kernel
theorem dX7_by_207 : decode cX7_by 207 = .ok (.iload 6, 2) := by decide +kernel
theorem dX7_by_209 : decode cX7_by 209 = .ok (.iload 4, 2) := by decide +kernel
theorem dX7_by_211 : decode cX7_by 211 = .ok (.if_icmp .ge 8, 3) := by decide +kernel
theorem dX7_by_214 : decode cX7_by 214 = .ok (.iload 6, 2) := by decide +kernel
theorem dX7_by_216 : decode cX7_by 216 = .ok (.goto 5, 3) := by decide +kernel
theorem dX7_by_219 : decode cX7_by 219 = .ok (.iload 4, 2) := by decide +kernel
theorem dX7_by_221 : decode cX7_by 221 = .ok (.istore 4, 2) := by decide +kernel
theorem dX7_by_223 : decode cX7_by 223 = .ok (.iinc 5 1, 3) := by decide +kernel
theorem dX7_by_226 : decode cX7_by 226 = .ok (.goto (-196), 3) := by decide +kernel
theorem dX7_by_229 : decode cX7_by 229 = .ok (.iload_n 3, 1) := by decide +kernel
theorem dX7_by_230 : decode cX7_by 230 = .ok (.ireturn, 1) := by decide +kernel
set_option maxRecDepth 20000 in
theorem ggX7_layPairs_X7_layCoats : GoodIn wsX7_layPairs wsX7_layCoats := goodIn_r _ [9, 2, 36, 37, 38, 39, 40, 41, 42, 43, 44, 45, 46, 47, 48, 49, 50, 51, 52, 53, 54, 55, 56, 57, 58, 59, 60] (by decide +kernel) (by decide +kernel)
set_option maxRecDepth 20000 in
theorem gX7_layPairs_X7_layCoats : GoodIn wsX7_layPairs (wsV RX7 155 RX7 yX7_layCoats wsX7_layCoats) := goodIn_app (goodIn_of _ (by decide +kernel)) ggX7_layPairs_X7_layCoats
set_option maxRecDepth 20000 in
theorem ggX7_layPairs_X7_comesNow : GoodIn wsX7_layPairs wsX7_comesNow := goodIn_r _ [13, 1, 14, 15, 16, 8, 17, 18, 19, 20, 21, 22, 23, 24, 25, 26, 27, 28, 29, 2, 30, 31, 32, 33, 34, 35, 36, 37, 38, 39, 40, 41, 42, 43, 44, 45, 46, 47, 48, 49, 50, 51, 52, 53, 54, 55, 56, 57, 58, 59, 60] (by decide +kernel) (by decide +kernel)
set_option maxRecDepth 20000 in
theorem gX7_layPairs_X7_comesNow : GoodIn wsX7_layPairs (wsV RX7 178 RX7 yX7_comesNow wsX7_comesNow) := goodIn_app (goodIn_of _ (by decide +kernel)) ggX7_layPairs_X7_comesNow
theorem dX7_layPairs_0 : decode cX7_layPairs 0 = .ok (.aload_n 0, 1) := by decide +kernel
theorem dX7_layPairs_1 : decode cX7_layPairs 1 = .ok (.aload_n 0, 1) := by decide +kernel
theorem dX7_layPairs_2 : decode cX7_layPairs 2 = .ok (.getfield 7, 3) := by decide +kernel
theorem dX7_layPairs_5 : decode cX7_layPairs 5 = .ok (.invokevirtual 155, 3) := by decide +kernel
theorem dX7_layPairs_8 : decode cX7_layPairs 8 = .ok (.iconst 0, 1) := by decide +kernel
theorem dX7_layPairs_9 : decode cX7_layPairs 9 = .ok (.istore 4, 2) := by decide +kernel
theorem dX7_layPairs_11 : decode cX7_layPairs 11 = .ok (.iload 4, 2) := by decide +kernel
theorem dX7_layPairs_13 : decode cX7_layPairs 13 = .ok (.bipush 36, 2) := by decide +kernel
theorem dX7_layPairs_15 : decode cX7_layPairs 15 = .ok (.if_icmp .ge 96, 3) := by decide +kernel
theorem dX7_layPairs_18 : decode cX7_layPairs 18 = .ok (.aload_n 0, 1) := by decide +kernel
theorem dX7_layPairs_19 : decode cX7_layPairs 19 = .ok (.getfield 27, 3) := by decide +kernel
theorem dX7_layPairs_22 : decode cX7_layPairs 22 = .ok (.iload_n 2, 1) := by decide +kernel
theorem dX7_layPairs_23 : decode cX7_layPairs 23 = .ok (.iload 4, 2) := by decide +kernel
theorem dX7_layPairs_25 : decode cX7_layPairs 25 = .ok (.bipush 6, 2) := by decide +kernel
theorem dX7_layPairs_27 : decode cX7_layPairs 27 = .ok (.idiv, 1) := by decide +kernel
theorem dX7_layPairs_28 : decode cX7_layPairs 28 = .ok (.iastore, 1) := by decide +kernel
theorem dX7_layPairs_29 : decode cX7_layPairs 29 = .ok (.aload_n 0, 1) := by decide +kernel
theorem dX7_layPairs_30 : decode cX7_layPairs 30 = .ok (.getfield 27, 3) := by decide +kernel
theorem dX7_layPairs_33 : decode cX7_layPairs 33 = .ok (.iload_n 3, 1) := by decide +kernel
theorem dX7_layPairs_34 : decode cX7_layPairs 34 = .ok (.iload 4, 2) := by decide +kernel
theorem dX7_layPairs_36 : decode cX7_layPairs 36 = .ok (.bipush 6, 2) := by decide +kernel
theorem dX7_layPairs_38 : decode cX7_layPairs 38 = .ok (.irem, 1) := by decide +kernel
theorem dX7_layPairs_39 : decode cX7_layPairs 39 = .ok (.iastore, 1) := by decide +kernel
theorem dX7_layPairs_40 : decode cX7_layPairs 40 = .ok (.aload_n 0, 1) := by decide +kernel
theorem dX7_layPairs_41 : decode cX7_layPairs 41 = .ok (.iload_n 1, 1) := by decide +kernel
theorem dX7_layPairs_42 : decode cX7_layPairs 42 = .ok (.aload_n 0, 1) := by decide +kernel
theorem dX7_layPairs_43 : decode cX7_layPairs 43 = .ok (.getfield 7, 3) := by decide +kernel
theorem dX7_layPairs_46 : decode cX7_layPairs 46 = .ok (.iconst 5, 1) := by decide +kernel
theorem dX7_layPairs_47 : decode cX7_layPairs 47 = .ok (.iload_n 1, 1) := by decide +kernel
theorem dX7_layPairs_48 : decode cX7_layPairs 48 = .ok (.iadd, 1) := by decide +kernel
theorem dX7_layPairs_49 : decode cX7_layPairs 49 = .ok (.iaload, 1) := by decide +kernel
theorem dX7_layPairs_50 : decode cX7_layPairs 50 = .ok (.invokevirtual 178, 3) := by decide +kernel
theorem dX7_layPairs_53 : decode cX7_layPairs 53 = .ok (.istore 5, 2) := by decide +kernel
theorem dX7_layPairs_55 : decode cX7_layPairs 55 = .ok (.aload_n 0, 1) := by decide +kernel
theorem dX7_layPairs_56 : decode cX7_layPairs 56 = .ok (.getfield 45, 3) := by decide +kernel
theorem dX7_layPairs_59 : decode cX7_layPairs 59 = .ok (.iload 4, 2) := by decide +kernel
theorem dX7_layPairs_61 : decode cX7_layPairs 61 = .ok (.iload 5, 2) := by decide +kernel
theorem dX7_layPairs_63 : decode cX7_layPairs 63 = .ok (.iload_n 2, 1) := by decide +kernel
theorem dX7_layPairs_64 : decode cX7_layPairs 64 = .ok (.if_icmp .ne 8, 3) := by decide +kernel
theorem dX7_layPairs_67 : decode cX7_layPairs 67 = .ok (.bipush (-6), 2) := by decide +kernel
theorem dX7_layPairs_69 : decode cX7_layPairs 69 = .ok (.goto 4, 3) := by decide +kernel
theorem dX7_layPairs_72 : decode cX7_layPairs 72 = .ok (.iconst 0, 1) := by decide +kernel
theorem dX7_layPairs_73 : decode cX7_layPairs 73 = .ok (.iload 4, 2) := by decide +kernel
theorem dX7_layPairs_75 : decode cX7_layPairs 75 = .ok (.bipush 6, 2) := by decide +kernel
theorem dX7_layPairs_77 : decode cX7_layPairs 77 = .ok (.idiv, 1) := by decide +kernel
theorem dX7_layPairs_78 : decode cX7_layPairs 78 = .ok (.isub, 1) := by decide +kernel
theorem dX7_layPairs_79 : decode cX7_layPairs 79 = .ok (.iastore, 1) := by decide +kernel
theorem dX7_layPairs_80 : decode cX7_layPairs 80 = .ok (.aload_n 0, 1) := by decide +kernel
theorem dX7_layPairs_81 : decode cX7_layPairs 81 = .ok (.getfield 48, 3) := by decide +kernel
theorem dX7_layPairs_84 : decode cX7_layPairs 84 = .ok (.iload 4, 2) := by decide +kernel
theorem dX7_layPairs_86 : decode cX7_layPairs 86 = .ok (.iload 5, 2) := by decide +kernel
theorem dX7_layPairs_88 : decode cX7_layPairs 88 = .ok (.iload_n 3, 1) := by decide +kernel
theorem dX7_layPairs_89 : decode cX7_layPairs 89 = .ok (.if_icmp .ne 8, 3) := by decide +kernel
theorem dX7_layPairs_92 : decode cX7_layPairs 92 = .ok (.bipush (-6), 2) := by decide +kernel
theorem dX7_layPairs_94 : decode cX7_layPairs 94 = .ok (.goto 4, 3) := by decide +kernel
theorem dX7_layPairs_97 : decode cX7_layPairs 97 = .ok (.iconst 0, 1) := by decide +kernel
theorem dX7_layPairs_98 : decode cX7_layPairs 98 = .ok (.iload 4, 2) := by decide +kernel
theorem dX7_layPairs_100 : decode cX7_layPairs 100 = .ok (.bipush 6, 2) := by decide +kernel
theorem dX7_layPairs_102 : decode cX7_layPairs 102 = .ok (.irem, 1) := by decide +kernel
theorem dX7_layPairs_103 : decode cX7_layPairs 103 = .ok (.isub, 1) := by decide +kernel
theorem dX7_layPairs_104 : decode cX7_layPairs 104 = .ok (.iastore, 1) := by decide +kernel
theorem dX7_layPairs_105 : decode cX7_layPairs 105 = .ok (.iinc 4 1, 3) := by decide +kernel
theorem dX7_layPairs_108 : decode cX7_layPairs 108 = .ok (.goto (-97), 3) := by decide +kernel
theorem dX7_layPairs_111 : decode cX7_layPairs 111 = .ok (.return_, 1) := by decide +kernel
theorem dX7_rests_0 : decode cX7_rests 0 = .ok (.iconst 1, 1) := by decide +kernel
theorem dX7_rests_1 : decode cX7_rests 1 = .ok (.istore_n 2, 1) := by decide +kernel
theorem dX7_rests_2 : decode cX7_rests 2 = .ok (.iconst 0, 1) := by decide +kernel
theorem dX7_rests_3 : decode cX7_rests 3 = .ok (.istore_n 3, 1) := by decide +kernel
theorem dX7_rests_4 : decode cX7_rests 4 = .ok (.iload_n 3, 1) := by decide +kernel
theorem dX7_rests_5 : decode cX7_rests 5 = .ok (.bipush 6, 2) := by decide +kernel
theorem dX7_rests_7 : decode cX7_rests 7 = .ok (.if_icmp .ge 65, 3) := by decide +kernel
theorem dX7_rests_10 : decode cX7_rests 10 = .ok (.iload_n 2, 1) := by decide +kernel
theorem dX7_rests_11 : decode cX7_rests 11 = .ok (.ifCond .eq 53, 3) := by decide +kernel
theorem dX7_rests_14 : decode cX7_rests 14 = .ok (.aload_n 0, 1) := by decide +kernel
theorem dX7_rests_15 : decode cX7_rests 15 = .ok (.getfield 45, 3) := by decide +kernel
theorem dX7_rests_18 : decode cX7_rests 18 = .ok (.bipush 6, 2) := by decide +kernel
theorem dX7_rests_20 : decode cX7_rests 20 = .ok (.iload_n 3, 1) := by decide +kernel
theorem dX7_rests_21 : decode cX7_rests 21 = .ok (.imul, 1) := by decide +kernel
theorem dX7_rests_22 : decode cX7_rests 22 = .ok (.iload_n 1, 1) := by decide +kernel
theorem dX7_rests_23 : decode cX7_rests 23 = .ok (.bipush 6, 2) := by decide +kernel
theorem dX7_rests_25 : decode cX7_rests 25 = .ok (.irem, 1) := by decide +kernel
theorem dX7_rests_26 : decode cX7_rests 26 = .ok (.iadd, 1) := by decide +kernel
theorem dX7_rests_27 : decode cX7_rests 27 = .ok (.iaload, 1) := by decide +kernel
theorem dX7_rests_28 : decode cX7_rests 28 = .ok (.aload_n 0, 1) := by decide +kernel
theorem dX7_rests_29 : decode cX7_rests 29 = .ok (.getfield 45, 3) := by decide +kernel
theorem dX7_rests_32 : decode cX7_rests 32 = .ok (.iload_n 1, 1) := by decide +kernel
theorem dX7_rests_33 : decode cX7_rests 33 = .ok (.iaload, 1) := by decide +kernel
theorem dX7_rests_34 : decode cX7_rests 34 = .ok (.if_icmp .gt 30, 3) := by decide +kernel
theorem dX7_rests_37 : decode cX7_rests 37 = .ok (.aload_n 0, 1) := by decide +kernel
theorem dX7_rests_38 : decode cX7_rests 38 = .ok (.getfield 48, 3) := by decide +kernel
theorem dX7_rests_41 : decode cX7_rests 41 = .ok (.iload_n 1, 1) := by decide +kernel
theorem dX7_rests_42 : decode cX7_rests 42 = .ok (.bipush 6, 2) := by decide +kernel
theorem dX7_rests_44 : decode cX7_rests 44 = .ok (.idiv, 1) := by decide +kernel
theorem dX7_rests_45 : decode cX7_rests 45 = .ok (.bipush 6, 2) := by decide +kernel
theorem dX7_rests_47 : decode cX7_rests 47 = .ok (.imul, 1) := by decide +kernel
theorem dX7_rests_48 : decode cX7_rests 48 = .ok (.iload_n 3, 1) := by decide +kernel
theorem dX7_rests_49 : decode cX7_rests 49 = .ok (.iadd, 1) := by decide +kernel
theorem dX7_rests_50 : decode cX7_rests 50 = .ok (.iaload, 1) := by decide +kernel
theorem dX7_rests_51 : decode cX7_rests 51 = .ok (.aload_n 0, 1) := by decide +kernel
theorem dX7_rests_52 : decode cX7_rests 52 = .ok (.getfield 48, 3) := by decide +kernel
theorem dX7_rests_55 : decode cX7_rests 55 = .ok (.iload_n 1, 1) := by decide +kernel
theorem dX7_rests_56 : decode cX7_rests 56 = .ok (.iaload, 1) := by decide +kernel
theorem dX7_rests_57 : decode cX7_rests 57 = .ok (.if_icmp .gt 7, 3) := by decide +kernel
theorem dX7_rests_60 : decode cX7_rests 60 = .ok (.iconst 1, 1) := by decide +kernel
theorem dX7_rests_61 : decode cX7_rests 61 = .ok (.goto 4, 3) := by decide +kernel
theorem dX7_rests_64 : decode cX7_rests 64 = .ok (.iconst 0, 1) := by decide +kernel
theorem dX7_rests_65 : decode cX7_rests 65 = .ok (.istore_n 2, 1) := by decide +kernel
theorem dX7_rests_66 : decode cX7_rests 66 = .ok (.iinc 3 1, 3) := by decide +kernel
theorem dX7_rests_69 : decode cX7_rests 69 = .ok (.goto (-65), 3) := by decide +kernel
theorem dX7_rests_72 : decode cX7_rests 72 = .ok (.iload_n 2, 1) := by decide +kernel
theorem dX7_rests_73 : decode cX7_rests 73 = .ok (.ireturn, 1) := by decide +kernel
set_option maxRecDepth 20000 in
theorem ggX7_coats_X7_isThing : GoodIn wsX7_coats wsX7_isThing := goodIn_r _ [5, 6, 7, 8, 4, 9, 10, 11, 12, 13, 68, 69, 70, 71, 72, 73, 74, 75, 76, 77, 78, 79, 80, 81, 82, 83, 84, 85, 86, 87, 88, 89, 90, 91, 92] (by decide +kernel) (by decide +kernel)
set_option maxRecDepth 20000 in
theorem gX7_coats_X7_isThing : GoodIn wsX7_coats (wsV RX7 143 RX7 yX7_isThing wsX7_isThing) := goodIn_app (goodIn_of _ (by decide +kernel)) ggX7_coats_X7_isThing
set_option maxRecDepth 20000 in
theorem ggX7_coats_X7_isOne : GoodIn wsX7_coats wsX7_isOne := goodIn_r _ [17, 18, 19, 20, 4, 21, 10, 11, 12, 13, 68, 69, 70, 71, 72, 73, 74, 75, 76, 77, 78, 79, 80, 81, 82, 83, 84, 85, 86, 87, 88, 89, 90, 91, 92] (by decide +kernel) (by decide +kernel)
set_option maxRecDepth 20000 in
theorem gX7_coats_X7_isOne : GoodIn wsX7_coats (wsV RX7 111 RX7 yX7_isOne wsX7_isOne) := goodIn_app (goodIn_of _ (by decide +kernel)) ggX7_coats_X7_isOne
set_option maxRecDepth 20000 in
theorem ggX7_coats_X7_bad : GoodIn wsX7_coats wsX7_bad := goodIn_r _ [25, 26, 68, 69, 70, 71, 72, 73, 74, 75, 76, 77, 78, 79, 80, 81, 82, 83, 84, 85, 86, 87, 88, 89, 90, 91, 92] (by decide +kernel) (by decide +kernel)
set_option maxRecDepth 20000 in
theorem gX7_coats_X7_bad : GoodIn wsX7_coats (wsV RX7 97 RX7 yX7_bad wsX7_bad) := goodIn_app (goodIn_of _ (by decide +kernel)) ggX7_coats_X7_bad
set_option maxRecDepth 20000 in
theorem ggX7_coats_X7_layPairs : GoodIn wsX7_coats wsX7_layPairs := goodIn_r _ [30, 10, 31, 32, 33, 34, 35, 36, 4, 37, 38, 39, 40, 41, 42, 43, 44, 45, 46, 47, 48, 49, 50, 51, 52, 53, 54, 55, 56, 57, 58, 59, 60, 61, 62, 63, 68, 69, 70, 71, 72, 73, 74, 75, 76, 77, 78, 79, 80, 81, 82, 83, 84, 85, 86, 87, 88, 89, 90, 91, 92] (by decide +kernel) (by decide +kernel)
set_option maxRecDepth 20000 in
theorem gX7_coats_X7_layPairs : GoodIn wsX7_coats (wsV RX7 216 RX7 yX7_layPairs wsX7_layPairs) := goodIn_app (goodIn_of _ (by decide +kernel)) ggX7_coats_X7_layPairs
set_option maxRecDepth 20000 in
theorem ggX7_coats_X7_rests : GoodIn wsX7_coats wsX7_rests := goodIn_r _ [67, 32, 33, 68, 69, 70, 71, 72, 73, 74, 75, 76, 77, 78, 79, 80, 81, 82, 83, 84, 85, 86, 87, 88, 89, 90, 91, 92] (by decide +kernel) (by decide +kernel)
set_option maxRecDepth 20000 in
theorem gX7_coats_X7_rests : GoodIn wsX7_coats (wsV RX7 220 RX7 yX7_rests wsX7_rests) := goodIn_app (goodIn_of _ (by decide +kernel)) ggX7_coats_X7_rests
theorem dX7_coats_0 : decode cX7_coats 0 = .ok (.aload_n 0, 1) := by decide +kernel
theorem dX7_coats_1 : decode cX7_coats 1 = .ok (.iload_n 1, 1) := by decide +kernel
theorem dX7_coats_2 : decode cX7_coats 2 = .ok (.invokevirtual 143, 3) := by decide +kernel
theorem dX7_coats_5 : decode cX7_coats 5 = .ok (.ifCond .eq 30, 3) := by decide +kernel
theorem dX7_coats_8 : decode cX7_coats 8 = .ok (.aload_n 0, 1) := by decide +kernel
theorem dX7_coats_9 : decode cX7_coats 9 = .ok (.iload_n 2, 1) := by decide +kernel
theorem dX7_coats_10 : decode cX7_coats 10 = .ok (.invokevirtual 111, 3) := by decide +kernel
theorem dX7_coats_13 : decode cX7_coats 13 = .ok (.ifCond .eq 22, 3) := by decide +kernel
theorem dX7_coats_16 : decode cX7_coats 16 = .ok (.aload_n 0, 1) := by decide +kernel
theorem dX7_coats_17 : decode cX7_coats 17 = .ok (.iload_n 3, 1) := by decide +kernel
theorem dX7_coats_18 : decode cX7_coats 18 = .ok (.invokevirtual 111, 3) := by decide +kernel
theorem dX7_coats_21 : decode cX7_coats 21 = .ok (.ifCond .eq 14, 3) := by decide +kernel
theorem dX7_coats_24 : decode cX7_coats 24 = .ok (.iload_n 2, 1) := by decide +kernel
theorem dX7_coats_25 : decode cX7_coats 25 = .ok (.iload_n 3, 1) := by decide +kernel
theorem dX7_coats_26 : decode cX7_coats 26 = .ok (.if_icmp .eq 9, 3) := by decide +kernel
theorem dX7_coats_29 : decode cX7_coats 29 = .ok (.iload 4, 2) := by decide +kernel
theorem dX7_coats_31 : decode cX7_coats 31 = .ok (.iconst (-1), 1) := by decide +kernel
theorem dX7_coats_32 : decode cX7_coats 32 = .ok (.if_icmp .ge 10, 3) := by decide +kernel
theorem dX7_coats_35 : decode cX7_coats 35 = .ok (.aload_n 0, 1) := by decide +kernel
theorem dX7_coats_36 : decode cX7_coats 36 = .ok (.bipush (-10), 2) := by decide +kernel
theorem dX7_coats_38 : decode cX7_coats 38 = .ok (.invokevirtual 97, 3) := by decide +kernel
theorem dX7_coats_41 : decode cX7_coats 41 = .ok (.ireturn, 1) := by decide +kernel
theorem dX7_coats_42 : decode cX7_coats 42 = .ok (.iconst 0, 1) := by decide +kernel
theorem dX7_coats_43 : decode cX7_coats 43 = .ok (.istore 5, 2) := by decide +kernel
theorem dX7_coats_45 : decode cX7_coats 45 = .ok (.bipush (-5), 2) := by decide +kernel
theorem dX7_coats_47 : decode cX7_coats 47 = .ok (.istore 6, 2) := by decide +kernel
theorem dX7_coats_49 : decode cX7_coats 49 = .ok (.aload_n 0, 1) := by decide +kernel
theorem dX7_coats_50 : decode cX7_coats 50 = .ok (.iload_n 1, 1) := by decide +kernel
theorem dX7_coats_51 : decode cX7_coats 51 = .ok (.iload_n 2, 1) := by decide +kernel
theorem dX7_coats_52 : decode cX7_coats 52 = .ok (.iload_n 3, 1) := by decide +kernel
theorem dX7_coats_53 : decode cX7_coats 53 = .ok (.invokevirtual 216, 3) := by decide +kernel
theorem dX7_coats_56 : decode cX7_coats 56 = .ok (.iconst 0, 1) := by decide +kernel
theorem dX7_coats_57 : decode cX7_coats 57 = .ok (.istore 7, 2) := by decide +kernel
theorem dX7_coats_59 : decode cX7_coats 59 = .ok (.iload 7, 2) := by decide +kernel
theorem dX7_coats_61 : decode cX7_coats 61 = .ok (.bipush 36, 2) := by decide +kernel
theorem dX7_coats_63 : decode cX7_coats 63 = .ok (.if_icmp .ge 37, 3) := by decide +kernel
theorem dX7_coats_66 : decode cX7_coats 66 = .ok (.aload_n 0, 1) := by decide +kernel
theorem dX7_coats_67 : decode cX7_coats 67 = .ok (.iload 7, 2) := by decide +kernel
theorem dX7_coats_69 : decode cX7_coats 69 = .ok (.invokevirtual 220, 3) := by decide +kernel
theorem dX7_coats_72 : decode cX7_coats 72 = .ok (.ifCond .eq 22, 3) := by decide +kernel
theorem dX7_coats_75 : decode cX7_coats 75 = .ok (.iload 5, 2) := by decide +kernel
theorem dX7_coats_77 : decode cX7_coats 77 = .ok (.iload 4, 2) := by decide +kernel
theorem dX7_coats_79 : decode cX7_coats 79 = .ok (.if_icmp .ne 8, 3) := by decide +kernel
theorem dX7_coats_82 : decode cX7_coats 82 = .ok (.iload 7, 2) := by decide +kernel
theorem dX7_coats_84 : decode cX7_coats 84 = .ok (.goto 5, 3) := by decide +kernel
theorem dX7_coats_87 : decode cX7_coats 87 = .ok (.iload 6, 2) := by decide +kernel
theorem dX7_coats_89 : decode cX7_coats 89 = .ok (.istore 6, 2) := by decide +kernel
theorem dX7_coats_91 : decode cX7_coats 91 = .ok (.iinc 5 1, 3) := by decide +kernel
theorem dX7_coats_94 : decode cX7_coats 94 = .ok (.iinc 7 1, 3) := by decide +kernel
theorem dX7_coats_97 : decode cX7_coats 97 = .ok (.goto (-38), 3) := by decide +kernel
theorem dX7_coats_100 : decode cX7_coats 100 = .ok (.iload 4, 2) := by decide +kernel
theorem dX7_coats_102 : decode cX7_coats 102 = .ok (.iconst (-1), 1) := by decide +kernel
theorem dX7_coats_103 : decode cX7_coats 103 = .ok (.if_icmp .ne 8, 3) := by decide +kernel
theorem dX7_coats_106 : decode cX7_coats 106 = .ok (.iload 5, 2) := by decide +kernel
theorem dX7_coats_108 : decode cX7_coats 108 = .ok (.goto 5, 3) := by decide +kernel
theorem dX7_coats_111 : decode cX7_coats 111 = .ok (.iload 6, 2) := by decide +kernel
theorem dX7_coats_113 : decode cX7_coats 113 = .ok (.ireturn, 1) := by decide +kernel
theorem dX7_fraction_0 : decode cX7_fraction 0 = .ok (.lload_n 1, 1) := by decide +kernel
theorem dX7_fraction_1 : decode cX7_fraction 1 = .ok (.lstore 5, 2) := by decide +kernel
theorem dX7_fraction_3 : decode cX7_fraction 3 = .ok (.lload_n 3, 1) := by decide +kernel
theorem dX7_fraction_4 : decode cX7_fraction 4 = .ok (.lstore 7, 2) := by decide +kernel
theorem dX7_fraction_6 : decode cX7_fraction 6 = .ok (.lload 7, 2) := by decide +kernel
theorem dX7_fraction_8 : decode cX7_fraction 8 = .ok (.lconst 0, 1) := by decide +kernel
theorem dX7_fraction_9 : decode cX7_fraction 9 = .ok (.lcmp, 1) := by decide +kernel
theorem dX7_fraction_10 : decode cX7_fraction 10 = .ok (.ifCond .eq 21, 3) := by decide +kernel
theorem dX7_fraction_13 : decode cX7_fraction 13 = .ok (.lload 5, 2) := by decide +kernel
theorem dX7_fraction_15 : decode cX7_fraction 15 = .ok (.lload 7, 2) := by decide +kernel
theorem dX7_fraction_17 : decode cX7_fraction 17 = .ok (.lrem, 1) := by decide +kernel
theorem dX7_fraction_18 : decode cX7_fraction 18 = .ok (.lstore 9, 2) := by decide +kernel
theorem dX7_fraction_20 : decode cX7_fraction 20 = .ok (.lload 7, 2) := by decide +kernel
theorem dX7_fraction_22 : decode cX7_fraction 22 = .ok (.lstore 5, 2) := by decide +kernel
theorem dX7_fraction_24 : decode cX7_fraction 24 = .ok (.lload 9, 2) := by decide +kernel
theorem dX7_fraction_26 : decode cX7_fraction 26 = .ok (.lstore 7, 2) := by decide +kernel
theorem dX7_fraction_28 : decode cX7_fraction 28 = .ok (.goto (-22), 3) := by decide +kernel
theorem dX7_fraction_31 : decode cX7_fraction 31 = .ok (.aload_n 0, 1) := by decide +kernel
theorem dX7_fraction_32 : decode cX7_fraction 32 = .ok (.lload_n 1, 1) := by decide +kernel
theorem dX7_fraction_33 : decode cX7_fraction 33 = .ok (.lload 5, 2) := by decide +kernel
theorem dX7_fraction_35 : decode cX7_fraction 35 = .ok (.ldiv, 1) := by decide +kernel
theorem dX7_fraction_36 : decode cX7_fraction 36 = .ok (.putfield 223, 3) := by decide +kernel
theorem dX7_fraction_39 : decode cX7_fraction 39 = .ok (.aload_n 0, 1) := by decide +kernel
theorem dX7_fraction_40 : decode cX7_fraction 40 = .ok (.lload_n 3, 1) := by decide +kernel
theorem dX7_fraction_41 : decode cX7_fraction 41 = .ok (.lload 5, 2) := by decide +kernel
theorem dX7_fraction_43 : decode cX7_fraction 43 = .ok (.ldiv, 1) := by decide +kernel
theorem dX7_fraction_44 : decode cX7_fraction 44 = .ok (.putfield 23, 3) := by decide +kernel
theorem dX7_fraction_47 : decode cX7_fraction 47 = .ok (.return_, 1) := by decide +kernel
set_option maxRecDepth 20000 in
theorem ggX7_goOdds_X7_many : GoodIn wsX7_goOdds wsX7_many := goodIn_r _ [9, 2, 33, 34, 35, 36, 37, 38, 39, 40, 41, 42, 43, 44, 45, 46, 47, 48, 49, 50, 51, 52, 53, 54, 55, 56, 57] (by decide +kernel) (by decide +kernel)
set_option maxRecDepth 20000 in
theorem gX7_goOdds_X7_many : GoodIn wsX7_goOdds (wsV RX7 74 RX7 yX7_many wsX7_many) := goodIn_app (goodIn_of _ (by decide +kernel)) ggX7_goOdds_X7_many
set_option maxRecDepth 20000 in
theorem ggX7_goOdds_X7_comesTo : GoodIn wsX7_goOdds wsX7_comesTo := goodIn_r _ [13, 14, 15, 16, 17, 8, 18, 19, 20, 21, 22, 23, 24, 25, 26, 27, 28, 29, 30, 31, 32, 33, 34, 35, 36, 37, 38, 39, 40, 41, 42, 43, 44, 45, 46, 47, 48, 49, 50, 51, 52, 53, 54, 55, 56, 57] (by decide +kernel) (by decide +kernel)
set_option maxRecDepth 20000 in
theorem gX7_goOdds_X7_comesTo : GoodIn wsX7_goOdds (wsV RX7 139 RX7 yX7_comesTo wsX7_comesTo) := goodIn_app (goodIn_of _ (by decide +kernel)) ggX7_goOdds_X7_comesTo
theorem dX7_goOdds_0 : decode cX7_goOdds 0 = .ok (.iconst 0, 1) := by decide +kernel
theorem dX7_goOdds_1 : decode cX7_goOdds 1 = .ok (.istore 4, 2) := by decide +kernel
theorem dX7_goOdds_3 : decode cX7_goOdds 3 = .ok (.iload 4, 2) := by decide +kernel
theorem dX7_goOdds_5 : decode cX7_goOdds 5 = .ok (.bipush 14, 2) := by decide +kernel
theorem dX7_goOdds_7 : decode cX7_goOdds 7 = .ok (.if_icmp .ge 17, 3) := by decide +kernel
theorem dX7_goOdds_10 : decode cX7_goOdds 10 = .ok (.aload_n 0, 1) := by decide +kernel
theorem dX7_goOdds_11 : decode cX7_goOdds 11 = .ok (.getfield 55, 3) := by decide +kernel
theorem dX7_goOdds_14 : decode cX7_goOdds 14 = .ok (.iload 4, 2) := by decide +kernel
theorem dX7_goOdds_16 : decode cX7_goOdds 16 = .ok (.lconst 0, 1) := by decide +kernel
theorem dX7_goOdds_17 : decode cX7_goOdds 17 = .ok (.lastore, 1) := by decide +kernel
theorem dX7_goOdds_18 : decode cX7_goOdds 18 = .ok (.iinc 4 1, 3) := by decide +kernel
theorem dX7_goOdds_21 : decode cX7_goOdds 21 = .ok (.goto (-18), 3) := by decide +kernel
theorem dX7_goOdds_24 : decode cX7_goOdds 24 = .ok (.iconst 0, 1) := by decide +kernel
theorem dX7_goOdds_25 : decode cX7_goOdds 25 = .ok (.istore 4, 2) := by decide +kernel
theorem dX7_goOdds_27 : decode cX7_goOdds 27 = .ok (.iload 4, 2) := by decide +kernel
theorem dX7_goOdds_29 : decode cX7_goOdds 29 = .ok (.aload_n 0, 1) := by decide +kernel
theorem dX7_goOdds_30 : decode cX7_goOdds 30 = .ok (.invokevirtual 74, 3) := by decide +kernel
theorem dX7_goOdds_33 : decode cX7_goOdds 33 = .ok (.if_icmp .ge 112, 3) := by decide +kernel
theorem dX7_goOdds_36 : decode cX7_goOdds 36 = .ok (.aload_n 0, 1) := by decide +kernel
theorem dX7_goOdds_37 : decode cX7_goOdds 37 = .ok (.aload_n 0, 1) := by decide +kernel
theorem dX7_goOdds_38 : decode cX7_goOdds 38 = .ok (.getfield 7, 3) := by decide +kernel
theorem dX7_goOdds_41 : decode cX7_goOdds 41 = .ok (.aload_n 0, 1) := by decide +kernel
theorem dX7_goOdds_42 : decode cX7_goOdds 42 = .ok (.getfield 7, 3) := by decide +kernel
theorem dX7_goOdds_45 : decode cX7_goOdds 45 = .ok (.bipush 65, 2) := by decide +kernel
theorem dX7_goOdds_47 : decode cX7_goOdds 47 = .ok (.iload_n 1, 1) := by decide +kernel
theorem dX7_goOdds_48 : decode cX7_goOdds 48 = .ok (.iadd, 1) := by decide +kernel
theorem dX7_goOdds_49 : decode cX7_goOdds 49 = .ok (.iaload, 1) := by decide +kernel
theorem dX7_goOdds_50 : decode cX7_goOdds 50 = .ok (.aload_n 0, 1) := by decide +kernel
theorem dX7_goOdds_51 : decode cX7_goOdds 51 = .ok (.getfield 7, 3) := by decide +kernel
theorem dX7_goOdds_54 : decode cX7_goOdds 54 = .ok (.bipush 70, 2) := by decide +kernel
theorem dX7_goOdds_56 : decode cX7_goOdds 56 = .ok (.iload_n 1, 1) := by decide +kernel
theorem dX7_goOdds_57 : decode cX7_goOdds 57 = .ok (.iadd, 1) := by decide +kernel
theorem dX7_goOdds_58 : decode cX7_goOdds 58 = .ok (.iaload, 1) := by decide +kernel
theorem dX7_goOdds_59 : decode cX7_goOdds 59 = .ok (.iload_n 2, 1) := by decide +kernel
theorem dX7_goOdds_60 : decode cX7_goOdds 60 = .ok (.iload 4, 2) := by decide +kernel
theorem dX7_goOdds_62 : decode cX7_goOdds 62 = .ok (.invokevirtual 139, 3) := by decide +kernel
theorem dX7_goOdds_65 : decode cX7_goOdds 65 = .ok (.istore 5, 2) := by decide +kernel
theorem dX7_goOdds_67 : decode cX7_goOdds 67 = .ok (.aload_n 0, 1) := by decide +kernel
theorem dX7_goOdds_68 : decode cX7_goOdds 68 = .ok (.getfield 55, 3) := by decide +kernel
theorem dX7_goOdds_71 : decode cX7_goOdds 71 = .ok (.iload 4, 2) := by decide +kernel
theorem dX7_goOdds_73 : decode cX7_goOdds 73 = .ok (.dup2, 1) := by decide +kernel
theorem dX7_goOdds_74 : decode cX7_goOdds 74 = .ok (.laload, 1) := by decide +kernel
theorem dX7_goOdds_75 : decode cX7_goOdds 75 = .ok (.aload_n 0, 1) := by decide +kernel
theorem dX7_goOdds_76 : decode cX7_goOdds 76 = .ok (.getfield 51, 3) := by decide +kernel
theorem dX7_goOdds_79 : decode cX7_goOdds 79 = .ok (.iload 4, 2) := by decide +kernel
theorem dX7_goOdds_81 : decode cX7_goOdds 81 = .ok (.laload, 1) := by decide +kernel
theorem dX7_goOdds_82 : decode cX7_goOdds 82 = .ok (.bipush 10, 2) := by decide +kernel
theorem dX7_goOdds_84 : decode cX7_goOdds 84 = .ok (.iload_n 3, 1) := by decide +kernel
theorem dX7_goOdds_85 : decode cX7_goOdds 85 = .ok (.isub, 1) := by decide +kernel
theorem dX7_goOdds_86 : decode cX7_goOdds 86 = .ok (.i2l, 1) := by decide +kernel
theorem dX7_goOdds_87 : decode cX7_goOdds 87 = .ok (.lmul, 1) := by decide +kernel
theorem dX7_goOdds_88 : decode cX7_goOdds 88 = .ok (.ladd, 1) := by decide +kernel
theorem dX7_goOdds_89 : decode cX7_goOdds 89 = .ok (.lastore, 1) := by decide +kernel
theorem dX7_goOdds_90 : decode cX7_goOdds 90 = .ok (.aload_n 0, 1) := by decide +kernel
theorem dX7_goOdds_91 : decode cX7_goOdds 91 = .ok (.getfield 55, 3) := by decide +kernel
theorem dX7_goOdds_94 : decode cX7_goOdds 94 = .ok (.iload 5, 2) := by decide +kernel
theorem dX7_goOdds_96 : decode cX7_goOdds 96 = .ok (.iconst (-1), 1) := by decide +kernel
theorem dX7_goOdds_97 : decode cX7_goOdds 97 = .ok (.if_icmp .ne 11, 3) := by decide +kernel
theorem dX7_goOdds_100 : decode cX7_goOdds 100 = .ok (.bipush 7, 2) := by decide +kernel
theorem dX7_goOdds_102 : decode cX7_goOdds 102 = .ok (.iload 4, 2) := by decide +kernel
theorem dX7_goOdds_104 : decode cX7_goOdds 104 = .ok (.iadd, 1) := by decide +kernel
theorem dX7_goOdds_105 : decode cX7_goOdds 105 = .ok (.goto 5, 3) := by decide +kernel
theorem dX7_goOdds_108 : decode cX7_goOdds 108 = .ok (.iload 5, 2) := by decide +kernel
theorem dX7_goOdds_110 : decode cX7_goOdds 110 = .ok (.dup2, 1) := by decide +kernel
theorem dX7_goOdds_111 : decode cX7_goOdds 111 = .ok (.laload, 1) := by decide +kernel
theorem dX7_goOdds_112 : decode cX7_goOdds 112 = .ok (.aload_n 0, 1) := by decide +kernel
theorem dX7_goOdds_113 : decode cX7_goOdds 113 = .ok (.getfield 51, 3) := by decide +kernel
theorem dX7_goOdds_116 : decode cX7_goOdds 116 = .ok (.iload 4, 2) := by decide +kernel
theorem dX7_goOdds_118 : decode cX7_goOdds 118 = .ok (.laload, 1) := by decide +kernel
theorem dX7_goOdds_119 : decode cX7_goOdds 119 = .ok (.iload_n 3, 1) := by decide +kernel
theorem dX7_goOdds_120 : decode cX7_goOdds 120 = .ok (.i2l, 1) := by decide +kernel
theorem dX7_goOdds_121 : decode cX7_goOdds 121 = .ok (.lmul, 1) := by decide +kernel
theorem dX7_goOdds_122 : decode cX7_goOdds 122 = .ok (.aload_n 0, 1) := by decide +kernel
theorem dX7_goOdds_123 : decode cX7_goOdds 123 = .ok (.getfield 51, 3) := by decide +kernel
theorem dX7_goOdds_126 : decode cX7_goOdds 126 = .ok (.bipush 7, 2) := by decide +kernel
theorem dX7_goOdds_128 : decode cX7_goOdds 128 = .ok (.iload 4, 2) := by decide +kernel
theorem dX7_goOdds_130 : decode cX7_goOdds 130 = .ok (.iadd, 1) := by decide +kernel
theorem dX7_goOdds_131 : decode cX7_goOdds 131 = .ok (.laload, 1) := by decide +kernel
theorem dX7_goOdds_132 : decode cX7_goOdds 132 = .ok (.ldc2_w 226, 3) := by decide +kernel
theorem dX7_goOdds_135 : decode cX7_goOdds 135 = .ok (.lmul, 1) := by decide +kernel
theorem dX7_goOdds_136 : decode cX7_goOdds 136 = .ok (.ladd, 1) := by decide +kernel
theorem dX7_goOdds_137 : decode cX7_goOdds 137 = .ok (.ladd, 1) := by decide +kernel
theorem dX7_goOdds_138 : decode cX7_goOdds 138 = .ok (.lastore, 1) := by decide +kernel
theorem dX7_goOdds_139 : decode cX7_goOdds 139 = .ok (.iinc 4 1, 3) := by decide +kernel
theorem dX7_goOdds_142 : decode cX7_goOdds 142 = .ok (.goto (-115), 3) := by decide +kernel
theorem dX7_goOdds_145 : decode cX7_goOdds 145 = .ok (.iconst 0, 1) := by decide +kernel
theorem dX7_goOdds_146 : decode cX7_goOdds 146 = .ok (.istore 4, 2) := by decide +kernel
theorem dX7_goOdds_148 : decode cX7_goOdds 148 = .ok (.iload 4, 2) := by decide +kernel
theorem dX7_goOdds_150 : decode cX7_goOdds 150 = .ok (.bipush 14, 2) := by decide +kernel
theorem dX7_goOdds_152 : decode cX7_goOdds 152 = .ok (.if_icmp .ge 23, 3) := by decide +kernel
theorem dX7_goOdds_155 : decode cX7_goOdds 155 = .ok (.aload_n 0, 1) := by decide +kernel
theorem dX7_goOdds_156 : decode cX7_goOdds 156 = .ok (.getfield 51, 3) := by decide +kernel
theorem dX7_goOdds_159 : decode cX7_goOdds 159 = .ok (.iload 4, 2) := by decide +kernel
theorem dX7_goOdds_161 : decode cX7_goOdds 161 = .ok (.aload_n 0, 1) := by decide +kernel
theorem dX7_goOdds_162 : decode cX7_goOdds 162 = .ok (.getfield 55, 3) := by decide +kernel
theorem dX7_goOdds_165 : decode cX7_goOdds 165 = .ok (.iload 4, 2) := by decide +kernel
theorem dX7_goOdds_167 : decode cX7_goOdds 167 = .ok (.laload, 1) := by decide +kernel
theorem dX7_goOdds_168 : decode cX7_goOdds 168 = .ok (.lastore, 1) := by decide +kernel
theorem dX7_goOdds_169 : decode cX7_goOdds 169 = .ok (.iinc 4 1, 3) := by decide +kernel
theorem dX7_goOdds_172 : decode cX7_goOdds 172 = .ok (.goto (-24), 3) := by decide +kernel
theorem dX7_goOdds_175 : decode cX7_goOdds 175 = .ok (.return_, 1) := by decide +kernel
set_option maxRecDepth 20000 in
theorem ggX7_odds_X7_isThing : GoodIn wsX7_odds wsX7_isThing := goodIn_r _ [9, 10, 11, 12, 8, 13, 3, 14, 15, 16, 68, 69, 70, 71, 72, 73, 74, 75, 76, 77, 78, 79, 80, 81, 82, 83, 84, 85, 86, 87, 88, 89, 90, 91, 92] (by decide +kernel) (by decide +kernel)
set_option maxRecDepth 20000 in
theorem gX7_odds_X7_isThing : GoodIn wsX7_odds (wsV RX7 143 RX7 yX7_isThing wsX7_isThing) := goodIn_app (goodIn_of _ (by decide +kernel)) ggX7_odds_X7_isThing
set_option maxRecDepth 20000 in
theorem ggX7_odds_X7_isOne : GoodIn wsX7_odds wsX7_isOne := goodIn_r _ [20, 21, 22, 23, 8, 24, 3, 14, 15, 16, 68, 69, 70, 71, 72, 73, 74, 75, 76, 77, 78, 79, 80, 81, 82, 83, 84, 85, 86, 87, 88, 89, 90, 91, 92] (by decide +kernel) (by decide +kernel)
set_option maxRecDepth 20000 in
theorem gX7_odds_X7_isOne : GoodIn wsX7_odds (wsV RX7 111 RX7 yX7_isOne wsX7_isOne) := goodIn_app (goodIn_of _ (by decide +kernel)) ggX7_odds_X7_isOne
set_option maxRecDepth 20000 in
theorem ggX7_odds_X7_in : GoodIn wsX7_odds wsX7_in := goodIn_r _ [16] (by decide +kernel) (by decide +kernel)
set_option maxRecDepth 20000 in
theorem gX7_odds_X7_in : GoodIn wsX7_odds (va_wsS RX7 78 yX7_in wsX7_in) := goodIn_app (goodIn_of _ (by decide +kernel)) ggX7_odds_X7_in
set_option maxRecDepth 20000 in
theorem ggX7_odds_X7_bad : GoodIn wsX7_odds wsX7_bad := goodIn_r _ [28, 29, 68, 69, 70, 71, 72, 73, 74, 75, 76, 77, 78, 79, 80, 81, 82, 83, 84, 85, 86, 87, 88, 89, 90, 91, 92] (by decide +kernel) (by decide +kernel)
set_option maxRecDepth 20000 in
theorem gX7_odds_X7_bad : GoodIn wsX7_odds (wsV RX7 97 RX7 yX7_bad wsX7_bad) := goodIn_app (goodIn_of _ (by decide +kernel)) ggX7_odds_X7_bad
set_option maxRecDepth 20000 in
theorem ggX7_odds_X7_layCoats : GoodIn wsX7_odds wsX7_layCoats := goodIn_r _ [33, 34, 68, 69, 70, 71, 72, 73, 74, 75, 76, 77, 78, 79, 80, 81, 82, 83, 84, 85, 86, 87, 88, 89, 90, 91, 92] (by decide +kernel) (by decide +kernel)
set_option maxRecDepth 20000 in
theorem gX7_odds_X7_layCoats : GoodIn wsX7_odds (wsV RX7 155 RX7 yX7_layCoats wsX7_layCoats) := goodIn_app (goodIn_of _ (by decide +kernel)) ggX7_odds_X7_layCoats
set_option maxRecDepth 20000 in
theorem ggX7_odds_X7_goOdds : GoodIn wsX7_odds wsX7_goOdds := goodIn_r _ [38, 39, 3, 4, 2, 21, 22, 23, 8, 24, 40, 41, 42, 43, 44, 45, 46, 47, 48, 49, 50, 51, 52, 53, 54, 55, 34, 56, 57, 58, 59, 60, 61, 68, 69, 70, 71, 72, 73, 74, 75, 76, 77, 78, 79, 80, 81, 82, 83, 84, 85, 86, 87, 88, 89, 90, 91, 92] (by decide +kernel) (by decide +kernel)
set_option maxRecDepth 20000 in
theorem gX7_odds_X7_goOdds : GoodIn wsX7_odds (wsV RX7 228 RX7 yX7_goOdds wsX7_goOdds) := goodIn_app (goodIn_of _ (by decide +kernel)) ggX7_odds_X7_goOdds
set_option maxRecDepth 20000 in
theorem ggX7_odds_X7_fraction : GoodIn wsX7_odds wsX7_fraction := goodIn_r _ [65, 66, 67, 68, 69, 70, 71, 72, 73, 74, 75, 76, 77, 78, 79, 80, 81, 82, 83, 84, 85, 86, 87, 88, 89, 90, 91, 92] (by decide +kernel) (by decide +kernel)
set_option maxRecDepth 20000 in
theorem gX7_odds_X7_fraction : GoodIn wsX7_odds (wsV RX7 231 RX7 yX7_fraction wsX7_fraction) := goodIn_app (goodIn_of _ (by decide +kernel)) ggX7_odds_X7_fraction
theorem dX7_odds_0 : decode cX7_odds 0 = .ok (.aload_n 0, 1) := by decide +kernel
theorem dX7_odds_1 : decode cX7_odds 1 = .ok (.iload_n 1, 1) := by decide +kernel
theorem dX7_odds_2 : decode cX7_odds 2 = .ok (.invokevirtual 143, 3) := by decide +kernel
theorem dX7_odds_5 : decode cX7_odds 5 = .ok (.ifCond .eq 36, 3) := by decide +kernel
theorem dX7_odds_8 : decode cX7_odds 8 = .ok (.aload_n 0, 1) := by decide +kernel
theorem dX7_odds_9 : decode cX7_odds 9 = .ok (.iload_n 2, 1) := by decide +kernel
theorem dX7_odds_10 : decode cX7_odds 10 = .ok (.invokevirtual 111, 3) := by decide +kernel
theorem dX7_odds_13 : decode cX7_odds 13 = .ok (.ifCond .eq 28, 3) := by decide +kernel
theorem dX7_odds_16 : decode cX7_odds 16 = .ok (.iload_n 3, 1) := by decide +kernel
theorem dX7_odds_17 : decode cX7_odds 17 = .ok (.i2l, 1) := by decide +kernel
theorem dX7_odds_18 : decode cX7_odds 18 = .ok (.lconst 0, 1) := by decide +kernel
theorem dX7_odds_19 : decode cX7_odds 19 = .ok (.ldc2_w 171, 3) := by decide +kernel
theorem dX7_odds_22 : decode cX7_odds 22 = .ok (.invokestatic 78, 3) := by decide +kernel
theorem dX7_odds_25 : decode cX7_odds 25 = .ok (.ifCond .eq 16, 3) := by decide +kernel
theorem dX7_odds_28 : decode cX7_odds 28 = .ok (.iload 4, 2) := by decide +kernel
theorem dX7_odds_30 : decode cX7_odds 30 = .ok (.i2l, 1) := by decide +kernel
theorem dX7_odds_31 : decode cX7_odds 31 = .ok (.lconst 0, 1) := by decide +kernel
theorem dX7_odds_32 : decode cX7_odds 32 = .ok (.ldc2_w 226, 3) := by decide +kernel
theorem dX7_odds_35 : decode cX7_odds 35 = .ok (.invokestatic 78, 3) := by decide +kernel
theorem dX7_odds_38 : decode cX7_odds 38 = .ok (.ifCond .ne 10, 3) := by decide +kernel
theorem dX7_odds_41 : decode cX7_odds 41 = .ok (.aload_n 0, 1) := by decide +kernel
theorem dX7_odds_42 : decode cX7_odds 42 = .ok (.bipush (-2), 2) := by decide +kernel
theorem dX7_odds_44 : decode cX7_odds 44 = .ok (.invokevirtual 97, 3) := by decide +kernel
theorem dX7_odds_47 : decode cX7_odds 47 = .ok (.ireturn, 1) := by decide +kernel
theorem dX7_odds_48 : decode cX7_odds 48 = .ok (.lconst 1, 1) := by decide +kernel
theorem dX7_odds_49 : decode cX7_odds 49 = .ok (.lstore 5, 2) := by decide +kernel
theorem dX7_odds_51 : decode cX7_odds 51 = .ok (.aload_n 0, 1) := by decide +kernel
theorem dX7_odds_52 : decode cX7_odds 52 = .ok (.aload_n 0, 1) := by decide +kernel
theorem dX7_odds_53 : decode cX7_odds 53 = .ok (.getfield 7, 3) := by decide +kernel
theorem dX7_odds_56 : decode cX7_odds 56 = .ok (.invokevirtual 155, 3) := by decide +kernel
theorem dX7_odds_59 : decode cX7_odds 59 = .ok (.iconst 0, 1) := by decide +kernel
theorem dX7_odds_60 : decode cX7_odds 60 = .ok (.istore 7, 2) := by decide +kernel
theorem dX7_odds_62 : decode cX7_odds 62 = .ok (.iload 7, 2) := by decide +kernel
theorem dX7_odds_64 : decode cX7_odds 64 = .ok (.bipush 14, 2) := by decide +kernel
theorem dX7_odds_66 : decode cX7_odds 66 = .ok (.if_icmp .ge 17, 3) := by decide +kernel
theorem dX7_odds_69 : decode cX7_odds 69 = .ok (.aload_n 0, 1) := by decide +kernel
theorem dX7_odds_70 : decode cX7_odds 70 = .ok (.getfield 51, 3) := by decide +kernel
theorem dX7_odds_73 : decode cX7_odds 73 = .ok (.iload 7, 2) := by decide +kernel
theorem dX7_odds_75 : decode cX7_odds 75 = .ok (.lconst 0, 1) := by decide +kernel
theorem dX7_odds_76 : decode cX7_odds 76 = .ok (.lastore, 1) := by decide +kernel
theorem dX7_odds_77 : decode cX7_odds 77 = .ok (.iinc 7 1, 3) := by decide +kernel
theorem dX7_odds_80 : decode cX7_odds 80 = .ok (.goto (-18), 3) := by decide +kernel
theorem dX7_odds_83 : decode cX7_odds 83 = .ok (.aload_n 0, 1) := by decide +kernel
theorem dX7_odds_84 : decode cX7_odds 84 = .ok (.getfield 51, 3) := by decide +kernel
theorem dX7_odds_87 : decode cX7_odds 87 = .ok (.aload_n 0, 1) := by decide +kernel
theorem dX7_odds_88 : decode cX7_odds 88 = .ok (.getfield 7, 3) := by decide +kernel
theorem dX7_odds_91 : decode cX7_odds 91 = .ok (.bipush 10, 2) := by decide +kernel
theorem dX7_odds_93 : decode cX7_odds 93 = .ok (.iload_n 1, 1) := by decide +kernel
theorem dX7_odds_94 : decode cX7_odds 94 = .ok (.iadd, 1) := by decide +kernel
theorem dX7_odds_95 : decode cX7_odds 95 = .ok (.iaload, 1) := by decide +kernel
theorem dX7_odds_96 : decode cX7_odds 96 = .ok (.ifCond .ne 14, 3) := by decide +kernel
theorem dX7_odds_99 : decode cX7_odds 99 = .ok (.aload_n 0, 1) := by decide +kernel
theorem dX7_odds_100 : decode cX7_odds 100 = .ok (.getfield 7, 3) := by decide +kernel
theorem dX7_odds_103 : decode cX7_odds 103 = .ok (.iconst 5, 1) := by decide +kernel
theorem dX7_odds_104 : decode cX7_odds 104 = .ok (.iload_n 1, 1) := by decide +kernel
theorem dX7_odds_105 : decode cX7_odds 105 = .ok (.iadd, 1) := by decide +kernel
theorem dX7_odds_106 : decode cX7_odds 106 = .ok (.iaload, 1) := by decide +kernel
theorem dX7_odds_107 : decode cX7_odds 107 = .ok (.goto 14, 3) := by decide +kernel
theorem dX7_odds_110 : decode cX7_odds 110 = .ok (.bipush 7, 2) := by decide +kernel
theorem dX7_odds_112 : decode cX7_odds 112 = .ok (.aload_n 0, 1) := by decide +kernel
theorem dX7_odds_113 : decode cX7_odds 113 = .ok (.getfield 7, 3) := by decide +kernel
theorem dX7_odds_116 : decode cX7_odds 116 = .ok (.iconst 5, 1) := by decide +kernel
theorem dX7_odds_117 : decode cX7_odds 117 = .ok (.iload_n 1, 1) := by decide +kernel
theorem dX7_odds_118 : decode cX7_odds 118 = .ok (.iadd, 1) := by decide +kernel
theorem dX7_odds_119 : decode cX7_odds 119 = .ok (.iaload, 1) := by decide +kernel
theorem dX7_odds_120 : decode cX7_odds 120 = .ok (.iadd, 1) := by decide +kernel
theorem dX7_odds_121 : decode cX7_odds 121 = .ok (.lconst 1, 1) := by decide +kernel
theorem dX7_odds_122 : decode cX7_odds 122 = .ok (.lastore, 1) := by decide +kernel
theorem dX7_odds_123 : decode cX7_odds 123 = .ok (.iconst 0, 1) := by decide +kernel
theorem dX7_odds_124 : decode cX7_odds 124 = .ok (.istore 7, 2) := by decide +kernel
theorem dX7_odds_126 : decode cX7_odds 126 = .ok (.iload 7, 2) := by decide +kernel
theorem dX7_odds_128 : decode cX7_odds 128 = .ok (.iload_n 3, 1) := by decide +kernel
theorem dX7_odds_129 : decode cX7_odds 129 = .ok (.if_icmp .ge 34, 3) := by decide +kernel
theorem dX7_odds_132 : decode cX7_odds 132 = .ok (.aload_n 0, 1) := by decide +kernel
theorem dX7_odds_133 : decode cX7_odds 133 = .ok (.iload_n 1, 1) := by decide +kernel
theorem dX7_odds_134 : decode cX7_odds 134 = .ok (.aload_n 0, 1) := by decide +kernel
theorem dX7_odds_135 : decode cX7_odds 135 = .ok (.getfield 7, 3) := by decide +kernel
theorem dX7_odds_138 : decode cX7_odds 138 = .ok (.bipush 22, 2) := by decide +kernel
theorem dX7_odds_140 : decode cX7_odds 140 = .ok (.iaload, 1) := by decide +kernel
theorem dX7_odds_141 : decode cX7_odds 141 = .ok (.iload 7, 2) := by decide +kernel
theorem dX7_odds_143 : decode cX7_odds 143 = .ok (.iadd, 1) := by decide +kernel
theorem dX7_odds_144 : decode cX7_odds 144 = .ok (.iload 4, 2) := by decide +kernel
theorem dX7_odds_146 : decode cX7_odds 146 = .ok (.invokevirtual 228, 3) := by decide +kernel
theorem dX7_odds_149 : decode cX7_odds 149 = .ok (.lload 5, 2) := by decide +kernel
theorem dX7_odds_151 : decode cX7_odds 151 = .ok (.ldc2_w 226, 3) := by decide +kernel
theorem dX7_odds_154 : decode cX7_odds 154 = .ok (.lmul, 1) := by decide +kernel
theorem dX7_odds_155 : decode cX7_odds 155 = .ok (.lstore 5, 2) := by decide +kernel
theorem dX7_odds_157 : decode cX7_odds 157 = .ok (.iinc 7 1, 3) := by decide +kernel
theorem dX7_odds_160 : decode cX7_odds 160 = .ok (.goto (-34), 3) := by decide +kernel
theorem dX7_odds_163 : decode cX7_odds 163 = .ok (.aload_n 0, 1) := by decide +kernel
theorem dX7_odds_164 : decode cX7_odds 164 = .ok (.aload_n 0, 1) := by decide +kernel
theorem dX7_odds_165 : decode cX7_odds 165 = .ok (.getfield 51, 3) := by decide +kernel
theorem dX7_odds_168 : decode cX7_odds 168 = .ok (.iload_n 2, 1) := by decide +kernel
theorem dX7_odds_169 : decode cX7_odds 169 = .ok (.laload, 1) := by decide +kernel
theorem dX7_odds_170 : decode cX7_odds 170 = .ok (.lload 5, 2) := by decide +kernel
theorem dX7_odds_172 : decode cX7_odds 172 = .ok (.invokevirtual 231, 3) := by decide +kernel
theorem dX7_odds_175 : decode cX7_odds 175 = .ok (.iconst 1, 1) := by decide +kernel
theorem dX7_odds_176 : decode cX7_odds 176 = .ok (.ireturn, 1) := by decide +kernel
theorem dX7_manyAtHome_0 : decode cX7_manyAtHome 0 = .ok (.iconst 0, 1) := by decide +kernel
theorem dX7_manyAtHome_1 : decode cX7_manyAtHome 1 = .ok (.istore_n 2, 1) := by decide +kernel
theorem dX7_manyAtHome_2 : decode cX7_manyAtHome 2 = .ok (.iconst 0, 1) := by decide +kernel
theorem dX7_manyAtHome_3 : decode cX7_manyAtHome 3 = .ok (.istore_n 3, 1) := by decide +kernel
theorem dX7_manyAtHome_4 : decode cX7_manyAtHome 4 = .ok (.iload_n 3, 1) := by decide +kernel
theorem dX7_manyAtHome_5 : decode cX7_manyAtHome 5 = .ok (.aload_n 1, 1) := by decide +kernel
theorem dX7_manyAtHome_6 : decode cX7_manyAtHome 6 = .ok (.iconst 1, 1) := by decide +kernel
theorem dX7_manyAtHome_7 : decode cX7_manyAtHome 7 = .ok (.iaload, 1) := by decide +kernel
theorem dX7_manyAtHome_8 : decode cX7_manyAtHome 8 = .ok (.if_icmp .ge 40, 3) := by decide +kernel
theorem dX7_manyAtHome_11 : decode cX7_manyAtHome 11 = .ok (.iload_n 2, 1) := by decide +kernel
theorem dX7_manyAtHome_12 : decode cX7_manyAtHome 12 = .ok (.aload_n 1, 1) := by decide +kernel
theorem dX7_manyAtHome_13 : decode cX7_manyAtHome 13 = .ok (.bipush 10, 2) := by decide +kernel
theorem dX7_manyAtHome_15 : decode cX7_manyAtHome 15 = .ok (.iload_n 3, 1) := by decide +kernel
theorem dX7_manyAtHome_16 : decode cX7_manyAtHome 16 = .ok (.iadd, 1) := by decide +kernel
theorem dX7_manyAtHome_17 : decode cX7_manyAtHome 17 = .ok (.iaload, 1) := by decide +kernel
theorem dX7_manyAtHome_18 : decode cX7_manyAtHome 18 = .ok (.ifCond .ne 21, 3) := by decide +kernel
theorem dX7_manyAtHome_21 : decode cX7_manyAtHome 21 = .ok (.aload_n 1, 1) := by decide +kernel
theorem dX7_manyAtHome_22 : decode cX7_manyAtHome 22 = .ok (.iconst 5, 1) := by decide +kernel
theorem dX7_manyAtHome_23 : decode cX7_manyAtHome 23 = .ok (.iload_n 3, 1) := by decide +kernel
theorem dX7_manyAtHome_24 : decode cX7_manyAtHome 24 = .ok (.iadd, 1) := by decide +kernel
theorem dX7_manyAtHome_25 : decode cX7_manyAtHome 25 = .ok (.iaload, 1) := by decide +kernel
theorem dX7_manyAtHome_26 : decode cX7_manyAtHome 26 = .ok (.aload_n 1, 1) := by decide +kernel
theorem dX7_manyAtHome_27 : decode cX7_manyAtHome 27 = .ok (.bipush 75, 2) := by decide +kernel
theorem dX7_manyAtHome_29 : decode cX7_manyAtHome 29 = .ok (.iload_n 3, 1) := by decide +kernel
theorem dX7_manyAtHome_30 : decode cX7_manyAtHome 30 = .ok (.iadd, 1) := by decide +kernel
theorem dX7_manyAtHome_31 : decode cX7_manyAtHome 31 = .ok (.iaload, 1) := by decide +kernel
theorem dX7_manyAtHome_32 : decode cX7_manyAtHome 32 = .ok (.if_icmp .ne 7, 3) := by decide +kernel
theorem dX7_manyAtHome_35 : decode cX7_manyAtHome 35 = .ok (.iconst 1, 1) := by decide +kernel
theorem dX7_manyAtHome_36 : decode cX7_manyAtHome 36 = .ok (.goto 4, 3) := by decide +kernel
theorem dX7_manyAtHome_39 : decode cX7_manyAtHome 39 = .ok (.iconst 0, 1) := by decide +kernel
theorem dX7_manyAtHome_40 : decode cX7_manyAtHome 40 = .ok (.iadd, 1) := by decide +kernel
theorem dX7_manyAtHome_41 : decode cX7_manyAtHome 41 = .ok (.istore_n 2, 1) := by decide +kernel
theorem dX7_manyAtHome_42 : decode cX7_manyAtHome 42 = .ok (.iinc 3 1, 3) := by decide +kernel
theorem dX7_manyAtHome_45 : decode cX7_manyAtHome 45 = .ok (.goto (-41), 3) := by decide +kernel
theorem dX7_manyAtHome_48 : decode cX7_manyAtHome 48 = .ok (.iload_n 2, 1) := by decide +kernel
theorem dX7_manyAtHome_49 : decode cX7_manyAtHome 49 = .ok (.ireturn, 1) := by decide +kernel
set_option maxRecDepth 20000 in
theorem ggX7_years_X7_in : GoodIn wsX7_years wsX7_in := goodIn_r _ [13] (by decide +kernel) (by decide +kernel)
set_option maxRecDepth 20000 in
theorem gX7_years_X7_in : GoodIn wsX7_years (va_wsS RX7 78 yX7_in wsX7_in) := goodIn_app (goodIn_of _ (by decide +kernel)) ggX7_years_X7_in
set_option maxRecDepth 20000 in
theorem ggX7_years_X7_bad : GoodIn wsX7_years wsX7_bad := goodIn_r _ [17, 18, 62, 63, 64, 65, 66, 67, 68, 69, 70, 71, 72, 73, 74, 75, 76, 77, 78, 79, 80, 81, 82, 83, 84, 85, 86] (by decide +kernel) (by decide +kernel)
set_option maxRecDepth 20000 in
theorem gX7_years_X7_bad : GoodIn wsX7_years (wsV RX7 97 RX7 yX7_bad wsX7_bad) := goodIn_app (goodIn_of _ (by decide +kernel)) ggX7_years_X7_bad
set_option maxRecDepth 20000 in
theorem ggX7_years_X7_isThing : GoodIn wsX7_years wsX7_isThing := goodIn_r _ [22, 23, 24, 25, 12, 26, 4, 10, 11, 13, 62, 63, 64, 65, 66, 67, 68, 69, 70, 71, 72, 73, 74, 75, 76, 77, 78, 79, 80, 81, 82, 83, 84, 85, 86] (by decide +kernel) (by decide +kernel)
set_option maxRecDepth 20000 in
theorem gX7_years_X7_isThing : GoodIn wsX7_years (wsV RX7 143 RX7 yX7_isThing wsX7_isThing) := goodIn_app (goodIn_of _ (by decide +kernel)) ggX7_years_X7_isThing
set_option maxRecDepth 20000 in
theorem ggX7_years_X7_goDay : GoodIn wsX7_years wsX7_goDay := goodIn_r _ [30, 31, 32, 33, 12, 34, 35, 36, 37, 38, 39, 40, 41, 42, 43, 44, 45, 46, 47, 48, 49, 50, 51, 52, 53, 54, 55, 56, 57, 62, 63, 64, 65, 66, 67, 68, 69, 70, 71, 72, 73, 74, 75, 76, 77, 78, 79, 80, 81, 82, 83, 84, 85, 86] (by decide +kernel) (by decide +kernel)
set_option maxRecDepth 20000 in
theorem gX7_years_X7_goDay : GoodIn wsX7_years (wsV RX7 163 RX7 yX7_goDay wsX7_goDay) := goodIn_app (goodIn_of _ (by decide +kernel)) ggX7_years_X7_goDay
set_option maxRecDepth 20000 in
theorem ggX7_years_X7_manyAtHome : GoodIn wsX7_years wsX7_manyAtHome := goodIn_r _ [61] (by decide +kernel) (by decide +kernel)
set_option maxRecDepth 20000 in
theorem gX7_years_X7_manyAtHome : GoodIn wsX7_years (wsV RX7 247 RX7 yX7_manyAtHome wsX7_manyAtHome) := goodIn_app (goodIn_of _ (by decide +kernel)) ggX7_years_X7_manyAtHome
theorem dX7_years_0 : decode cX7_years 0 = .ok (.iload_n 1, 1) := by decide +kernel
theorem dX7_years_1 : decode cX7_years 1 = .ok (.i2l, 1) := by decide +kernel
theorem dX7_years_2 : decode cX7_years 2 = .ok (.lconst 0, 1) := by decide +kernel
theorem dX7_years_3 : decode cX7_years 3 = .ok (.ldc2_w 235, 3) := by decide +kernel
theorem dX7_years_6 : decode cX7_years 6 = .ok (.invokestatic 78, 3) := by decide +kernel
theorem dX7_years_9 : decode cX7_years 9 = .ok (.ifCond .eq 15, 3) := by decide +kernel
theorem dX7_years_12 : decode cX7_years 12 = .ok (.iload_n 2, 1) := by decide +kernel
theorem dX7_years_13 : decode cX7_years 13 = .ok (.i2l, 1) := by decide +kernel
theorem dX7_years_14 : decode cX7_years 14 = .ok (.lconst 0, 1) := by decide +kernel
theorem dX7_years_15 : decode cX7_years 15 = .ok (.ldc2_w 237, 3) := by decide +kernel
theorem dX7_years_18 : decode cX7_years 18 = .ok (.invokestatic 78, 3) := by decide +kernel
theorem dX7_years_21 : decode cX7_years 21 = .ok (.ifCond .ne 10, 3) := by decide +kernel
theorem dX7_years_24 : decode cX7_years 24 = .ok (.aload_n 0, 1) := by decide +kernel
theorem dX7_years_25 : decode cX7_years 25 = .ok (.bipush (-2), 2) := by decide +kernel
theorem dX7_years_27 : decode cX7_years 27 = .ok (.invokevirtual 97, 3) := by decide +kernel
theorem dX7_years_30 : decode cX7_years 30 = .ok (.ireturn, 1) := by decide +kernel
theorem dX7_years_31 : decode cX7_years 31 = .ok (.iload_n 1, 1) := by decide +kernel
theorem dX7_years_32 : decode cX7_years 32 = .ok (.i2l, 1) := by decide +kernel
theorem dX7_years_33 : decode cX7_years 33 = .ok (.lstore_n 3, 1) := by decide +kernel
theorem dX7_years_34 : decode cX7_years 34 = .ok (.iconst 0, 1) := by decide +kernel
theorem dX7_years_35 : decode cX7_years 35 = .ok (.istore 5, 2) := by decide +kernel
theorem dX7_years_37 : decode cX7_years 37 = .ok (.iload 5, 2) := by decide +kernel
theorem dX7_years_39 : decode cX7_years 39 = .ok (.bipush 80, 2) := by decide +kernel
theorem dX7_years_41 : decode cX7_years 41 = .ok (.if_icmp .ge 23, 3) := by decide +kernel
theorem dX7_years_44 : decode cX7_years 44 = .ok (.aload_n 0, 1) := by decide +kernel
theorem dX7_years_45 : decode cX7_years 45 = .ok (.getfield 58, 3) := by decide +kernel
theorem dX7_years_48 : decode cX7_years 48 = .ok (.iload 5, 2) := by decide +kernel
theorem dX7_years_50 : decode cX7_years 50 = .ok (.aload_n 0, 1) := by decide +kernel
theorem dX7_years_51 : decode cX7_years 51 = .ok (.getfield 7, 3) := by decide +kernel
theorem dX7_years_54 : decode cX7_years 54 = .ok (.iload 5, 2) := by decide +kernel
theorem dX7_years_56 : decode cX7_years 56 = .ok (.iaload, 1) := by decide +kernel
theorem dX7_years_57 : decode cX7_years 57 = .ok (.iastore, 1) := by decide +kernel
theorem dX7_years_58 : decode cX7_years 58 = .ok (.iinc 5 1, 3) := by decide +kernel
theorem dX7_years_61 : decode cX7_years 61 = .ok (.goto (-24), 3) := by decide +kernel
theorem dX7_years_64 : decode cX7_years 64 = .ok (.iconst 0, 1) := by decide +kernel
theorem dX7_years_65 : decode cX7_years 65 = .ok (.istore 5, 2) := by decide +kernel
theorem dX7_years_67 : decode cX7_years 67 = .ok (.iload 5, 2) := by decide +kernel
theorem dX7_years_69 : decode cX7_years 69 = .ok (.iload_n 2, 1) := by decide +kernel
theorem dX7_years_70 : decode cX7_years 70 = .ok (.if_icmp .ge 86, 3) := by decide +kernel
theorem dX7_years_73 : decode cX7_years 73 = .ok (.lload_n 3, 1) := by decide +kernel
theorem dX7_years_74 : decode cX7_years 74 = .ok (.ldc2_w 239, 3) := by decide +kernel
theorem dX7_years_77 : decode cX7_years 77 = .ok (.lmul, 1) := by decide +kernel
theorem dX7_years_78 : decode cX7_years 78 = .ok (.ldc2_w 241, 3) := by decide +kernel
theorem dX7_years_81 : decode cX7_years 81 = .ok (.ladd, 1) := by decide +kernel
theorem dX7_years_82 : decode cX7_years 82 = .ok (.ldc2_w 243, 3) := by decide +kernel
theorem dX7_years_85 : decode cX7_years 85 = .ok (.lrem, 1) := by decide +kernel
theorem dX7_years_86 : decode cX7_years 86 = .ok (.lstore_n 3, 1) := by decide +kernel
theorem dX7_years_87 : decode cX7_years 87 = .ok (.lload_n 3, 1) := by decide +kernel
theorem dX7_years_88 : decode cX7_years 88 = .ok (.ldc2_w 245, 3) := by decide +kernel
theorem dX7_years_91 : decode cX7_years 91 = .ok (.ldiv, 1) := by decide +kernel
theorem dX7_years_92 : decode cX7_years 92 = .ok (.ldc2_w 89, 3) := by decide +kernel
theorem dX7_years_95 : decode cX7_years 95 = .ok (.lrem, 1) := by decide +kernel
theorem dX7_years_96 : decode cX7_years 96 = .ok (.l2i, 1) := by decide +kernel
theorem dX7_years_97 : decode cX7_years 97 = .ok (.istore 6, 2) := by decide +kernel
theorem dX7_years_99 : decode cX7_years 99 = .ok (.aload_n 0, 1) := by decide +kernel
theorem dX7_years_100 : decode cX7_years 100 = .ok (.iload 6, 2) := by decide +kernel
theorem dX7_years_102 : decode cX7_years 102 = .ok (.invokevirtual 143, 3) := by decide +kernel
theorem dX7_years_105 : decode cX7_years 105 = .ok (.ifCond .eq 27, 3) := by decide +kernel
theorem dX7_years_108 : decode cX7_years 108 = .ok (.aload_n 0, 1) := by decide +kernel
theorem dX7_years_109 : decode cX7_years 109 = .ok (.getfield 58, 3) := by decide +kernel
theorem dX7_years_112 : decode cX7_years 112 = .ok (.bipush 10, 2) := by decide +kernel
theorem dX7_years_114 : decode cX7_years 114 = .ok (.iload 6, 2) := by decide +kernel
theorem dX7_years_116 : decode cX7_years 116 = .ok (.iadd, 1) := by decide +kernel
theorem dX7_years_117 : decode cX7_years 117 = .ok (.iaload, 1) := by decide +kernel
theorem dX7_years_118 : decode cX7_years 118 = .ok (.ifCond .ne 14, 3) := by decide +kernel
theorem dX7_years_121 : decode cX7_years 121 = .ok (.aload_n 0, 1) := by decide +kernel
theorem dX7_years_122 : decode cX7_years 122 = .ok (.getfield 58, 3) := by decide +kernel
theorem dX7_years_125 : decode cX7_years 125 = .ok (.bipush 10, 2) := by decide +kernel
theorem dX7_years_127 : decode cX7_years 127 = .ok (.iload 6, 2) := by decide +kernel
theorem dX7_years_129 : decode cX7_years 129 = .ok (.iadd, 1) := by decide +kernel
theorem dX7_years_130 : decode cX7_years 130 = .ok (.iconst 1, 1) := by decide +kernel
theorem dX7_years_131 : decode cX7_years 131 = .ok (.iastore, 1) := by decide +kernel
theorem dX7_years_132 : decode cX7_years 132 = .ok (.aload_n 0, 1) := by decide +kernel
theorem dX7_years_133 : decode cX7_years 133 = .ok (.aload_n 0, 1) := by decide +kernel
theorem dX7_years_134 : decode cX7_years 134 = .ok (.getfield 58, 3) := by decide +kernel
theorem dX7_years_137 : decode cX7_years 137 = .ok (.aload_n 0, 1) := by decide +kernel
theorem dX7_years_138 : decode cX7_years 138 = .ok (.getfield 7, 3) := by decide +kernel
theorem dX7_years_141 : decode cX7_years 141 = .ok (.bipush 22, 2) := by decide +kernel
theorem dX7_years_143 : decode cX7_years 143 = .ok (.iaload, 1) := by decide +kernel
theorem dX7_years_144 : decode cX7_years 144 = .ok (.iload 5, 2) := by decide +kernel
theorem dX7_years_146 : decode cX7_years 146 = .ok (.iadd, 1) := by decide +kernel
theorem dX7_years_147 : decode cX7_years 147 = .ok (.invokevirtual 163, 3) := by decide +kernel
theorem dX7_years_150 : decode cX7_years 150 = .ok (.iinc 5 1, 3) := by decide +kernel
theorem dX7_years_153 : decode cX7_years 153 = .ok (.goto (-86), 3) := by decide +kernel
theorem dX7_years_156 : decode cX7_years 156 = .ok (.aload_n 0, 1) := by decide +kernel
theorem dX7_years_157 : decode cX7_years 157 = .ok (.aload_n 0, 1) := by decide +kernel
theorem dX7_years_158 : decode cX7_years 158 = .ok (.getfield 58, 3) := by decide +kernel
theorem dX7_years_161 : decode cX7_years 161 = .ok (.invokevirtual 247, 3) := by decide +kernel
theorem dX7_years_164 : decode cX7_years 164 = .ok (.ireturn, 1) := by decide +kernel
set_option maxRecDepth 20000 in
theorem ggX7_type_X7_in : GoodIn wsX7_type wsX7_in := goodIn_r _ [7] (by decide +kernel) (by decide +kernel)
set_option maxRecDepth 20000 in
theorem gX7_type_X7_in : GoodIn wsX7_type (va_wsS RX7 78 yX7_in wsX7_in) := goodIn_app (goodIn_of _ (by decide +kernel)) ggX7_type_X7_in
set_option maxRecDepth 20000 in
theorem ggX7_type_X7_bad : GoodIn wsX7_type wsX7_bad := goodIn_r _ [11, 12, 17, 18, 19, 20, 21, 22, 23, 24, 25, 26, 27, 28, 29, 30, 31, 32, 33, 34, 35, 36, 37, 38, 39, 40, 41] (by decide +kernel) (by decide +kernel)
set_option maxRecDepth 20000 in
theorem gX7_type_X7_bad : GoodIn wsX7_type (wsV RX7 97 RX7 yX7_bad wsX7_bad) := goodIn_app (goodIn_of _ (by decide +kernel)) ggX7_type_X7_bad
set_option maxRecDepth 20000 in
theorem ggX7_type_X7_full : GoodIn wsX7_type wsX7_full := goodIn_r _ [16, 12, 17, 18, 19, 20, 21, 22, 23, 24, 25, 26, 27, 28, 29, 30, 31, 32, 33, 34, 35, 36, 37, 38, 39, 40, 41] (by decide +kernel) (by decide +kernel)
set_option maxRecDepth 20000 in
theorem gX7_type_X7_full : GoodIn wsX7_type (wsV RX7 101 RX7 yX7_full wsX7_full) := goodIn_app (goodIn_of _ (by decide +kernel)) ggX7_type_X7_full
theorem dX7_type_0 : decode cX7_type 0 = .ok (.iload_n 1, 1) := by decide +kernel
theorem dX7_type_1 : decode cX7_type 1 = .ok (.i2l, 1) := by decide +kernel
theorem dX7_type_2 : decode cX7_type 2 = .ok (.lconst 0, 1) := by decide +kernel
theorem dX7_type_3 : decode cX7_type 3 = .ok (.ldc2_w 251, 3) := by decide +kernel
theorem dX7_type_6 : decode cX7_type 6 = .ok (.invokestatic 78, 3) := by decide +kernel
theorem dX7_type_9 : decode cX7_type 9 = .ok (.ifCond .ne 10, 3) := by decide +kernel
theorem dX7_type_12 : decode cX7_type 12 = .ok (.aload_n 0, 1) := by decide +kernel
theorem dX7_type_13 : decode cX7_type 13 = .ok (.bipush (-2), 2) := by decide +kernel
theorem dX7_type_15 : decode cX7_type 15 = .ok (.invokevirtual 97, 3) := by decide +kernel
theorem dX7_type_18 : decode cX7_type 18 = .ok (.ireturn, 1) := by decide +kernel
theorem dX7_type_19 : decode cX7_type 19 = .ok (.aload_n 0, 1) := by decide +kernel
theorem dX7_type_20 : decode cX7_type 20 = .ok (.getfield 253, 3) := by decide +kernel
theorem dX7_type_23 : decode cX7_type 23 = .ok (.sipush 150, 3) := by decide +kernel
theorem dX7_type_26 : decode cX7_type 26 = .ok (.if_icmp .ne 8, 3) := by decide +kernel
theorem dX7_type_29 : decode cX7_type 29 = .ok (.aload_n 0, 1) := by decide +kernel
theorem dX7_type_30 : decode cX7_type 30 = .ok (.invokevirtual 101, 3) := by decide +kernel
theorem dX7_type_33 : decode cX7_type 33 = .ok (.ireturn, 1) := by decide +kernel
theorem dX7_type_34 : decode cX7_type 34 = .ok (.aload_n 0, 1) := by decide +kernel
theorem dX7_type_35 : decode cX7_type 35 = .ok (.getfield 61, 3) := by decide +kernel
theorem dX7_type_38 : decode cX7_type 38 = .ok (.aload_n 0, 1) := by decide +kernel
theorem dX7_type_39 : decode cX7_type 39 = .ok (.getfield 253, 3) := by decide +kernel
theorem dX7_type_42 : decode cX7_type 42 = .ok (.iload_n 1, 1) := by decide +kernel
theorem dX7_type_43 : decode cX7_type 43 = .ok (.iastore, 1) := by decide +kernel
theorem dX7_type_44 : decode cX7_type 44 = .ok (.aload_n 0, 1) := by decide +kernel
theorem dX7_type_45 : decode cX7_type 45 = .ok (.dup, 1) := by decide +kernel
theorem dX7_type_46 : decode cX7_type 46 = .ok (.getfield 253, 3) := by decide +kernel
theorem dX7_type_49 : decode cX7_type 49 = .ok (.iconst 1, 1) := by decide +kernel
theorem dX7_type_50 : decode cX7_type 50 = .ok (.iadd, 1) := by decide +kernel
theorem dX7_type_51 : decode cX7_type 51 = .ok (.putfield 253, 3) := by decide +kernel
theorem dX7_type_54 : decode cX7_type 54 = .ok (.aload_n 0, 1) := by decide +kernel
theorem dX7_type_55 : decode cX7_type 55 = .ok (.getfield 253, 3) := by decide +kernel
theorem dX7_type_58 : decode cX7_type 58 = .ok (.ireturn, 1) := by decide +kernel
theorem dX7_clear_0 : decode cX7_clear 0 = .ok (.aload_n 0, 1) := by decide +kernel
theorem dX7_clear_1 : decode cX7_clear 1 = .ok (.getfield 253, 3) := by decide +kernel
theorem dX7_clear_4 : decode cX7_clear 4 = .ok (.istore_n 1, 1) := by decide +kernel
theorem dX7_clear_5 : decode cX7_clear 5 = .ok (.aload_n 0, 1) := by decide +kernel
theorem dX7_clear_6 : decode cX7_clear 6 = .ok (.iconst 0, 1) := by decide +kernel
theorem dX7_clear_7 : decode cX7_clear 7 = .ok (.putfield 253, 3) := by decide +kernel
theorem dX7_clear_10 : decode cX7_clear 10 = .ok (.iload_n 1, 1) := by decide +kernel
theorem dX7_clear_11 : decode cX7_clear 11 = .ok (.ireturn, 1) := by decide +kernel
set_option maxRecDepth 20000 in
theorem ggX7_isSmall_X7_in : GoodIn wsX7_isSmall wsX7_in := goodIn_r _ [6] (by decide +kernel) (by decide +kernel)
set_option maxRecDepth 20000 in
theorem gX7_isSmall_X7_in : GoodIn wsX7_isSmall (va_wsS RX7 78 yX7_in wsX7_in) := goodIn_app (goodIn_of _ (by decide +kernel)) ggX7_isSmall_X7_in
theorem dX7_isSmall_0 : decode cX7_isSmall 0 = .ok (.iload_n 0, 1) := by decide +kernel
theorem dX7_isSmall_1 : decode cX7_isSmall 1 = .ok (.i2l, 1) := by decide +kernel
theorem dX7_isSmall_2 : decode cX7_isSmall 2 = .ok (.ldc2_w 257, 3) := by decide +kernel
theorem dX7_isSmall_5 : decode cX7_isSmall 5 = .ok (.ldc2_w 259, 3) := by decide +kernel
theorem dX7_isSmall_8 : decode cX7_isSmall 8 = .ok (.invokestatic 78, 3) := by decide +kernel
theorem dX7_isSmall_11 : decode cX7_isSmall 11 = .ok (.ireturn, 1) := by decide +kernel
set_option maxRecDepth 20000 in
theorem ggX7_isFigure_X7_in : GoodIn wsX7_isFigure wsX7_in := goodIn_r _ [6] (by decide +kernel) (by decide +kernel)
set_option maxRecDepth 20000 in
theorem gX7_isFigure_X7_in : GoodIn wsX7_isFigure (va_wsS RX7 78 yX7_in wsX7_in) := goodIn_app (goodIn_of _ (by decide +kernel)) ggX7_isFigure_X7_in
theorem dX7_isFigure_0 : decode cX7_isFigure 0 = .ok (.iload_n 0, 1) := by decide +kernel
theorem dX7_isFigure_1 : decode cX7_isFigure 1 = .ok (.i2l, 1) := by decide +kernel
theorem dX7_isFigure_2 : decode cX7_isFigure 2 = .ok (.ldc2_w 261, 3) := by decide +kernel
theorem dX7_isFigure_5 : decode cX7_isFigure 5 = .ok (.ldc2_w 263, 3) := by decide +kernel
theorem dX7_isFigure_8 : decode cX7_isFigure 8 = .ok (.invokestatic 78, 3) := by decide +kernel
theorem dX7_isFigure_11 : decode cX7_isFigure 11 = .ok (.ireturn, 1) := by decide +kernel
set_option maxRecDepth 20000 in
theorem ggX7_lookAt_X7_isSmall : GoodIn wsX7_lookAt wsX7_isSmall := goodIn_r _ [10, 11, 12, 13, 14, 9, 15] (by decide +kernel) (by decide +kernel)
set_option maxRecDepth 20000 in
theorem gX7_lookAt_X7_isSmall : GoodIn wsX7_lookAt (va_wsS RX7 277 yX7_isSmall wsX7_isSmall) := goodIn_app (goodIn_of _ (by decide +kernel)) ggX7_lookAt_X7_isSmall
set_option maxRecDepth 20000 in
theorem ggX7_lookAt_X7_isFigure : GoodIn wsX7_lookAt wsX7_isFigure := goodIn_r _ [18, 19, 20, 13, 14, 9, 15] (by decide +kernel) (by decide +kernel)
set_option maxRecDepth 20000 in
theorem gX7_lookAt_X7_isFigure : GoodIn wsX7_lookAt (va_wsS RX7 280 yX7_isFigure wsX7_isFigure) := goodIn_app (goodIn_of _ (by decide +kernel)) ggX7_lookAt_X7_isFigure
theorem dX7_lookAt_0 : decode cX7_lookAt 0 = .ok (.aload_n 0, 1) := by decide +kernel
theorem dX7_lookAt_1 : decode cX7_lookAt 1 = .ok (.iload_n 1, 1) := by decide +kernel
theorem dX7_lookAt_2 : decode cX7_lookAt 2 = .ok (.putfield 265, 3) := by decide +kernel
theorem dX7_lookAt_5 : decode cX7_lookAt 5 = .ok (.aload_n 0, 1) := by decide +kernel
theorem dX7_lookAt_6 : decode cX7_lookAt 6 = .ok (.getfield 265, 3) := by decide +kernel
theorem dX7_lookAt_9 : decode cX7_lookAt 9 = .ok (.aload_n 0, 1) := by decide +kernel
theorem dX7_lookAt_10 : decode cX7_lookAt 10 = .ok (.getfield 253, 3) := by decide +kernel
theorem dX7_lookAt_13 : decode cX7_lookAt 13 = .ok (.if_icmp .ge 30, 3) := by decide +kernel
theorem dX7_lookAt_16 : decode cX7_lookAt 16 = .ok (.aload_n 0, 1) := by decide +kernel
theorem dX7_lookAt_17 : decode cX7_lookAt 17 = .ok (.getfield 61, 3) := by decide +kernel
theorem dX7_lookAt_20 : decode cX7_lookAt 20 = .ok (.aload_n 0, 1) := by decide +kernel
theorem dX7_lookAt_21 : decode cX7_lookAt 21 = .ok (.getfield 265, 3) := by decide +kernel
theorem dX7_lookAt_24 : decode cX7_lookAt 24 = .ok (.iaload, 1) := by decide +kernel
theorem dX7_lookAt_25 : decode cX7_lookAt 25 = .ok (.bipush 32, 2) := by decide +kernel
theorem dX7_lookAt_27 : decode cX7_lookAt 27 = .ok (.if_icmp .ne 16, 3) := by decide +kernel
theorem dX7_lookAt_30 : decode cX7_lookAt 30 = .ok (.aload_n 0, 1) := by decide +kernel
theorem dX7_lookAt_31 : decode cX7_lookAt 31 = .ok (.dup, 1) := by decide +kernel
theorem dX7_lookAt_32 : decode cX7_lookAt 32 = .ok (.getfield 265, 3) := by decide +kernel
theorem dX7_lookAt_35 : decode cX7_lookAt 35 = .ok (.iconst 1, 1) := by decide +kernel
theorem dX7_lookAt_36 : decode cX7_lookAt 36 = .ok (.iadd, 1) := by decide +kernel
theorem dX7_lookAt_37 : decode cX7_lookAt 37 = .ok (.putfield 265, 3) := by decide +kernel
theorem dX7_lookAt_40 : decode cX7_lookAt 40 = .ok (.goto (-35), 3) := by decide +kernel
theorem dX7_lookAt_43 : decode cX7_lookAt 43 = .ok (.aload_n 0, 1) := by decide +kernel
theorem dX7_lookAt_44 : decode cX7_lookAt 44 = .ok (.iconst 0, 1) := by decide +kernel
theorem dX7_lookAt_45 : decode cX7_lookAt 45 = .ok (.putfield 268, 3) := by decide +kernel
theorem dX7_lookAt_48 : decode cX7_lookAt 48 = .ok (.aload_n 0, 1) := by decide +kernel
theorem dX7_lookAt_49 : decode cX7_lookAt 49 = .ok (.iconst 0, 1) := by decide +kernel
theorem dX7_lookAt_50 : decode cX7_lookAt 50 = .ok (.putfield 271, 3) := by decide +kernel
theorem dX7_lookAt_53 : decode cX7_lookAt 53 = .ok (.aload_n 0, 1) := by decide +kernel
theorem dX7_lookAt_54 : decode cX7_lookAt 54 = .ok (.iconst 0, 1) := by decide +kernel
theorem dX7_lookAt_55 : decode cX7_lookAt 55 = .ok (.putfield 274, 3) := by decide +kernel
theorem dX7_lookAt_58 : decode cX7_lookAt 58 = .ok (.aload_n 0, 1) := by decide +kernel
theorem dX7_lookAt_59 : decode cX7_lookAt 59 = .ok (.getfield 265, 3) := by decide +kernel
theorem dX7_lookAt_62 : decode cX7_lookAt 62 = .ok (.aload_n 0, 1) := by decide +kernel
theorem dX7_lookAt_63 : decode cX7_lookAt 63 = .ok (.getfield 253, 3) := by decide +kernel
theorem dX7_lookAt_66 : decode cX7_lookAt 66 = .ok (.if_icmp .ne 4, 3) := by decide +kernel
theorem dX7_lookAt_69 : decode cX7_lookAt 69 = .ok (.return_, 1) := by decide +kernel
theorem dX7_lookAt_70 : decode cX7_lookAt 70 = .ok (.aload_n 0, 1) := by decide +kernel
theorem dX7_lookAt_71 : decode cX7_lookAt 71 = .ok (.getfield 61, 3) := by decide +kernel
theorem dX7_lookAt_74 : decode cX7_lookAt 74 = .ok (.aload_n 0, 1) := by decide +kernel
theorem dX7_lookAt_75 : decode cX7_lookAt 75 = .ok (.getfield 265, 3) := by decide +kernel
theorem dX7_lookAt_78 : decode cX7_lookAt 78 = .ok (.iaload, 1) := by decide +kernel
theorem dX7_lookAt_79 : decode cX7_lookAt 79 = .ok (.istore_n 2, 1) := by decide +kernel
theorem dX7_lookAt_80 : decode cX7_lookAt 80 = .ok (.aload_n 0, 1) := by decide +kernel
theorem dX7_lookAt_81 : decode cX7_lookAt 81 = .ok (.iload_n 2, 1) := by decide +kernel
theorem dX7_lookAt_82 : decode cX7_lookAt 82 = .ok (.invokestatic 277, 3) := by decide +kernel
theorem dX7_lookAt_85 : decode cX7_lookAt 85 = .ok (.ifCond .eq 7, 3) := by decide +kernel
theorem dX7_lookAt_88 : decode cX7_lookAt 88 = .ok (.iconst 1, 1) := by decide +kernel
theorem dX7_lookAt_89 : decode cX7_lookAt 89 = .ok (.goto 25, 3) := by decide +kernel
theorem dX7_lookAt_92 : decode cX7_lookAt 92 = .ok (.iload_n 2, 1) := by decide +kernel
theorem dX7_lookAt_93 : decode cX7_lookAt 93 = .ok (.invokestatic 280, 3) := by decide +kernel
theorem dX7_lookAt_96 : decode cX7_lookAt 96 = .ok (.ifCond .eq 7, 3) := by decide +kernel
theorem dX7_lookAt_99 : decode cX7_lookAt 99 = .ok (.iconst 2, 1) := by decide +kernel
theorem dX7_lookAt_100 : decode cX7_lookAt 100 = .ok (.goto 14, 3) := by decide +kernel
theorem dX7_lookAt_103 : decode cX7_lookAt 103 = .ok (.iload_n 2, 1) := by decide +kernel
theorem dX7_lookAt_104 : decode cX7_lookAt 104 = .ok (.bipush 59, 2) := by decide +kernel
theorem dX7_lookAt_106 : decode cX7_lookAt 106 = .ok (.if_icmp .ne 7, 3) := by decide +kernel
theorem dX7_lookAt_109 : decode cX7_lookAt 109 = .ok (.iconst 3, 1) := by decide +kernel
theorem dX7_lookAt_110 : decode cX7_lookAt 110 = .ok (.goto 4, 3) := by decide +kernel
theorem dX7_lookAt_113 : decode cX7_lookAt 113 = .ok (.iconst 4, 1) := by decide +kernel
theorem dX7_lookAt_114 : decode cX7_lookAt 114 = .ok (.putfield 271, 3) := by decide +kernel
theorem dX7_lookAt_117 : decode cX7_lookAt 117 = .ok (.aload_n 0, 1) := by decide +kernel
theorem dX7_lookAt_118 : decode cX7_lookAt 118 = .ok (.iconst 1, 1) := by decide +kernel
theorem dX7_lookAt_119 : decode cX7_lookAt 119 = .ok (.putfield 268, 3) := by decide +kernel
theorem dX7_lookAt_122 : decode cX7_lookAt 122 = .ok (.aload_n 0, 1) := by decide +kernel
theorem dX7_lookAt_123 : decode cX7_lookAt 123 = .ok (.getfield 271, 3) := by decide +kernel
theorem dX7_lookAt_126 : decode cX7_lookAt 126 = .ok (.iconst 3, 1) := by decide +kernel
theorem dX7_lookAt_127 : decode cX7_lookAt 127 = .ok (.if_icmp .ge 7, 3) := by decide +kernel
theorem dX7_lookAt_130 : decode cX7_lookAt 130 = .ok (.iconst 1, 1) := by decide +kernel
theorem dX7_lookAt_131 : decode cX7_lookAt 131 = .ok (.goto 4, 3) := by decide +kernel
theorem dX7_lookAt_134 : decode cX7_lookAt 134 = .ok (.iconst 0, 1) := by decide +kernel
theorem dX7_lookAt_135 : decode cX7_lookAt 135 = .ok (.istore_n 3, 1) := by decide +kernel
theorem dX7_lookAt_136 : decode cX7_lookAt 136 = .ok (.iload_n 3, 1) := by decide +kernel
theorem dX7_lookAt_137 : decode cX7_lookAt 137 = .ok (.ifCond .eq 78, 3) := by decide +kernel
theorem dX7_lookAt_140 : decode cX7_lookAt 140 = .ok (.aload_n 0, 1) := by decide +kernel
theorem dX7_lookAt_141 : decode cX7_lookAt 141 = .ok (.getfield 265, 3) := by decide +kernel
theorem dX7_lookAt_144 : decode cX7_lookAt 144 = .ok (.aload_n 0, 1) := by decide +kernel
theorem dX7_lookAt_145 : decode cX7_lookAt 145 = .ok (.getfield 268, 3) := by decide +kernel
theorem dX7_lookAt_148 : decode cX7_lookAt 148 = .ok (.iadd, 1) := by decide +kernel
theorem dX7_lookAt_149 : decode cX7_lookAt 149 = .ok (.aload_n 0, 1) := by decide +kernel
theorem dX7_lookAt_150 : decode cX7_lookAt 150 = .ok (.getfield 253, 3) := by decide +kernel
theorem dX7_lookAt_153 : decode cX7_lookAt 153 = .ok (.if_icmp .ge 62, 3) := by decide +kernel
theorem dX7_lookAt_156 : decode cX7_lookAt 156 = .ok (.aload_n 0, 1) := by decide +kernel
theorem dX7_lookAt_157 : decode cX7_lookAt 157 = .ok (.getfield 61, 3) := by decide +kernel
theorem dX7_lookAt_160 : decode cX7_lookAt 160 = .ok (.aload_n 0, 1) := by decide +kernel
theorem dX7_lookAt_161 : decode cX7_lookAt 161 = .ok (.getfield 265, 3) := by decide +kernel
theorem dX7_lookAt_164 : decode cX7_lookAt 164 = .ok (.aload_n 0, 1) := by decide +kernel
theorem dX7_lookAt_165 : decode cX7_lookAt 165 = .ok (.getfield 268, 3) := by decide +kernel
theorem dX7_lookAt_168 : decode cX7_lookAt 168 = .ok (.iadd, 1) := by decide +kernel
theorem dX7_lookAt_169 : decode cX7_lookAt 169 = .ok (.iaload, 1) := by decide +kernel
theorem dX7_lookAt_170 : decode cX7_lookAt 170 = .ok (.istore 4, 2) := by decide +kernel
theorem dX7_lookAt_172 : decode cX7_lookAt 172 = .ok (.aload_n 0, 1) := by decide +kernel
theorem dX7_lookAt_173 : decode cX7_lookAt 173 = .ok (.getfield 271, 3) := by decide +kernel
theorem dX7_lookAt_176 : decode cX7_lookAt 176 = .ok (.iconst 1, 1) := by decide +kernel
theorem dX7_lookAt_177 : decode cX7_lookAt 177 = .ok (.if_icmp .ne 11, 3) := by decide +kernel
theorem dX7_lookAt_180 : decode cX7_lookAt 180 = .ok (.iload 4, 2) := by decide +kernel
theorem dX7_lookAt_182 : decode cX7_lookAt 182 = .ok (.invokestatic 277, 3) := by decide +kernel
theorem dX7_lookAt_185 : decode cX7_lookAt 185 = .ok (.goto 8, 3) := by decide +kernel
theorem dX7_lookAt_188 : decode cX7_lookAt 188 = .ok (.iload 4, 2) := by decide +kernel
theorem dX7_lookAt_190 : decode cX7_lookAt 190 = .ok (.invokestatic 280, 3) := by decide +kernel
theorem dX7_lookAt_193 : decode cX7_lookAt 193 = .ok (.istore_n 3, 1) := by decide +kernel
theorem dX7_lookAt_194 : decode cX7_lookAt 194 = .ok (.aload_n 0, 1) := by decide +kernel
theorem dX7_lookAt_195 : decode cX7_lookAt 195 = .ok (.dup, 1) := by decide +kernel
theorem dX7_lookAt_196 : decode cX7_lookAt 196 = .ok (.getfield 268, 3) := by decide +kernel
theorem dX7_lookAt_199 : decode cX7_lookAt 199 = .ok (.iload_n 3, 1) := by decide +kernel
theorem dX7_lookAt_200 : decode cX7_lookAt 200 = .ok (.ifCond .eq 7, 3) := by decide +kernel
theorem dX7_lookAt_203 : decode cX7_lookAt 203 = .ok (.iconst 1, 1) := by decide +kernel
theorem dX7_lookAt_204 : decode cX7_lookAt 204 = .ok (.goto 4, 3) := by decide +kernel
theorem dX7_lookAt_207 : decode cX7_lookAt 207 = .ok (.iconst 0, 1) := by decide +kernel
theorem dX7_lookAt_208 : decode cX7_lookAt 208 = .ok (.iadd, 1) := by decide +kernel
theorem dX7_lookAt_209 : decode cX7_lookAt 209 = .ok (.putfield 268, 3) := by decide +kernel
theorem dX7_lookAt_212 : decode cX7_lookAt 212 = .ok (.goto (-76), 3) := by decide +kernel
theorem dX7_lookAt_215 : decode cX7_lookAt 215 = .ok (.iconst 0, 1) := by decide +kernel
theorem dX7_lookAt_216 : decode cX7_lookAt 216 = .ok (.istore 4, 2) := by decide +kernel
theorem dX7_lookAt_218 : decode cX7_lookAt 218 = .ok (.iload 4, 2) := by decide +kernel
theorem dX7_lookAt_220 : decode cX7_lookAt 220 = .ok (.aload_n 0, 1) := by decide +kernel
theorem dX7_lookAt_221 : decode cX7_lookAt 221 = .ok (.getfield 268, 3) := by decide +kernel
theorem dX7_lookAt_224 : decode cX7_lookAt 224 = .ok (.if_icmp .ge 50, 3) := by decide +kernel
theorem dX7_lookAt_227 : decode cX7_lookAt 227 = .ok (.iload 4, 2) := by decide +kernel
theorem dX7_lookAt_229 : decode cX7_lookAt 229 = .ok (.iconst 2, 1) := by decide +kernel
theorem dX7_lookAt_230 : decode cX7_lookAt 230 = .ok (.if_icmp .ge 44, 3) := by decide +kernel
theorem dX7_lookAt_233 : decode cX7_lookAt 233 = .ok (.aload_n 0, 1) := by decide +kernel
theorem dX7_lookAt_234 : decode cX7_lookAt 234 = .ok (.getfield 271, 3) := by decide +kernel
theorem dX7_lookAt_237 : decode cX7_lookAt 237 = .ok (.iconst 2, 1) := by decide +kernel
theorem dX7_lookAt_238 : decode cX7_lookAt 238 = .ok (.if_icmp .ne 36, 3) := by decide +kernel
theorem dX7_lookAt_241 : decode cX7_lookAt 241 = .ok (.aload_n 0, 1) := by decide +kernel
theorem dX7_lookAt_242 : decode cX7_lookAt 242 = .ok (.bipush 10, 2) := by decide +kernel
theorem dX7_lookAt_244 : decode cX7_lookAt 244 = .ok (.aload_n 0, 1) := by decide +kernel
theorem dX7_lookAt_245 : decode cX7_lookAt 245 = .ok (.getfield 274, 3) := by decide +kernel
theorem dX7_lookAt_248 : decode cX7_lookAt 248 = .ok (.imul, 1) := by decide +kernel
theorem dX7_lookAt_249 : decode cX7_lookAt 249 = .ok (.aload_n 0, 1) := by decide +kernel
theorem dX7_lookAt_250 : decode cX7_lookAt 250 = .ok (.getfield 61, 3) := by decide +kernel
theorem dX7_lookAt_253 : decode cX7_lookAt 253 = .ok (.aload_n 0, 1) := by decide +kernel
theorem dX7_lookAt_254 : decode cX7_lookAt 254 = .ok (.getfield 265, 3) := by decide +kernel
theorem dX7_lookAt_257 : decode cX7_lookAt 257 = .ok (.iload 4, 2) := by decide +kernel
theorem dX7_lookAt_259 : decode cX7_lookAt 259 = .ok (.iadd, 1) := by decide +kernel
theorem dX7_lookAt_260 : decode cX7_lookAt 260 = .ok (.iaload, 1) := by decide +kernel
theorem dX7_lookAt_261 : decode cX7_lookAt 261 = .ok (.iadd, 1) := by decide +kernel
theorem dX7_lookAt_262 : decode cX7_lookAt 262 = .ok (.bipush 48, 2) := by decide +kernel
theorem dX7_lookAt_264 : decode cX7_lookAt 264 = .ok (.isub, 1) := by decide +kernel
theorem dX7_lookAt_265 : decode cX7_lookAt 265 = .ok (.putfield 274, 3) := by decide +kernel
theorem dX7_lookAt_268 : decode cX7_lookAt 268 = .ok (.iinc 4 1, 3) := by decide +kernel
theorem dX7_lookAt_271 : decode cX7_lookAt 271 = .ok (.goto (-53), 3) := by decide +kernel
theorem dX7_lookAt_274 : decode cX7_lookAt 274 = .ok (.aload_n 0, 1) := by decide +kernel
theorem dX7_lookAt_275 : decode cX7_lookAt 275 = .ok (.aload_n 0, 1) := by decide +kernel
theorem dX7_lookAt_276 : decode cX7_lookAt 276 = .ok (.getfield 271, 3) := by decide +kernel
theorem dX7_lookAt_279 : decode cX7_lookAt 279 = .ok (.iconst 2, 1) := by decide +kernel
theorem dX7_lookAt_280 : decode cX7_lookAt 280 = .ok (.if_icmp .ne 15, 3) := by decide +kernel
theorem dX7_lookAt_283 : decode cX7_lookAt 283 = .ok (.aload_n 0, 1) := by decide +kernel
theorem dX7_lookAt_284 : decode cX7_lookAt 284 = .ok (.getfield 268, 3) := by decide +kernel
theorem dX7_lookAt_287 : decode cX7_lookAt 287 = .ok (.iconst 2, 1) := by decide +kernel
theorem dX7_lookAt_288 : decode cX7_lookAt 288 = .ok (.if_icmp .le 7, 3) := by decide +kernel
theorem dX7_lookAt_291 : decode cX7_lookAt 291 = .ok (.iconst 4, 1) := by decide +kernel
theorem dX7_lookAt_292 : decode cX7_lookAt 292 = .ok (.goto 7, 3) := by decide +kernel
theorem dX7_lookAt_295 : decode cX7_lookAt 295 = .ok (.aload_n 0, 1) := by decide +kernel
theorem dX7_lookAt_296 : decode cX7_lookAt 296 = .ok (.getfield 271, 3) := by decide +kernel
theorem dX7_lookAt_299 : decode cX7_lookAt 299 = .ok (.putfield 271, 3) := by decide +kernel
theorem dX7_lookAt_302 : decode cX7_lookAt 302 = .ok (.return_, 1) := by decide +kernel
set_option maxRecDepth 20000 in
theorem ggX7_goBehind_X7_lookAt : GoodIn wsX7_goBehind wsX7_lookAt := goodIn_r _ [7, 1, 8, 9, 2, 10, 11, 12, 13, 6, 14, 15, 16, 17, 18, 19, 20, 21, 22, 23, 24, 25, 26, 27, 28, 29, 30, 31, 32, 33, 34, 35, 36, 37, 38, 39, 40, 41, 42, 43, 44, 45, 46, 47, 48, 49] (by decide +kernel) (by decide +kernel)
set_option maxRecDepth 20000 in
theorem gX7_goBehind_X7_lookAt : GoodIn wsX7_goBehind (wsV RX7 283 RX7 yX7_lookAt wsX7_lookAt) := goodIn_app (goodIn_of _ (by decide +kernel)) ggX7_goBehind_X7_lookAt
theorem dX7_goBehind_0 : decode cX7_goBehind 0 = .ok (.aload_n 0, 1) := by decide +kernel
theorem dX7_goBehind_1 : decode cX7_goBehind 1 = .ok (.aload_n 0, 1) := by decide +kernel
theorem dX7_goBehind_2 : decode cX7_goBehind 2 = .ok (.getfield 265, 3) := by decide +kernel
theorem dX7_goBehind_5 : decode cX7_goBehind 5 = .ok (.aload_n 0, 1) := by decide +kernel
theorem dX7_goBehind_6 : decode cX7_goBehind 6 = .ok (.getfield 268, 3) := by decide +kernel
theorem dX7_goBehind_9 : decode cX7_goBehind 9 = .ok (.iadd, 1) := by decide +kernel
theorem dX7_goBehind_10 : decode cX7_goBehind 10 = .ok (.invokevirtual 283, 3) := by decide +kernel
theorem dX7_goBehind_13 : decode cX7_goBehind 13 = .ok (.return_, 1) := by decide +kernel
theorem dX7_spells_0 : decode cX7_spells 0 = .ok (.aload_n 0, 1) := by decide +kernel
theorem dX7_spells_1 : decode cX7_spells 1 = .ok (.getfield 271, 3) := by decide +kernel
theorem dX7_spells_4 : decode cX7_spells 4 = .ok (.iconst 1, 1) := by decide +kernel
theorem dX7_spells_5 : decode cX7_spells 5 = .ok (.if_icmp .ne 15, 3) := by decide +kernel
theorem dX7_spells_8 : decode cX7_spells 8 = .ok (.aload_n 0, 1) := by decide +kernel
theorem dX7_spells_9 : decode cX7_spells 9 = .ok (.getfield 268, 3) := by decide +kernel
theorem dX7_spells_12 : decode cX7_spells 12 = .ok (.iload_n 1, 1) := by decide +kernel
theorem dX7_spells_13 : decode cX7_spells 13 = .ok (.if_icmp .ne 7, 3) := by decide +kernel
theorem dX7_spells_16 : decode cX7_spells 16 = .ok (.iconst 1, 1) := by decide +kernel
theorem dX7_spells_17 : decode cX7_spells 17 = .ok (.goto 4, 3) := by decide +kernel
theorem dX7_spells_20 : decode cX7_spells 20 = .ok (.iconst 0, 1) := by decide +kernel
theorem dX7_spells_21 : decode cX7_spells 21 = .ok (.istore 8, 2) := by decide +kernel
theorem dX7_spells_23 : decode cX7_spells 23 = .ok (.iconst 0, 1) := by decide +kernel
theorem dX7_spells_24 : decode cX7_spells 24 = .ok (.istore 9, 2) := by decide +kernel
theorem dX7_spells_26 : decode cX7_spells 26 = .ok (.iload 9, 2) := by decide +kernel
theorem dX7_spells_28 : decode cX7_spells 28 = .ok (.iload_n 1, 1) := by decide +kernel
theorem dX7_spells_29 : decode cX7_spells 29 = .ok (.if_icmp .ge 90, 3) := by decide +kernel
theorem dX7_spells_32 : decode cX7_spells 32 = .ok (.iload 8, 2) := by decide +kernel
theorem dX7_spells_34 : decode cX7_spells 34 = .ok (.ifCond .eq 85, 3) := by decide +kernel
theorem dX7_spells_37 : decode cX7_spells 37 = .ok (.aload_n 0, 1) := by decide +kernel
theorem dX7_spells_38 : decode cX7_spells 38 = .ok (.getfield 61, 3) := by decide +kernel
theorem dX7_spells_41 : decode cX7_spells 41 = .ok (.aload_n 0, 1) := by decide +kernel
theorem dX7_spells_42 : decode cX7_spells 42 = .ok (.getfield 265, 3) := by decide +kernel
theorem dX7_spells_45 : decode cX7_spells 45 = .ok (.iload 9, 2) := by decide +kernel
theorem dX7_spells_47 : decode cX7_spells 47 = .ok (.iadd, 1) := by decide +kernel
theorem dX7_spells_48 : decode cX7_spells 48 = .ok (.iaload, 1) := by decide +kernel
theorem dX7_spells_49 : decode cX7_spells 49 = .ok (.iload 9, 2) := by decide +kernel
theorem dX7_spells_51 : decode cX7_spells 51 = .ok (.ifCond .ne 7, 3) := by decide +kernel
theorem dX7_spells_54 : decode cX7_spells 54 = .ok (.iload_n 2, 1) := by decide +kernel
theorem dX7_spells_55 : decode cX7_spells 55 = .ok (.goto 48, 3) := by decide +kernel
theorem dX7_spells_58 : decode cX7_spells 58 = .ok (.iload 9, 2) := by decide +kernel
theorem dX7_spells_60 : decode cX7_spells 60 = .ok (.iconst 1, 1) := by decide +kernel
theorem dX7_spells_61 : decode cX7_spells 61 = .ok (.if_icmp .ne 7, 3) := by decide +kernel
theorem dX7_spells_64 : decode cX7_spells 64 = .ok (.iload_n 3, 1) := by decide +kernel
theorem dX7_spells_65 : decode cX7_spells 65 = .ok (.goto 38, 3) := by decide +kernel
theorem dX7_spells_68 : decode cX7_spells 68 = .ok (.iload 9, 2) := by decide +kernel
theorem dX7_spells_70 : decode cX7_spells 70 = .ok (.iconst 2, 1) := by decide +kernel
theorem dX7_spells_71 : decode cX7_spells 71 = .ok (.if_icmp .ne 8, 3) := by decide +kernel
theorem dX7_spells_74 : decode cX7_spells 74 = .ok (.iload 4, 2) := by decide +kernel
theorem dX7_spells_76 : decode cX7_spells 76 = .ok (.goto 27, 3) := by decide +kernel
theorem dX7_spells_79 : decode cX7_spells 79 = .ok (.iload 9, 2) := by decide +kernel
theorem dX7_spells_81 : decode cX7_spells 81 = .ok (.iconst 3, 1) := by decide +kernel
theorem dX7_spells_82 : decode cX7_spells 82 = .ok (.if_icmp .ne 8, 3) := by decide +kernel
theorem dX7_spells_85 : decode cX7_spells 85 = .ok (.iload 5, 2) := by decide +kernel
theorem dX7_spells_87 : decode cX7_spells 87 = .ok (.goto 16, 3) := by decide +kernel
theorem dX7_spells_90 : decode cX7_spells 90 = .ok (.iload 9, 2) := by decide +kernel
theorem dX7_spells_92 : decode cX7_spells 92 = .ok (.iconst 4, 1) := by decide +kernel
theorem dX7_spells_93 : decode cX7_spells 93 = .ok (.if_icmp .ne 8, 3) := by decide +kernel
theorem dX7_spells_96 : decode cX7_spells 96 = .ok (.iload 6, 2) := by decide +kernel
theorem dX7_spells_98 : decode cX7_spells 98 = .ok (.goto 5, 3) := by decide +kernel
theorem dX7_spells_101 : decode cX7_spells 101 = .ok (.iload 7, 2) := by decide +kernel
theorem dX7_spells_103 : decode cX7_spells 103 = .ok (.if_icmp .ne 7, 3) := by decide +kernel
theorem dX7_spells_106 : decode cX7_spells 106 = .ok (.iconst 1, 1) := by decide +kernel
theorem dX7_spells_107 : decode cX7_spells 107 = .ok (.goto 4, 3) := by decide +kernel
theorem dX7_spells_110 : decode cX7_spells 110 = .ok (.iconst 0, 1) := by decide +kernel
theorem dX7_spells_111 : decode cX7_spells 111 = .ok (.istore 8, 2) := by decide +kernel
theorem dX7_spells_113 : decode cX7_spells 113 = .ok (.iinc 9 1, 3) := by decide +kernel
theorem dX7_spells_116 : decode cX7_spells 116 = .ok (.goto (-90), 3) := by decide +kernel
theorem dX7_spells_119 : decode cX7_spells 119 = .ok (.iload 8, 2) := by decide +kernel
theorem dX7_spells_121 : decode cX7_spells 121 = .ok (.ireturn, 1) := by decide +kernel
set_option maxRecDepth 20000 in
theorem ggX7_takes_X7_in : GoodIn wsX7_takes wsX7_in := goodIn_r _ [7] (by decide +kernel) (by decide +kernel)
set_option maxRecDepth 20000 in
theorem gX7_takes_X7_in : GoodIn wsX7_takes (va_wsS RX7 78 yX7_in wsX7_in) := goodIn_app (goodIn_of _ (by decide +kernel)) ggX7_takes_X7_in
set_option maxRecDepth 20000 in
theorem ggX7_takes_X7_goBehind : GoodIn wsX7_takes wsX7_goBehind := goodIn_r _ [11, 12, 13, 14, 15, 16, 6, 17, 18, 19, 1, 2, 20, 21, 22, 23, 24, 4, 5, 7, 25, 26, 27, 28, 29, 30, 31, 32, 33, 34, 35, 36, 37, 38, 39, 40, 41, 42, 43, 44, 45, 46, 47, 48, 49, 50, 51, 52, 53, 54] (by decide +kernel) (by decide +kernel)
set_option maxRecDepth 20000 in
theorem gX7_takes_X7_goBehind : GoodIn wsX7_takes (wsV RX7 286 RX7 yX7_goBehind wsX7_goBehind) := goodIn_app (goodIn_of _ (by decide +kernel)) ggX7_takes_X7_goBehind
theorem dX7_takes_0 : decode cX7_takes 0 = .ok (.aload_n 0, 1) := by decide +kernel
theorem dX7_takes_1 : decode cX7_takes 1 = .ok (.getfield 271, 3) := by decide +kernel
theorem dX7_takes_4 : decode cX7_takes 4 = .ok (.iconst 2, 1) := by decide +kernel
theorem dX7_takes_5 : decode cX7_takes 5 = .ok (.if_icmp .ne 18, 3) := by decide +kernel
theorem dX7_takes_8 : decode cX7_takes 8 = .ok (.aload_n 0, 1) := by decide +kernel
theorem dX7_takes_9 : decode cX7_takes 9 = .ok (.getfield 274, 3) := by decide +kernel
theorem dX7_takes_12 : decode cX7_takes 12 = .ok (.i2l, 1) := by decide +kernel
theorem dX7_takes_13 : decode cX7_takes 13 = .ok (.iload_n 2, 1) := by decide +kernel
theorem dX7_takes_14 : decode cX7_takes 14 = .ok (.i2l, 1) := by decide +kernel
theorem dX7_takes_15 : decode cX7_takes 15 = .ok (.iload_n 3, 1) := by decide +kernel
theorem dX7_takes_16 : decode cX7_takes 16 = .ok (.i2l, 1) := by decide +kernel
theorem dX7_takes_17 : decode cX7_takes 17 = .ok (.invokestatic 78, 3) := by decide +kernel
theorem dX7_takes_20 : decode cX7_takes 20 = .ok (.ifCond .ne 5, 3) := by decide +kernel
theorem dX7_takes_23 : decode cX7_takes 23 = .ok (.iconst 0, 1) := by decide +kernel
theorem dX7_takes_24 : decode cX7_takes 24 = .ok (.ireturn, 1) := by decide +kernel
theorem dX7_takes_25 : decode cX7_takes 25 = .ok (.aload_n 0, 1) := by decide +kernel
theorem dX7_takes_26 : decode cX7_takes 26 = .ok (.getfield 67, 3) := by decide +kernel
theorem dX7_takes_29 : decode cX7_takes 29 = .ok (.iload_n 1, 1) := by decide +kernel
theorem dX7_takes_30 : decode cX7_takes 30 = .ok (.aload_n 0, 1) := by decide +kernel
theorem dX7_takes_31 : decode cX7_takes 31 = .ok (.getfield 274, 3) := by decide +kernel
theorem dX7_takes_34 : decode cX7_takes 34 = .ok (.iastore, 1) := by decide +kernel
theorem dX7_takes_35 : decode cX7_takes 35 = .ok (.aload_n 0, 1) := by decide +kernel
theorem dX7_takes_36 : decode cX7_takes 36 = .ok (.invokevirtual 286, 3) := by decide +kernel
theorem dX7_takes_39 : decode cX7_takes 39 = .ok (.iconst 1, 1) := by decide +kernel
theorem dX7_takes_40 : decode cX7_takes 40 = .ok (.ireturn, 1) := by decide +kernel
set_option maxRecDepth 20000 in
theorem ggX7_takesPerson_X7_goBehind : GoodIn wsX7_takesPerson wsX7_goBehind := goodIn_r _ [7, 8, 9, 10, 11, 12, 6, 13, 14, 15, 16, 17, 18, 19, 20, 21, 22, 23, 24, 25, 26, 27, 28, 29, 30, 38, 39, 40, 41, 42, 43, 44, 45, 46, 47, 48, 49, 50, 51, 52, 53, 54, 55, 56, 57, 58, 59, 60, 61, 62] (by decide +kernel) (by decide +kernel)
set_option maxRecDepth 20000 in
theorem gX7_takesPerson_X7_goBehind : GoodIn wsX7_takesPerson (wsV RX7 286 RX7 yX7_goBehind wsX7_goBehind) := goodIn_app (goodIn_of _ (by decide +kernel)) ggX7_takesPerson_X7_goBehind
set_option maxRecDepth 20000 in
theorem ggX7_takesPerson_X7_takes : GoodIn wsX7_takesPerson wsX7_takes := goodIn_r _ [34, 16, 17, 2, 23, 24, 6, 25, 3, 4, 5, 7, 8, 9, 10, 11, 12, 13, 14, 15, 18, 19, 20, 21, 22, 26, 27, 28, 29, 30, 38, 39, 40, 41, 42, 43, 44, 45, 46, 47, 48, 49, 50, 51, 52, 53, 54, 55, 56, 57, 58, 59, 60, 61, 62] (by decide +kernel) (by decide +kernel)
set_option maxRecDepth 20000 in
theorem gX7_takesPerson_X7_takes : GoodIn wsX7_takesPerson (wsV RX7 289 RX7 yX7_takes wsX7_takes) := goodIn_app (goodIn_of _ (by decide +kernel)) ggX7_takesPerson_X7_takes
set_option maxRecDepth 20000 in
theorem ggX7_takesPerson_X7_layPerson : GoodIn wsX7_takesPerson wsX7_layPerson := goodIn_r _ [37] (by decide +kernel) (by decide +kernel)
set_option maxRecDepth 20000 in
theorem gX7_takesPerson_X7_layPerson : GoodIn wsX7_takesPerson (va_wsS RX7 104 yX7_layPerson wsX7_layPerson) := goodIn_app (goodIn_of _ (by decide +kernel)) ggX7_takesPerson_X7_layPerson
theorem dX7_takesPerson_0 : decode cX7_takesPerson 0 = .ok (.aload_n 0, 1) := by decide +kernel
theorem dX7_takesPerson_1 : decode cX7_takesPerson 1 = .ok (.getfield 64, 3) := by decide +kernel
theorem dX7_takesPerson_4 : decode cX7_takesPerson 4 = .ok (.iconst 0, 1) := by decide +kernel
theorem dX7_takesPerson_5 : decode cX7_takesPerson 5 = .ok (.iaload, 1) := by decide +kernel
theorem dX7_takesPerson_6 : decode cX7_takesPerson 6 = .ok (.bipush 7, 2) := by decide +kernel
theorem dX7_takesPerson_8 : decode cX7_takesPerson 8 = .ok (.if_icmp .ne 5, 3) := by decide +kernel
theorem dX7_takesPerson_11 : decode cX7_takesPerson 11 = .ok (.iconst 0, 1) := by decide +kernel
theorem dX7_takesPerson_12 : decode cX7_takesPerson 12 = .ok (.ireturn, 1) := by decide +kernel
theorem dX7_takesPerson_13 : decode cX7_takesPerson 13 = .ok (.aload_n 0, 1) := by decide +kernel
theorem dX7_takesPerson_14 : decode cX7_takesPerson 14 = .ok (.invokevirtual 286, 3) := by decide +kernel
theorem dX7_takesPerson_17 : decode cX7_takesPerson 17 = .ok (.aload_n 0, 1) := by decide +kernel
theorem dX7_takesPerson_18 : decode cX7_takesPerson 18 = .ok (.iconst 0, 1) := by decide +kernel
theorem dX7_takesPerson_19 : decode cX7_takesPerson 19 = .ok (.iconst 0, 1) := by decide +kernel
theorem dX7_takesPerson_20 : decode cX7_takesPerson 20 = .ok (.iconst 5, 1) := by decide +kernel
theorem dX7_takesPerson_21 : decode cX7_takesPerson 21 = .ok (.invokevirtual 289, 3) := by decide +kernel
theorem dX7_takesPerson_24 : decode cX7_takesPerson 24 = .ok (.ifCond .eq 58, 3) := by decide +kernel
theorem dX7_takesPerson_27 : decode cX7_takesPerson 27 = .ok (.aload_n 0, 1) := by decide +kernel
theorem dX7_takesPerson_28 : decode cX7_takesPerson 28 = .ok (.iconst 1, 1) := by decide +kernel
theorem dX7_takesPerson_29 : decode cX7_takesPerson 29 = .ok (.iconst 0, 1) := by decide +kernel
theorem dX7_takesPerson_30 : decode cX7_takesPerson 30 = .ok (.bipush 19, 2) := by decide +kernel
theorem dX7_takesPerson_32 : decode cX7_takesPerson 32 = .ok (.invokevirtual 289, 3) := by decide +kernel
theorem dX7_takesPerson_35 : decode cX7_takesPerson 35 = .ok (.ifCond .eq 47, 3) := by decide +kernel
theorem dX7_takesPerson_38 : decode cX7_takesPerson 38 = .ok (.aload_n 0, 1) := by decide +kernel
theorem dX7_takesPerson_39 : decode cX7_takesPerson 39 = .ok (.iconst 2, 1) := by decide +kernel
theorem dX7_takesPerson_40 : decode cX7_takesPerson 40 = .ok (.iconst 0, 1) := by decide +kernel
theorem dX7_takesPerson_41 : decode cX7_takesPerson 41 = .ok (.bipush 9, 2) := by decide +kernel
theorem dX7_takesPerson_43 : decode cX7_takesPerson 43 = .ok (.invokevirtual 289, 3) := by decide +kernel
theorem dX7_takesPerson_46 : decode cX7_takesPerson 46 = .ok (.ifCond .eq 36, 3) := by decide +kernel
theorem dX7_takesPerson_49 : decode cX7_takesPerson 49 = .ok (.aload_n 0, 1) := by decide +kernel
theorem dX7_takesPerson_50 : decode cX7_takesPerson 50 = .ok (.iconst 3, 1) := by decide +kernel
theorem dX7_takesPerson_51 : decode cX7_takesPerson 51 = .ok (.iconst 0, 1) := by decide +kernel
theorem dX7_takesPerson_52 : decode cX7_takesPerson 52 = .ok (.bipush 9, 2) := by decide +kernel
theorem dX7_takesPerson_54 : decode cX7_takesPerson 54 = .ok (.invokevirtual 289, 3) := by decide +kernel
theorem dX7_takesPerson_57 : decode cX7_takesPerson 57 = .ok (.ifCond .eq 25, 3) := by decide +kernel
theorem dX7_takesPerson_60 : decode cX7_takesPerson 60 = .ok (.aload_n 0, 1) := by decide +kernel
theorem dX7_takesPerson_61 : decode cX7_takesPerson 61 = .ok (.iconst 4, 1) := by decide +kernel
theorem dX7_takesPerson_62 : decode cX7_takesPerson 62 = .ok (.iconst 0, 1) := by decide +kernel
theorem dX7_takesPerson_63 : decode cX7_takesPerson 63 = .ok (.bipush 9, 2) := by decide +kernel
theorem dX7_takesPerson_65 : decode cX7_takesPerson 65 = .ok (.invokevirtual 289, 3) := by decide +kernel
theorem dX7_takesPerson_68 : decode cX7_takesPerson 68 = .ok (.ifCond .eq 14, 3) := by decide +kernel
theorem dX7_takesPerson_71 : decode cX7_takesPerson 71 = .ok (.aload_n 0, 1) := by decide +kernel
theorem dX7_takesPerson_72 : decode cX7_takesPerson 72 = .ok (.iconst 5, 1) := by decide +kernel
theorem dX7_takesPerson_73 : decode cX7_takesPerson 73 = .ok (.iconst 0, 1) := by decide +kernel
theorem dX7_takesPerson_74 : decode cX7_takesPerson 74 = .ok (.bipush 9, 2) := by decide +kernel
theorem dX7_takesPerson_76 : decode cX7_takesPerson 76 = .ok (.invokevirtual 289, 3) := by decide +kernel
theorem dX7_takesPerson_79 : decode cX7_takesPerson 79 = .ok (.ifCond .ne 5, 3) := by decide +kernel
theorem dX7_takesPerson_82 : decode cX7_takesPerson 82 = .ok (.iconst 0, 1) := by decide +kernel
theorem dX7_takesPerson_83 : decode cX7_takesPerson 83 = .ok (.ireturn, 1) := by decide +kernel
theorem dX7_takesPerson_84 : decode cX7_takesPerson 84 = .ok (.aload_n 0, 1) := by decide +kernel
theorem dX7_takesPerson_85 : decode cX7_takesPerson 85 = .ok (.getfield 64, 3) := by decide +kernel
theorem dX7_takesPerson_88 : decode cX7_takesPerson 88 = .ok (.aload_n 0, 1) := by decide +kernel
theorem dX7_takesPerson_89 : decode cX7_takesPerson 89 = .ok (.getfield 67, 3) := by decide +kernel
theorem dX7_takesPerson_92 : decode cX7_takesPerson 92 = .ok (.iconst 0, 1) := by decide +kernel
theorem dX7_takesPerson_93 : decode cX7_takesPerson 93 = .ok (.iaload, 1) := by decide +kernel
theorem dX7_takesPerson_94 : decode cX7_takesPerson 94 = .ok (.aload_n 0, 1) := by decide +kernel
theorem dX7_takesPerson_95 : decode cX7_takesPerson 95 = .ok (.getfield 67, 3) := by decide +kernel
theorem dX7_takesPerson_98 : decode cX7_takesPerson 98 = .ok (.iconst 1, 1) := by decide +kernel
theorem dX7_takesPerson_99 : decode cX7_takesPerson 99 = .ok (.iaload, 1) := by decide +kernel
theorem dX7_takesPerson_100 : decode cX7_takesPerson 100 = .ok (.aload_n 0, 1) := by decide +kernel
theorem dX7_takesPerson_101 : decode cX7_takesPerson 101 = .ok (.getfield 67, 3) := by decide +kernel
theorem dX7_takesPerson_104 : decode cX7_takesPerson 104 = .ok (.iconst 2, 1) := by decide +kernel
theorem dX7_takesPerson_105 : decode cX7_takesPerson 105 = .ok (.iaload, 1) := by decide +kernel
theorem dX7_takesPerson_106 : decode cX7_takesPerson 106 = .ok (.aload_n 0, 1) := by decide +kernel
theorem dX7_takesPerson_107 : decode cX7_takesPerson 107 = .ok (.getfield 67, 3) := by decide +kernel
theorem dX7_takesPerson_110 : decode cX7_takesPerson 110 = .ok (.iconst 3, 1) := by decide +kernel
theorem dX7_takesPerson_111 : decode cX7_takesPerson 111 = .ok (.iaload, 1) := by decide +kernel
theorem dX7_takesPerson_112 : decode cX7_takesPerson 112 = .ok (.aload_n 0, 1) := by decide +kernel
theorem dX7_takesPerson_113 : decode cX7_takesPerson 113 = .ok (.getfield 67, 3) := by decide +kernel
theorem dX7_takesPerson_116 : decode cX7_takesPerson 116 = .ok (.iconst 4, 1) := by decide +kernel
theorem dX7_takesPerson_117 : decode cX7_takesPerson 117 = .ok (.iaload, 1) := by decide +kernel
theorem dX7_takesPerson_118 : decode cX7_takesPerson 118 = .ok (.aload_n 0, 1) := by decide +kernel
theorem dX7_takesPerson_119 : decode cX7_takesPerson 119 = .ok (.getfield 67, 3) := by decide +kernel
theorem dX7_takesPerson_122 : decode cX7_takesPerson 122 = .ok (.iconst 5, 1) := by decide +kernel
theorem dX7_takesPerson_123 : decode cX7_takesPerson 123 = .ok (.iaload, 1) := by decide +kernel
theorem dX7_takesPerson_124 : decode cX7_takesPerson 124 = .ok (.invokestatic 104, 3) := by decide +kernel
theorem dX7_takesPerson_127 : decode cX7_takesPerson 127 = .ok (.iconst 1, 1) := by decide +kernel
theorem dX7_takesPerson_128 : decode cX7_takesPerson 128 = .ok (.ireturn, 1) := by decide +kernel
set_option maxRecDepth 20000 in
theorem ggX7_takesCoat_X7_goBehind : GoodIn wsX7_takesCoat wsX7_goBehind := goodIn_r _ [7, 8, 9, 10, 11, 12, 6, 13, 14, 15, 16, 17, 18, 19, 20, 21, 22, 23, 24, 25, 26, 27, 28, 29, 30, 35, 36, 37, 38, 39, 40, 41, 42, 43, 44, 45, 46, 47, 48, 49, 50, 51, 52, 53, 54, 55, 56, 57, 58, 59] (by decide +kernel) (by decide +kernel)
set_option maxRecDepth 20000 in
theorem gX7_takesCoat_X7_goBehind : GoodIn wsX7_takesCoat (wsV RX7 286 RX7 yX7_goBehind wsX7_goBehind) := goodIn_app (goodIn_of _ (by decide +kernel)) ggX7_takesCoat_X7_goBehind
set_option maxRecDepth 20000 in
theorem ggX7_takesCoat_X7_takes : GoodIn wsX7_takesCoat wsX7_takes := goodIn_r _ [34, 16, 17, 2, 23, 24, 6, 25, 3, 4, 5, 7, 8, 9, 10, 11, 12, 13, 14, 15, 18, 19, 20, 21, 22, 26, 27, 28, 29, 30, 35, 36, 37, 38, 39, 40, 41, 42, 43, 44, 45, 46, 47, 48, 49, 50, 51, 52, 53, 54, 55, 56, 57, 58, 59] (by decide +kernel) (by decide +kernel)
set_option maxRecDepth 20000 in
theorem gX7_takesCoat_X7_takes : GoodIn wsX7_takesCoat (wsV RX7 289 RX7 yX7_takes wsX7_takes) := goodIn_app (goodIn_of _ (by decide +kernel)) ggX7_takesCoat_X7_takes
theorem dX7_takesCoat_0 : decode cX7_takesCoat 0 = .ok (.aload_n 0, 1) := by decide +kernel
theorem dX7_takesCoat_1 : decode cX7_takesCoat 1 = .ok (.invokevirtual 286, 3) := by decide +kernel
theorem dX7_takesCoat_4 : decode cX7_takesCoat 4 = .ok (.aload_n 0, 1) := by decide +kernel
theorem dX7_takesCoat_5 : decode cX7_takesCoat 5 = .ok (.iconst 0, 1) := by decide +kernel
theorem dX7_takesCoat_6 : decode cX7_takesCoat 6 = .ok (.iconst 0, 1) := by decide +kernel
theorem dX7_takesCoat_7 : decode cX7_takesCoat 7 = .ok (.aload_n 0, 1) := by decide +kernel
theorem dX7_takesCoat_8 : decode cX7_takesCoat 8 = .ok (.getfield 64, 3) := by decide +kernel
theorem dX7_takesCoat_11 : decode cX7_takesCoat 11 = .ok (.iconst 0, 1) := by decide +kernel
theorem dX7_takesCoat_12 : decode cX7_takesCoat 12 = .ok (.iaload, 1) := by decide +kernel
theorem dX7_takesCoat_13 : decode cX7_takesCoat 13 = .ok (.iconst 1, 1) := by decide +kernel
theorem dX7_takesCoat_14 : decode cX7_takesCoat 14 = .ok (.isub, 1) := by decide +kernel
theorem dX7_takesCoat_15 : decode cX7_takesCoat 15 = .ok (.invokevirtual 289, 3) := by decide +kernel
theorem dX7_takesCoat_18 : decode cX7_takesCoat 18 = .ok (.ifCond .eq 14, 3) := by decide +kernel
theorem dX7_takesCoat_21 : decode cX7_takesCoat 21 = .ok (.aload_n 0, 1) := by decide +kernel
theorem dX7_takesCoat_22 : decode cX7_takesCoat 22 = .ok (.iconst 1, 1) := by decide +kernel
theorem dX7_takesCoat_23 : decode cX7_takesCoat 23 = .ok (.iconst 0, 1) := by decide +kernel
theorem dX7_takesCoat_24 : decode cX7_takesCoat 24 = .ok (.bipush 9, 2) := by decide +kernel
theorem dX7_takesCoat_26 : decode cX7_takesCoat 26 = .ok (.invokevirtual 289, 3) := by decide +kernel
theorem dX7_takesCoat_29 : decode cX7_takesCoat 29 = .ok (.ifCond .ne 5, 3) := by decide +kernel
theorem dX7_takesCoat_32 : decode cX7_takesCoat 32 = .ok (.iconst 0, 1) := by decide +kernel
theorem dX7_takesCoat_33 : decode cX7_takesCoat 33 = .ok (.ireturn, 1) := by decide +kernel
theorem dX7_takesCoat_34 : decode cX7_takesCoat 34 = .ok (.aload_n 0, 1) := by decide +kernel
theorem dX7_takesCoat_35 : decode cX7_takesCoat 35 = .ok (.getfield 64, 3) := by decide +kernel
theorem dX7_takesCoat_38 : decode cX7_takesCoat 38 = .ok (.bipush 15, 2) := by decide +kernel
theorem dX7_takesCoat_40 : decode cX7_takesCoat 40 = .ok (.aload_n 0, 1) := by decide +kernel
theorem dX7_takesCoat_41 : decode cX7_takesCoat 41 = .ok (.getfield 67, 3) := by decide +kernel
theorem dX7_takesCoat_44 : decode cX7_takesCoat 44 = .ok (.iconst 0, 1) := by decide +kernel
theorem dX7_takesCoat_45 : decode cX7_takesCoat 45 = .ok (.iaload, 1) := by decide +kernel
theorem dX7_takesCoat_46 : decode cX7_takesCoat 46 = .ok (.iadd, 1) := by decide +kernel
theorem dX7_takesCoat_47 : decode cX7_takesCoat 47 = .ok (.aload_n 0, 1) := by decide +kernel
theorem dX7_takesCoat_48 : decode cX7_takesCoat 48 = .ok (.getfield 67, 3) := by decide +kernel
theorem dX7_takesCoat_51 : decode cX7_takesCoat 51 = .ok (.iconst 1, 1) := by decide +kernel
theorem dX7_takesCoat_52 : decode cX7_takesCoat 52 = .ok (.iaload, 1) := by decide +kernel
theorem dX7_takesCoat_53 : decode cX7_takesCoat 53 = .ok (.iastore, 1) := by decide +kernel
theorem dX7_takesCoat_54 : decode cX7_takesCoat 54 = .ok (.iconst 1, 1) := by decide +kernel
theorem dX7_takesCoat_55 : decode cX7_takesCoat 55 = .ok (.ireturn, 1) := by decide +kernel
set_option maxRecDepth 20000 in
theorem ggX7_takesThing_X7_goBehind : GoodIn wsX7_takesThing wsX7_goBehind := goodIn_r _ [7, 8, 9, 10, 11, 12, 6, 13, 14, 15, 16, 17, 18, 19, 20, 21, 22, 23, 24, 25, 26, 27, 28, 29, 30, 38, 39, 40, 41, 42, 43, 44, 45, 46, 47, 48, 49, 50, 51, 52, 53, 54, 55, 56, 57, 58, 59, 60, 61, 62] (by decide +kernel) (by decide +kernel)
set_option maxRecDepth 20000 in
theorem gX7_takesThing_X7_goBehind : GoodIn wsX7_takesThing (wsV RX7 286 RX7 yX7_goBehind wsX7_goBehind) := goodIn_app (goodIn_of _ (by decide +kernel)) ggX7_takesThing_X7_goBehind
set_option maxRecDepth 20000 in
theorem ggX7_takesThing_X7_takes : GoodIn wsX7_takesThing wsX7_takes := goodIn_r _ [34, 16, 17, 2, 23, 24, 6, 25, 3, 4, 5, 7, 8, 9, 10, 11, 12, 13, 14, 15, 18, 19, 20, 21, 22, 26, 27, 28, 29, 30, 38, 39, 40, 41, 42, 43, 44, 45, 46, 47, 48, 49, 50, 51, 52, 53, 54, 55, 56, 57, 58, 59, 60, 61, 62] (by decide +kernel) (by decide +kernel)
set_option maxRecDepth 20000 in
theorem gX7_takesThing_X7_takes : GoodIn wsX7_takesThing (wsV RX7 289 RX7 yX7_takes wsX7_takes) := goodIn_app (goodIn_of _ (by decide +kernel)) ggX7_takesThing_X7_takes
set_option maxRecDepth 20000 in
theorem ggX7_takesThing_X7_layThing : GoodIn wsX7_takesThing wsX7_layThing := goodIn_r _ [37] (by decide +kernel) (by decide +kernel)
set_option maxRecDepth 20000 in
theorem gX7_takesThing_X7_layThing : GoodIn wsX7_takesThing (va_wsS RX7 114 yX7_layThing wsX7_layThing) := goodIn_app (goodIn_of _ (by decide +kernel)) ggX7_takesThing_X7_layThing
theorem dX7_takesThing_0 : decode cX7_takesThing 0 = .ok (.aload_n 0, 1) := by decide +kernel
theorem dX7_takesThing_1 : decode cX7_takesThing 1 = .ok (.getfield 64, 3) := by decide +kernel
theorem dX7_takesThing_4 : decode cX7_takesThing 4 = .ok (.iconst 1, 1) := by decide +kernel
theorem dX7_takesThing_5 : decode cX7_takesThing 5 = .ok (.iaload, 1) := by decide +kernel
theorem dX7_takesThing_6 : decode cX7_takesThing 6 = .ok (.iconst 5, 1) := by decide +kernel
theorem dX7_takesThing_7 : decode cX7_takesThing 7 = .ok (.if_icmp .ne 5, 3) := by decide +kernel
theorem dX7_takesThing_10 : decode cX7_takesThing 10 = .ok (.iconst 0, 1) := by decide +kernel
theorem dX7_takesThing_11 : decode cX7_takesThing 11 = .ok (.ireturn, 1) := by decide +kernel
theorem dX7_takesThing_12 : decode cX7_takesThing 12 = .ok (.aload_n 0, 1) := by decide +kernel
theorem dX7_takesThing_13 : decode cX7_takesThing 13 = .ok (.invokevirtual 286, 3) := by decide +kernel
theorem dX7_takesThing_16 : decode cX7_takesThing 16 = .ok (.aload_n 0, 1) := by decide +kernel
theorem dX7_takesThing_17 : decode cX7_takesThing 17 = .ok (.iconst 0, 1) := by decide +kernel
theorem dX7_takesThing_18 : decode cX7_takesThing 18 = .ok (.iconst 0, 1) := by decide +kernel
theorem dX7_takesThing_19 : decode cX7_takesThing 19 = .ok (.iconst 5, 1) := by decide +kernel
theorem dX7_takesThing_20 : decode cX7_takesThing 20 = .ok (.invokevirtual 289, 3) := by decide +kernel
theorem dX7_takesThing_23 : decode cX7_takesThing 23 = .ok (.ifCond .eq 30, 3) := by decide +kernel
theorem dX7_takesThing_26 : decode cX7_takesThing 26 = .ok (.aload_n 0, 1) := by decide +kernel
theorem dX7_takesThing_27 : decode cX7_takesThing 27 = .ok (.iconst 1, 1) := by decide +kernel
theorem dX7_takesThing_28 : decode cX7_takesThing 28 = .ok (.iconst 0, 1) := by decide +kernel
theorem dX7_takesThing_29 : decode cX7_takesThing 29 = .ok (.iconst 3, 1) := by decide +kernel
theorem dX7_takesThing_30 : decode cX7_takesThing 30 = .ok (.invokevirtual 289, 3) := by decide +kernel
theorem dX7_takesThing_33 : decode cX7_takesThing 33 = .ok (.ifCond .eq 20, 3) := by decide +kernel
theorem dX7_takesThing_36 : decode cX7_takesThing 36 = .ok (.aload_n 0, 1) := by decide +kernel
theorem dX7_takesThing_37 : decode cX7_takesThing 37 = .ok (.iconst 2, 1) := by decide +kernel
theorem dX7_takesThing_38 : decode cX7_takesThing 38 = .ok (.iconst 0, 1) := by decide +kernel
theorem dX7_takesThing_39 : decode cX7_takesThing 39 = .ok (.aload_n 0, 1) := by decide +kernel
theorem dX7_takesThing_40 : decode cX7_takesThing 40 = .ok (.getfield 64, 3) := by decide +kernel
theorem dX7_takesThing_43 : decode cX7_takesThing 43 = .ok (.iconst 0, 1) := by decide +kernel
theorem dX7_takesThing_44 : decode cX7_takesThing 44 = .ok (.iaload, 1) := by decide +kernel
theorem dX7_takesThing_45 : decode cX7_takesThing 45 = .ok (.iconst 1, 1) := by decide +kernel
theorem dX7_takesThing_46 : decode cX7_takesThing 46 = .ok (.isub, 1) := by decide +kernel
theorem dX7_takesThing_47 : decode cX7_takesThing 47 = .ok (.invokevirtual 289, 3) := by decide +kernel
theorem dX7_takesThing_50 : decode cX7_takesThing 50 = .ok (.ifCond .ne 5, 3) := by decide +kernel
theorem dX7_takesThing_53 : decode cX7_takesThing 53 = .ok (.iconst 0, 1) := by decide +kernel
theorem dX7_takesThing_54 : decode cX7_takesThing 54 = .ok (.ireturn, 1) := by decide +kernel
theorem dX7_takesThing_55 : decode cX7_takesThing 55 = .ok (.aload_n 0, 1) := by decide +kernel
theorem dX7_takesThing_56 : decode cX7_takesThing 56 = .ok (.getfield 64, 3) := by decide +kernel
theorem dX7_takesThing_59 : decode cX7_takesThing 59 = .ok (.aload_n 0, 1) := by decide +kernel
theorem dX7_takesThing_60 : decode cX7_takesThing 60 = .ok (.getfield 67, 3) := by decide +kernel
theorem dX7_takesThing_63 : decode cX7_takesThing 63 = .ok (.iconst 0, 1) := by decide +kernel
theorem dX7_takesThing_64 : decode cX7_takesThing 64 = .ok (.iaload, 1) := by decide +kernel
theorem dX7_takesThing_65 : decode cX7_takesThing 65 = .ok (.aload_n 0, 1) := by decide +kernel
theorem dX7_takesThing_66 : decode cX7_takesThing 66 = .ok (.getfield 67, 3) := by decide +kernel
theorem dX7_takesThing_69 : decode cX7_takesThing 69 = .ok (.iconst 1, 1) := by decide +kernel
theorem dX7_takesThing_70 : decode cX7_takesThing 70 = .ok (.iaload, 1) := by decide +kernel
theorem dX7_takesThing_71 : decode cX7_takesThing 71 = .ok (.aload_n 0, 1) := by decide +kernel
theorem dX7_takesThing_72 : decode cX7_takesThing 72 = .ok (.getfield 67, 3) := by decide +kernel
theorem dX7_takesThing_75 : decode cX7_takesThing 75 = .ok (.iconst 2, 1) := by decide +kernel
theorem dX7_takesThing_76 : decode cX7_takesThing 76 = .ok (.iaload, 1) := by decide +kernel
theorem dX7_takesThing_77 : decode cX7_takesThing 77 = .ok (.invokestatic 114, 3) := by decide +kernel
theorem dX7_takesThing_80 : decode cX7_takesThing 80 = .ok (.iconst 1, 1) := by decide +kernel
theorem dX7_takesThing_81 : decode cX7_takesThing 81 = .ok (.ireturn, 1) := by decide +kernel
set_option maxRecDepth 20000 in
theorem ggX7_takesLose_X7_goBehind : GoodIn wsX7_takesLose wsX7_goBehind := goodIn_r _ [9, 10, 11, 12, 13, 14, 8, 15, 16, 17, 1, 2, 18, 19, 20, 21, 22, 23, 24, 25, 26, 27, 28, 29, 30, 35, 36, 37, 38, 39, 40, 41, 42, 43, 44, 45, 46, 47, 48, 49, 50, 51, 52, 53, 54, 55, 56, 57, 58, 59] (by decide +kernel) (by decide +kernel)
set_option maxRecDepth 20000 in
theorem gX7_takesLose_X7_goBehind : GoodIn wsX7_takesLose (wsV RX7 286 RX7 yX7_goBehind wsX7_goBehind) := goodIn_app (goodIn_of _ (by decide +kernel)) ggX7_takesLose_X7_goBehind
set_option maxRecDepth 20000 in
theorem ggX7_takesLose_X7_in : GoodIn wsX7_takesLose wsX7_in := goodIn_r _ [25] (by decide +kernel) (by decide +kernel)
set_option maxRecDepth 20000 in
theorem gX7_takesLose_X7_in : GoodIn wsX7_takesLose (va_wsS RX7 78 yX7_in wsX7_in) := goodIn_app (goodIn_of _ (by decide +kernel)) ggX7_takesLose_X7_in
set_option maxRecDepth 20000 in
theorem ggX7_takesLose_X7_takes : GoodIn wsX7_takesLose wsX7_takes := goodIn_r _ [34, 1, 2, 4, 23, 24, 8, 25, 5, 6, 7, 9, 10, 11, 12, 13, 14, 15, 16, 17, 18, 19, 20, 21, 22, 26, 27, 28, 29, 30, 35, 36, 37, 38, 39, 40, 41, 42, 43, 44, 45, 46, 47, 48, 49, 50, 51, 52, 53, 54, 55, 56, 57, 58, 59] (by decide +kernel) (by decide +kernel)
set_option maxRecDepth 20000 in
theorem gX7_takesLose_X7_takes : GoodIn wsX7_takesLose (wsV RX7 289 RX7 yX7_takes wsX7_takes) := goodIn_app (goodIn_of _ (by decide +kernel)) ggX7_takesLose_X7_takes
theorem dX7_takesLose_0 : decode cX7_takesLose 0 = .ok (.aload_n 0, 1) := by decide +kernel
theorem dX7_takesLose_1 : decode cX7_takesLose 1 = .ok (.invokevirtual 286, 3) := by decide +kernel
theorem dX7_takesLose_4 : decode cX7_takesLose 4 = .ok (.aload_n 0, 1) := by decide +kernel
theorem dX7_takesLose_5 : decode cX7_takesLose 5 = .ok (.getfield 271, 3) := by decide +kernel
theorem dX7_takesLose_8 : decode cX7_takesLose 8 = .ok (.iconst 2, 1) := by decide +kernel
theorem dX7_takesLose_9 : decode cX7_takesLose 9 = .ok (.if_icmp .ne 49, 3) := by decide +kernel
theorem dX7_takesLose_12 : decode cX7_takesLose 12 = .ok (.aload_n 0, 1) := by decide +kernel
theorem dX7_takesLose_13 : decode cX7_takesLose 13 = .ok (.getfield 274, 3) := by decide +kernel
theorem dX7_takesLose_16 : decode cX7_takesLose 16 = .ok (.i2l, 1) := by decide +kernel
theorem dX7_takesLose_17 : decode cX7_takesLose 17 = .ok (.lconst 0, 1) := by decide +kernel
theorem dX7_takesLose_18 : decode cX7_takesLose 18 = .ok (.aload_n 0, 1) := by decide +kernel
theorem dX7_takesLose_19 : decode cX7_takesLose 19 = .ok (.getfield 64, 3) := by decide +kernel
theorem dX7_takesLose_22 : decode cX7_takesLose 22 = .ok (.iconst 1, 1) := by decide +kernel
theorem dX7_takesLose_23 : decode cX7_takesLose 23 = .ok (.iaload, 1) := by decide +kernel
theorem dX7_takesLose_24 : decode cX7_takesLose 24 = .ok (.iconst 1, 1) := by decide +kernel
theorem dX7_takesLose_25 : decode cX7_takesLose 25 = .ok (.isub, 1) := by decide +kernel
theorem dX7_takesLose_26 : decode cX7_takesLose 26 = .ok (.i2l, 1) := by decide +kernel
theorem dX7_takesLose_27 : decode cX7_takesLose 27 = .ok (.invokestatic 78, 3) := by decide +kernel
theorem dX7_takesLose_30 : decode cX7_takesLose 30 = .ok (.ifCond .eq 28, 3) := by decide +kernel
theorem dX7_takesLose_33 : decode cX7_takesLose 33 = .ok (.aload_n 0, 1) := by decide +kernel
theorem dX7_takesLose_34 : decode cX7_takesLose 34 = .ok (.getfield 64, 3) := by decide +kernel
theorem dX7_takesLose_37 : decode cX7_takesLose 37 = .ok (.bipush 10, 2) := by decide +kernel
theorem dX7_takesLose_39 : decode cX7_takesLose 39 = .ok (.aload_n 0, 1) := by decide +kernel
theorem dX7_takesLose_40 : decode cX7_takesLose 40 = .ok (.getfield 274, 3) := by decide +kernel
theorem dX7_takesLose_43 : decode cX7_takesLose 43 = .ok (.iadd, 1) := by decide +kernel
theorem dX7_takesLose_44 : decode cX7_takesLose 44 = .ok (.iaload, 1) := by decide +kernel
theorem dX7_takesLose_45 : decode cX7_takesLose 45 = .ok (.ifCond .ne 13, 3) := by decide +kernel
theorem dX7_takesLose_48 : decode cX7_takesLose 48 = .ok (.aload_n 0, 1) := by decide +kernel
theorem dX7_takesLose_49 : decode cX7_takesLose 49 = .ok (.iconst 0, 1) := by decide +kernel
theorem dX7_takesLose_50 : decode cX7_takesLose 50 = .ok (.iconst 0, 1) := by decide +kernel
theorem dX7_takesLose_51 : decode cX7_takesLose 51 = .ok (.iconst 4, 1) := by decide +kernel
theorem dX7_takesLose_52 : decode cX7_takesLose 52 = .ok (.invokevirtual 289, 3) := by decide +kernel
theorem dX7_takesLose_55 : decode cX7_takesLose 55 = .ok (.ifCond .ne 5, 3) := by decide +kernel
theorem dX7_takesLose_58 : decode cX7_takesLose 58 = .ok (.iconst 0, 1) := by decide +kernel
theorem dX7_takesLose_59 : decode cX7_takesLose 59 = .ok (.ireturn, 1) := by decide +kernel
theorem dX7_takesLose_60 : decode cX7_takesLose 60 = .ok (.aload_n 0, 1) := by decide +kernel
theorem dX7_takesLose_61 : decode cX7_takesLose 61 = .ok (.getfield 64, 3) := by decide +kernel
theorem dX7_takesLose_64 : decode cX7_takesLose 64 = .ok (.bipush 10, 2) := by decide +kernel
theorem dX7_takesLose_66 : decode cX7_takesLose 66 = .ok (.aload_n 0, 1) := by decide +kernel
theorem dX7_takesLose_67 : decode cX7_takesLose 67 = .ok (.getfield 67, 3) := by decide +kernel
theorem dX7_takesLose_70 : decode cX7_takesLose 70 = .ok (.iconst 0, 1) := by decide +kernel
theorem dX7_takesLose_71 : decode cX7_takesLose 71 = .ok (.iaload, 1) := by decide +kernel
theorem dX7_takesLose_72 : decode cX7_takesLose 72 = .ok (.iadd, 1) := by decide +kernel
theorem dX7_takesLose_73 : decode cX7_takesLose 73 = .ok (.iconst 1, 1) := by decide +kernel
theorem dX7_takesLose_74 : decode cX7_takesLose 74 = .ok (.iastore, 1) := by decide +kernel
theorem dX7_takesLose_75 : decode cX7_takesLose 75 = .ok (.iconst 1, 1) := by decide +kernel
theorem dX7_takesLose_76 : decode cX7_takesLose 76 = .ok (.ireturn, 1) := by decide +kernel
set_option maxRecDepth 20000 in
theorem ggX7_takesDays_X7_goBehind : GoodIn wsX7_takesDays wsX7_goBehind := goodIn_r _ [7, 8, 9, 10, 11, 12, 6, 13, 14, 15, 16, 17, 18, 19, 20, 21, 22, 23, 24, 25, 26, 27, 28, 29, 30, 66, 67, 68, 69, 70, 71, 72, 73, 74, 75, 76, 77, 78, 79, 80, 81, 82, 83, 84, 85, 86, 87, 88, 89, 90] (by decide +kernel) (by decide +kernel)
set_option maxRecDepth 20000 in
theorem gX7_takesDays_X7_goBehind : GoodIn wsX7_takesDays (wsV RX7 286 RX7 yX7_goBehind wsX7_goBehind) := goodIn_app (goodIn_of _ (by decide +kernel)) ggX7_takesDays_X7_goBehind
set_option maxRecDepth 20000 in
theorem ggX7_takesDays_X7_takes : GoodIn wsX7_takesDays wsX7_takes := goodIn_r _ [34, 16, 17, 1, 23, 24, 6, 25, 3, 4, 5, 7, 8, 9, 10, 11, 12, 13, 14, 15, 18, 19, 20, 21, 22, 26, 27, 28, 29, 30, 66, 67, 68, 69, 70, 71, 72, 73, 74, 75, 76, 77, 78, 79, 80, 81, 82, 83, 84, 85, 86, 87, 88, 89, 90] (by decide +kernel) (by decide +kernel)
set_option maxRecDepth 20000 in
theorem gX7_takesDays_X7_takes : GoodIn wsX7_takesDays (wsV RX7 289 RX7 yX7_takes wsX7_takes) := goodIn_app (goodIn_of _ (by decide +kernel)) ggX7_takesDays_X7_takes
set_option maxRecDepth 20000 in
theorem ggX7_takesDays_X7_goDay : GoodIn wsX7_takesDays wsX7_goDay := goodIn_r _ [38, 39, 40, 41, 6, 42, 43, 44, 45, 46, 47, 48, 49, 50, 51, 52, 53, 54, 55, 56, 57, 58, 59, 60, 61, 62, 63, 64, 65, 66, 67, 68, 69, 70, 71, 72, 73, 74, 75, 76, 77, 78, 79, 80, 81, 82, 83, 84, 85, 86, 87, 88, 89, 90] (by decide +kernel) (by decide +kernel)
set_option maxRecDepth 20000 in
theorem gX7_takesDays_X7_goDay : GoodIn wsX7_takesDays (wsV RX7 163 RX7 yX7_goDay wsX7_goDay) := goodIn_app (goodIn_of _ (by decide +kernel)) ggX7_takesDays_X7_goDay
theorem dX7_takesDays_0 : decode cX7_takesDays 0 = .ok (.aload_n 0, 1) := by decide +kernel
theorem dX7_takesDays_1 : decode cX7_takesDays 1 = .ok (.invokevirtual 286, 3) := by decide +kernel
theorem dX7_takesDays_4 : decode cX7_takesDays 4 = .ok (.aload_n 0, 1) := by decide +kernel
theorem dX7_takesDays_5 : decode cX7_takesDays 5 = .ok (.iconst 0, 1) := by decide +kernel
theorem dX7_takesDays_6 : decode cX7_takesDays 6 = .ok (.iconst 1, 1) := by decide +kernel
theorem dX7_takesDays_7 : decode cX7_takesDays 7 = .ok (.bipush 99, 2) := by decide +kernel
theorem dX7_takesDays_9 : decode cX7_takesDays 9 = .ok (.invokevirtual 289, 3) := by decide +kernel
theorem dX7_takesDays_12 : decode cX7_takesDays 12 = .ok (.ifCond .ne 5, 3) := by decide +kernel
theorem dX7_takesDays_15 : decode cX7_takesDays 15 = .ok (.iconst 0, 1) := by decide +kernel
theorem dX7_takesDays_16 : decode cX7_takesDays 16 = .ok (.ireturn, 1) := by decide +kernel
theorem dX7_takesDays_17 : decode cX7_takesDays 17 = .ok (.iconst 0, 1) := by decide +kernel
theorem dX7_takesDays_18 : decode cX7_takesDays 18 = .ok (.istore_n 1, 1) := by decide +kernel
theorem dX7_takesDays_19 : decode cX7_takesDays 19 = .ok (.iload_n 1, 1) := by decide +kernel
theorem dX7_takesDays_20 : decode cX7_takesDays 20 = .ok (.aload_n 0, 1) := by decide +kernel
theorem dX7_takesDays_21 : decode cX7_takesDays 21 = .ok (.getfield 67, 3) := by decide +kernel
theorem dX7_takesDays_24 : decode cX7_takesDays 24 = .ok (.iconst 0, 1) := by decide +kernel
theorem dX7_takesDays_25 : decode cX7_takesDays 25 = .ok (.iaload, 1) := by decide +kernel
theorem dX7_takesDays_26 : decode cX7_takesDays 26 = .ok (.if_icmp .ge 35, 3) := by decide +kernel
theorem dX7_takesDays_29 : decode cX7_takesDays 29 = .ok (.aload_n 0, 1) := by decide +kernel
theorem dX7_takesDays_30 : decode cX7_takesDays 30 = .ok (.aload_n 0, 1) := by decide +kernel
theorem dX7_takesDays_31 : decode cX7_takesDays 31 = .ok (.getfield 64, 3) := by decide +kernel
theorem dX7_takesDays_34 : decode cX7_takesDays 34 = .ok (.aload_n 0, 1) := by decide +kernel
theorem dX7_takesDays_35 : decode cX7_takesDays 35 = .ok (.getfield 64, 3) := by decide +kernel
theorem dX7_takesDays_38 : decode cX7_takesDays 38 = .ok (.bipush 22, 2) := by decide +kernel
theorem dX7_takesDays_40 : decode cX7_takesDays 40 = .ok (.iaload, 1) := by decide +kernel
theorem dX7_takesDays_41 : decode cX7_takesDays 41 = .ok (.invokevirtual 163, 3) := by decide +kernel
theorem dX7_takesDays_44 : decode cX7_takesDays 44 = .ok (.aload_n 0, 1) := by decide +kernel
theorem dX7_takesDays_45 : decode cX7_takesDays 45 = .ok (.getfield 64, 3) := by decide +kernel
theorem dX7_takesDays_48 : decode cX7_takesDays 48 = .ok (.bipush 22, 2) := by decide +kernel
theorem dX7_takesDays_50 : decode cX7_takesDays 50 = .ok (.dup2, 1) := by decide +kernel
theorem dX7_takesDays_51 : decode cX7_takesDays 51 = .ok (.iaload, 1) := by decide +kernel
theorem dX7_takesDays_52 : decode cX7_takesDays 52 = .ok (.iconst 1, 1) := by decide +kernel
theorem dX7_takesDays_53 : decode cX7_takesDays 53 = .ok (.iadd, 1) := by decide +kernel
theorem dX7_takesDays_54 : decode cX7_takesDays 54 = .ok (.iastore, 1) := by decide +kernel
theorem dX7_takesDays_55 : decode cX7_takesDays 55 = .ok (.iinc 1 1, 3) := by decide +kernel
theorem dX7_takesDays_58 : decode cX7_takesDays 58 = .ok (.goto (-39), 3) := by decide +kernel
theorem dX7_takesDays_61 : decode cX7_takesDays 61 = .ok (.iconst 1, 1) := by decide +kernel
theorem dX7_takesDays_62 : decode cX7_takesDays 62 = .ok (.ireturn, 1) := by decide +kernel
set_option maxRecDepth 20000 in
theorem ggX7_takesItem_X7_spells : GoodIn wsX7_takesItem wsX7_spells := goodIn_r _ [5, 6, 7, 8, 9, 96, 97, 98, 99, 100, 101, 102, 103, 104, 105, 106, 107, 108, 109, 110, 111, 112, 113, 114, 115, 116, 117, 118, 119, 120] (by decide +kernel) (by decide +kernel)
set_option maxRecDepth 20000 in
theorem gX7_takesItem_X7_spells : GoodIn wsX7_takesItem (wsV RX7 293 RX7 yX7_spells wsX7_spells) := goodIn_app (goodIn_of _ (by decide +kernel)) ggX7_takesItem_X7_spells
set_option maxRecDepth 20000 in
theorem ggX7_takesItem_X7_takesPerson : GoodIn wsX7_takesItem wsX7_takesPerson := goodIn_r _ [13, 14, 15, 16, 17, 18, 4, 19, 9, 7, 20, 21, 22, 23, 24, 8, 6, 25, 26, 27, 28, 29, 30, 31, 32, 33, 34, 35, 36, 37, 38, 39, 40, 41, 42, 43, 44, 45, 96, 97, 98, 99, 100, 101, 102, 103, 104, 105, 106, 107, 108, 109, 110, 111, 112, 113, 114, 115, 116, 117, 118, 119, 120] (by decide +kernel) (by decide +kernel)
set_option maxRecDepth 20000 in
theorem gX7_takesItem_X7_takesPerson : GoodIn wsX7_takesItem (wsV RX7 297 RX7 yX7_takesPerson wsX7_takesPerson) := goodIn_app (goodIn_of _ (by decide +kernel)) ggX7_takesItem_X7_takesPerson
set_option maxRecDepth 20000 in
theorem ggX7_takesItem_X7_takesCoat : GoodIn wsX7_takesItem wsX7_takesCoat := goodIn_r _ [49, 14, 15, 16, 17, 18, 4, 19, 9, 7, 20, 21, 22, 23, 24, 8, 6, 25, 26, 27, 28, 29, 30, 31, 32, 33, 34, 35, 36, 37, 38, 39, 40, 41, 42, 96, 97, 98, 99, 100, 101, 102, 103, 104, 105, 106, 107, 108, 109, 110, 111, 112, 113, 114, 115, 116, 117, 118, 119, 120] (by decide +kernel) (by decide +kernel)
set_option maxRecDepth 20000 in
theorem gX7_takesItem_X7_takesCoat : GoodIn wsX7_takesItem (wsV RX7 301 RX7 yX7_takesCoat wsX7_takesCoat) := goodIn_app (goodIn_of _ (by decide +kernel)) ggX7_takesItem_X7_takesCoat
set_option maxRecDepth 20000 in
theorem ggX7_takesItem_X7_takesThing : GoodIn wsX7_takesItem wsX7_takesThing := goodIn_r _ [53, 14, 15, 16, 17, 18, 4, 19, 9, 7, 20, 21, 22, 23, 24, 8, 6, 25, 26, 27, 28, 29, 30, 31, 32, 33, 34, 35, 36, 37, 38, 39, 40, 41, 42, 54, 55, 56, 96, 97, 98, 99, 100, 101, 102, 103, 104, 105, 106, 107, 108, 109, 110, 111, 112, 113, 114, 115, 116, 117, 118, 119, 120] (by decide +kernel) (by decide +kernel)
set_option maxRecDepth 20000 in
theorem gX7_takesItem_X7_takesThing : GoodIn wsX7_takesItem (wsV RX7 304 RX7 yX7_takesThing wsX7_takesThing) := goodIn_app (goodIn_of _ (by decide +kernel)) ggX7_takesItem_X7_takesThing
set_option maxRecDepth 20000 in
theorem ggX7_takesItem_X7_takesLose : GoodIn wsX7_takesItem wsX7_takesLose := goodIn_r _ [60, 6, 25, 14, 15, 16, 17, 18, 4, 19, 9, 7, 20, 21, 22, 23, 24, 8, 26, 27, 28, 29, 30, 31, 32, 33, 34, 35, 36, 37, 38, 39, 40, 41, 42, 96, 97, 98, 99, 100, 101, 102, 103, 104, 105, 106, 107, 108, 109, 110, 111, 112, 113, 114, 115, 116, 117, 118, 119, 120] (by decide +kernel) (by decide +kernel)
set_option maxRecDepth 20000 in
theorem gX7_takesItem_X7_takesLose : GoodIn wsX7_takesItem (wsV RX7 307 RX7 yX7_takesLose wsX7_takesLose) := goodIn_app (goodIn_of _ (by decide +kernel)) ggX7_takesItem_X7_takesLose
set_option maxRecDepth 20000 in
theorem ggX7_takesItem_X7_takesDays : GoodIn wsX7_takesItem wsX7_takesDays := goodIn_r _ [64, 15, 14, 16, 17, 18, 4, 19, 9, 7, 20, 21, 22, 23, 24, 8, 6, 25, 26, 27, 28, 29, 30, 31, 32, 33, 34, 35, 36, 37, 38, 39, 40, 41, 42, 65, 66, 67, 68, 69, 70, 71, 72, 73, 74, 75, 76, 77, 78, 79, 80, 81, 82, 83, 84, 85, 86, 87, 88, 89, 90, 91, 92, 93, 94, 95, 96, 97, 98, 99, 100, 101, 102, 103, 104, 105, 106, 107, 108, 109, 110, 111, 112, 113, 114, 115, 116, 117, 118, 119, 120] (by decide +kernel) (by decide +kernel)
set_option maxRecDepth 20000 in
theorem gX7_takesItem_X7_takesDays : GoodIn wsX7_takesItem (wsV RX7 310 RX7 yX7_takesDays wsX7_takesDays) := goodIn_app (goodIn_of _ (by decide +kernel)) ggX7_takesItem_X7_takesDays
theorem dX7_takesItem_0 : decode cX7_takesItem 0 = .ok (.aload_n 0, 1) := by decide +kernel
theorem dX7_takesItem_1 : decode cX7_takesItem 1 = .ok (.bipush 6, 2) := by decide +kernel
theorem dX7_takesItem_3 : decode cX7_takesItem 3 = .ok (.bipush 112, 2) := by decide +kernel
theorem dX7_takesItem_5 : decode cX7_takesItem 5 = .ok (.bipush 101, 2) := by decide +kernel
theorem dX7_takesItem_7 : decode cX7_takesItem 7 = .ok (.bipush 114, 2) := by decide +kernel
theorem dX7_takesItem_9 : decode cX7_takesItem 9 = .ok (.bipush 115, 2) := by decide +kernel
theorem dX7_takesItem_11 : decode cX7_takesItem 11 = .ok (.bipush 111, 2) := by decide +kernel
theorem dX7_takesItem_13 : decode cX7_takesItem 13 = .ok (.bipush 110, 2) := by decide +kernel
theorem dX7_takesItem_15 : decode cX7_takesItem 15 = .ok (.invokevirtual 293, 3) := by decide +kernel
theorem dX7_takesItem_18 : decode cX7_takesItem 18 = .ok (.ifCond .eq 8, 3) := by decide +kernel
theorem dX7_takesItem_21 : decode cX7_takesItem 21 = .ok (.aload_n 0, 1) := by decide +kernel
theorem dX7_takesItem_22 : decode cX7_takesItem 22 = .ok (.invokevirtual 297, 3) := by decide +kernel
theorem dX7_takesItem_25 : decode cX7_takesItem 25 = .ok (.ireturn, 1) := by decide +kernel
theorem dX7_takesItem_26 : decode cX7_takesItem 26 = .ok (.aload_n 0, 1) := by decide +kernel
theorem dX7_takesItem_27 : decode cX7_takesItem 27 = .ok (.iconst 4, 1) := by decide +kernel
theorem dX7_takesItem_28 : decode cX7_takesItem 28 = .ok (.bipush 99, 2) := by decide +kernel
theorem dX7_takesItem_30 : decode cX7_takesItem 30 = .ok (.bipush 111, 2) := by decide +kernel
theorem dX7_takesItem_32 : decode cX7_takesItem 32 = .ok (.bipush 97, 2) := by decide +kernel
theorem dX7_takesItem_34 : decode cX7_takesItem 34 = .ok (.bipush 116, 2) := by decide +kernel
theorem dX7_takesItem_36 : decode cX7_takesItem 36 = .ok (.iconst 0, 1) := by decide +kernel
theorem dX7_takesItem_37 : decode cX7_takesItem 37 = .ok (.iconst 0, 1) := by decide +kernel
theorem dX7_takesItem_38 : decode cX7_takesItem 38 = .ok (.invokevirtual 293, 3) := by decide +kernel
theorem dX7_takesItem_41 : decode cX7_takesItem 41 = .ok (.ifCond .eq 8, 3) := by decide +kernel
theorem dX7_takesItem_44 : decode cX7_takesItem 44 = .ok (.aload_n 0, 1) := by decide +kernel
theorem dX7_takesItem_45 : decode cX7_takesItem 45 = .ok (.invokevirtual 301, 3) := by decide +kernel
theorem dX7_takesItem_48 : decode cX7_takesItem 48 = .ok (.ireturn, 1) := by decide +kernel
theorem dX7_takesItem_49 : decode cX7_takesItem 49 = .ok (.aload_n 0, 1) := by decide +kernel
theorem dX7_takesItem_50 : decode cX7_takesItem 50 = .ok (.iconst 5, 1) := by decide +kernel
theorem dX7_takesItem_51 : decode cX7_takesItem 51 = .ok (.bipush 116, 2) := by decide +kernel
theorem dX7_takesItem_53 : decode cX7_takesItem 53 = .ok (.bipush 104, 2) := by decide +kernel
theorem dX7_takesItem_55 : decode cX7_takesItem 55 = .ok (.bipush 105, 2) := by decide +kernel
theorem dX7_takesItem_57 : decode cX7_takesItem 57 = .ok (.bipush 110, 2) := by decide +kernel
theorem dX7_takesItem_59 : decode cX7_takesItem 59 = .ok (.bipush 103, 2) := by decide +kernel
theorem dX7_takesItem_61 : decode cX7_takesItem 61 = .ok (.iconst 0, 1) := by decide +kernel
theorem dX7_takesItem_62 : decode cX7_takesItem 62 = .ok (.invokevirtual 293, 3) := by decide +kernel
theorem dX7_takesItem_65 : decode cX7_takesItem 65 = .ok (.ifCond .eq 8, 3) := by decide +kernel
theorem dX7_takesItem_68 : decode cX7_takesItem 68 = .ok (.aload_n 0, 1) := by decide +kernel
theorem dX7_takesItem_69 : decode cX7_takesItem 69 = .ok (.invokevirtual 304, 3) := by decide +kernel
theorem dX7_takesItem_72 : decode cX7_takesItem 72 = .ok (.ireturn, 1) := by decide +kernel
theorem dX7_takesItem_73 : decode cX7_takesItem 73 = .ok (.aload_n 0, 1) := by decide +kernel
theorem dX7_takesItem_74 : decode cX7_takesItem 74 = .ok (.iconst 4, 1) := by decide +kernel
theorem dX7_takesItem_75 : decode cX7_takesItem 75 = .ok (.bipush 108, 2) := by decide +kernel
theorem dX7_takesItem_77 : decode cX7_takesItem 77 = .ok (.bipush 111, 2) := by decide +kernel
theorem dX7_takesItem_79 : decode cX7_takesItem 79 = .ok (.bipush 115, 2) := by decide +kernel
theorem dX7_takesItem_81 : decode cX7_takesItem 81 = .ok (.bipush 101, 2) := by decide +kernel
theorem dX7_takesItem_83 : decode cX7_takesItem 83 = .ok (.iconst 0, 1) := by decide +kernel
theorem dX7_takesItem_84 : decode cX7_takesItem 84 = .ok (.iconst 0, 1) := by decide +kernel
theorem dX7_takesItem_85 : decode cX7_takesItem 85 = .ok (.invokevirtual 293, 3) := by decide +kernel
theorem dX7_takesItem_88 : decode cX7_takesItem 88 = .ok (.ifCond .eq 8, 3) := by decide +kernel
theorem dX7_takesItem_91 : decode cX7_takesItem 91 = .ok (.aload_n 0, 1) := by decide +kernel
theorem dX7_takesItem_92 : decode cX7_takesItem 92 = .ok (.invokevirtual 307, 3) := by decide +kernel
theorem dX7_takesItem_95 : decode cX7_takesItem 95 = .ok (.ireturn, 1) := by decide +kernel
theorem dX7_takesItem_96 : decode cX7_takesItem 96 = .ok (.aload_n 0, 1) := by decide +kernel
theorem dX7_takesItem_97 : decode cX7_takesItem 97 = .ok (.iconst 4, 1) := by decide +kernel
theorem dX7_takesItem_98 : decode cX7_takesItem 98 = .ok (.bipush 100, 2) := by decide +kernel
theorem dX7_takesItem_100 : decode cX7_takesItem 100 = .ok (.bipush 97, 2) := by decide +kernel
theorem dX7_takesItem_102 : decode cX7_takesItem 102 = .ok (.bipush 121, 2) := by decide +kernel
theorem dX7_takesItem_104 : decode cX7_takesItem 104 = .ok (.bipush 115, 2) := by decide +kernel
theorem dX7_takesItem_106 : decode cX7_takesItem 106 = .ok (.iconst 0, 1) := by decide +kernel
theorem dX7_takesItem_107 : decode cX7_takesItem 107 = .ok (.iconst 0, 1) := by decide +kernel
theorem dX7_takesItem_108 : decode cX7_takesItem 108 = .ok (.invokevirtual 293, 3) := by decide +kernel
theorem dX7_takesItem_111 : decode cX7_takesItem 111 = .ok (.ifCond .eq 14, 3) := by decide +kernel
theorem dX7_takesItem_114 : decode cX7_takesItem 114 = .ok (.aload_n 0, 1) := by decide +kernel
theorem dX7_takesItem_115 : decode cX7_takesItem 115 = .ok (.invokevirtual 310, 3) := by decide +kernel
theorem dX7_takesItem_118 : decode cX7_takesItem 118 = .ok (.ifCond .eq 7, 3) := by decide +kernel
theorem dX7_takesItem_121 : decode cX7_takesItem 121 = .ok (.iconst 1, 1) := by decide +kernel
theorem dX7_takesItem_122 : decode cX7_takesItem 122 = .ok (.goto 4, 3) := by decide +kernel
theorem dX7_takesItem_125 : decode cX7_takesItem 125 = .ok (.iconst 0, 1) := by decide +kernel
theorem dX7_takesItem_126 : decode cX7_takesItem 126 = .ok (.ireturn, 1) := by decide +kernel
set_option maxRecDepth 20000 in
theorem ggX7_read_X7_lookAt : GoodIn wsX7_read wsX7_lookAt := goodIn_r _ [9, 1, 10, 11, 12, 2, 13, 14, 15, 8, 16, 17, 18, 19, 20, 21, 22, 23, 24, 25, 26, 104, 105, 106, 107, 108, 109, 110, 111, 112, 113, 114, 115, 116, 117, 118, 119, 120, 121, 122, 123, 124, 125, 126, 127, 128] (by decide +kernel) (by decide +kernel)
set_option maxRecDepth 20000 in
theorem gX7_read_X7_lookAt : GoodIn wsX7_read (wsV RX7 283 RX7 yX7_lookAt wsX7_lookAt) := goodIn_app (goodIn_of _ (by decide +kernel)) ggX7_read_X7_lookAt
set_option maxRecDepth 20000 in
theorem ggX7_read_X7_spells : GoodIn wsX7_read wsX7_spells := goodIn_r _ [30, 2, 12, 11, 1, 104, 105, 106, 107, 108, 109, 110, 111, 112, 113, 114, 115, 116, 117, 118, 119, 120, 121, 122, 123, 124, 125, 126, 127, 128] (by decide +kernel) (by decide +kernel)
set_option maxRecDepth 20000 in
theorem gX7_read_X7_spells : GoodIn wsX7_read (wsV RX7 293 RX7 yX7_spells wsX7_spells) := goodIn_app (goodIn_of _ (by decide +kernel)) ggX7_read_X7_spells
set_option maxRecDepth 20000 in
theorem ggX7_read_X7_goBehind : GoodIn wsX7_read wsX7_goBehind := goodIn_r _ [34, 1, 12, 5, 6, 7, 8, 9, 10, 11, 2, 13, 14, 15, 16, 17, 18, 19, 20, 21, 22, 23, 24, 25, 26, 104, 105, 106, 107, 108, 109, 110, 111, 112, 113, 114, 115, 116, 117, 118, 119, 120, 121, 122, 123, 124, 125, 126, 127, 128] (by decide +kernel) (by decide +kernel)
set_option maxRecDepth 20000 in
theorem gX7_read_X7_goBehind : GoodIn wsX7_read (wsV RX7 286 RX7 yX7_goBehind wsX7_goBehind) := goodIn_app (goodIn_of _ (by decide +kernel)) ggX7_read_X7_goBehind
set_option maxRecDepth 20000 in
theorem ggX7_read_X7_begin : GoodIn wsX7_read wsX7_begin := goodIn_r _ [37] (by decide +kernel) (by decide +kernel)
set_option maxRecDepth 20000 in
theorem gX7_read_X7_begin : GoodIn wsX7_read (va_wsS RX7 70 yX7_begin wsX7_begin) := goodIn_app (goodIn_of _ (by decide +kernel)) ggX7_read_X7_begin
set_option maxRecDepth 20000 in
theorem ggX7_read_X7_takesItem : GoodIn wsX7_read wsX7_takesItem := goodIn_r _ [41, 27, 28, 29, 8, 30, 2, 12, 11, 1, 42, 43, 44, 45, 3, 46, 31, 32, 33, 34, 5, 6, 7, 9, 10, 13, 14, 15, 16, 17, 18, 19, 20, 21, 22, 23, 24, 25, 26, 47, 48, 49, 50, 51, 52, 53, 54, 55, 56, 57, 58, 59, 60, 61, 62, 63, 64, 65, 66, 67, 68, 69, 70, 71, 72, 73, 74, 75, 76, 77, 78, 79, 80, 81, 82, 83, 84, 85, 86, 87, 88, 89, 90, 91, 92, 93, 94, 95, 96, 97, 98, 99, 100, 101, 102, 103, 104, 105, 106, 107, 108, 109, 110, 111, 112, 113, 114, 115, 116, 117, 118, 119, 120, 121, 122, 123, 124, 125, 126, 127, 128] (by decide +kernel) (by decide +kernel)
set_option maxRecDepth 20000 in
theorem gX7_read_X7_takesItem : GoodIn wsX7_read (wsV RX7 313 RX7 yX7_takesItem wsX7_takesItem) := goodIn_app (goodIn_of _ (by decide +kernel)) ggX7_read_X7_takesItem
theorem dX7_read_0 : decode cX7_read 0 = .ok (.aload_n 0, 1) := by decide +kernel
theorem dX7_read_1 : decode cX7_read 1 = .ok (.iconst 0, 1) := by decide +kernel
theorem dX7_read_2 : decode cX7_read 2 = .ok (.invokevirtual 283, 3) := by decide +kernel
theorem dX7_read_5 : decode cX7_read 5 = .ok (.aload_n 0, 1) := by decide +kernel
theorem dX7_read_6 : decode cX7_read 6 = .ok (.bipush 6, 2) := by decide +kernel
theorem dX7_read_8 : decode cX7_read 8 = .ok (.bipush 118, 2) := by decide +kernel
theorem dX7_read_10 : decode cX7_read 10 = .ok (.bipush 97, 2) := by decide +kernel
theorem dX7_read_12 : decode cX7_read 12 = .ok (.bipush 108, 2) := by decide +kernel
theorem dX7_read_14 : decode cX7_read 14 = .ok (.bipush 108, 2) := by decide +kernel
theorem dX7_read_16 : decode cX7_read 16 = .ok (.bipush 101, 2) := by decide +kernel
theorem dX7_read_18 : decode cX7_read 18 = .ok (.bipush 121, 2) := by decide +kernel
theorem dX7_read_20 : decode cX7_read 20 = .ok (.invokevirtual 293, 3) := by decide +kernel
theorem dX7_read_23 : decode cX7_read 23 = .ok (.ifCond .ne 11, 3) := by decide +kernel
theorem dX7_read_26 : decode cX7_read 26 = .ok (.bipush (-10), 2) := by decide +kernel
theorem dX7_read_28 : decode cX7_read 28 = .ok (.aload_n 0, 1) := by decide +kernel
theorem dX7_read_29 : decode cX7_read 29 = .ok (.getfield 265, 3) := by decide +kernel
theorem dX7_read_32 : decode cX7_read 32 = .ok (.isub, 1) := by decide +kernel
theorem dX7_read_33 : decode cX7_read 33 = .ok (.ireturn, 1) := by decide +kernel
theorem dX7_read_34 : decode cX7_read 34 = .ok (.aload_n 0, 1) := by decide +kernel
theorem dX7_read_35 : decode cX7_read 35 = .ok (.invokevirtual 286, 3) := by decide +kernel
theorem dX7_read_38 : decode cX7_read 38 = .ok (.aload_n 0, 1) := by decide +kernel
theorem dX7_read_39 : decode cX7_read 39 = .ok (.getfield 271, 3) := by decide +kernel
theorem dX7_read_42 : decode cX7_read 42 = .ok (.iconst 3, 1) := by decide +kernel
theorem dX7_read_43 : decode cX7_read 43 = .ok (.if_icmp .eq 11, 3) := by decide +kernel
theorem dX7_read_46 : decode cX7_read 46 = .ok (.bipush (-10), 2) := by decide +kernel
theorem dX7_read_48 : decode cX7_read 48 = .ok (.aload_n 0, 1) := by decide +kernel
theorem dX7_read_49 : decode cX7_read 49 = .ok (.getfield 265, 3) := by decide +kernel
theorem dX7_read_52 : decode cX7_read 52 = .ok (.isub, 1) := by decide +kernel
theorem dX7_read_53 : decode cX7_read 53 = .ok (.ireturn, 1) := by decide +kernel
theorem dX7_read_54 : decode cX7_read 54 = .ok (.aload_n 0, 1) := by decide +kernel
theorem dX7_read_55 : decode cX7_read 55 = .ok (.invokevirtual 286, 3) := by decide +kernel
theorem dX7_read_58 : decode cX7_read 58 = .ok (.aload_n 0, 1) := by decide +kernel
theorem dX7_read_59 : decode cX7_read 59 = .ok (.getfield 64, 3) := by decide +kernel
theorem dX7_read_62 : decode cX7_read 62 = .ok (.invokestatic 70, 3) := by decide +kernel
theorem dX7_read_65 : decode cX7_read 65 = .ok (.iconst 1, 1) := by decide +kernel
theorem dX7_read_66 : decode cX7_read 66 = .ok (.istore_n 1, 1) := by decide +kernel
theorem dX7_read_67 : decode cX7_read 67 = .ok (.aload_n 0, 1) := by decide +kernel
theorem dX7_read_68 : decode cX7_read 68 = .ok (.getfield 271, 3) := by decide +kernel
theorem dX7_read_71 : decode cX7_read 71 = .ok (.ifCond .eq 36, 3) := by decide +kernel
theorem dX7_read_74 : decode cX7_read 74 = .ok (.aload_n 0, 1) := by decide +kernel
theorem dX7_read_75 : decode cX7_read 75 = .ok (.invokevirtual 313, 3) := by decide +kernel
theorem dX7_read_78 : decode cX7_read 78 = .ok (.ifCond .eq 11, 3) := by decide +kernel
theorem dX7_read_81 : decode cX7_read 81 = .ok (.aload_n 0, 1) := by decide +kernel
theorem dX7_read_82 : decode cX7_read 82 = .ok (.getfield 271, 3) := by decide +kernel
theorem dX7_read_85 : decode cX7_read 85 = .ok (.iconst 3, 1) := by decide +kernel
theorem dX7_read_86 : decode cX7_read 86 = .ok (.if_icmp .eq 11, 3) := by decide +kernel
theorem dX7_read_89 : decode cX7_read 89 = .ok (.bipush (-10), 2) := by decide +kernel
theorem dX7_read_91 : decode cX7_read 91 = .ok (.aload_n 0, 1) := by decide +kernel
theorem dX7_read_92 : decode cX7_read 92 = .ok (.getfield 265, 3) := by decide +kernel
theorem dX7_read_95 : decode cX7_read 95 = .ok (.isub, 1) := by decide +kernel
theorem dX7_read_96 : decode cX7_read 96 = .ok (.ireturn, 1) := by decide +kernel
theorem dX7_read_97 : decode cX7_read 97 = .ok (.aload_n 0, 1) := by decide +kernel
theorem dX7_read_98 : decode cX7_read 98 = .ok (.invokevirtual 286, 3) := by decide +kernel
theorem dX7_read_101 : decode cX7_read 101 = .ok (.iinc 1 1, 3) := by decide +kernel
theorem dX7_read_104 : decode cX7_read 104 = .ok (.goto (-37), 3) := by decide +kernel
theorem dX7_read_107 : decode cX7_read 107 = .ok (.iconst 0, 1) := by decide +kernel
theorem dX7_read_108 : decode cX7_read 108 = .ok (.istore_n 2, 1) := by decide +kernel
theorem dX7_read_109 : decode cX7_read 109 = .ok (.iload_n 2, 1) := by decide +kernel
theorem dX7_read_110 : decode cX7_read 110 = .ok (.sipush 140, 3) := by decide +kernel
theorem dX7_read_113 : decode cX7_read 113 = .ok (.if_icmp .ge 21, 3) := by decide +kernel
theorem dX7_read_116 : decode cX7_read 116 = .ok (.aload_n 0, 1) := by decide +kernel
theorem dX7_read_117 : decode cX7_read 117 = .ok (.getfield 7, 3) := by decide +kernel
theorem dX7_read_120 : decode cX7_read 120 = .ok (.iload_n 2, 1) := by decide +kernel
theorem dX7_read_121 : decode cX7_read 121 = .ok (.aload_n 0, 1) := by decide +kernel
theorem dX7_read_122 : decode cX7_read 122 = .ok (.getfield 64, 3) := by decide +kernel
theorem dX7_read_125 : decode cX7_read 125 = .ok (.iload_n 2, 1) := by decide +kernel
theorem dX7_read_126 : decode cX7_read 126 = .ok (.iaload, 1) := by decide +kernel
theorem dX7_read_127 : decode cX7_read 127 = .ok (.iastore, 1) := by decide +kernel
theorem dX7_read_128 : decode cX7_read 128 = .ok (.iinc 2 1, 3) := by decide +kernel
theorem dX7_read_131 : decode cX7_read 131 = .ok (.goto (-22), 3) := by decide +kernel
theorem dX7_read_134 : decode cX7_read 134 = .ok (.iload_n 1, 1) := by decide +kernel
theorem dX7_read_135 : decode cX7_read 135 = .ok (.ireturn, 1) := by decide +kernel
set_option maxRecDepth 20000 in
theorem ggX7_part_X7_bad : GoodIn wsX7_part wsX7_bad := goodIn_r _ [7, 8, 9, 10, 11, 12, 13, 14, 15, 16, 17, 18, 19, 20, 21, 22, 23, 24, 25, 26, 27, 28, 29, 30, 31, 32, 33] (by decide +kernel) (by decide +kernel)
set_option maxRecDepth 20000 in
theorem gX7_part_X7_bad : GoodIn wsX7_part (wsV RX7 97 RX7 yX7_bad wsX7_bad) := goodIn_app (goodIn_of _ (by decide +kernel)) ggX7_part_X7_bad
theorem dX7_part_0 : decode cX7_part 0 = .ok (.iload_n 1, 1) := by decide +kernel
theorem dX7_part_1 : decode cX7_part 1 = .ok (.ifCond .ne 10, 3) := by decide +kernel
theorem dX7_part_4 : decode cX7_part 4 = .ok (.aload_n 0, 1) := by decide +kernel
theorem dX7_part_5 : decode cX7_part 5 = .ok (.getfield 223, 3) := by decide +kernel
theorem dX7_part_8 : decode cX7_part 8 = .ok (.goto 22, 3) := by decide +kernel
theorem dX7_part_11 : decode cX7_part 11 = .ok (.iload_n 1, 1) := by decide +kernel
theorem dX7_part_12 : decode cX7_part 12 = .ok (.iconst 1, 1) := by decide +kernel
theorem dX7_part_13 : decode cX7_part 13 = .ok (.if_icmp .ne 10, 3) := by decide +kernel
theorem dX7_part_16 : decode cX7_part 16 = .ok (.aload_n 0, 1) := by decide +kernel
theorem dX7_part_17 : decode cX7_part 17 = .ok (.getfield 23, 3) := by decide +kernel
theorem dX7_part_20 : decode cX7_part 20 = .ok (.goto 10, 3) := by decide +kernel
theorem dX7_part_23 : decode cX7_part 23 = .ok (.aload_n 0, 1) := by decide +kernel
theorem dX7_part_24 : decode cX7_part 24 = .ok (.bipush (-2), 2) := by decide +kernel
theorem dX7_part_26 : decode cX7_part 26 = .ok (.invokevirtual 97, 3) := by decide +kernel
theorem dX7_part_29 : decode cX7_part 29 = .ok (.i2l, 1) := by decide +kernel
theorem dX7_part_30 : decode cX7_part 30 = .ok (.lreturn, 1) := by decide +kernel
set_option maxRecDepth 20000 in
theorem ggX7_image_X7_in : GoodIn wsX7_image wsX7_in := goodIn_r _ [7] (by decide +kernel) (by decide +kernel)
set_option maxRecDepth 20000 in
theorem gX7_image_X7_in : GoodIn wsX7_image (va_wsS RX7 78 yX7_in wsX7_in) := goodIn_app (goodIn_of _ (by decide +kernel)) ggX7_image_X7_in
set_option maxRecDepth 20000 in
theorem ggX7_image_X7_bad : GoodIn wsX7_image wsX7_bad := goodIn_r _ [11, 12, 13, 14, 15, 16, 17, 18, 19, 20, 21, 22, 23, 24, 25, 26, 27, 28, 29, 30, 31, 32, 33, 34, 35, 36, 37] (by decide +kernel) (by decide +kernel)
set_option maxRecDepth 20000 in
theorem gX7_image_X7_bad : GoodIn wsX7_image (wsV RX7 97 RX7 yX7_bad wsX7_bad) := goodIn_app (goodIn_of _ (by decide +kernel)) ggX7_image_X7_bad
theorem dX7_image_0 : decode cX7_image 0 = .ok (.iload_n 1, 1) := by decide +kernel
theorem dX7_image_1 : decode cX7_image 1 = .ok (.i2l, 1) := by decide +kernel
theorem dX7_image_2 : decode cX7_image 2 = .ok (.lconst 0, 1) := by decide +kernel
theorem dX7_image_3 : decode cX7_image 3 = .ok (.lconst 1, 1) := by decide +kernel
theorem dX7_image_4 : decode cX7_image 4 = .ok (.invokestatic 78, 3) := by decide +kernel
theorem dX7_image_7 : decode cX7_image 7 = .ok (.ifCond .ne 10, 3) := by decide +kernel
theorem dX7_image_10 : decode cX7_image 10 = .ok (.aload_n 0, 1) := by decide +kernel
theorem dX7_image_11 : decode cX7_image 11 = .ok (.bipush (-2), 2) := by decide +kernel
theorem dX7_image_13 : decode cX7_image 13 = .ok (.invokevirtual 97, 3) := by decide +kernel
theorem dX7_image_16 : decode cX7_image 16 = .ok (.ireturn, 1) := by decide +kernel
theorem dX7_image_17 : decode cX7_image 17 = .ok (.iconst 0, 1) := by decide +kernel
theorem dX7_image_18 : decode cX7_image 18 = .ok (.istore_n 2, 1) := by decide +kernel
theorem dX7_image_19 : decode cX7_image 19 = .ok (.iload_n 2, 1) := by decide +kernel
theorem dX7_image_20 : decode cX7_image 20 = .ok (.sipush 284, 3) := by decide +kernel
theorem dX7_image_23 : decode cX7_image 23 = .ok (.if_icmp .ge 27, 3) := by decide +kernel
theorem dX7_image_26 : decode cX7_image 26 = .ok (.aload_n 0, 1) := by decide +kernel
theorem dX7_image_27 : decode cX7_image 27 = .ok (.getfield 13, 3) := by decide +kernel
theorem dX7_image_30 : decode cX7_image 30 = .ok (.sipush 284, 3) := by decide +kernel
theorem dX7_image_33 : decode cX7_image 33 = .ok (.iload_n 1, 1) := by decide +kernel
theorem dX7_image_34 : decode cX7_image 34 = .ok (.imul, 1) := by decide +kernel
theorem dX7_image_35 : decode cX7_image 35 = .ok (.iload_n 2, 1) := by decide +kernel
theorem dX7_image_36 : decode cX7_image 36 = .ok (.iadd, 1) := by decide +kernel
theorem dX7_image_37 : decode cX7_image 37 = .ok (.aload_n 0, 1) := by decide +kernel
theorem dX7_image_38 : decode cX7_image 38 = .ok (.getfield 7, 3) := by decide +kernel
theorem dX7_image_41 : decode cX7_image 41 = .ok (.iload_n 2, 1) := by decide +kernel
theorem dX7_image_42 : decode cX7_image 42 = .ok (.iaload, 1) := by decide +kernel
theorem dX7_image_43 : decode cX7_image 43 = .ok (.iastore, 1) := by decide +kernel
theorem dX7_image_44 : decode cX7_image 44 = .ok (.iinc 2 1, 3) := by decide +kernel
theorem dX7_image_47 : decode cX7_image 47 = .ok (.goto (-28), 3) := by decide +kernel
theorem dX7_image_50 : decode cX7_image 50 = .ok (.aload_n 0, 1) := by decide +kernel
theorem dX7_image_51 : decode cX7_image 51 = .ok (.getfield 16, 3) := by decide +kernel
theorem dX7_image_54 : decode cX7_image 54 = .ok (.iload_n 1, 1) := by decide +kernel
theorem dX7_image_55 : decode cX7_image 55 = .ok (.iconst 1, 1) := by decide +kernel
theorem dX7_image_56 : decode cX7_image 56 = .ok (.bastore, 1) := by decide +kernel
theorem dX7_image_57 : decode cX7_image 57 = .ok (.iconst 1, 1) := by decide +kernel
theorem dX7_image_58 : decode cX7_image 58 = .ok (.ireturn, 1) := by decide +kernel
set_option maxRecDepth 20000 in
theorem ggX7_from_X7_in : GoodIn wsX7_from wsX7_in := goodIn_r _ [7] (by decide +kernel) (by decide +kernel)
set_option maxRecDepth 20000 in
theorem gX7_from_X7_in : GoodIn wsX7_from (va_wsS RX7 78 yX7_in wsX7_in) := goodIn_app (goodIn_of _ (by decide +kernel)) ggX7_from_X7_in
set_option maxRecDepth 20000 in
theorem ggX7_from_X7_bad : GoodIn wsX7_from wsX7_bad := goodIn_r _ [11, 12, 17, 18, 19, 20, 21, 22, 23, 24, 25, 26, 27, 28, 29, 30, 31, 32, 33, 34, 35, 36, 37, 38, 39, 40, 41] (by decide +kernel) (by decide +kernel)
set_option maxRecDepth 20000 in
theorem gX7_from_X7_bad : GoodIn wsX7_from (wsV RX7 97 RX7 yX7_bad wsX7_bad) := goodIn_app (goodIn_of _ (by decide +kernel)) ggX7_from_X7_bad
set_option maxRecDepth 20000 in
theorem ggX7_from_X7_no : GoodIn wsX7_from wsX7_no := goodIn_r _ [16, 12, 17, 18, 19, 20, 21, 22, 23, 24, 25, 26, 27, 28, 29, 30, 31, 32, 33, 34, 35, 36, 37, 38, 39, 40, 41] (by decide +kernel) (by decide +kernel)
set_option maxRecDepth 20000 in
theorem gX7_from_X7_no : GoodIn wsX7_from (wsV RX7 146 RX7 yX7_no wsX7_no) := goodIn_app (goodIn_of _ (by decide +kernel)) ggX7_from_X7_no
theorem dX7_from_0 : decode cX7_from 0 = .ok (.iload_n 1, 1) := by decide +kernel
theorem dX7_from_1 : decode cX7_from 1 = .ok (.i2l, 1) := by decide +kernel
theorem dX7_from_2 : decode cX7_from 2 = .ok (.lconst 0, 1) := by decide +kernel
theorem dX7_from_3 : decode cX7_from 3 = .ok (.lconst 1, 1) := by decide +kernel
theorem dX7_from_4 : decode cX7_from 4 = .ok (.invokestatic 78, 3) := by decide +kernel
theorem dX7_from_7 : decode cX7_from 7 = .ok (.ifCond .ne 10, 3) := by decide +kernel
theorem dX7_from_10 : decode cX7_from 10 = .ok (.aload_n 0, 1) := by decide +kernel
theorem dX7_from_11 : decode cX7_from 11 = .ok (.bipush (-2), 2) := by decide +kernel
theorem dX7_from_13 : decode cX7_from 13 = .ok (.invokevirtual 97, 3) := by decide +kernel
theorem dX7_from_16 : decode cX7_from 16 = .ok (.ireturn, 1) := by decide +kernel
theorem dX7_from_17 : decode cX7_from 17 = .ok (.aload_n 0, 1) := by decide +kernel
theorem dX7_from_18 : decode cX7_from 18 = .ok (.getfield 16, 3) := by decide +kernel
theorem dX7_from_21 : decode cX7_from 21 = .ok (.iload_n 1, 1) := by decide +kernel
theorem dX7_from_22 : decode cX7_from 22 = .ok (.baload, 1) := by decide +kernel
theorem dX7_from_23 : decode cX7_from 23 = .ok (.ifCond .ne 8, 3) := by decide +kernel
theorem dX7_from_26 : decode cX7_from 26 = .ok (.aload_n 0, 1) := by decide +kernel
theorem dX7_from_27 : decode cX7_from 27 = .ok (.invokevirtual 146, 3) := by decide +kernel
theorem dX7_from_30 : decode cX7_from 30 = .ok (.ireturn, 1) := by decide +kernel
theorem dX7_from_31 : decode cX7_from 31 = .ok (.iconst 0, 1) := by decide +kernel
theorem dX7_from_32 : decode cX7_from 32 = .ok (.istore_n 2, 1) := by decide +kernel
theorem dX7_from_33 : decode cX7_from 33 = .ok (.iload_n 2, 1) := by decide +kernel
theorem dX7_from_34 : decode cX7_from 34 = .ok (.sipush 284, 3) := by decide +kernel
theorem dX7_from_37 : decode cX7_from 37 = .ok (.if_icmp .ge 27, 3) := by decide +kernel
theorem dX7_from_40 : decode cX7_from 40 = .ok (.aload_n 0, 1) := by decide +kernel
theorem dX7_from_41 : decode cX7_from 41 = .ok (.getfield 7, 3) := by decide +kernel
theorem dX7_from_44 : decode cX7_from 44 = .ok (.iload_n 2, 1) := by decide +kernel
theorem dX7_from_45 : decode cX7_from 45 = .ok (.aload_n 0, 1) := by decide +kernel
theorem dX7_from_46 : decode cX7_from 46 = .ok (.getfield 13, 3) := by decide +kernel
theorem dX7_from_49 : decode cX7_from 49 = .ok (.sipush 284, 3) := by decide +kernel
theorem dX7_from_52 : decode cX7_from 52 = .ok (.iload_n 1, 1) := by decide +kernel
theorem dX7_from_53 : decode cX7_from 53 = .ok (.imul, 1) := by decide +kernel
theorem dX7_from_54 : decode cX7_from 54 = .ok (.iload_n 2, 1) := by decide +kernel
theorem dX7_from_55 : decode cX7_from 55 = .ok (.iadd, 1) := by decide +kernel
theorem dX7_from_56 : decode cX7_from 56 = .ok (.iaload, 1) := by decide +kernel
theorem dX7_from_57 : decode cX7_from 57 = .ok (.iastore, 1) := by decide +kernel
theorem dX7_from_58 : decode cX7_from 58 = .ok (.iinc 2 1, 3) := by decide +kernel
theorem dX7_from_61 : decode cX7_from 61 = .ok (.goto (-28), 3) := by decide +kernel
theorem dX7_from_64 : decode cX7_from 64 = .ok (.iconst 1, 1) := by decide +kernel
theorem dX7_from_65 : decode cX7_from 65 = .ok (.ireturn, 1) := by decide +kernel
set_option maxRecDepth 20000 in
theorem ggX7_status_X7_in : GoodIn wsX7_status wsX7_in := goodIn_r _ [6] (by decide +kernel) (by decide +kernel)
set_option maxRecDepth 20000 in
theorem gX7_status_X7_in : GoodIn wsX7_status (va_wsS RX7 78 yX7_in wsX7_in) := goodIn_app (goodIn_of _ (by decide +kernel)) ggX7_status_X7_in
set_option maxRecDepth 20000 in
theorem ggX7_status_X7_bad : GoodIn wsX7_status wsX7_bad := goodIn_r _ [10, 2, 11, 12, 13, 14, 15, 16, 17, 18, 19, 20, 21, 22, 23, 24, 25, 26, 27, 28, 29, 30, 31, 32, 33, 34, 35] (by decide +kernel) (by decide +kernel)
set_option maxRecDepth 20000 in
theorem gX7_status_X7_bad : GoodIn wsX7_status (wsV RX7 97 RX7 yX7_bad wsX7_bad) := goodIn_app (goodIn_of _ (by decide +kernel)) ggX7_status_X7_bad
theorem dX7_status_0 : decode cX7_status 0 = .ok (.iload_n 1, 1) := by decide +kernel
theorem dX7_status_1 : decode cX7_status 1 = .ok (.i2l, 1) := by decide +kernel
theorem dX7_status_2 : decode cX7_status 2 = .ok (.lconst 0, 1) := by decide +kernel
theorem dX7_status_3 : decode cX7_status 3 = .ok (.ldc2_w 316, 3) := by decide +kernel
theorem dX7_status_6 : decode cX7_status 6 = .ok (.invokestatic 78, 3) := by decide +kernel
theorem dX7_status_9 : decode cX7_status 9 = .ok (.ifCond .eq 12, 3) := by decide +kernel
theorem dX7_status_12 : decode cX7_status 12 = .ok (.aload_n 0, 1) := by decide +kernel
theorem dX7_status_13 : decode cX7_status 13 = .ok (.getfield 20, 3) := by decide +kernel
theorem dX7_status_16 : decode cX7_status 16 = .ok (.iload_n 1, 1) := by decide +kernel
theorem dX7_status_17 : decode cX7_status 17 = .ok (.iaload, 1) := by decide +kernel
theorem dX7_status_18 : decode cX7_status 18 = .ok (.goto 8, 3) := by decide +kernel
theorem dX7_status_21 : decode cX7_status 21 = .ok (.aload_n 0, 1) := by decide +kernel
theorem dX7_status_22 : decode cX7_status 22 = .ok (.iconst (-1), 1) := by decide +kernel
theorem dX7_status_23 : decode cX7_status 23 = .ok (.invokevirtual 97, 3) := by decide +kernel
theorem dX7_status_26 : decode cX7_status 26 = .ok (.ireturn, 1) := by decide +kernel
set_option maxRecDepth 20000 in
theorem ggX7_counted_X7_many : GoodIn wsX7_counted wsX7_many := goodIn_r _ [7, 1, 20, 21, 22, 23, 24, 25, 26, 27, 28, 29, 30, 31, 32, 33, 34, 35, 36, 37, 38, 39, 40, 41, 42, 43, 44] (by decide +kernel) (by decide +kernel)
set_option maxRecDepth 20000 in
theorem gX7_counted_X7_many : GoodIn wsX7_counted (wsV RX7 74 RX7 yX7_many wsX7_many) := goodIn_app (goodIn_of _ (by decide +kernel)) ggX7_counted_X7_many
set_option maxRecDepth 20000 in
theorem ggX7_counted_X7_manyThings : GoodIn wsX7_counted wsX7_manyThings := goodIn_r _ [11, 1, 20, 21, 22, 23, 24, 25, 26, 27, 28, 29, 30, 31, 32, 33, 34, 35, 36, 37, 38, 39, 40, 41, 42, 43, 44] (by decide +kernel) (by decide +kernel)
set_option maxRecDepth 20000 in
theorem gX7_counted_X7_manyThings : GoodIn wsX7_counted (wsV RX7 82 RX7 yX7_manyThings wsX7_manyThings) := goodIn_app (goodIn_of _ (by decide +kernel)) ggX7_counted_X7_manyThings
set_option maxRecDepth 20000 in
theorem ggX7_counted_X7_manyIn : GoodIn wsX7_counted wsX7_manyIn := goodIn_r _ [15] (by decide +kernel) (by decide +kernel)
set_option maxRecDepth 20000 in
theorem gX7_counted_X7_manyIn : GoodIn wsX7_counted (wsV RX7 167 RX7 yX7_manyIn wsX7_manyIn) := goodIn_app (goodIn_of _ (by decide +kernel)) ggX7_counted_X7_manyIn
set_option maxRecDepth 20000 in
theorem ggX7_counted_X7_manyAtHome : GoodIn wsX7_counted wsX7_manyAtHome := goodIn_r _ [19] (by decide +kernel) (by decide +kernel)
set_option maxRecDepth 20000 in
theorem gX7_counted_X7_manyAtHome : GoodIn wsX7_counted (wsV RX7 247 RX7 yX7_manyAtHome wsX7_manyAtHome) := goodIn_app (goodIn_of _ (by decide +kernel)) ggX7_counted_X7_manyAtHome
theorem dX7_counted_0 : decode cX7_counted 0 = .ok (.iload_n 1, 1) := by decide +kernel
theorem dX7_counted_1 : decode cX7_counted 1 = .ok (.tableswitch 110 0 7 #[47, 52, 57, 65, 80, 89, 96, 103], 47) := by decide +kernel
theorem dX7_counted_48 : decode cX7_counted 48 = .ok (.aload_n 0, 1) := by decide +kernel
theorem dX7_counted_49 : decode cX7_counted 49 = .ok (.invokevirtual 74, 3) := by decide +kernel
theorem dX7_counted_52 : decode cX7_counted 52 = .ok (.ireturn, 1) := by decide +kernel
theorem dX7_counted_53 : decode cX7_counted 53 = .ok (.aload_n 0, 1) := by decide +kernel
theorem dX7_counted_54 : decode cX7_counted 54 = .ok (.invokevirtual 82, 3) := by decide +kernel
theorem dX7_counted_57 : decode cX7_counted 57 = .ok (.ireturn, 1) := by decide +kernel
theorem dX7_counted_58 : decode cX7_counted 58 = .ok (.aload_n 0, 1) := by decide +kernel
theorem dX7_counted_59 : decode cX7_counted 59 = .ok (.getfield 7, 3) := by decide +kernel
theorem dX7_counted_62 : decode cX7_counted 62 = .ok (.bipush 22, 2) := by decide +kernel
theorem dX7_counted_64 : decode cX7_counted 64 = .ok (.iaload, 1) := by decide +kernel
theorem dX7_counted_65 : decode cX7_counted 65 = .ok (.ireturn, 1) := by decide +kernel
theorem dX7_counted_66 : decode cX7_counted 66 = .ok (.aload_n 0, 1) := by decide +kernel
theorem dX7_counted_67 : decode cX7_counted 67 = .ok (.invokevirtual 82, 3) := by decide +kernel
theorem dX7_counted_70 : decode cX7_counted 70 = .ok (.aload_n 0, 1) := by decide +kernel
theorem dX7_counted_71 : decode cX7_counted 71 = .ok (.aload_n 0, 1) := by decide +kernel
theorem dX7_counted_72 : decode cX7_counted 72 = .ok (.getfield 7, 3) := by decide +kernel
theorem dX7_counted_75 : decode cX7_counted 75 = .ok (.iconst 0, 1) := by decide +kernel
theorem dX7_counted_76 : decode cX7_counted 76 = .ok (.invokevirtual 167, 3) := by decide +kernel
theorem dX7_counted_79 : decode cX7_counted 79 = .ok (.isub, 1) := by decide +kernel
theorem dX7_counted_80 : decode cX7_counted 80 = .ok (.ireturn, 1) := by decide +kernel
theorem dX7_counted_81 : decode cX7_counted 81 = .ok (.aload_n 0, 1) := by decide +kernel
theorem dX7_counted_82 : decode cX7_counted 82 = .ok (.aload_n 0, 1) := by decide +kernel
theorem dX7_counted_83 : decode cX7_counted 83 = .ok (.getfield 7, 3) := by decide +kernel
theorem dX7_counted_86 : decode cX7_counted 86 = .ok (.invokevirtual 247, 3) := by decide +kernel
theorem dX7_counted_89 : decode cX7_counted 89 = .ok (.ireturn, 1) := by decide +kernel
theorem dX7_counted_90 : decode cX7_counted 90 = .ok (.aload_n 0, 1) := by decide +kernel
theorem dX7_counted_91 : decode cX7_counted 91 = .ok (.getfield 7, 3) := by decide +kernel
theorem dX7_counted_94 : decode cX7_counted 94 = .ok (.iconst 2, 1) := by decide +kernel
theorem dX7_counted_95 : decode cX7_counted 95 = .ok (.iaload, 1) := by decide +kernel
theorem dX7_counted_96 : decode cX7_counted 96 = .ok (.ireturn, 1) := by decide +kernel
theorem dX7_counted_97 : decode cX7_counted 97 = .ok (.aload_n 0, 1) := by decide +kernel
theorem dX7_counted_98 : decode cX7_counted 98 = .ok (.getfield 7, 3) := by decide +kernel
theorem dX7_counted_101 : decode cX7_counted 101 = .ok (.iconst 3, 1) := by decide +kernel
theorem dX7_counted_102 : decode cX7_counted 102 = .ok (.iaload, 1) := by decide +kernel
theorem dX7_counted_103 : decode cX7_counted 103 = .ok (.ireturn, 1) := by decide +kernel
theorem dX7_counted_104 : decode cX7_counted 104 = .ok (.aload_n 0, 1) := by decide +kernel
theorem dX7_counted_105 : decode cX7_counted 105 = .ok (.getfield 7, 3) := by decide +kernel
theorem dX7_counted_108 : decode cX7_counted 108 = .ok (.iconst 4, 1) := by decide +kernel
theorem dX7_counted_109 : decode cX7_counted 109 = .ok (.iaload, 1) := by decide +kernel
theorem dX7_counted_110 : decode cX7_counted 110 = .ok (.ireturn, 1) := by decide +kernel
theorem dX7_counted_111 : decode cX7_counted 111 = .ok (.aload_n 0, 1) := by decide +kernel
theorem dX7_counted_112 : decode cX7_counted 112 = .ok (.getfield 253, 3) := by decide +kernel
theorem dX7_counted_115 : decode cX7_counted 115 = .ok (.ireturn, 1) := by decide +kernel
set_option maxRecDepth 20000 in
theorem ggX7_count_X7_in : GoodIn wsX7_count wsX7_in := goodIn_r _ [5] (by decide +kernel) (by decide +kernel)
set_option maxRecDepth 20000 in
theorem gX7_count_X7_in : GoodIn wsX7_count (va_wsS RX7 78 yX7_in wsX7_in) := goodIn_app (goodIn_of _ (by decide +kernel)) ggX7_count_X7_in
set_option maxRecDepth 20000 in
theorem ggX7_count_X7_counted : GoodIn wsX7_count wsX7_counted := goodIn_r _ [9, 10, 11, 12, 13, 14, 4, 15, 16, 17, 18, 19, 20, 21, 22, 23, 24, 25, 26, 27, 33, 34, 35, 36, 37, 38, 39, 40, 41, 42, 43, 44, 45, 46, 47, 48, 49, 50, 51, 52, 53, 54, 55, 56, 57] (by decide +kernel) (by decide +kernel)
set_option maxRecDepth 20000 in
theorem gX7_count_X7_counted : GoodIn wsX7_count (wsV RX7 320 RX7 yX7_counted wsX7_counted) := goodIn_app (goodIn_of _ (by decide +kernel)) ggX7_count_X7_counted
set_option maxRecDepth 20000 in
theorem ggX7_count_X7_bad : GoodIn wsX7_count wsX7_bad := goodIn_r _ [31, 32, 33, 34, 35, 36, 37, 38, 39, 40, 41, 42, 43, 44, 45, 46, 47, 48, 49, 50, 51, 52, 53, 54, 55, 56, 57] (by decide +kernel) (by decide +kernel)
set_option maxRecDepth 20000 in
theorem gX7_count_X7_bad : GoodIn wsX7_count (wsV RX7 97 RX7 yX7_bad wsX7_bad) := goodIn_app (goodIn_of _ (by decide +kernel)) ggX7_count_X7_bad
theorem dX7_count_0 : decode cX7_count 0 = .ok (.iload_n 1, 1) := by decide +kernel
theorem dX7_count_1 : decode cX7_count 1 = .ok (.i2l, 1) := by decide +kernel
theorem dX7_count_2 : decode cX7_count 2 = .ok (.lconst 0, 1) := by decide +kernel
theorem dX7_count_3 : decode cX7_count 3 = .ok (.ldc2_w 318, 3) := by decide +kernel
theorem dX7_count_6 : decode cX7_count 6 = .ok (.invokestatic 78, 3) := by decide +kernel
theorem dX7_count_9 : decode cX7_count 9 = .ok (.ifCond .eq 11, 3) := by decide +kernel
theorem dX7_count_12 : decode cX7_count 12 = .ok (.aload_n 0, 1) := by decide +kernel
theorem dX7_count_13 : decode cX7_count 13 = .ok (.iload_n 1, 1) := by decide +kernel
theorem dX7_count_14 : decode cX7_count 14 = .ok (.invokevirtual 320, 3) := by decide +kernel
theorem dX7_count_17 : decode cX7_count 17 = .ok (.goto 9, 3) := by decide +kernel
theorem dX7_count_20 : decode cX7_count 20 = .ok (.aload_n 0, 1) := by decide +kernel
theorem dX7_count_21 : decode cX7_count 21 = .ok (.bipush (-2), 2) := by decide +kernel
theorem dX7_count_23 : decode cX7_count 23 = .ok (.invokevirtual 97, 3) := by decide +kernel
theorem dX7_count_26 : decode cX7_count 26 = .ok (.ireturn, 1) := by decide +kernel
theorem dX7_sums_0 : decode cX7_sums 0 = .ok (.lload_n 1, 1) := by decide +kernel
theorem dX7_sums_1 : decode cX7_sums 1 = .ok (.lstore 5, 2) := by decide +kernel
theorem dX7_sums_3 : decode cX7_sums 3 = .ok (.iconst 0, 1) := by decide +kernel
theorem dX7_sums_4 : decode cX7_sums 4 = .ok (.istore 7, 2) := by decide +kernel
theorem dX7_sums_6 : decode cX7_sums 6 = .ok (.iload 7, 2) := by decide +kernel
theorem dX7_sums_8 : decode cX7_sums 8 = .ok (.iload 4, 2) := by decide +kernel
theorem dX7_sums_10 : decode cX7_sums 10 = .ok (.if_icmp .ge 28, 3) := by decide +kernel
theorem dX7_sums_13 : decode cX7_sums 13 = .ok (.ldc2_w 323, 3) := by decide +kernel
theorem dX7_sums_16 : decode cX7_sums 16 = .ok (.lload 5, 2) := by decide +kernel
theorem dX7_sums_18 : decode cX7_sums 18 = .ok (.lmul, 1) := by decide +kernel
theorem dX7_sums_19 : decode cX7_sums 19 = .ok (.aload_n 0, 1) := by decide +kernel
theorem dX7_sums_20 : decode cX7_sums 20 = .ok (.getfield 7, 3) := by decide +kernel
theorem dX7_sums_23 : decode cX7_sums 23 = .ok (.iload_n 3, 1) := by decide +kernel
theorem dX7_sums_24 : decode cX7_sums 24 = .ok (.iload 7, 2) := by decide +kernel
theorem dX7_sums_26 : decode cX7_sums 26 = .ok (.iadd, 1) := by decide +kernel
theorem dX7_sums_27 : decode cX7_sums 27 = .ok (.iaload, 1) := by decide +kernel
theorem dX7_sums_28 : decode cX7_sums 28 = .ok (.i2l, 1) := by decide +kernel
theorem dX7_sums_29 : decode cX7_sums 29 = .ok (.ladd, 1) := by decide +kernel
theorem dX7_sums_30 : decode cX7_sums 30 = .ok (.lstore 5, 2) := by decide +kernel
theorem dX7_sums_32 : decode cX7_sums 32 = .ok (.iinc 7 1, 3) := by decide +kernel
theorem dX7_sums_35 : decode cX7_sums 35 = .ok (.goto (-29), 3) := by decide +kernel
theorem dX7_sums_38 : decode cX7_sums 38 = .ok (.lload 5, 2) := by decide +kernel
theorem dX7_sums_40 : decode cX7_sums 40 = .ok (.lreturn, 1) := by decide +kernel
set_option maxRecDepth 20000 in
theorem ggX7_digest_X7_counted : GoodIn wsX7_digest wsX7_counted := goodIn_r _ [10, 3, 11, 12, 13, 14, 9, 15, 16, 17, 18, 19, 20, 21, 22, 23, 24, 25, 26, 27, 32, 33, 34, 35, 36, 37, 38, 39, 40, 41, 42, 43, 44, 45, 46, 47, 48, 49, 50, 51, 52, 53, 54, 55, 56] (by decide +kernel) (by decide +kernel)
set_option maxRecDepth 20000 in
theorem gX7_digest_X7_counted : GoodIn wsX7_digest (wsV RX7 320 RX7 yX7_counted wsX7_counted) := goodIn_app (goodIn_of _ (by decide +kernel)) ggX7_digest_X7_counted
set_option maxRecDepth 20000 in
theorem ggX7_digest_X7_many : GoodIn wsX7_digest wsX7_many := goodIn_r _ [15, 3, 32, 33, 34, 35, 36, 37, 38, 39, 40, 41, 42, 43, 44, 45, 46, 47, 48, 49, 50, 51, 52, 53, 54, 55, 56] (by decide +kernel) (by decide +kernel)
set_option maxRecDepth 20000 in
theorem gX7_digest_X7_many : GoodIn wsX7_digest (wsV RX7 74 RX7 yX7_many wsX7_many) := goodIn_app (goodIn_of _ (by decide +kernel)) ggX7_digest_X7_many
set_option maxRecDepth 20000 in
theorem ggX7_digest_X7_sums : GoodIn wsX7_digest wsX7_sums := goodIn_r _ [31, 2, 3, 32, 33, 34, 35, 36, 37, 38, 39, 40, 41, 42, 43, 44, 45, 46, 47, 48, 49, 50, 51, 52, 53, 54, 55, 56] (by decide +kernel) (by decide +kernel)
set_option maxRecDepth 20000 in
theorem gX7_digest_X7_sums : GoodIn wsX7_digest (wsV RX7 327 RX7 yX7_sums wsX7_sums) := goodIn_app (goodIn_of _ (by decide +kernel)) ggX7_digest_X7_sums
set_option maxRecDepth 20000 in
theorem ggX7_digest_X7_manyThings : GoodIn wsX7_digest wsX7_manyThings := goodIn_r _ [19, 3, 32, 33, 34, 35, 36, 37, 38, 39, 40, 41, 42, 43, 44, 45, 46, 47, 48, 49, 50, 51, 52, 53, 54, 55, 56] (by decide +kernel) (by decide +kernel)
set_option maxRecDepth 20000 in
theorem gX7_digest_X7_manyThings : GoodIn wsX7_digest (wsV RX7 82 RX7 yX7_manyThings wsX7_manyThings) := goodIn_app (goodIn_of _ (by decide +kernel)) ggX7_digest_X7_manyThings
theorem dX7_digest_0 : decode cX7_digest 0 = .ok (.ldc2_w 325, 3) := by decide +kernel
theorem dX7_digest_3 : decode cX7_digest 3 = .ok (.lstore_n 1, 1) := by decide +kernel
theorem dX7_digest_4 : decode cX7_digest 4 = .ok (.iconst 0, 1) := by decide +kernel
theorem dX7_digest_5 : decode cX7_digest 5 = .ok (.istore_n 3, 1) := by decide +kernel
theorem dX7_digest_6 : decode cX7_digest 6 = .ok (.iload_n 3, 1) := by decide +kernel
theorem dX7_digest_7 : decode cX7_digest 7 = .ok (.bipush 9, 2) := by decide +kernel
theorem dX7_digest_9 : decode cX7_digest 9 = .ok (.if_icmp .ge 22, 3) := by decide +kernel
theorem dX7_digest_12 : decode cX7_digest 12 = .ok (.ldc2_w 323, 3) := by decide +kernel
theorem dX7_digest_15 : decode cX7_digest 15 = .ok (.lload_n 1, 1) := by decide +kernel
theorem dX7_digest_16 : decode cX7_digest 16 = .ok (.lmul, 1) := by decide +kernel
theorem dX7_digest_17 : decode cX7_digest 17 = .ok (.aload_n 0, 1) := by decide +kernel
theorem dX7_digest_18 : decode cX7_digest 18 = .ok (.iload_n 3, 1) := by decide +kernel
theorem dX7_digest_19 : decode cX7_digest 19 = .ok (.invokevirtual 320, 3) := by decide +kernel
theorem dX7_digest_22 : decode cX7_digest 22 = .ok (.i2l, 1) := by decide +kernel
theorem dX7_digest_23 : decode cX7_digest 23 = .ok (.ladd, 1) := by decide +kernel
theorem dX7_digest_24 : decode cX7_digest 24 = .ok (.lstore_n 1, 1) := by decide +kernel
theorem dX7_digest_25 : decode cX7_digest 25 = .ok (.iinc 3 1, 3) := by decide +kernel
theorem dX7_digest_28 : decode cX7_digest 28 = .ok (.goto (-22), 3) := by decide +kernel
theorem dX7_digest_31 : decode cX7_digest 31 = .ok (.iconst 0, 1) := by decide +kernel
theorem dX7_digest_32 : decode cX7_digest 32 = .ok (.istore_n 3, 1) := by decide +kernel
theorem dX7_digest_33 : decode cX7_digest 33 = .ok (.iload_n 3, 1) := by decide +kernel
theorem dX7_digest_34 : decode cX7_digest 34 = .ok (.aload_n 0, 1) := by decide +kernel
theorem dX7_digest_35 : decode cX7_digest 35 = .ok (.invokevirtual 74, 3) := by decide +kernel
theorem dX7_digest_38 : decode cX7_digest 38 = .ok (.if_icmp .ge 69, 3) := by decide +kernel
theorem dX7_digest_41 : decode cX7_digest 41 = .ok (.ldc2_w 323, 3) := by decide +kernel
theorem dX7_digest_44 : decode cX7_digest 44 = .ok (.ldc2_w 323, 3) := by decide +kernel
theorem dX7_digest_47 : decode cX7_digest 47 = .ok (.ldc2_w 323, 3) := by decide +kernel
theorem dX7_digest_50 : decode cX7_digest 50 = .ok (.lload_n 1, 1) := by decide +kernel
theorem dX7_digest_51 : decode cX7_digest 51 = .ok (.lmul, 1) := by decide +kernel
theorem dX7_digest_52 : decode cX7_digest 52 = .ok (.aload_n 0, 1) := by decide +kernel
theorem dX7_digest_53 : decode cX7_digest 53 = .ok (.getfield 7, 3) := by decide +kernel
theorem dX7_digest_56 : decode cX7_digest 56 = .ok (.bipush 23, 2) := by decide +kernel
theorem dX7_digest_58 : decode cX7_digest 58 = .ok (.iload_n 3, 1) := by decide +kernel
theorem dX7_digest_59 : decode cX7_digest 59 = .ok (.iadd, 1) := by decide +kernel
theorem dX7_digest_60 : decode cX7_digest 60 = .ok (.iaload, 1) := by decide +kernel
theorem dX7_digest_61 : decode cX7_digest 61 = .ok (.i2l, 1) := by decide +kernel
theorem dX7_digest_62 : decode cX7_digest 62 = .ok (.ladd, 1) := by decide +kernel
theorem dX7_digest_63 : decode cX7_digest 63 = .ok (.lmul, 1) := by decide +kernel
theorem dX7_digest_64 : decode cX7_digest 64 = .ok (.aload_n 0, 1) := by decide +kernel
theorem dX7_digest_65 : decode cX7_digest 65 = .ok (.getfield 7, 3) := by decide +kernel
theorem dX7_digest_68 : decode cX7_digest 68 = .ok (.bipush 30, 2) := by decide +kernel
theorem dX7_digest_70 : decode cX7_digest 70 = .ok (.iload_n 3, 1) := by decide +kernel
theorem dX7_digest_71 : decode cX7_digest 71 = .ok (.iadd, 1) := by decide +kernel
theorem dX7_digest_72 : decode cX7_digest 72 = .ok (.iaload, 1) := by decide +kernel
theorem dX7_digest_73 : decode cX7_digest 73 = .ok (.i2l, 1) := by decide +kernel
theorem dX7_digest_74 : decode cX7_digest 74 = .ok (.ladd, 1) := by decide +kernel
theorem dX7_digest_75 : decode cX7_digest 75 = .ok (.lmul, 1) := by decide +kernel
theorem dX7_digest_76 : decode cX7_digest 76 = .ok (.aload_n 0, 1) := by decide +kernel
theorem dX7_digest_77 : decode cX7_digest 77 = .ok (.getfield 7, 3) := by decide +kernel
theorem dX7_digest_80 : decode cX7_digest 80 = .ok (.bipush 15, 2) := by decide +kernel
theorem dX7_digest_82 : decode cX7_digest 82 = .ok (.iload_n 3, 1) := by decide +kernel
theorem dX7_digest_83 : decode cX7_digest 83 = .ok (.iadd, 1) := by decide +kernel
theorem dX7_digest_84 : decode cX7_digest 84 = .ok (.iaload, 1) := by decide +kernel
theorem dX7_digest_85 : decode cX7_digest 85 = .ok (.i2l, 1) := by decide +kernel
theorem dX7_digest_86 : decode cX7_digest 86 = .ok (.ladd, 1) := by decide +kernel
theorem dX7_digest_87 : decode cX7_digest 87 = .ok (.lstore_n 1, 1) := by decide +kernel
theorem dX7_digest_88 : decode cX7_digest 88 = .ok (.aload_n 0, 1) := by decide +kernel
theorem dX7_digest_89 : decode cX7_digest 89 = .ok (.lload_n 1, 1) := by decide +kernel
theorem dX7_digest_90 : decode cX7_digest 90 = .ok (.bipush 37, 2) := by decide +kernel
theorem dX7_digest_92 : decode cX7_digest 92 = .ok (.iconst 4, 1) := by decide +kernel
theorem dX7_digest_93 : decode cX7_digest 93 = .ok (.iload_n 3, 1) := by decide +kernel
theorem dX7_digest_94 : decode cX7_digest 94 = .ok (.imul, 1) := by decide +kernel
theorem dX7_digest_95 : decode cX7_digest 95 = .ok (.iadd, 1) := by decide +kernel
theorem dX7_digest_96 : decode cX7_digest 96 = .ok (.iconst 4, 1) := by decide +kernel
theorem dX7_digest_97 : decode cX7_digest 97 = .ok (.invokevirtual 327, 3) := by decide +kernel
theorem dX7_digest_100 : decode cX7_digest 100 = .ok (.lstore_n 1, 1) := by decide +kernel
theorem dX7_digest_101 : decode cX7_digest 101 = .ok (.iinc 3 1, 3) := by decide +kernel
theorem dX7_digest_104 : decode cX7_digest 104 = .ok (.goto (-71), 3) := by decide +kernel
theorem dX7_digest_107 : decode cX7_digest 107 = .ok (.iconst 0, 1) := by decide +kernel
theorem dX7_digest_108 : decode cX7_digest 108 = .ok (.istore_n 3, 1) := by decide +kernel
theorem dX7_digest_109 : decode cX7_digest 109 = .ok (.iload_n 3, 1) := by decide +kernel
theorem dX7_digest_110 : decode cX7_digest 110 = .ok (.aload_n 0, 1) := by decide +kernel
theorem dX7_digest_111 : decode cX7_digest 111 = .ok (.invokevirtual 82, 3) := by decide +kernel
theorem dX7_digest_114 : decode cX7_digest 114 = .ok (.if_icmp .ge 87, 3) := by decide +kernel
theorem dX7_digest_117 : decode cX7_digest 117 = .ok (.ldc2_w 323, 3) := by decide +kernel
theorem dX7_digest_120 : decode cX7_digest 120 = .ok (.ldc2_w 323, 3) := by decide +kernel
theorem dX7_digest_123 : decode cX7_digest 123 = .ok (.ldc2_w 323, 3) := by decide +kernel
theorem dX7_digest_126 : decode cX7_digest 126 = .ok (.lload_n 1, 1) := by decide +kernel
theorem dX7_digest_127 : decode cX7_digest 127 = .ok (.lmul, 1) := by decide +kernel
theorem dX7_digest_128 : decode cX7_digest 128 = .ok (.aload_n 0, 1) := by decide +kernel
theorem dX7_digest_129 : decode cX7_digest 129 = .ok (.getfield 7, 3) := by decide +kernel
theorem dX7_digest_132 : decode cX7_digest 132 = .ok (.bipush 65, 2) := by decide +kernel
theorem dX7_digest_134 : decode cX7_digest 134 = .ok (.iload_n 3, 1) := by decide +kernel
theorem dX7_digest_135 : decode cX7_digest 135 = .ok (.iadd, 1) := by decide +kernel
theorem dX7_digest_136 : decode cX7_digest 136 = .ok (.iaload, 1) := by decide +kernel
theorem dX7_digest_137 : decode cX7_digest 137 = .ok (.i2l, 1) := by decide +kernel
theorem dX7_digest_138 : decode cX7_digest 138 = .ok (.ladd, 1) := by decide +kernel
theorem dX7_digest_139 : decode cX7_digest 139 = .ok (.lmul, 1) := by decide +kernel
theorem dX7_digest_140 : decode cX7_digest 140 = .ok (.aload_n 0, 1) := by decide +kernel
theorem dX7_digest_141 : decode cX7_digest 141 = .ok (.getfield 7, 3) := by decide +kernel
theorem dX7_digest_144 : decode cX7_digest 144 = .ok (.bipush 70, 2) := by decide +kernel
theorem dX7_digest_146 : decode cX7_digest 146 = .ok (.iload_n 3, 1) := by decide +kernel
theorem dX7_digest_147 : decode cX7_digest 147 = .ok (.iadd, 1) := by decide +kernel
theorem dX7_digest_148 : decode cX7_digest 148 = .ok (.iaload, 1) := by decide +kernel
theorem dX7_digest_149 : decode cX7_digest 149 = .ok (.i2l, 1) := by decide +kernel
theorem dX7_digest_150 : decode cX7_digest 150 = .ok (.ladd, 1) := by decide +kernel
theorem dX7_digest_151 : decode cX7_digest 151 = .ok (.lmul, 1) := by decide +kernel
theorem dX7_digest_152 : decode cX7_digest 152 = .ok (.aload_n 0, 1) := by decide +kernel
theorem dX7_digest_153 : decode cX7_digest 153 = .ok (.getfield 7, 3) := by decide +kernel
theorem dX7_digest_156 : decode cX7_digest 156 = .ok (.bipush 75, 2) := by decide +kernel
theorem dX7_digest_158 : decode cX7_digest 158 = .ok (.iload_n 3, 1) := by decide +kernel
theorem dX7_digest_159 : decode cX7_digest 159 = .ok (.iadd, 1) := by decide +kernel
theorem dX7_digest_160 : decode cX7_digest 160 = .ok (.iaload, 1) := by decide +kernel
theorem dX7_digest_161 : decode cX7_digest 161 = .ok (.i2l, 1) := by decide +kernel
theorem dX7_digest_162 : decode cX7_digest 162 = .ok (.ladd, 1) := by decide +kernel
theorem dX7_digest_163 : decode cX7_digest 163 = .ok (.lstore_n 1, 1) := by decide +kernel
theorem dX7_digest_164 : decode cX7_digest 164 = .ok (.ldc2_w 323, 3) := by decide +kernel
theorem dX7_digest_167 : decode cX7_digest 167 = .ok (.ldc2_w 323, 3) := by decide +kernel
theorem dX7_digest_170 : decode cX7_digest 170 = .ok (.lload_n 1, 1) := by decide +kernel
theorem dX7_digest_171 : decode cX7_digest 171 = .ok (.lmul, 1) := by decide +kernel
theorem dX7_digest_172 : decode cX7_digest 172 = .ok (.aload_n 0, 1) := by decide +kernel
theorem dX7_digest_173 : decode cX7_digest 173 = .ok (.getfield 7, 3) := by decide +kernel
theorem dX7_digest_176 : decode cX7_digest 176 = .ok (.iconst 5, 1) := by decide +kernel
theorem dX7_digest_177 : decode cX7_digest 177 = .ok (.iload_n 3, 1) := by decide +kernel
theorem dX7_digest_178 : decode cX7_digest 178 = .ok (.iadd, 1) := by decide +kernel
theorem dX7_digest_179 : decode cX7_digest 179 = .ok (.iaload, 1) := by decide +kernel
theorem dX7_digest_180 : decode cX7_digest 180 = .ok (.i2l, 1) := by decide +kernel
theorem dX7_digest_181 : decode cX7_digest 181 = .ok (.ladd, 1) := by decide +kernel
theorem dX7_digest_182 : decode cX7_digest 182 = .ok (.lmul, 1) := by decide +kernel
theorem dX7_digest_183 : decode cX7_digest 183 = .ok (.aload_n 0, 1) := by decide +kernel
theorem dX7_digest_184 : decode cX7_digest 184 = .ok (.getfield 7, 3) := by decide +kernel
theorem dX7_digest_187 : decode cX7_digest 187 = .ok (.bipush 10, 2) := by decide +kernel
theorem dX7_digest_189 : decode cX7_digest 189 = .ok (.iload_n 3, 1) := by decide +kernel
theorem dX7_digest_190 : decode cX7_digest 190 = .ok (.iadd, 1) := by decide +kernel
theorem dX7_digest_191 : decode cX7_digest 191 = .ok (.iaload, 1) := by decide +kernel
theorem dX7_digest_192 : decode cX7_digest 192 = .ok (.i2l, 1) := by decide +kernel
theorem dX7_digest_193 : decode cX7_digest 193 = .ok (.ladd, 1) := by decide +kernel
theorem dX7_digest_194 : decode cX7_digest 194 = .ok (.lstore_n 1, 1) := by decide +kernel
theorem dX7_digest_195 : decode cX7_digest 195 = .ok (.iinc 3 1, 3) := by decide +kernel
theorem dX7_digest_198 : decode cX7_digest 198 = .ok (.goto (-89), 3) := by decide +kernel
theorem dX7_digest_201 : decode cX7_digest 201 = .ok (.aload_n 0, 1) := by decide +kernel
theorem dX7_digest_202 : decode cX7_digest 202 = .ok (.lload_n 1, 1) := by decide +kernel
theorem dX7_digest_203 : decode cX7_digest 203 = .ok (.bipush 80, 2) := by decide +kernel
theorem dX7_digest_205 : decode cX7_digest 205 = .ok (.bipush 6, 2) := by decide +kernel
theorem dX7_digest_207 : decode cX7_digest 207 = .ok (.aload_n 0, 1) := by decide +kernel
theorem dX7_digest_208 : decode cX7_digest 208 = .ok (.getfield 7, 3) := by decide +kernel
theorem dX7_digest_211 : decode cX7_digest 211 = .ok (.iconst 2, 1) := by decide +kernel
theorem dX7_digest_212 : decode cX7_digest 212 = .ok (.iaload, 1) := by decide +kernel
theorem dX7_digest_213 : decode cX7_digest 213 = .ok (.imul, 1) := by decide +kernel
theorem dX7_digest_214 : decode cX7_digest 214 = .ok (.invokevirtual 327, 3) := by decide +kernel
theorem dX7_digest_217 : decode cX7_digest 217 = .ok (.lstore_n 1, 1) := by decide +kernel
theorem dX7_digest_218 : decode cX7_digest 218 = .ok (.aload_n 0, 1) := by decide +kernel
theorem dX7_digest_219 : decode cX7_digest 219 = .ok (.lload_n 1, 1) := by decide +kernel
theorem dX7_digest_220 : decode cX7_digest 220 = .ok (.bipush 116, 2) := by decide +kernel
theorem dX7_digest_222 : decode cX7_digest 222 = .ok (.iconst 4, 1) := by decide +kernel
theorem dX7_digest_223 : decode cX7_digest 223 = .ok (.aload_n 0, 1) := by decide +kernel
theorem dX7_digest_224 : decode cX7_digest 224 = .ok (.getfield 7, 3) := by decide +kernel
theorem dX7_digest_227 : decode cX7_digest 227 = .ok (.iconst 3, 1) := by decide +kernel
theorem dX7_digest_228 : decode cX7_digest 228 = .ok (.iaload, 1) := by decide +kernel
theorem dX7_digest_229 : decode cX7_digest 229 = .ok (.imul, 1) := by decide +kernel
theorem dX7_digest_230 : decode cX7_digest 230 = .ok (.invokevirtual 327, 3) := by decide +kernel
theorem dX7_digest_233 : decode cX7_digest 233 = .ok (.lstore_n 1, 1) := by decide +kernel
theorem dX7_digest_234 : decode cX7_digest 234 = .ok (.ldc2_w 323, 3) := by decide +kernel
theorem dX7_digest_237 : decode cX7_digest 237 = .ok (.ldc2_w 323, 3) := by decide +kernel
theorem dX7_digest_240 : decode cX7_digest 240 = .ok (.lload_n 1, 1) := by decide +kernel
theorem dX7_digest_241 : decode cX7_digest 241 = .ok (.lmul, 1) := by decide +kernel
theorem dX7_digest_242 : decode cX7_digest 242 = .ok (.aload_n 0, 1) := by decide +kernel
theorem dX7_digest_243 : decode cX7_digest 243 = .ok (.getfield 223, 3) := by decide +kernel
theorem dX7_digest_246 : decode cX7_digest 246 = .ok (.ladd, 1) := by decide +kernel
theorem dX7_digest_247 : decode cX7_digest 247 = .ok (.lmul, 1) := by decide +kernel
theorem dX7_digest_248 : decode cX7_digest 248 = .ok (.aload_n 0, 1) := by decide +kernel
theorem dX7_digest_249 : decode cX7_digest 249 = .ok (.getfield 23, 3) := by decide +kernel
theorem dX7_digest_252 : decode cX7_digest 252 = .ok (.ladd, 1) := by decide +kernel
theorem dX7_digest_253 : decode cX7_digest 253 = .ok (.lreturn, 1) := by decide +kernel
