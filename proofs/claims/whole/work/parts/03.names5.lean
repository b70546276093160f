theorem dX1_shown_0 : decode cX1_shown 0 = .ok (.iload_n 1, 1) := by decide +kernel
theorem dX1_shown_1 : decode cX1_shown 1 = .ok (.iload_n 2, 1) := by decide +kernel
theorem dX1_shown_2 : decode cX1_shown 2 = .ok (.iadd, 1) := by decide +kernel
theorem dX1_shown_3 : decode cX1_shown 3 = .ok (.istore 5, 2) := by decide +kernel
theorem dX1_shown_5 : decode cX1_shown 5 = .ok (.iload 5, 2) := by decide +kernel
theorem dX1_shown_7 : decode cX1_shown 7 = .ok (.iconst 2, 1) := by decide +kernel
theorem dX1_shown_8 : decode cX1_shown 8 = .ok (.idiv, 1) := by decide +kernel
theorem dX1_shown_9 : decode cX1_shown 9 = .ok (.istore 6, 2) := by decide +kernel
theorem dX1_shown_11 : decode cX1_shown 11 = .ok (.iload_n 1, 1) := by decide +kernel
theorem dX1_shown_12 : decode cX1_shown 12 = .ok (.istore 7, 2) := by decide +kernel
theorem dX1_shown_14 : decode cX1_shown 14 = .ok (.iload_n 0, 1) := by decide +kernel
theorem dX1_shown_15 : decode cX1_shown 15 = .ok (.tableswitch 81 1 5 #[33, 36, 39, 57, 69], 33) := by decide +kernel
theorem dX1_shown_48 : decode cX1_shown 48 = .ok (.iload 6, 2) := by decide +kernel
theorem dX1_shown_50 : decode cX1_shown 50 = .ok (.ireturn, 1) := by decide +kernel
theorem dX1_shown_51 : decode cX1_shown 51 = .ok (.iload 7, 2) := by decide +kernel
theorem dX1_shown_53 : decode cX1_shown 53 = .ok (.ireturn, 1) := by decide +kernel
theorem dX1_shown_54 : decode cX1_shown 54 = .ok (.iload 4, 2) := by decide +kernel
theorem dX1_shown_56 : decode cX1_shown 56 = .ok (.iconst 2, 1) := by decide +kernel
theorem dX1_shown_57 : decode cX1_shown 57 = .ok (.irem, 1) := by decide +kernel
theorem dX1_shown_58 : decode cX1_shown 58 = .ok (.iconst 1, 1) := by decide +kernel
theorem dX1_shown_59 : decode cX1_shown 59 = .ok (.if_icmp .ne 10, 3) := by decide +kernel
theorem dX1_shown_62 : decode cX1_shown 62 = .ok (.iload 5, 2) := by decide +kernel
theorem dX1_shown_64 : decode cX1_shown 64 = .ok (.iconst 2, 1) := by decide +kernel
theorem dX1_shown_65 : decode cX1_shown 65 = .ok (.iadd, 1) := by decide +kernel
theorem dX1_shown_66 : decode cX1_shown 66 = .ok (.goto 5, 3) := by decide +kernel
theorem dX1_shown_69 : decode cX1_shown 69 = .ok (.iload 5, 2) := by decide +kernel
theorem dX1_shown_71 : decode cX1_shown 71 = .ok (.ireturn, 1) := by decide +kernel
theorem dX1_shown_72 : decode cX1_shown 72 = .ok (.iload_n 3, 1) := by decide +kernel
theorem dX1_shown_73 : decode cX1_shown 73 = .ok (.iconst 2, 1) := by decide +kernel
theorem dX1_shown_74 : decode cX1_shown 74 = .ok (.if_icmp .ne 7, 3) := by decide +kernel
theorem dX1_shown_77 : decode cX1_shown 77 = .ok (.iconst 0, 1) := by decide +kernel
theorem dX1_shown_78 : decode cX1_shown 78 = .ok (.goto 5, 3) := by decide +kernel
theorem dX1_shown_81 : decode cX1_shown 81 = .ok (.iload 6, 2) := by decide +kernel
theorem dX1_shown_83 : decode cX1_shown 83 = .ok (.ireturn, 1) := by decide +kernel
theorem dX1_shown_84 : decode cX1_shown 84 = .ok (.iload_n 3, 1) := by decide +kernel
theorem dX1_shown_85 : decode cX1_shown 85 = .ok (.iconst 3, 1) := by decide +kernel
theorem dX1_shown_86 : decode cX1_shown 86 = .ok (.if_icmp .ne 8, 3) := by decide +kernel
theorem dX1_shown_89 : decode cX1_shown 89 = .ok (.iload 7, 2) := by decide +kernel
theorem dX1_shown_91 : decode cX1_shown 91 = .ok (.goto 4, 3) := by decide +kernel
theorem dX1_shown_94 : decode cX1_shown 94 = .ok (.iconst 0, 1) := by decide +kernel
theorem dX1_shown_95 : decode cX1_shown 95 = .ok (.ireturn, 1) := by decide +kernel
theorem dX1_shown_96 : decode cX1_shown 96 = .ok (.iload 5, 2) := by decide +kernel
theorem dX1_shown_98 : decode cX1_shown 98 = .ok (.ireturn, 1) := by decide +kernel
theorem dX1_asked_0 : decode cX1_asked 0 = .ok (.iconst 0, 1) := by decide +kernel
theorem dX1_asked_1 : decode cX1_asked 1 = .ok (.bipush 9, 2) := by decide +kernel
theorem dX1_asked_3 : decode cX1_asked 3 = .ok (.iload_n 1, 1) := by decide +kernel
theorem dX1_asked_4 : decode cX1_asked 4 = .ok (.isub, 1) := by decide +kernel
theorem dX1_asked_5 : decode cX1_asked 5 = .ok (.invokestatic 7, 3) := by decide +kernel
theorem dX1_asked_8 : decode cX1_asked 8 = .ok (.istore_n 2, 1) := by decide +kernel
theorem dX1_asked_9 : decode cX1_asked 9 = .ok (.iconst 2, 1) := by decide +kernel
theorem dX1_asked_10 : decode cX1_asked 10 = .ok (.iload_n 2, 1) := by decide +kernel
theorem dX1_asked_11 : decode cX1_asked 11 = .ok (.imul, 1) := by decide +kernel
theorem dX1_asked_12 : decode cX1_asked 12 = .ok (.istore_n 3, 1) := by decide +kernel
theorem dX1_asked_13 : decode cX1_asked 13 = .ok (.iload_n 0, 1) := by decide +kernel
theorem dX1_asked_14 : decode cX1_asked 14 = .ok (.tableswitch 42 1 5 #[34, 42, 42, 36, 40], 34) := by decide +kernel
theorem dX1_asked_48 : decode cX1_asked 48 = .ok (.iload_n 3, 1) := by decide +kernel
theorem dX1_asked_49 : decode cX1_asked 49 = .ok (.ireturn, 1) := by decide +kernel
theorem dX1_asked_50 : decode cX1_asked 50 = .ok (.iload_n 3, 1) := by decide +kernel
theorem dX1_asked_51 : decode cX1_asked 51 = .ok (.iconst 3, 1) := by decide +kernel
theorem dX1_asked_52 : decode cX1_asked 52 = .ok (.iadd, 1) := by decide +kernel
theorem dX1_asked_53 : decode cX1_asked 53 = .ok (.ireturn, 1) := by decide +kernel
theorem dX1_asked_54 : decode cX1_asked 54 = .ok (.iconst 0, 1) := by decide +kernel
theorem dX1_asked_55 : decode cX1_asked 55 = .ok (.ireturn, 1) := by decide +kernel
theorem dX1_asked_56 : decode cX1_asked 56 = .ok (.iload_n 2, 1) := by decide +kernel
theorem dX1_asked_57 : decode cX1_asked 57 = .ok (.ireturn, 1) := by decide +kernel
theorem dX3_init_0 : decode cX3_init 0 = .ok (.aload_n 0, 1) := by decide +kernel
theorem dX3_init_1 : decode cX3_init 1 = .ok (.invokespecial 1, 3) := by decide +kernel
theorem dX3_init_4 : decode cX3_init 4 = .ok (.aload_n 0, 1) := by decide +kernel
theorem dX3_init_5 : decode cX3_init 5 = .ok (.iload_n 1, 1) := by decide +kernel
theorem dX3_init_6 : decode cX3_init 6 = .ok (.putfield 7, 3) := by decide +kernel
theorem dX3_init_9 : decode cX3_init 9 = .ok (.aload_n 0, 1) := by decide +kernel
theorem dX3_init_10 : decode cX3_init 10 = .ok (.iload_n 2, 1) := by decide +kernel
theorem dX3_init_11 : decode cX3_init 11 = .ok (.putfield 13, 3) := by decide +kernel
theorem dX3_init_14 : decode cX3_init 14 = .ok (.aload_n 0, 1) := by decide +kernel
theorem dX3_init_15 : decode cX3_init 15 = .ok (.iload_n 1, 1) := by decide +kernel
theorem dX3_init_16 : decode cX3_init 16 = .ok (.iload_n 2, 1) := by decide +kernel
theorem dX3_init_17 : decode cX3_init 17 = .ok (.imul, 1) := by decide +kernel
theorem dX3_init_18 : decode cX3_init 18 = .ok (.newarray .int, 2) := by decide +kernel
theorem dX3_init_20 : decode cX3_init 20 = .ok (.putfield 16, 3) := by decide +kernel
theorem dX3_init_23 : decode cX3_init 23 = .ok (.aload_n 0, 1) := by decide +kernel
theorem dX3_init_24 : decode cX3_init 24 = .ok (.iconst 0, 1) := by decide +kernel
theorem dX3_init_25 : decode cX3_init 25 = .ok (.putfield 20, 3) := by decide +kernel
theorem dX3_init_28 : decode cX3_init 28 = .ok (.return_, 1) := by decide +kernel
theorem dX3_isFull_0 : decode cX3_isFull 0 = .ok (.aload_n 0, 1) := by decide +kernel
theorem dX3_isFull_1 : decode cX3_isFull 1 = .ok (.getfield 20, 3) := by decide +kernel
theorem dX3_isFull_4 : decode cX3_isFull 4 = .ok (.aload_n 0, 1) := by decide +kernel
theorem dX3_isFull_5 : decode cX3_isFull 5 = .ok (.getfield 13, 3) := by decide +kernel
theorem dX3_isFull_8 : decode cX3_isFull 8 = .ok (.if_icmp .lt 7, 3) := by decide +kernel
theorem dX3_isFull_11 : decode cX3_isFull 11 = .ok (.iconst 1, 1) := by decide +kernel
theorem dX3_isFull_12 : decode cX3_isFull 12 = .ok (.goto 4, 3) := by decide +kernel
theorem dX3_isFull_15 : decode cX3_isFull 15 = .ok (.iconst 0, 1) := by decide +kernel
theorem dX3_isFull_16 : decode cX3_isFull 16 = .ok (.ireturn, 1) := by decide +kernel
theorem dX3_begin_0 : decode cX3_begin 0 = .ok (.aload_n 0, 1) := by decide +kernel
theorem dX3_begin_1 : decode cX3_begin 1 = .ok (.getfield 20, 3) := by decide +kernel
theorem dX3_begin_4 : decode cX3_begin 4 = .ok (.aload_n 0, 1) := by decide +kernel
theorem dX3_begin_5 : decode cX3_begin 5 = .ok (.getfield 13, 3) := by decide +kernel
theorem dX3_begin_8 : decode cX3_begin 8 = .ok (.if_icmp .ge 13, 3) := by decide +kernel
theorem dX3_begin_11 : decode cX3_begin 11 = .ok (.aload_n 0, 1) := by decide +kernel
theorem dX3_begin_12 : decode cX3_begin 12 = .ok (.dup, 1) := by decide +kernel
theorem dX3_begin_13 : decode cX3_begin 13 = .ok (.getfield 20, 3) := by decide +kernel
theorem dX3_begin_16 : decode cX3_begin 16 = .ok (.iconst 1, 1) := by decide +kernel
theorem dX3_begin_17 : decode cX3_begin 17 = .ok (.iadd, 1) := by decide +kernel
theorem dX3_begin_18 : decode cX3_begin 18 = .ok (.putfield 20, 3) := by decide +kernel
theorem dX3_begin_21 : decode cX3_begin 21 = .ok (.return_, 1) := by decide +kernel
theorem dX3_put_0 : decode cX3_put 0 = .ok (.aload_n 0, 1) := by decide +kernel
theorem dX3_put_1 : decode cX3_put 1 = .ok (.getfield 20, 3) := by decide +kernel
theorem dX3_put_4 : decode cX3_put 4 = .ok (.iconst 1, 1) := by decide +kernel
theorem dX3_put_5 : decode cX3_put 5 = .ok (.isub, 1) := by decide +kernel
theorem dX3_put_6 : decode cX3_put 6 = .ok (.aload_n 0, 1) := by decide +kernel
theorem dX3_put_7 : decode cX3_put 7 = .ok (.getfield 7, 3) := by decide +kernel
theorem dX3_put_10 : decode cX3_put 10 = .ok (.imul, 1) := by decide +kernel
theorem dX3_put_11 : decode cX3_put 11 = .ok (.iload_n 1, 1) := by decide +kernel
theorem dX3_put_12 : decode cX3_put 12 = .ok (.iadd, 1) := by decide +kernel
theorem dX3_put_13 : decode cX3_put 13 = .ok (.istore_n 3, 1) := by decide +kernel
theorem dX3_put_14 : decode cX3_put 14 = .ok (.iload_n 3, 1) := by decide +kernel
theorem dX3_put_15 : decode cX3_put 15 = .ok (.ifCond .lt 19, 3) := by decide +kernel
theorem dX3_put_18 : decode cX3_put 18 = .ok (.iload_n 3, 1) := by decide +kernel
theorem dX3_put_19 : decode cX3_put 19 = .ok (.aload_n 0, 1) := by decide +kernel
theorem dX3_put_20 : decode cX3_put 20 = .ok (.getfield 16, 3) := by decide +kernel
theorem dX3_put_23 : decode cX3_put 23 = .ok (.arraylength, 1) := by decide +kernel
theorem dX3_put_24 : decode cX3_put 24 = .ok (.if_icmp .ge 10, 3) := by decide +kernel
theorem dX3_put_27 : decode cX3_put 27 = .ok (.aload_n 0, 1) := by decide +kernel
theorem dX3_put_28 : decode cX3_put 28 = .ok (.getfield 16, 3) := by decide +kernel
theorem dX3_put_31 : decode cX3_put 31 = .ok (.iload_n 3, 1) := by decide +kernel
theorem dX3_put_32 : decode cX3_put 32 = .ok (.iload_n 2, 1) := by decide +kernel
theorem dX3_put_33 : decode cX3_put 33 = .ok (.iastore, 1) := by decide +kernel
theorem dX3_put_34 : decode cX3_put 34 = .ok (.return_, 1) := by decide +kernel
theorem dX3_cell_0 : decode cX3_cell 0 = .ok (.iload_n 1, 1) := by decide +kernel
theorem dX3_cell_1 : decode cX3_cell 1 = .ok (.aload_n 0, 1) := by decide +kernel
theorem dX3_cell_2 : decode cX3_cell 2 = .ok (.getfield 7, 3) := by decide +kernel
theorem dX3_cell_5 : decode cX3_cell 5 = .ok (.imul, 1) := by decide +kernel
theorem dX3_cell_6 : decode cX3_cell 6 = .ok (.iload_n 2, 1) := by decide +kernel
theorem dX3_cell_7 : decode cX3_cell 7 = .ok (.iadd, 1) := by decide +kernel
theorem dX3_cell_8 : decode cX3_cell 8 = .ok (.istore_n 3, 1) := by decide +kernel
theorem dX3_cell_9 : decode cX3_cell 9 = .ok (.iload_n 3, 1) := by decide +kernel
theorem dX3_cell_10 : decode cX3_cell 10 = .ok (.ifCond .lt 21, 3) := by decide +kernel
theorem dX3_cell_13 : decode cX3_cell 13 = .ok (.iload_n 3, 1) := by decide +kernel
theorem dX3_cell_14 : decode cX3_cell 14 = .ok (.aload_n 0, 1) := by decide +kernel
theorem dX3_cell_15 : decode cX3_cell 15 = .ok (.getfield 16, 3) := by decide +kernel
theorem dX3_cell_18 : decode cX3_cell 18 = .ok (.arraylength, 1) := by decide +kernel
theorem dX3_cell_19 : decode cX3_cell 19 = .ok (.if_icmp .ge 12, 3) := by decide +kernel
theorem dX3_cell_22 : decode cX3_cell 22 = .ok (.aload_n 0, 1) := by decide +kernel
theorem dX3_cell_23 : decode cX3_cell 23 = .ok (.getfield 16, 3) := by decide +kernel
theorem dX3_cell_26 : decode cX3_cell 26 = .ok (.iload_n 3, 1) := by decide +kernel
theorem dX3_cell_27 : decode cX3_cell 27 = .ok (.iaload, 1) := by decide +kernel
theorem dX3_cell_28 : decode cX3_cell 28 = .ok (.goto 4, 3) := by decide +kernel
theorem dX3_cell_31 : decode cX3_cell 31 = .ok (.iconst 0, 1) := by decide +kernel
theorem dX3_cell_32 : decode cX3_cell 32 = .ok (.ireturn, 1) := by decide +kernel
theorem dX3_dropFirst_0 : decode cX3_dropFirst 0 = .ok (.aload_n 0, 1) := by decide +kernel
theorem dX3_dropFirst_1 : decode cX3_dropFirst 1 = .ok (.getfield 20, 3) := by decide +kernel
theorem dX3_dropFirst_4 : decode cX3_dropFirst 4 = .ok (.ifCond .ne 4, 3) := by decide +kernel
theorem dX3_dropFirst_7 : decode cX3_dropFirst 7 = .ok (.return_, 1) := by decide +kernel
theorem dX3_dropFirst_8 : decode cX3_dropFirst 8 = .ok (.aload_n 0, 1) := by decide +kernel
theorem dX3_dropFirst_9 : decode cX3_dropFirst 9 = .ok (.getfield 16, 3) := by decide +kernel
theorem dX3_dropFirst_12 : decode cX3_dropFirst 12 = .ok (.aload_n 0, 1) := by decide +kernel
theorem dX3_dropFirst_13 : decode cX3_dropFirst 13 = .ok (.getfield 7, 3) := by decide +kernel
theorem dX3_dropFirst_16 : decode cX3_dropFirst 16 = .ok (.aload_n 0, 1) := by decide +kernel
theorem dX3_dropFirst_17 : decode cX3_dropFirst 17 = .ok (.getfield 16, 3) := by decide +kernel
theorem dX3_dropFirst_20 : decode cX3_dropFirst 20 = .ok (.iconst 0, 1) := by decide +kernel
theorem dX3_dropFirst_21 : decode cX3_dropFirst 21 = .ok (.aload_n 0, 1) := by decide +kernel
theorem dX3_dropFirst_22 : decode cX3_dropFirst 22 = .ok (.getfield 16, 3) := by decide +kernel
theorem dX3_dropFirst_25 : decode cX3_dropFirst 25 = .ok (.arraylength, 1) := by decide +kernel
theorem dX3_dropFirst_26 : decode cX3_dropFirst 26 = .ok (.aload_n 0, 1) := by decide +kernel
theorem dX3_dropFirst_27 : decode cX3_dropFirst 27 = .ok (.getfield 7, 3) := by decide +kernel
theorem dX3_dropFirst_30 : decode cX3_dropFirst 30 = .ok (.isub, 1) := by decide +kernel
theorem dX3_dropFirst_31 : decode cX3_dropFirst 31 = .ok (.invokestatic 23, 3) := by decide +kernel
theorem dX3_dropFirst_34 : decode cX3_dropFirst 34 = .ok (.aload_n 0, 1) := by decide +kernel
theorem dX3_dropFirst_35 : decode cX3_dropFirst 35 = .ok (.dup, 1) := by decide +kernel
theorem dX3_dropFirst_36 : decode cX3_dropFirst 36 = .ok (.getfield 20, 3) := by decide +kernel
theorem dX3_dropFirst_39 : decode cX3_dropFirst 39 = .ok (.iconst 1, 1) := by decide +kernel
theorem dX3_dropFirst_40 : decode cX3_dropFirst 40 = .ok (.isub, 1) := by decide +kernel
theorem dX3_dropFirst_41 : decode cX3_dropFirst 41 = .ok (.putfield 20, 3) := by decide +kernel
theorem dX3_dropFirst_44 : decode cX3_dropFirst 44 = .ok (.return_, 1) := by decide +kernel
set_option maxRecDepth 20000 in
theorem ggX3_copyOf_X6_copyRow : GoodIn wsX3_copyOf wsX6_copyRow := goodIn_r _ [5, 6, 7, 8, 9, 10, 11, 12, 13] (by decide +kernel) (by decide +kernel)
set_option maxRecDepth 20000 in
theorem gX3_copyOf_X6_copyRow_n29 : GoodIn wsX3_copyOf (wsX6_copyRow) := ggX3_copyOf_X6_copyRow
theorem dX3_copyOf_0 : decode cX3_copyOf 0 = .ok (.aload_n 0, 1) := by decide +kernel
theorem dX3_copyOf_1 : decode cX3_copyOf 1 = .ok (.aload_n 1, 1) := by decide +kernel
theorem dX3_copyOf_2 : decode cX3_copyOf 2 = .ok (.getfield 20, 3) := by decide +kernel
theorem dX3_copyOf_5 : decode cX3_copyOf 5 = .ok (.putfield 20, 3) := by decide +kernel
theorem dX3_copyOf_8 : decode cX3_copyOf 8 = .ok (.aload_n 1, 1) := by decide +kernel
theorem dX3_copyOf_9 : decode cX3_copyOf 9 = .ok (.getfield 16, 3) := by decide +kernel
theorem dX3_copyOf_12 : decode cX3_copyOf 12 = .ok (.aload_n 0, 1) := by decide +kernel
theorem dX3_copyOf_13 : decode cX3_copyOf 13 = .ok (.getfield 16, 3) := by decide +kernel
theorem dX3_copyOf_16 : decode cX3_copyOf 16 = .ok (.invokestatic 29, 3) := by decide +kernel
theorem dX3_copyOf_19 : decode cX3_copyOf 19 = .ok (.return_, 1) := by decide +kernel
theorem dX3_mix_0 : decode cX3_mix 0 = .ok (.lload_n 1, 1) := by decide +kernel
theorem dX3_mix_1 : decode cX3_mix 1 = .ok (.lstore_n 3, 1) := by decide +kernel
theorem dX3_mix_2 : decode cX3_mix 2 = .ok (.iconst 0, 1) := by decide +kernel
theorem dX3_mix_3 : decode cX3_mix 3 = .ok (.istore 5, 2) := by decide +kernel
theorem dX3_mix_5 : decode cX3_mix 5 = .ok (.iload 5, 2) := by decide +kernel
theorem dX3_mix_7 : decode cX3_mix 7 = .ok (.aload_n 0, 1) := by decide +kernel
theorem dX3_mix_8 : decode cX3_mix 8 = .ok (.getfield 20, 3) := by decide +kernel
theorem dX3_mix_11 : decode cX3_mix 11 = .ok (.aload_n 0, 1) := by decide +kernel
theorem dX3_mix_12 : decode cX3_mix 12 = .ok (.getfield 7, 3) := by decide +kernel
theorem dX3_mix_15 : decode cX3_mix 15 = .ok (.imul, 1) := by decide +kernel
theorem dX3_mix_16 : decode cX3_mix 16 = .ok (.if_icmp .ge 34, 3) := by decide +kernel
theorem dX3_mix_19 : decode cX3_mix 19 = .ok (.iload 5, 2) := by decide +kernel
theorem dX3_mix_21 : decode cX3_mix 21 = .ok (.aload_n 0, 1) := by decide +kernel
theorem dX3_mix_22 : decode cX3_mix 22 = .ok (.getfield 16, 3) := by decide +kernel
theorem dX3_mix_25 : decode cX3_mix 25 = .ok (.arraylength, 1) := by decide +kernel
theorem dX3_mix_26 : decode cX3_mix 26 = .ok (.if_icmp .ge 24, 3) := by decide +kernel
theorem dX3_mix_29 : decode cX3_mix 29 = .ok (.ldc2_w 35, 3) := by decide +kernel
theorem dX3_mix_32 : decode cX3_mix 32 = .ok (.lload_n 3, 1) := by decide +kernel
theorem dX3_mix_33 : decode cX3_mix 33 = .ok (.lmul, 1) := by decide +kernel
theorem dX3_mix_34 : decode cX3_mix 34 = .ok (.aload_n 0, 1) := by decide +kernel
theorem dX3_mix_35 : decode cX3_mix 35 = .ok (.getfield 16, 3) := by decide +kernel
theorem dX3_mix_38 : decode cX3_mix 38 = .ok (.iload 5, 2) := by decide +kernel
theorem dX3_mix_40 : decode cX3_mix 40 = .ok (.iaload, 1) := by decide +kernel
theorem dX3_mix_41 : decode cX3_mix 41 = .ok (.i2l, 1) := by decide +kernel
theorem dX3_mix_42 : decode cX3_mix 42 = .ok (.ladd, 1) := by decide +kernel
theorem dX3_mix_43 : decode cX3_mix 43 = .ok (.lstore_n 3, 1) := by decide +kernel
theorem dX3_mix_44 : decode cX3_mix 44 = .ok (.iinc 5 1, 3) := by decide +kernel
theorem dX3_mix_47 : decode cX3_mix 47 = .ok (.goto (-42), 3) := by decide +kernel
theorem dX3_mix_50 : decode cX3_mix 50 = .ok (.lload_n 3, 1) := by decide +kernel
theorem dX3_mix_51 : decode cX3_mix 51 = .ok (.lreturn, 1) := by decide +kernel
theorem dX4_counted_0 : decode cX4_counted 0 = .ok (.iload_n 3, 1) := by decide +kernel
theorem dX4_counted_1 : decode cX4_counted 1 = .ok (.bipush 6, 2) := by decide +kernel
theorem dX4_counted_3 : decode cX4_counted 3 = .ok (.if_icmp .le 7, 3) := by decide +kernel
theorem dX4_counted_6 : decode cX4_counted 6 = .ok (.iconst 1, 1) := by decide +kernel
theorem dX4_counted_7 : decode cX4_counted 7 = .ok (.goto 4, 3) := by decide +kernel
theorem dX4_counted_10 : decode cX4_counted 10 = .ok (.iconst 0, 1) := by decide +kernel
theorem dX4_counted_11 : decode cX4_counted 11 = .ok (.istore 4, 2) := by decide +kernel
theorem dX4_counted_13 : decode cX4_counted 13 = .ok (.iload_n 0, 1) := by decide +kernel
theorem dX4_counted_14 : decode cX4_counted 14 = .ok (.tableswitch 67 1 5 #[34, 38, 49, 34, 54], 34) := by decide +kernel
theorem dX4_counted_48 : decode cX4_counted 48 = .ok (.iload_n 1, 1) := by decide +kernel
theorem dX4_counted_49 : decode cX4_counted 49 = .ok (.iload_n 2, 1) := by decide +kernel
theorem dX4_counted_50 : decode cX4_counted 50 = .ok (.iadd, 1) := by decide +kernel
theorem dX4_counted_51 : decode cX4_counted 51 = .ok (.ireturn, 1) := by decide +kernel
theorem dX4_counted_52 : decode cX4_counted 52 = .ok (.iload 4, 2) := by decide +kernel
theorem dX4_counted_54 : decode cX4_counted 54 = .ok (.ifCond .eq 7, 3) := by decide +kernel
theorem dX4_counted_57 : decode cX4_counted 57 = .ok (.iconst (-1), 1) := by decide +kernel
theorem dX4_counted_58 : decode cX4_counted 58 = .ok (.goto 4, 3) := by decide +kernel
theorem dX4_counted_61 : decode cX4_counted 61 = .ok (.iload_n 1, 1) := by decide +kernel
theorem dX4_counted_62 : decode cX4_counted 62 = .ok (.ireturn, 1) := by decide +kernel
theorem dX4_counted_63 : decode cX4_counted 63 = .ok (.bipush 40, 2) := by decide +kernel
theorem dX4_counted_65 : decode cX4_counted 65 = .ok (.iload_n 1, 1) := by decide +kernel
theorem dX4_counted_66 : decode cX4_counted 66 = .ok (.isub, 1) := by decide +kernel
theorem dX4_counted_67 : decode cX4_counted 67 = .ok (.ireturn, 1) := by decide +kernel
theorem dX4_counted_68 : decode cX4_counted 68 = .ok (.iload 4, 2) := by decide +kernel
theorem dX4_counted_70 : decode cX4_counted 70 = .ok (.ifCond .eq 7, 3) := by decide +kernel
theorem dX4_counted_73 : decode cX4_counted 73 = .ok (.iconst (-1), 1) := by decide +kernel
theorem dX4_counted_74 : decode cX4_counted 74 = .ok (.goto 6, 3) := by decide +kernel
theorem dX4_counted_77 : decode cX4_counted 77 = .ok (.iload_n 1, 1) := by decide +kernel
theorem dX4_counted_78 : decode cX4_counted 78 = .ok (.iload_n 3, 1) := by decide +kernel
theorem dX4_counted_79 : decode cX4_counted 79 = .ok (.iadd, 1) := by decide +kernel
theorem dX4_counted_80 : decode cX4_counted 80 = .ok (.ireturn, 1) := by decide +kernel
theorem dX4_counted_81 : decode cX4_counted 81 = .ok (.iload_n 1, 1) := by decide +kernel
theorem dX4_counted_82 : decode cX4_counted 82 = .ok (.ireturn, 1) := by decide +kernel
theorem dX4_likeOnesLeaveIt_0 : decode cX4_likeOnesLeaveIt 0 = .ok (.iload_n 0, 1) := by decide +kernel
theorem dX4_likeOnesLeaveIt_1 : decode cX4_likeOnesLeaveIt 1 = .ok (.iconst 4, 1) := by decide +kernel
theorem dX4_likeOnesLeaveIt_2 : decode cX4_likeOnesLeaveIt 2 = .ok (.if_icmp .eq 7, 3) := by decide +kernel
theorem dX4_likeOnesLeaveIt_5 : decode cX4_likeOnesLeaveIt 5 = .ok (.iconst 1, 1) := by decide +kernel
theorem dX4_likeOnesLeaveIt_6 : decode cX4_likeOnesLeaveIt 6 = .ok (.goto 4, 3) := by decide +kernel
theorem dX4_likeOnesLeaveIt_9 : decode cX4_likeOnesLeaveIt 9 = .ok (.iconst 0, 1) := by decide +kernel
theorem dX4_likeOnesLeaveIt_10 : decode cX4_likeOnesLeaveIt 10 = .ok (.ireturn, 1) := by decide +kernel
set_option maxRecDepth 20000 in
theorem ggX5_init_X3_init : GoodIn wsX5_init wsX3_init := goodIn_r _ [22, 23, 2, 3, 24, 25, 4, 26, 27, 43, 44, 45, 46] (by decide +kernel) (by decide +kernel)
set_option maxRecDepth 20000 in
theorem gX5_init_X3_init : GoodIn wsX5_init (wsX3_init) := ggX5_init_X3_init
theorem dX5_init_0 : decode cX5_init 0 = .ok (.aload_n 0, 1) := by decide +kernel
theorem dX5_init_1 : decode cX5_init 1 = .ok (.invokespecial 3, 3) := by decide +kernel
theorem dX5_init_4 : decode cX5_init 4 = .ok (.aload_n 0, 1) := by decide +kernel
theorem dX5_init_5 : decode cX5_init 5 = .ok (.bipush 7, 2) := by decide +kernel
theorem dX5_init_7 : decode cX5_init 7 = .ok (.newarray .int, 2) := by decide +kernel
theorem dX5_init_9 : decode cX5_init 9 = .ok (.putfield 9, 3) := by decide +kernel
theorem dX5_init_12 : decode cX5_init 12 = .ok (.aload_n 0, 1) := by decide +kernel
theorem dX5_init_13 : decode cX5_init 13 = .ok (.bipush 7, 2) := by decide +kernel
theorem dX5_init_15 : decode cX5_init 15 = .ok (.newarray .int, 2) := by decide +kernel
theorem dX5_init_17 : decode cX5_init 17 = .ok (.putfield 15, 3) := by decide +kernel
theorem dX5_init_20 : decode cX5_init 20 = .ok (.aload_n 0, 1) := by decide +kernel
theorem dX5_init_21 : decode cX5_init 21 = .ok (.bipush 7, 2) := by decide +kernel
theorem dX5_init_23 : decode cX5_init 23 = .ok (.newarray .int, 2) := by decide +kernel
theorem dX5_init_25 : decode cX5_init 25 = .ok (.putfield 18, 3) := by decide +kernel
theorem dX5_init_28 : decode cX5_init 28 = .ok (.aload_n 0, 1) := by decide +kernel
theorem dX5_init_29 : decode cX5_init 29 = .ok (.bipush 28, 2) := by decide +kernel
theorem dX5_init_31 : decode cX5_init 31 = .ok (.newarray .int, 2) := by decide +kernel
theorem dX5_init_33 : decode cX5_init 33 = .ok (.putfield 21, 3) := by decide +kernel
theorem dX5_init_36 : decode cX5_init 36 = .ok (.aload_n 0, 1) := by decide +kernel
theorem dX5_init_37 : decode cX5_init 37 = .ok (.iconst 5, 1) := by decide +kernel
theorem dX5_init_38 : decode cX5_init 38 = .ok (.newarray .int, 2) := by decide +kernel
theorem dX5_init_40 : decode cX5_init 40 = .ok (.putfield 24, 3) := by decide +kernel
theorem dX5_init_43 : decode cX5_init 43 = .ok (.aload_n 0, 1) := by decide +kernel
theorem dX5_init_44 : decode cX5_init 44 = .ok (.iconst 5, 1) := by decide +kernel
theorem dX5_init_45 : decode cX5_init 45 = .ok (.newarray .int, 2) := by decide +kernel
theorem dX5_init_47 : decode cX5_init 47 = .ok (.putfield 27, 3) := by decide +kernel
theorem dX5_init_50 : decode cX5_init 50 = .ok (.aload_n 0, 1) := by decide +kernel
theorem dX5_init_51 : decode cX5_init 51 = .ok (.iconst 5, 1) := by decide +kernel
theorem dX5_init_52 : decode cX5_init 52 = .ok (.newarray .int, 2) := by decide +kernel
theorem dX5_init_54 : decode cX5_init 54 = .ok (.putfield 30, 3) := by decide +kernel
theorem dX5_init_57 : decode cX5_init 57 = .ok (.aload_n 0, 1) := by decide +kernel
theorem dX5_init_58 : decode cX5_init 58 = .ok (.iconst 5, 1) := by decide +kernel
theorem dX5_init_59 : decode cX5_init 59 = .ok (.newarray .int, 2) := by decide +kernel
theorem dX5_init_61 : decode cX5_init 61 = .ok (.putfield 33, 3) := by decide +kernel
theorem dX5_init_64 : decode cX5_init 64 = .ok (.aload_n 0, 1) := by decide +kernel
theorem dX5_init_65 : decode cX5_init 65 = .ok (.iconst 5, 1) := by decide +kernel
theorem dX5_init_66 : decode cX5_init 66 = .ok (.newarray .int, 2) := by decide +kernel
theorem dX5_init_68 : decode cX5_init 68 = .ok (.putfield 36, 3) := by decide +kernel
theorem dX5_init_71 : decode cX5_init 71 = .ok (.aload_n 0, 1) := by decide +kernel
theorem dX5_init_72 : decode cX5_init 72 = .ok (.new 39, 3) := by decide +kernel
theorem dX5_init_75 : decode cX5_init 75 = .ok (.dup, 1) := by decide +kernel
theorem dX5_init_76 : decode cX5_init 76 = .ok (.bipush 6, 2) := by decide +kernel
theorem dX5_init_78 : decode cX5_init 78 = .ok (.bipush 6, 2) := by decide +kernel
theorem dX5_init_80 : decode cX5_init 80 = .ok (.invokespecial 41, 3) := by decide +kernel
theorem dX5_init_83 : decode cX5_init 83 = .ok (.putfield 44, 3) := by decide +kernel
theorem dX5_init_86 : decode cX5_init 86 = .ok (.aload_n 0, 1) := by decide +kernel
theorem dX5_init_87 : decode cX5_init 87 = .ok (.new 39, 3) := by decide +kernel
theorem dX5_init_90 : decode cX5_init 90 = .ok (.dup, 1) := by decide +kernel
theorem dX5_init_91 : decode cX5_init 91 = .ok (.iconst 4, 1) := by decide +kernel
theorem dX5_init_92 : decode cX5_init 92 = .ok (.bipush 6, 2) := by decide +kernel
theorem dX5_init_94 : decode cX5_init 94 = .ok (.invokespecial 41, 3) := by decide +kernel
theorem dX5_init_97 : decode cX5_init 97 = .ok (.putfield 48, 3) := by decide +kernel
theorem dX5_init_100 : decode cX5_init 100 = .ok (.aload_n 0, 1) := by decide +kernel
theorem dX5_init_101 : decode cX5_init 101 = .ok (.new 39, 3) := by decide +kernel
theorem dX5_init_104 : decode cX5_init 104 = .ok (.dup, 1) := by decide +kernel
theorem dX5_init_105 : decode cX5_init 105 = .ok (.bipush 18, 2) := by decide +kernel
theorem dX5_init_107 : decode cX5_init 107 = .ok (.bipush 8, 2) := by decide +kernel
theorem dX5_init_109 : decode cX5_init 109 = .ok (.invokespecial 41, 3) := by decide +kernel
theorem dX5_init_112 : decode cX5_init 112 = .ok (.putfield 51, 3) := by decide +kernel
theorem dX5_init_115 : decode cX5_init 115 = .ok (.return_, 1) := by decide +kernel
theorem dX5_empty_0 : decode cX5_empty 0 = .ok (.aload_n 0, 1) := by decide +kernel
theorem dX5_empty_1 : decode cX5_empty 1 = .ok (.iconst 0, 1) := by decide +kernel
theorem dX5_empty_2 : decode cX5_empty 2 = .ok (.putfield 54, 3) := by decide +kernel
theorem dX5_empty_5 : decode cX5_empty 5 = .ok (.aload_n 0, 1) := by decide +kernel
theorem dX5_empty_6 : decode cX5_empty 6 = .ok (.iconst 0, 1) := by decide +kernel
theorem dX5_empty_7 : decode cX5_empty 7 = .ok (.putfield 58, 3) := by decide +kernel
theorem dX5_empty_10 : decode cX5_empty 10 = .ok (.aload_n 0, 1) := by decide +kernel
theorem dX5_empty_11 : decode cX5_empty 11 = .ok (.iconst 0, 1) := by decide +kernel
theorem dX5_empty_12 : decode cX5_empty 12 = .ok (.putfield 61, 3) := by decide +kernel
theorem dX5_empty_15 : decode cX5_empty 15 = .ok (.aload_n 0, 1) := by decide +kernel
theorem dX5_empty_16 : decode cX5_empty 16 = .ok (.getfield 44, 3) := by decide +kernel
theorem dX5_empty_19 : decode cX5_empty 19 = .ok (.iconst 0, 1) := by decide +kernel
theorem dX5_empty_20 : decode cX5_empty 20 = .ok (.putfield 64, 3) := by decide +kernel
theorem dX5_empty_23 : decode cX5_empty 23 = .ok (.aload_n 0, 1) := by decide +kernel
theorem dX5_empty_24 : decode cX5_empty 24 = .ok (.getfield 48, 3) := by decide +kernel
theorem dX5_empty_27 : decode cX5_empty 27 = .ok (.iconst 0, 1) := by decide +kernel
theorem dX5_empty_28 : decode cX5_empty 28 = .ok (.putfield 64, 3) := by decide +kernel
theorem dX5_empty_31 : decode cX5_empty 31 = .ok (.aload_n 0, 1) := by decide +kernel
theorem dX5_empty_32 : decode cX5_empty 32 = .ok (.getfield 51, 3) := by decide +kernel
theorem dX5_empty_35 : decode cX5_empty 35 = .ok (.iconst 0, 1) := by decide +kernel
theorem dX5_empty_36 : decode cX5_empty 36 = .ok (.putfield 64, 3) := by decide +kernel
theorem dX5_empty_39 : decode cX5_empty 39 = .ok (.return_, 1) := by decide +kernel
set_option maxRecDepth 20000 in
theorem ggX5_copyOf_X6_copyRow : GoodIn wsX5_copyOf wsX6_copyRow := goodIn_r _ [18, 19, 20, 21, 22, 23, 24, 25, 26] (by decide +kernel) (by decide +kernel)
set_option maxRecDepth 20000 in
theorem gX5_copyOf_X6_copyRow_n67 : GoodIn wsX5_copyOf (wsX6_copyRow) := ggX5_copyOf_X6_copyRow
set_option maxRecDepth 20000 in
theorem ggX5_copyOf_X3_copyOf : GoodIn wsX5_copyOf wsX3_copyOf := goodIn_r _ [31, 32, 33, 16, 17, 18, 19, 20, 21, 22, 23, 24, 25, 26, 49, 50, 51, 52] (by decide +kernel) (by decide +kernel)
set_option maxRecDepth 20000 in
theorem gX5_copyOf_X3_copyOf : GoodIn wsX5_copyOf (wsV RX5 71 RX3 yX3_copyOf wsX3_copyOf) := goodIn_app (goodIn_of _ (by decide +kernel)) ggX5_copyOf_X3_copyOf
theorem dX5_copyOf_0 : decode cX5_copyOf 0 = .ok (.aload_n 1, 1) := by decide +kernel
theorem dX5_copyOf_1 : decode cX5_copyOf 1 = .ok (.getfield 9, 3) := by decide +kernel
theorem dX5_copyOf_4 : decode cX5_copyOf 4 = .ok (.aload_n 0, 1) := by decide +kernel
theorem dX5_copyOf_5 : decode cX5_copyOf 5 = .ok (.getfield 9, 3) := by decide +kernel
theorem dX5_copyOf_8 : decode cX5_copyOf 8 = .ok (.invokestatic 67, 3) := by decide +kernel
theorem dX5_copyOf_11 : decode cX5_copyOf 11 = .ok (.aload_n 1, 1) := by decide +kernel
theorem dX5_copyOf_12 : decode cX5_copyOf 12 = .ok (.getfield 15, 3) := by decide +kernel
theorem dX5_copyOf_15 : decode cX5_copyOf 15 = .ok (.aload_n 0, 1) := by decide +kernel
theorem dX5_copyOf_16 : decode cX5_copyOf 16 = .ok (.getfield 15, 3) := by decide +kernel
theorem dX5_copyOf_19 : decode cX5_copyOf 19 = .ok (.invokestatic 67, 3) := by decide +kernel
theorem dX5_copyOf_22 : decode cX5_copyOf 22 = .ok (.aload_n 1, 1) := by decide +kernel
theorem dX5_copyOf_23 : decode cX5_copyOf 23 = .ok (.getfield 18, 3) := by decide +kernel
theorem dX5_copyOf_26 : decode cX5_copyOf 26 = .ok (.aload_n 0, 1) := by decide +kernel
theorem dX5_copyOf_27 : decode cX5_copyOf 27 = .ok (.getfield 18, 3) := by decide +kernel
theorem dX5_copyOf_30 : decode cX5_copyOf 30 = .ok (.invokestatic 67, 3) := by decide +kernel
theorem dX5_copyOf_33 : decode cX5_copyOf 33 = .ok (.aload_n 1, 1) := by decide +kernel
theorem dX5_copyOf_34 : decode cX5_copyOf 34 = .ok (.getfield 21, 3) := by decide +kernel
theorem dX5_copyOf_37 : decode cX5_copyOf 37 = .ok (.aload_n 0, 1) := by decide +kernel
theorem dX5_copyOf_38 : decode cX5_copyOf 38 = .ok (.getfield 21, 3) := by decide +kernel
theorem dX5_copyOf_41 : decode cX5_copyOf 41 = .ok (.invokestatic 67, 3) := by decide +kernel
theorem dX5_copyOf_44 : decode cX5_copyOf 44 = .ok (.aload_n 1, 1) := by decide +kernel
theorem dX5_copyOf_45 : decode cX5_copyOf 45 = .ok (.getfield 24, 3) := by decide +kernel
theorem dX5_copyOf_48 : decode cX5_copyOf 48 = .ok (.aload_n 0, 1) := by decide +kernel
theorem dX5_copyOf_49 : decode cX5_copyOf 49 = .ok (.getfield 24, 3) := by decide +kernel
theorem dX5_copyOf_52 : decode cX5_copyOf 52 = .ok (.invokestatic 67, 3) := by decide +kernel
theorem dX5_copyOf_55 : decode cX5_copyOf 55 = .ok (.aload_n 1, 1) := by decide +kernel
theorem dX5_copyOf_56 : decode cX5_copyOf 56 = .ok (.getfield 27, 3) := by decide +kernel
theorem dX5_copyOf_59 : decode cX5_copyOf 59 = .ok (.aload_n 0, 1) := by decide +kernel
theorem dX5_copyOf_60 : decode cX5_copyOf 60 = .ok (.getfield 27, 3) := by decide +kernel
theorem dX5_copyOf_63 : decode cX5_copyOf 63 = .ok (.invokestatic 67, 3) := by decide +kernel
theorem dX5_copyOf_66 : decode cX5_copyOf 66 = .ok (.aload_n 1, 1) := by decide +kernel
theorem dX5_copyOf_67 : decode cX5_copyOf 67 = .ok (.getfield 30, 3) := by decide +kernel
theorem dX5_copyOf_70 : decode cX5_copyOf 70 = .ok (.aload_n 0, 1) := by decide +kernel
theorem dX5_copyOf_71 : decode cX5_copyOf 71 = .ok (.getfield 30, 3) := by decide +kernel
theorem dX5_copyOf_74 : decode cX5_copyOf 74 = .ok (.invokestatic 67, 3) := by decide +kernel
theorem dX5_copyOf_77 : decode cX5_copyOf 77 = .ok (.aload_n 1, 1) := by decide +kernel
theorem dX5_copyOf_78 : decode cX5_copyOf 78 = .ok (.getfield 33, 3) := by decide +kernel
theorem dX5_copyOf_81 : decode cX5_copyOf 81 = .ok (.aload_n 0, 1) := by decide +kernel
theorem dX5_copyOf_82 : decode cX5_copyOf 82 = .ok (.getfield 33, 3) := by decide +kernel
theorem dX5_copyOf_85 : decode cX5_copyOf 85 = .ok (.invokestatic 67, 3) := by decide +kernel
theorem dX5_copyOf_88 : decode cX5_copyOf 88 = .ok (.aload_n 1, 1) := by decide +kernel
theorem dX5_copyOf_89 : decode cX5_copyOf 89 = .ok (.getfield 36, 3) := by decide +kernel
theorem dX5_copyOf_92 : decode cX5_copyOf 92 = .ok (.aload_n 0, 1) := by decide +kernel
theorem dX5_copyOf_93 : decode cX5_copyOf 93 = .ok (.getfield 36, 3) := by decide +kernel
theorem dX5_copyOf_96 : decode cX5_copyOf 96 = .ok (.invokestatic 67, 3) := by decide +kernel
theorem dX5_copyOf_99 : decode cX5_copyOf 99 = .ok (.aload_n 0, 1) := by decide +kernel
theorem dX5_copyOf_100 : decode cX5_copyOf 100 = .ok (.getfield 44, 3) := by decide +kernel
theorem dX5_copyOf_103 : decode cX5_copyOf 103 = .ok (.aload_n 1, 1) := by decide +kernel
theorem dX5_copyOf_104 : decode cX5_copyOf 104 = .ok (.getfield 44, 3) := by decide +kernel
theorem dX5_copyOf_107 : decode cX5_copyOf 107 = .ok (.invokevirtual 71, 3) := by decide +kernel
theorem dX5_copyOf_110 : decode cX5_copyOf 110 = .ok (.aload_n 0, 1) := by decide +kernel
theorem dX5_copyOf_111 : decode cX5_copyOf 111 = .ok (.getfield 48, 3) := by decide +kernel
theorem dX5_copyOf_114 : decode cX5_copyOf 114 = .ok (.aload_n 1, 1) := by decide +kernel
theorem dX5_copyOf_115 : decode cX5_copyOf 115 = .ok (.getfield 48, 3) := by decide +kernel
theorem dX5_copyOf_118 : decode cX5_copyOf 118 = .ok (.invokevirtual 71, 3) := by decide +kernel
theorem dX5_copyOf_121 : decode cX5_copyOf 121 = .ok (.aload_n 0, 1) := by decide +kernel
theorem dX5_copyOf_122 : decode cX5_copyOf 122 = .ok (.getfield 51, 3) := by decide +kernel
theorem dX5_copyOf_125 : decode cX5_copyOf 125 = .ok (.aload_n 1, 1) := by decide +kernel
theorem dX5_copyOf_126 : decode cX5_copyOf 126 = .ok (.getfield 51, 3) := by decide +kernel
theorem dX5_copyOf_129 : decode cX5_copyOf 129 = .ok (.invokevirtual 71, 3) := by decide +kernel
theorem dX5_copyOf_132 : decode cX5_copyOf 132 = .ok (.aload_n 0, 1) := by decide +kernel
theorem dX5_copyOf_133 : decode cX5_copyOf 133 = .ok (.aload_n 1, 1) := by decide +kernel
theorem dX5_copyOf_134 : decode cX5_copyOf 134 = .ok (.getfield 54, 3) := by decide +kernel
theorem dX5_copyOf_137 : decode cX5_copyOf 137 = .ok (.putfield 54, 3) := by decide +kernel
theorem dX5_copyOf_140 : decode cX5_copyOf 140 = .ok (.aload_n 0, 1) := by decide +kernel
theorem dX5_copyOf_141 : decode cX5_copyOf 141 = .ok (.aload_n 1, 1) := by decide +kernel
theorem dX5_copyOf_142 : decode cX5_copyOf 142 = .ok (.getfield 58, 3) := by decide +kernel
theorem dX5_copyOf_145 : decode cX5_copyOf 145 = .ok (.putfield 58, 3) := by decide +kernel
theorem dX5_copyOf_148 : decode cX5_copyOf 148 = .ok (.aload_n 0, 1) := by decide +kernel
theorem dX5_copyOf_149 : decode cX5_copyOf 149 = .ok (.aload_n 1, 1) := by decide +kernel
theorem dX5_copyOf_150 : decode cX5_copyOf 150 = .ok (.getfield 61, 3) := by decide +kernel
theorem dX5_copyOf_153 : decode cX5_copyOf 153 = .ok (.putfield 61, 3) := by decide +kernel
theorem dX5_copyOf_156 : decode cX5_copyOf 156 = .ok (.return_, 1) := by decide +kernel
theorem dX5_addPerson_0 : decode cX5_addPerson 0 = .ok (.aload_n 0, 1) := by decide +kernel
theorem dX5_addPerson_1 : decode cX5_addPerson 1 = .ok (.getfield 54, 3) := by decide +kernel
theorem dX5_addPerson_4 : decode cX5_addPerson 4 = .ok (.bipush 7, 2) := by decide +kernel
theorem dX5_addPerson_6 : decode cX5_addPerson 6 = .ok (.if_icmp .lt 4, 3) := by decide +kernel
theorem dX5_addPerson_9 : decode cX5_addPerson 9 = .ok (.return_, 1) := by decide +kernel
theorem dX5_addPerson_10 : decode cX5_addPerson 10 = .ok (.aload_n 0, 1) := by decide +kernel
theorem dX5_addPerson_11 : decode cX5_addPerson 11 = .ok (.getfield 9, 3) := by decide +kernel
theorem dX5_addPerson_14 : decode cX5_addPerson 14 = .ok (.aload_n 0, 1) := by decide +kernel
theorem dX5_addPerson_15 : decode cX5_addPerson 15 = .ok (.getfield 54, 3) := by decide +kernel
theorem dX5_addPerson_18 : decode cX5_addPerson 18 = .ok (.iload_n 1, 1) := by decide +kernel
theorem dX5_addPerson_19 : decode cX5_addPerson 19 = .ok (.iastore, 1) := by decide +kernel
theorem dX5_addPerson_20 : decode cX5_addPerson 20 = .ok (.aload_n 0, 1) := by decide +kernel
theorem dX5_addPerson_21 : decode cX5_addPerson 21 = .ok (.getfield 15, 3) := by decide +kernel
theorem dX5_addPerson_24 : decode cX5_addPerson 24 = .ok (.aload_n 0, 1) := by decide +kernel
theorem dX5_addPerson_25 : decode cX5_addPerson 25 = .ok (.getfield 54, 3) := by decide +kernel
theorem dX5_addPerson_28 : decode cX5_addPerson 28 = .ok (.iload_n 2, 1) := by decide +kernel
theorem dX5_addPerson_29 : decode cX5_addPerson 29 = .ok (.iastore, 1) := by decide +kernel
theorem dX5_addPerson_30 : decode cX5_addPerson 30 = .ok (.aload_n 0, 1) := by decide +kernel
theorem dX5_addPerson_31 : decode cX5_addPerson 31 = .ok (.getfield 18, 3) := by decide +kernel
theorem dX5_addPerson_34 : decode cX5_addPerson 34 = .ok (.aload_n 0, 1) := by decide +kernel
theorem dX5_addPerson_35 : decode cX5_addPerson 35 = .ok (.getfield 54, 3) := by decide +kernel
theorem dX5_addPerson_38 : decode cX5_addPerson 38 = .ok (.iconst 0, 1) := by decide +kernel
theorem dX5_addPerson_39 : decode cX5_addPerson 39 = .ok (.iastore, 1) := by decide +kernel
theorem dX5_addPerson_40 : decode cX5_addPerson 40 = .ok (.aload_n 0, 1) := by decide +kernel
theorem dX5_addPerson_41 : decode cX5_addPerson 41 = .ok (.getfield 21, 3) := by decide +kernel
theorem dX5_addPerson_44 : decode cX5_addPerson 44 = .ok (.iconst 4, 1) := by decide +kernel
theorem dX5_addPerson_45 : decode cX5_addPerson 45 = .ok (.aload_n 0, 1) := by decide +kernel
theorem dX5_addPerson_46 : decode cX5_addPerson 46 = .ok (.getfield 54, 3) := by decide +kernel
theorem dX5_addPerson_49 : decode cX5_addPerson 49 = .ok (.imul, 1) := by decide +kernel
theorem dX5_addPerson_50 : decode cX5_addPerson 50 = .ok (.iload_n 3, 1) := by decide +kernel
theorem dX5_addPerson_51 : decode cX5_addPerson 51 = .ok (.iastore, 1) := by decide +kernel
theorem dX5_addPerson_52 : decode cX5_addPerson 52 = .ok (.aload_n 0, 1) := by decide +kernel
theorem dX5_addPerson_53 : decode cX5_addPerson 53 = .ok (.getfield 21, 3) := by decide +kernel
theorem dX5_addPerson_56 : decode cX5_addPerson 56 = .ok (.iconst 4, 1) := by decide +kernel
theorem dX5_addPerson_57 : decode cX5_addPerson 57 = .ok (.aload_n 0, 1) := by decide +kernel
theorem dX5_addPerson_58 : decode cX5_addPerson 58 = .ok (.getfield 54, 3) := by decide +kernel
theorem dX5_addPerson_61 : decode cX5_addPerson 61 = .ok (.imul, 1) := by decide +kernel
theorem dX5_addPerson_62 : decode cX5_addPerson 62 = .ok (.iconst 1, 1) := by decide +kernel
theorem dX5_addPerson_63 : decode cX5_addPerson 63 = .ok (.iadd, 1) := by decide +kernel
theorem dX5_addPerson_64 : decode cX5_addPerson 64 = .ok (.iload 4, 2) := by decide +kernel
theorem dX5_addPerson_66 : decode cX5_addPerson 66 = .ok (.iastore, 1) := by decide +kernel
theorem dX5_addPerson_67 : decode cX5_addPerson 67 = .ok (.aload_n 0, 1) := by decide +kernel
theorem dX5_addPerson_68 : decode cX5_addPerson 68 = .ok (.getfield 21, 3) := by decide +kernel
theorem dX5_addPerson_71 : decode cX5_addPerson 71 = .ok (.iconst 4, 1) := by decide +kernel
theorem dX5_addPerson_72 : decode cX5_addPerson 72 = .ok (.aload_n 0, 1) := by decide +kernel
theorem dX5_addPerson_73 : decode cX5_addPerson 73 = .ok (.getfield 54, 3) := by decide +kernel
theorem dX5_addPerson_76 : decode cX5_addPerson 76 = .ok (.imul, 1) := by decide +kernel
theorem dX5_addPerson_77 : decode cX5_addPerson 77 = .ok (.iconst 2, 1) := by decide +kernel
theorem dX5_addPerson_78 : decode cX5_addPerson 78 = .ok (.iadd, 1) := by decide +kernel
theorem dX5_addPerson_79 : decode cX5_addPerson 79 = .ok (.iload 5, 2) := by decide +kernel
theorem dX5_addPerson_81 : decode cX5_addPerson 81 = .ok (.iastore, 1) := by decide +kernel
theorem dX5_addPerson_82 : decode cX5_addPerson 82 = .ok (.aload_n 0, 1) := by decide +kernel
theorem dX5_addPerson_83 : decode cX5_addPerson 83 = .ok (.getfield 21, 3) := by decide +kernel
theorem dX5_addPerson_86 : decode cX5_addPerson 86 = .ok (.iconst 4, 1) := by decide +kernel
theorem dX5_addPerson_87 : decode cX5_addPerson 87 = .ok (.aload_n 0, 1) := by decide +kernel
theorem dX5_addPerson_88 : decode cX5_addPerson 88 = .ok (.getfield 54, 3) := by decide +kernel
theorem dX5_addPerson_91 : decode cX5_addPerson 91 = .ok (.imul, 1) := by decide +kernel
theorem dX5_addPerson_92 : decode cX5_addPerson 92 = .ok (.iconst 3, 1) := by decide +kernel
theorem dX5_addPerson_93 : decode cX5_addPerson 93 = .ok (.iadd, 1) := by decide +kernel
theorem dX5_addPerson_94 : decode cX5_addPerson 94 = .ok (.iload 6, 2) := by decide +kernel
theorem dX5_addPerson_96 : decode cX5_addPerson 96 = .ok (.iastore, 1) := by decide +kernel
theorem dX5_addPerson_97 : decode cX5_addPerson 97 = .ok (.aload_n 0, 1) := by decide +kernel
theorem dX5_addPerson_98 : decode cX5_addPerson 98 = .ok (.dup, 1) := by decide +kernel
theorem dX5_addPerson_99 : decode cX5_addPerson 99 = .ok (.getfield 54, 3) := by decide +kernel
theorem dX5_addPerson_102 : decode cX5_addPerson 102 = .ok (.iconst 1, 1) := by decide +kernel
theorem dX5_addPerson_103 : decode cX5_addPerson 103 = .ok (.iadd, 1) := by decide +kernel
theorem dX5_addPerson_104 : decode cX5_addPerson 104 = .ok (.putfield 54, 3) := by decide +kernel
theorem dX5_addPerson_107 : decode cX5_addPerson 107 = .ok (.aload_n 0, 1) := by decide +kernel
theorem dX5_addPerson_108 : decode cX5_addPerson 108 = .ok (.getfield 51, 3) := by decide +kernel
theorem dX5_addPerson_111 : decode cX5_addPerson 111 = .ok (.iconst 0, 1) := by decide +kernel
theorem dX5_addPerson_112 : decode cX5_addPerson 112 = .ok (.putfield 64, 3) := by decide +kernel
theorem dX5_addPerson_115 : decode cX5_addPerson 115 = .ok (.return_, 1) := by decide +kernel
theorem dX5_addThing_0 : decode cX5_addThing 0 = .ok (.aload_n 0, 1) := by decide +kernel
theorem dX5_addThing_1 : decode cX5_addThing 1 = .ok (.getfield 58, 3) := by decide +kernel
theorem dX5_addThing_4 : decode cX5_addThing 4 = .ok (.iconst 5, 1) := by decide +kernel
theorem dX5_addThing_5 : decode cX5_addThing 5 = .ok (.if_icmp .lt 4, 3) := by decide +kernel
theorem dX5_addThing_8 : decode cX5_addThing 8 = .ok (.return_, 1) := by decide +kernel
theorem dX5_addThing_9 : decode cX5_addThing 9 = .ok (.aload_n 0, 1) := by decide +kernel
theorem dX5_addThing_10 : decode cX5_addThing 10 = .ok (.getfield 24, 3) := by decide +kernel
theorem dX5_addThing_13 : decode cX5_addThing 13 = .ok (.aload_n 0, 1) := by decide +kernel
theorem dX5_addThing_14 : decode cX5_addThing 14 = .ok (.getfield 58, 3) := by decide +kernel
theorem dX5_addThing_17 : decode cX5_addThing 17 = .ok (.iload_n 1, 1) := by decide +kernel
theorem dX5_addThing_18 : decode cX5_addThing 18 = .ok (.iastore, 1) := by decide +kernel
theorem dX5_addThing_19 : decode cX5_addThing 19 = .ok (.aload_n 0, 1) := by decide +kernel
theorem dX5_addThing_20 : decode cX5_addThing 20 = .ok (.getfield 27, 3) := by decide +kernel
theorem dX5_addThing_23 : decode cX5_addThing 23 = .ok (.aload_n 0, 1) := by decide +kernel
theorem dX5_addThing_24 : decode cX5_addThing 24 = .ok (.getfield 58, 3) := by decide +kernel
theorem dX5_addThing_27 : decode cX5_addThing 27 = .ok (.iload_n 2, 1) := by decide +kernel
theorem dX5_addThing_28 : decode cX5_addThing 28 = .ok (.iastore, 1) := by decide +kernel
theorem dX5_addThing_29 : decode cX5_addThing 29 = .ok (.aload_n 0, 1) := by decide +kernel
theorem dX5_addThing_30 : decode cX5_addThing 30 = .ok (.getfield 30, 3) := by decide +kernel
theorem dX5_addThing_33 : decode cX5_addThing 33 = .ok (.aload_n 0, 1) := by decide +kernel
theorem dX5_addThing_34 : decode cX5_addThing 34 = .ok (.getfield 58, 3) := by decide +kernel
theorem dX5_addThing_37 : decode cX5_addThing 37 = .ok (.iload_n 3, 1) := by decide +kernel
theorem dX5_addThing_38 : decode cX5_addThing 38 = .ok (.iastore, 1) := by decide +kernel
theorem dX5_addThing_39 : decode cX5_addThing 39 = .ok (.aload_n 0, 1) := by decide +kernel
theorem dX5_addThing_40 : decode cX5_addThing 40 = .ok (.getfield 33, 3) := by decide +kernel
theorem dX5_addThing_43 : decode cX5_addThing 43 = .ok (.aload_n 0, 1) := by decide +kernel
theorem dX5_addThing_44 : decode cX5_addThing 44 = .ok (.getfield 58, 3) := by decide +kernel
theorem dX5_addThing_47 : decode cX5_addThing 47 = .ok (.iload_n 3, 1) := by decide +kernel
theorem dX5_addThing_48 : decode cX5_addThing 48 = .ok (.iastore, 1) := by decide +kernel
theorem dX5_addThing_49 : decode cX5_addThing 49 = .ok (.aload_n 0, 1) := by decide +kernel
theorem dX5_addThing_50 : decode cX5_addThing 50 = .ok (.getfield 36, 3) := by decide +kernel
theorem dX5_addThing_53 : decode cX5_addThing 53 = .ok (.aload_n 0, 1) := by decide +kernel
theorem dX5_addThing_54 : decode cX5_addThing 54 = .ok (.getfield 58, 3) := by decide +kernel
theorem dX5_addThing_57 : decode cX5_addThing 57 = .ok (.iconst 0, 1) := by decide +kernel
theorem dX5_addThing_58 : decode cX5_addThing 58 = .ok (.iastore, 1) := by decide +kernel
theorem dX5_addThing_59 : decode cX5_addThing 59 = .ok (.aload_n 0, 1) := by decide +kernel
theorem dX5_addThing_60 : decode cX5_addThing 60 = .ok (.dup, 1) := by decide +kernel
theorem dX5_addThing_61 : decode cX5_addThing 61 = .ok (.getfield 58, 3) := by decide +kernel
theorem dX5_addThing_64 : decode cX5_addThing 64 = .ok (.iconst 1, 1) := by decide +kernel
theorem dX5_addThing_65 : decode cX5_addThing 65 = .ok (.iadd, 1) := by decide +kernel
theorem dX5_addThing_66 : decode cX5_addThing 66 = .ok (.putfield 58, 3) := by decide +kernel
theorem dX5_addThing_69 : decode cX5_addThing 69 = .ok (.aload_n 0, 1) := by decide +kernel
theorem dX5_addThing_70 : decode cX5_addThing 70 = .ok (.getfield 51, 3) := by decide +kernel
theorem dX5_addThing_73 : decode cX5_addThing 73 = .ok (.iconst 0, 1) := by decide +kernel
theorem dX5_addThing_74 : decode cX5_addThing 74 = .ok (.putfield 64, 3) := by decide +kernel
theorem dX5_addThing_77 : decode cX5_addThing 77 = .ok (.return_, 1) := by decide +kernel
set_option maxRecDepth 20000 in
theorem ggX5_keepPast_X3_isFull : GoodIn wsX5_keepPast wsX3_isFull := goodIn_r _ [10, 11, 12, 46, 47, 48, 49] (by decide +kernel) (by decide +kernel)
set_option maxRecDepth 20000 in
theorem gX5_keepPast_X3_isFull : GoodIn wsX5_keepPast (wsV RX5 75 RX3 yX3_isFull wsX3_isFull) := goodIn_app (goodIn_of _ (by decide +kernel)) ggX5_keepPast_X3_isFull
set_option maxRecDepth 20000 in
theorem ggX5_keepPast_X3_dropFirst : GoodIn wsX5_keepPast wsX3_dropFirst := goodIn_r _ [16, 11, 17, 18, 19, 20, 21, 22, 46, 47, 48, 49] (by decide +kernel) (by decide +kernel)
set_option maxRecDepth 20000 in
theorem gX5_keepPast_X3_dropFirst : GoodIn wsX5_keepPast (wsV RX5 79 RX3 yX3_dropFirst wsX3_dropFirst) := goodIn_app (goodIn_of _ (by decide +kernel)) ggX5_keepPast_X3_dropFirst
set_option maxRecDepth 20000 in
theorem ggX5_keepPast_X3_begin : GoodIn wsX5_keepPast wsX3_begin := goodIn_r _ [26, 11, 12, 46, 47, 48, 49] (by decide +kernel) (by decide +kernel)
set_option maxRecDepth 20000 in
theorem gX5_keepPast_X3_begin : GoodIn wsX5_keepPast (wsV RX5 82 RX3 yX3_begin wsX3_begin) := goodIn_app (goodIn_of _ (by decide +kernel)) ggX5_keepPast_X3_begin
set_option maxRecDepth 20000 in
theorem ggX5_keepPast_X3_put : GoodIn wsX5_keepPast wsX3_put := goodIn_r _ [30, 11, 18, 17, 46, 47, 48, 49] (by decide +kernel) (by decide +kernel)
set_option maxRecDepth 20000 in
theorem gX5_keepPast_X3_put : GoodIn wsX5_keepPast (wsV RX5 85 RX3 yX3_put wsX3_put) := goodIn_app (goodIn_of _ (by decide +kernel)) ggX5_keepPast_X3_put
theorem dX5_keepPast_0 : decode cX5_keepPast 0 = .ok (.aload_n 0, 1) := by decide +kernel
theorem dX5_keepPast_1 : decode cX5_keepPast 1 = .ok (.getfield 51, 3) := by decide +kernel
theorem dX5_keepPast_4 : decode cX5_keepPast 4 = .ok (.invokevirtual 75, 3) := by decide +kernel
theorem dX5_keepPast_7 : decode cX5_keepPast 7 = .ok (.ifCond .eq 10, 3) := by decide +kernel
theorem dX5_keepPast_10 : decode cX5_keepPast 10 = .ok (.aload_n 0, 1) := by decide +kernel
theorem dX5_keepPast_11 : decode cX5_keepPast 11 = .ok (.getfield 51, 3) := by decide +kernel
theorem dX5_keepPast_14 : decode cX5_keepPast 14 = .ok (.invokevirtual 79, 3) := by decide +kernel
theorem dX5_keepPast_17 : decode cX5_keepPast 17 = .ok (.aload_n 0, 1) := by decide +kernel
theorem dX5_keepPast_18 : decode cX5_keepPast 18 = .ok (.getfield 51, 3) := by decide +kernel
theorem dX5_keepPast_21 : decode cX5_keepPast 21 = .ok (.invokevirtual 82, 3) := by decide +kernel
theorem dX5_keepPast_24 : decode cX5_keepPast 24 = .ok (.aload_n 0, 1) := by decide +kernel
theorem dX5_keepPast_25 : decode cX5_keepPast 25 = .ok (.getfield 51, 3) := by decide +kernel
theorem dX5_keepPast_28 : decode cX5_keepPast 28 = .ok (.iconst 0, 1) := by decide +kernel
theorem dX5_keepPast_29 : decode cX5_keepPast 29 = .ok (.aload_n 0, 1) := by decide +kernel
theorem dX5_keepPast_30 : decode cX5_keepPast 30 = .ok (.getfield 61, 3) := by decide +kernel
theorem dX5_keepPast_33 : decode cX5_keepPast 33 = .ok (.invokevirtual 85, 3) := by decide +kernel
theorem dX5_keepPast_36 : decode cX5_keepPast 36 = .ok (.iconst 0, 1) := by decide +kernel
theorem dX5_keepPast_37 : decode cX5_keepPast 37 = .ok (.istore_n 1, 1) := by decide +kernel
theorem dX5_keepPast_38 : decode cX5_keepPast 38 = .ok (.iload_n 1, 1) := by decide +kernel
theorem dX5_keepPast_39 : decode cX5_keepPast 39 = .ok (.bipush 7, 2) := by decide +kernel
theorem dX5_keepPast_41 : decode cX5_keepPast 41 = .ok (.if_icmp .ge 25, 3) := by decide +kernel
theorem dX5_keepPast_44 : decode cX5_keepPast 44 = .ok (.aload_n 0, 1) := by decide +kernel
theorem dX5_keepPast_45 : decode cX5_keepPast 45 = .ok (.getfield 51, 3) := by decide +kernel
theorem dX5_keepPast_48 : decode cX5_keepPast 48 = .ok (.iconst 1, 1) := by decide +kernel
theorem dX5_keepPast_49 : decode cX5_keepPast 49 = .ok (.iload_n 1, 1) := by decide +kernel
theorem dX5_keepPast_50 : decode cX5_keepPast 50 = .ok (.iadd, 1) := by decide +kernel
theorem dX5_keepPast_51 : decode cX5_keepPast 51 = .ok (.aload_n 0, 1) := by decide +kernel
theorem dX5_keepPast_52 : decode cX5_keepPast 52 = .ok (.getfield 18, 3) := by decide +kernel
theorem dX5_keepPast_55 : decode cX5_keepPast 55 = .ok (.iload_n 1, 1) := by decide +kernel
theorem dX5_keepPast_56 : decode cX5_keepPast 56 = .ok (.iaload, 1) := by decide +kernel
theorem dX5_keepPast_57 : decode cX5_keepPast 57 = .ok (.invokevirtual 85, 3) := by decide +kernel
theorem dX5_keepPast_60 : decode cX5_keepPast 60 = .ok (.iinc 1 1, 3) := by decide +kernel
theorem dX5_keepPast_63 : decode cX5_keepPast 63 = .ok (.goto (-25), 3) := by decide +kernel
theorem dX5_keepPast_66 : decode cX5_keepPast 66 = .ok (.iconst 0, 1) := by decide +kernel
theorem dX5_keepPast_67 : decode cX5_keepPast 67 = .ok (.istore_n 1, 1) := by decide +kernel
theorem dX5_keepPast_68 : decode cX5_keepPast 68 = .ok (.iload_n 1, 1) := by decide +kernel
theorem dX5_keepPast_69 : decode cX5_keepPast 69 = .ok (.iconst 5, 1) := by decide +kernel
theorem dX5_keepPast_70 : decode cX5_keepPast 70 = .ok (.if_icmp .ge 47, 3) := by decide +kernel
theorem dX5_keepPast_73 : decode cX5_keepPast 73 = .ok (.aload_n 0, 1) := by decide +kernel
theorem dX5_keepPast_74 : decode cX5_keepPast 74 = .ok (.getfield 51, 3) := by decide +kernel
theorem dX5_keepPast_77 : decode cX5_keepPast 77 = .ok (.bipush 8, 2) := by decide +kernel
theorem dX5_keepPast_79 : decode cX5_keepPast 79 = .ok (.iconst 2, 1) := by decide +kernel
theorem dX5_keepPast_80 : decode cX5_keepPast 80 = .ok (.iload_n 1, 1) := by decide +kernel
theorem dX5_keepPast_81 : decode cX5_keepPast 81 = .ok (.imul, 1) := by decide +kernel
theorem dX5_keepPast_82 : decode cX5_keepPast 82 = .ok (.iadd, 1) := by decide +kernel
theorem dX5_keepPast_83 : decode cX5_keepPast 83 = .ok (.aload_n 0, 1) := by decide +kernel
theorem dX5_keepPast_84 : decode cX5_keepPast 84 = .ok (.getfield 33, 3) := by decide +kernel
theorem dX5_keepPast_87 : decode cX5_keepPast 87 = .ok (.iload_n 1, 1) := by decide +kernel
theorem dX5_keepPast_88 : decode cX5_keepPast 88 = .ok (.iaload, 1) := by decide +kernel
theorem dX5_keepPast_89 : decode cX5_keepPast 89 = .ok (.invokevirtual 85, 3) := by decide +kernel
theorem dX5_keepPast_92 : decode cX5_keepPast 92 = .ok (.aload_n 0, 1) := by decide +kernel
theorem dX5_keepPast_93 : decode cX5_keepPast 93 = .ok (.getfield 51, 3) := by decide +kernel
theorem dX5_keepPast_96 : decode cX5_keepPast 96 = .ok (.bipush 9, 2) := by decide +kernel
theorem dX5_keepPast_98 : decode cX5_keepPast 98 = .ok (.iconst 2, 1) := by decide +kernel
theorem dX5_keepPast_99 : decode cX5_keepPast 99 = .ok (.iload_n 1, 1) := by decide +kernel
theorem dX5_keepPast_100 : decode cX5_keepPast 100 = .ok (.imul, 1) := by decide +kernel
theorem dX5_keepPast_101 : decode cX5_keepPast 101 = .ok (.iadd, 1) := by decide +kernel
theorem dX5_keepPast_102 : decode cX5_keepPast 102 = .ok (.aload_n 0, 1) := by decide +kernel
theorem dX5_keepPast_103 : decode cX5_keepPast 103 = .ok (.getfield 36, 3) := by decide +kernel
theorem dX5_keepPast_106 : decode cX5_keepPast 106 = .ok (.iload_n 1, 1) := by decide +kernel
theorem dX5_keepPast_107 : decode cX5_keepPast 107 = .ok (.iaload, 1) := by decide +kernel
theorem dX5_keepPast_108 : decode cX5_keepPast 108 = .ok (.invokevirtual 85, 3) := by decide +kernel
theorem dX5_keepPast_111 : decode cX5_keepPast 111 = .ok (.iinc 1 1, 3) := by decide +kernel
theorem dX5_keepPast_114 : decode cX5_keepPast 114 = .ok (.goto (-46), 3) := by decide +kernel
theorem dX5_keepPast_117 : decode cX5_keepPast 117 = .ok (.return_, 1) := by decide +kernel
set_option maxRecDepth 20000 in
theorem ggX5_takePast_X3_cell : GoodIn wsX5_takePast wsX3_cell := goodIn_r _ [11, 12, 13, 29, 30, 31, 32] (by decide +kernel) (by decide +kernel)
set_option maxRecDepth 20000 in
theorem gX5_takePast_X3_cell : GoodIn wsX5_takePast (wsV RX5 88 RX3 yX3_cell wsX3_cell) := goodIn_app (goodIn_of _ (by decide +kernel)) ggX5_takePast_X3_cell
theorem dX5_takePast_0 : decode cX5_takePast 0 = .ok (.aload_n 0, 1) := by decide +kernel
theorem dX5_takePast_1 : decode cX5_takePast 1 = .ok (.getfield 51, 3) := by decide +kernel
theorem dX5_takePast_4 : decode cX5_takePast 4 = .ok (.getfield 64, 3) := by decide +kernel
theorem dX5_takePast_7 : decode cX5_takePast 7 = .ok (.ifCond .ne 4, 3) := by decide +kernel
theorem dX5_takePast_10 : decode cX5_takePast 10 = .ok (.return_, 1) := by decide +kernel
theorem dX5_takePast_11 : decode cX5_takePast 11 = .ok (.aload_n 0, 1) := by decide +kernel
theorem dX5_takePast_12 : decode cX5_takePast 12 = .ok (.getfield 51, 3) := by decide +kernel
theorem dX5_takePast_15 : decode cX5_takePast 15 = .ok (.getfield 64, 3) := by decide +kernel
theorem dX5_takePast_18 : decode cX5_takePast 18 = .ok (.iconst 1, 1) := by decide +kernel
theorem dX5_takePast_19 : decode cX5_takePast 19 = .ok (.isub, 1) := by decide +kernel
theorem dX5_takePast_20 : decode cX5_takePast 20 = .ok (.istore_n 1, 1) := by decide +kernel
theorem dX5_takePast_21 : decode cX5_takePast 21 = .ok (.aload_n 0, 1) := by decide +kernel
theorem dX5_takePast_22 : decode cX5_takePast 22 = .ok (.aload_n 0, 1) := by decide +kernel
theorem dX5_takePast_23 : decode cX5_takePast 23 = .ok (.getfield 51, 3) := by decide +kernel
theorem dX5_takePast_26 : decode cX5_takePast 26 = .ok (.iload_n 1, 1) := by decide +kernel
theorem dX5_takePast_27 : decode cX5_takePast 27 = .ok (.iconst 0, 1) := by decide +kernel
theorem dX5_takePast_28 : decode cX5_takePast 28 = .ok (.invokevirtual 88, 3) := by decide +kernel
theorem dX5_takePast_31 : decode cX5_takePast 31 = .ok (.putfield 61, 3) := by decide +kernel
theorem dX5_takePast_34 : decode cX5_takePast 34 = .ok (.iconst 0, 1) := by decide +kernel
theorem dX5_takePast_35 : decode cX5_takePast 35 = .ok (.istore_n 2, 1) := by decide +kernel
theorem dX5_takePast_36 : decode cX5_takePast 36 = .ok (.iload_n 2, 1) := by decide +kernel
theorem dX5_takePast_37 : decode cX5_takePast 37 = .ok (.bipush 7, 2) := by decide +kernel
theorem dX5_takePast_39 : decode cX5_takePast 39 = .ok (.if_icmp .ge 26, 3) := by decide +kernel
theorem dX5_takePast_42 : decode cX5_takePast 42 = .ok (.aload_n 0, 1) := by decide +kernel
theorem dX5_takePast_43 : decode cX5_takePast 43 = .ok (.getfield 18, 3) := by decide +kernel
theorem dX5_takePast_46 : decode cX5_takePast 46 = .ok (.iload_n 2, 1) := by decide +kernel
theorem dX5_takePast_47 : decode cX5_takePast 47 = .ok (.aload_n 0, 1) := by decide +kernel
theorem dX5_takePast_48 : decode cX5_takePast 48 = .ok (.getfield 51, 3) := by decide +kernel
theorem dX5_takePast_51 : decode cX5_takePast 51 = .ok (.iload_n 1, 1) := by decide +kernel
theorem dX5_takePast_52 : decode cX5_takePast 52 = .ok (.iconst 1, 1) := by decide +kernel
theorem dX5_takePast_53 : decode cX5_takePast 53 = .ok (.iload_n 2, 1) := by decide +kernel
theorem dX5_takePast_54 : decode cX5_takePast 54 = .ok (.iadd, 1) := by decide +kernel
theorem dX5_takePast_55 : decode cX5_takePast 55 = .ok (.invokevirtual 88, 3) := by decide +kernel
theorem dX5_takePast_58 : decode cX5_takePast 58 = .ok (.iastore, 1) := by decide +kernel
theorem dX5_takePast_59 : decode cX5_takePast 59 = .ok (.iinc 2 1, 3) := by decide +kernel
theorem dX5_takePast_62 : decode cX5_takePast 62 = .ok (.goto (-26), 3) := by decide +kernel
theorem dX5_takePast_65 : decode cX5_takePast 65 = .ok (.iconst 0, 1) := by decide +kernel
theorem dX5_takePast_66 : decode cX5_takePast 66 = .ok (.istore_n 2, 1) := by decide +kernel
theorem dX5_takePast_67 : decode cX5_takePast 67 = .ok (.iload_n 2, 1) := by decide +kernel
theorem dX5_takePast_68 : decode cX5_takePast 68 = .ok (.iconst 5, 1) := by decide +kernel
theorem dX5_takePast_69 : decode cX5_takePast 69 = .ok (.if_icmp .ge 49, 3) := by decide +kernel
theorem dX5_takePast_72 : decode cX5_takePast 72 = .ok (.aload_n 0, 1) := by decide +kernel
theorem dX5_takePast_73 : decode cX5_takePast 73 = .ok (.getfield 33, 3) := by decide +kernel
theorem dX5_takePast_76 : decode cX5_takePast 76 = .ok (.iload_n 2, 1) := by decide +kernel
theorem dX5_takePast_77 : decode cX5_takePast 77 = .ok (.aload_n 0, 1) := by decide +kernel
theorem dX5_takePast_78 : decode cX5_takePast 78 = .ok (.getfield 51, 3) := by decide +kernel
theorem dX5_takePast_81 : decode cX5_takePast 81 = .ok (.iload_n 1, 1) := by decide +kernel
theorem dX5_takePast_82 : decode cX5_takePast 82 = .ok (.bipush 8, 2) := by decide +kernel
theorem dX5_takePast_84 : decode cX5_takePast 84 = .ok (.iconst 2, 1) := by decide +kernel
theorem dX5_takePast_85 : decode cX5_takePast 85 = .ok (.iload_n 2, 1) := by decide +kernel
theorem dX5_takePast_86 : decode cX5_takePast 86 = .ok (.imul, 1) := by decide +kernel
theorem dX5_takePast_87 : decode cX5_takePast 87 = .ok (.iadd, 1) := by decide +kernel
theorem dX5_takePast_88 : decode cX5_takePast 88 = .ok (.invokevirtual 88, 3) := by decide +kernel
theorem dX5_takePast_91 : decode cX5_takePast 91 = .ok (.iastore, 1) := by decide +kernel
theorem dX5_takePast_92 : decode cX5_takePast 92 = .ok (.aload_n 0, 1) := by decide +kernel
theorem dX5_takePast_93 : decode cX5_takePast 93 = .ok (.getfield 36, 3) := by decide +kernel
theorem dX5_takePast_96 : decode cX5_takePast 96 = .ok (.iload_n 2, 1) := by decide +kernel
theorem dX5_takePast_97 : decode cX5_takePast 97 = .ok (.aload_n 0, 1) := by decide +kernel
theorem dX5_takePast_98 : decode cX5_takePast 98 = .ok (.getfield 51, 3) := by decide +kernel
theorem dX5_takePast_101 : decode cX5_takePast 101 = .ok (.iload_n 1, 1) := by decide +kernel
theorem dX5_takePast_102 : decode cX5_takePast 102 = .ok (.bipush 9, 2) := by decide +kernel
theorem dX5_takePast_104 : decode cX5_takePast 104 = .ok (.iconst 2, 1) := by decide +kernel
theorem dX5_takePast_105 : decode cX5_takePast 105 = .ok (.iload_n 2, 1) := by decide +kernel
theorem dX5_takePast_106 : decode cX5_takePast 106 = .ok (.imul, 1) := by decide +kernel
theorem dX5_takePast_107 : decode cX5_takePast 107 = .ok (.iadd, 1) := by decide +kernel
theorem dX5_takePast_108 : decode cX5_takePast 108 = .ok (.invokevirtual 88, 3) := by decide +kernel
theorem dX5_takePast_111 : decode cX5_takePast 111 = .ok (.iastore, 1) := by decide +kernel
theorem dX5_takePast_112 : decode cX5_takePast 112 = .ok (.iinc 2 1, 3) := by decide +kernel
theorem dX5_takePast_115 : decode cX5_takePast 115 = .ok (.goto (-48), 3) := by decide +kernel
theorem dX5_takePast_118 : decode cX5_takePast 118 = .ok (.aload_n 0, 1) := by decide +kernel
theorem dX5_takePast_119 : decode cX5_takePast 119 = .ok (.getfield 51, 3) := by decide +kernel
theorem dX5_takePast_122 : decode cX5_takePast 122 = .ok (.iload_n 1, 1) := by decide +kernel
theorem dX5_takePast_123 : decode cX5_takePast 123 = .ok (.putfield 64, 3) := by decide +kernel
theorem dX5_takePast_126 : decode cX5_takePast 126 = .ok (.return_, 1) := by decide +kernel
set_option maxRecDepth 20000 in
theorem ggX5_dayGoesBy_X5_goesTo : GoodIn wsX5_dayGoesBy wsX5_goesTo := goodIn_r _ [11, 12, 13, 14, 15, 10, 16, 17, 18, 19, 20, 21, 22, 23, 24, 25, 26, 27, 28, 29, 30, 31, 32, 33, 34, 35, 36, 37, 38, 39, 40, 41, 42, 43, 44, 45, 46, 47, 48, 49, 50] (by decide +kernel) (by decide +kernel)
set_option maxRecDepth 20000 in
theorem gX5_dayGoesBy_X5_goesTo : GoodIn wsX5_dayGoesBy (wsV RX5 92 RX5 yX5_goesTo wsX5_goesTo) := goodIn_app (goodIn_of _ (by decide +kernel)) ggX5_dayGoesBy_X5_goesTo
theorem dX5_dayGoesBy_0 : decode cX5_dayGoesBy 0 = .ok (.iconst 0, 1) := by decide +kernel
theorem dX5_dayGoesBy_1 : decode cX5_dayGoesBy 1 = .ok (.istore_n 1, 1) := by decide +kernel
theorem dX5_dayGoesBy_2 : decode cX5_dayGoesBy 2 = .ok (.iload_n 1, 1) := by decide +kernel
theorem dX5_dayGoesBy_3 : decode cX5_dayGoesBy 3 = .ok (.aload_n 0, 1) := by decide +kernel
theorem dX5_dayGoesBy_4 : decode cX5_dayGoesBy 4 = .ok (.getfield 58, 3) := by decide +kernel
theorem dX5_dayGoesBy_7 : decode cX5_dayGoesBy 7 = .ok (.if_icmp .ge 76, 3) := by decide +kernel
theorem dX5_dayGoesBy_10 : decode cX5_dayGoesBy 10 = .ok (.aload_n 0, 1) := by decide +kernel
theorem dX5_dayGoesBy_11 : decode cX5_dayGoesBy 11 = .ok (.getfield 36, 3) := by decide +kernel
theorem dX5_dayGoesBy_14 : decode cX5_dayGoesBy 14 = .ok (.iload_n 1, 1) := by decide +kernel
theorem dX5_dayGoesBy_15 : decode cX5_dayGoesBy 15 = .ok (.iaload, 1) := by decide +kernel
theorem dX5_dayGoesBy_16 : decode cX5_dayGoesBy 16 = .ok (.ifCond .ne 6, 3) := by decide +kernel
theorem dX5_dayGoesBy_19 : decode cX5_dayGoesBy 19 = .ok (.goto 58, 3) := by decide +kernel
theorem dX5_dayGoesBy_22 : decode cX5_dayGoesBy 22 = .ok (.aload_n 0, 1) := by decide +kernel
theorem dX5_dayGoesBy_23 : decode cX5_dayGoesBy 23 = .ok (.aload_n 0, 1) := by decide +kernel
theorem dX5_dayGoesBy_24 : decode cX5_dayGoesBy 24 = .ok (.getfield 24, 3) := by decide +kernel
theorem dX5_dayGoesBy_27 : decode cX5_dayGoesBy 27 = .ok (.iload_n 1, 1) := by decide +kernel
theorem dX5_dayGoesBy_28 : decode cX5_dayGoesBy 28 = .ok (.iaload, 1) := by decide +kernel
theorem dX5_dayGoesBy_29 : decode cX5_dayGoesBy 29 = .ok (.aload_n 0, 1) := by decide +kernel
theorem dX5_dayGoesBy_30 : decode cX5_dayGoesBy 30 = .ok (.getfield 27, 3) := by decide +kernel
theorem dX5_dayGoesBy_33 : decode cX5_dayGoesBy 33 = .ok (.iload_n 1, 1) := by decide +kernel
theorem dX5_dayGoesBy_34 : decode cX5_dayGoesBy 34 = .ok (.iaload, 1) := by decide +kernel
theorem dX5_dayGoesBy_35 : decode cX5_dayGoesBy 35 = .ok (.aload_n 0, 1) := by decide +kernel
theorem dX5_dayGoesBy_36 : decode cX5_dayGoesBy 36 = .ok (.getfield 33, 3) := by decide +kernel
theorem dX5_dayGoesBy_39 : decode cX5_dayGoesBy 39 = .ok (.iload_n 1, 1) := by decide +kernel
theorem dX5_dayGoesBy_40 : decode cX5_dayGoesBy 40 = .ok (.iaload, 1) := by decide +kernel
theorem dX5_dayGoesBy_41 : decode cX5_dayGoesBy 41 = .ok (.aload_n 0, 1) := by decide +kernel
theorem dX5_dayGoesBy_42 : decode cX5_dayGoesBy 42 = .ok (.getfield 61, 3) := by decide +kernel
theorem dX5_dayGoesBy_45 : decode cX5_dayGoesBy 45 = .ok (.invokevirtual 92, 3) := by decide +kernel
theorem dX5_dayGoesBy_48 : decode cX5_dayGoesBy 48 = .ok (.istore_n 2, 1) := by decide +kernel
theorem dX5_dayGoesBy_49 : decode cX5_dayGoesBy 49 = .ok (.aload_n 0, 1) := by decide +kernel
theorem dX5_dayGoesBy_50 : decode cX5_dayGoesBy 50 = .ok (.getfield 36, 3) := by decide +kernel
theorem dX5_dayGoesBy_53 : decode cX5_dayGoesBy 53 = .ok (.iload_n 1, 1) := by decide +kernel
theorem dX5_dayGoesBy_54 : decode cX5_dayGoesBy 54 = .ok (.iload_n 2, 1) := by decide +kernel
theorem dX5_dayGoesBy_55 : decode cX5_dayGoesBy 55 = .ok (.iconst (-1), 1) := by decide +kernel
theorem dX5_dayGoesBy_56 : decode cX5_dayGoesBy 56 = .ok (.if_icmp .ne 7, 3) := by decide +kernel
theorem dX5_dayGoesBy_59 : decode cX5_dayGoesBy 59 = .ok (.iconst 2, 1) := by decide +kernel
theorem dX5_dayGoesBy_60 : decode cX5_dayGoesBy 60 = .ok (.goto 4, 3) := by decide +kernel
theorem dX5_dayGoesBy_63 : decode cX5_dayGoesBy 63 = .ok (.iconst 0, 1) := by decide +kernel
theorem dX5_dayGoesBy_64 : decode cX5_dayGoesBy 64 = .ok (.iastore, 1) := by decide +kernel
theorem dX5_dayGoesBy_65 : decode cX5_dayGoesBy 65 = .ok (.iload_n 2, 1) := by decide +kernel
theorem dX5_dayGoesBy_66 : decode cX5_dayGoesBy 66 = .ok (.iconst (-1), 1) := by decide +kernel
theorem dX5_dayGoesBy_67 : decode cX5_dayGoesBy 67 = .ok (.if_icmp .eq 10, 3) := by decide +kernel
theorem dX5_dayGoesBy_70 : decode cX5_dayGoesBy 70 = .ok (.aload_n 0, 1) := by decide +kernel
theorem dX5_dayGoesBy_71 : decode cX5_dayGoesBy 71 = .ok (.getfield 33, 3) := by decide +kernel
theorem dX5_dayGoesBy_74 : decode cX5_dayGoesBy 74 = .ok (.iload_n 1, 1) := by decide +kernel
theorem dX5_dayGoesBy_75 : decode cX5_dayGoesBy 75 = .ok (.iload_n 2, 1) := by decide +kernel
theorem dX5_dayGoesBy_76 : decode cX5_dayGoesBy 76 = .ok (.iastore, 1) := by decide +kernel
theorem dX5_dayGoesBy_77 : decode cX5_dayGoesBy 77 = .ok (.iinc 1 1, 3) := by decide +kernel
theorem dX5_dayGoesBy_80 : decode cX5_dayGoesBy 80 = .ok (.goto (-78), 3) := by decide +kernel
theorem dX5_dayGoesBy_83 : decode cX5_dayGoesBy 83 = .ok (.aload_n 0, 1) := by decide +kernel
theorem dX5_dayGoesBy_84 : decode cX5_dayGoesBy 84 = .ok (.dup, 1) := by decide +kernel
theorem dX5_dayGoesBy_85 : decode cX5_dayGoesBy 85 = .ok (.getfield 61, 3) := by decide +kernel
theorem dX5_dayGoesBy_88 : decode cX5_dayGoesBy 88 = .ok (.iconst 1, 1) := by decide +kernel
theorem dX5_dayGoesBy_89 : decode cX5_dayGoesBy 89 = .ok (.iadd, 1) := by decide +kernel
theorem dX5_dayGoesBy_90 : decode cX5_dayGoesBy 90 = .ok (.putfield 61, 3) := by decide +kernel
theorem dX5_dayGoesBy_93 : decode cX5_dayGoesBy 93 = .ok (.return_, 1) := by decide +kernel
set_option maxRecDepth 20000 in
theorem ggX5_shown_X1_shown : GoodIn wsX5_shown wsX1_shown := goodIn_r _ [7] (by decide +kernel) (by decide +kernel)
set_option maxRecDepth 20000 in
theorem gX5_shown_X1_shown : GoodIn wsX5_shown (va_wsS RX5 96 yX1_shown wsX1_shown) := goodIn_app (goodIn_of _ (by decide +kernel)) ggX5_shown_X1_shown
theorem dX5_shown_0 : decode cX5_shown 0 = .ok (.aload_n 0, 1) := by decide +kernel
theorem dX5_shown_1 : decode cX5_shown 1 = .ok (.getfield 9, 3) := by decide +kernel
theorem dX5_shown_4 : decode cX5_shown 4 = .ok (.iload_n 1, 1) := by decide +kernel
theorem dX5_shown_5 : decode cX5_shown 5 = .ok (.iaload, 1) := by decide +kernel
theorem dX5_shown_6 : decode cX5_shown 6 = .ok (.aload_n 0, 1) := by decide +kernel
theorem dX5_shown_7 : decode cX5_shown 7 = .ok (.getfield 21, 3) := by decide +kernel
theorem dX5_shown_10 : decode cX5_shown 10 = .ok (.iconst 4, 1) := by decide +kernel
theorem dX5_shown_11 : decode cX5_shown 11 = .ok (.iload_n 1, 1) := by decide +kernel
theorem dX5_shown_12 : decode cX5_shown 12 = .ok (.imul, 1) := by decide +kernel
theorem dX5_shown_13 : decode cX5_shown 13 = .ok (.iload_n 2, 1) := by decide +kernel
theorem dX5_shown_14 : decode cX5_shown 14 = .ok (.iadd, 1) := by decide +kernel
theorem dX5_shown_15 : decode cX5_shown 15 = .ok (.iaload, 1) := by decide +kernel
theorem dX5_shown_16 : decode cX5_shown 16 = .ok (.aload_n 0, 1) := by decide +kernel
theorem dX5_shown_17 : decode cX5_shown 17 = .ok (.getfield 18, 3) := by decide +kernel
theorem dX5_shown_20 : decode cX5_shown 20 = .ok (.iload_n 1, 1) := by decide +kernel
theorem dX5_shown_21 : decode cX5_shown 21 = .ok (.iaload, 1) := by decide +kernel
theorem dX5_shown_22 : decode cX5_shown 22 = .ok (.iload_n 2, 1) := by decide +kernel
theorem dX5_shown_23 : decode cX5_shown 23 = .ok (.iload_n 3, 1) := by decide +kernel
theorem dX5_shown_24 : decode cX5_shown 24 = .ok (.invokestatic 96, 3) := by decide +kernel
theorem dX5_shown_27 : decode cX5_shown 27 = .ok (.ireturn, 1) := by decide +kernel
set_option maxRecDepth 20000 in
theorem ggX5_counted_X1_shown : GoodIn wsX5_counted wsX1_shown := goodIn_r _ [12] (by decide +kernel) (by decide +kernel)
set_option maxRecDepth 20000 in
theorem gX5_counted_X1_shown : GoodIn wsX5_counted (va_wsS RX5 96 yX1_shown wsX1_shown) := goodIn_app (goodIn_of _ (by decide +kernel)) ggX5_counted_X1_shown
set_option maxRecDepth 20000 in
theorem ggX5_counted_X4_counted : GoodIn wsX5_counted wsX4_counted := goodIn_r _ [16] (by decide +kernel) (by decide +kernel)
set_option maxRecDepth 20000 in
theorem gX5_counted_X4_counted : GoodIn wsX5_counted (va_wsS RX5 108 yX4_counted wsX4_counted) := goodIn_app (goodIn_of _ (by decide +kernel)) ggX5_counted_X4_counted
theorem dX5_counted_0 : decode cX5_counted 0 = .ok (.iload 4, 2) := by decide +kernel
theorem dX5_counted_2 : decode cX5_counted 2 = .ok (.iload_n 3, 1) := by decide +kernel
theorem dX5_counted_3 : decode cX5_counted 3 = .ok (.if_icmp .ne 5, 3) := by decide +kernel
theorem dX5_counted_6 : decode cX5_counted 6 = .ok (.iconst (-1), 1) := by decide +kernel
theorem dX5_counted_7 : decode cX5_counted 7 = .ok (.ireturn, 1) := by decide +kernel
theorem dX5_counted_8 : decode cX5_counted 8 = .ok (.iload_n 2, 1) := by decide +kernel
theorem dX5_counted_9 : decode cX5_counted 9 = .ok (.iconst 1, 1) := by decide +kernel
theorem dX5_counted_10 : decode cX5_counted 10 = .ok (.iadd, 1) := by decide +kernel
theorem dX5_counted_11 : decode cX5_counted 11 = .ok (.iconst 4, 1) := by decide +kernel
theorem dX5_counted_12 : decode cX5_counted 12 = .ok (.irem, 1) := by decide +kernel
theorem dX5_counted_13 : decode cX5_counted 13 = .ok (.istore 6, 2) := by decide +kernel
theorem dX5_counted_15 : decode cX5_counted 15 = .ok (.aload_n 0, 1) := by decide +kernel
theorem dX5_counted_16 : decode cX5_counted 16 = .ok (.getfield 9, 3) := by decide +kernel
theorem dX5_counted_19 : decode cX5_counted 19 = .ok (.iload 4, 2) := by decide +kernel
theorem dX5_counted_21 : decode cX5_counted 21 = .ok (.iaload, 1) := by decide +kernel
theorem dX5_counted_22 : decode cX5_counted 22 = .ok (.aload_n 0, 1) := by decide +kernel
theorem dX5_counted_23 : decode cX5_counted 23 = .ok (.getfield 21, 3) := by decide +kernel
theorem dX5_counted_26 : decode cX5_counted 26 = .ok (.iconst 4, 1) := by decide +kernel
theorem dX5_counted_27 : decode cX5_counted 27 = .ok (.iload 4, 2) := by decide +kernel
theorem dX5_counted_29 : decode cX5_counted 29 = .ok (.imul, 1) := by decide +kernel
theorem dX5_counted_30 : decode cX5_counted 30 = .ok (.iload_n 2, 1) := by decide +kernel
theorem dX5_counted_31 : decode cX5_counted 31 = .ok (.iadd, 1) := by decide +kernel
theorem dX5_counted_32 : decode cX5_counted 32 = .ok (.iaload, 1) := by decide +kernel
theorem dX5_counted_33 : decode cX5_counted 33 = .ok (.aload_n 0, 1) := by decide +kernel
theorem dX5_counted_34 : decode cX5_counted 34 = .ok (.getfield 18, 3) := by decide +kernel
theorem dX5_counted_37 : decode cX5_counted 37 = .ok (.iload 4, 2) := by decide +kernel
theorem dX5_counted_39 : decode cX5_counted 39 = .ok (.iaload, 1) := by decide +kernel
theorem dX5_counted_40 : decode cX5_counted 40 = .ok (.iload_n 2, 1) := by decide +kernel
theorem dX5_counted_41 : decode cX5_counted 41 = .ok (.iload 5, 2) := by decide +kernel
theorem dX5_counted_43 : decode cX5_counted 43 = .ok (.invokestatic 96, 3) := by decide +kernel
theorem dX5_counted_46 : decode cX5_counted 46 = .ok (.istore 7, 2) := by decide +kernel
theorem dX5_counted_48 : decode cX5_counted 48 = .ok (.aload_n 0, 1) := by decide +kernel
theorem dX5_counted_49 : decode cX5_counted 49 = .ok (.getfield 9, 3) := by decide +kernel
theorem dX5_counted_52 : decode cX5_counted 52 = .ok (.iload 4, 2) := by decide +kernel
theorem dX5_counted_54 : decode cX5_counted 54 = .ok (.iaload, 1) := by decide +kernel
theorem dX5_counted_55 : decode cX5_counted 55 = .ok (.aload_n 0, 1) := by decide +kernel
theorem dX5_counted_56 : decode cX5_counted 56 = .ok (.getfield 21, 3) := by decide +kernel
theorem dX5_counted_59 : decode cX5_counted 59 = .ok (.iconst 4, 1) := by decide +kernel
theorem dX5_counted_60 : decode cX5_counted 60 = .ok (.iload 4, 2) := by decide +kernel
theorem dX5_counted_62 : decode cX5_counted 62 = .ok (.imul, 1) := by decide +kernel
theorem dX5_counted_63 : decode cX5_counted 63 = .ok (.iload 6, 2) := by decide +kernel
theorem dX5_counted_65 : decode cX5_counted 65 = .ok (.iadd, 1) := by decide +kernel
theorem dX5_counted_66 : decode cX5_counted 66 = .ok (.iaload, 1) := by decide +kernel
theorem dX5_counted_67 : decode cX5_counted 67 = .ok (.aload_n 0, 1) := by decide +kernel
theorem dX5_counted_68 : decode cX5_counted 68 = .ok (.getfield 18, 3) := by decide +kernel
theorem dX5_counted_71 : decode cX5_counted 71 = .ok (.iload 4, 2) := by decide +kernel
theorem dX5_counted_73 : decode cX5_counted 73 = .ok (.iaload, 1) := by decide +kernel
theorem dX5_counted_74 : decode cX5_counted 74 = .ok (.iload 6, 2) := by decide +kernel
theorem dX5_counted_76 : decode cX5_counted 76 = .ok (.iload 5, 2) := by decide +kernel
theorem dX5_counted_78 : decode cX5_counted 78 = .ok (.invokestatic 96, 3) := by decide +kernel
theorem dX5_counted_81 : decode cX5_counted 81 = .ok (.istore 8, 2) := by decide +kernel
theorem dX5_counted_83 : decode cX5_counted 83 = .ok (.iload_n 1, 1) := by decide +kernel
theorem dX5_counted_84 : decode cX5_counted 84 = .ok (.iload 7, 2) := by decide +kernel
theorem dX5_counted_86 : decode cX5_counted 86 = .ok (.iload 8, 2) := by decide +kernel
theorem dX5_counted_88 : decode cX5_counted 88 = .ok (.aload_n 0, 1) := by decide +kernel
theorem dX5_counted_89 : decode cX5_counted 89 = .ok (.getfield 15, 3) := by decide +kernel
theorem dX5_counted_92 : decode cX5_counted 92 = .ok (.iload 4, 2) := by decide +kernel
theorem dX5_counted_94 : decode cX5_counted 94 = .ok (.iaload, 1) := by decide +kernel
theorem dX5_counted_95 : decode cX5_counted 95 = .ok (.aload_n 0, 1) := by decide +kernel
theorem dX5_counted_96 : decode cX5_counted 96 = .ok (.getfield 15, 3) := by decide +kernel
theorem dX5_counted_99 : decode cX5_counted 99 = .ok (.iload_n 3, 1) := by decide +kernel
theorem dX5_counted_100 : decode cX5_counted 100 = .ok (.iaload, 1) := by decide +kernel
theorem dX5_counted_101 : decode cX5_counted 101 = .ok (.isub, 1) := by decide +kernel
theorem dX5_counted_102 : decode cX5_counted 102 = .ok (.invokestatic 102, 3) := by decide +kernel
theorem dX5_counted_105 : decode cX5_counted 105 = .ok (.invokestatic 108, 3) := by decide +kernel
theorem dX5_counted_108 : decode cX5_counted 108 = .ok (.ireturn, 1) := by decide +kernel
set_option maxRecDepth 20000 in
theorem ggX5_goesTo_X5_counted : GoodIn wsX5_goesTo wsX5_counted := goodIn_r _ [6, 7, 8, 9, 10, 11, 12, 13, 14, 15, 16, 17, 18, 19, 20, 21, 22, 26, 27, 28, 29, 30, 31, 32, 33, 34, 35, 36, 37, 38, 39, 40] (by decide +kernel) (by decide +kernel)
set_option maxRecDepth 20000 in
theorem gX5_goesTo_X5_counted : GoodIn wsX5_goesTo (wsV RX5 113 RX5 yX5_counted wsX5_counted) := goodIn_app (goodIn_of _ (by decide +kernel)) ggX5_goesTo_X5_counted
set_option maxRecDepth 20000 in
theorem ggX5_goesTo_X4_likeOnesLeaveIt : GoodIn wsX5_goesTo wsX4_likeOnesLeaveIt := goodIn_r _ [25] (by decide +kernel) (by decide +kernel)
set_option maxRecDepth 20000 in
theorem gX5_goesTo_X4_likeOnesLeaveIt : GoodIn wsX5_goesTo (va_wsS RX5 115 yX4_likeOnesLeaveIt wsX4_likeOnesLeaveIt) := goodIn_app (goodIn_of _ (by decide +kernel)) ggX5_goesTo_X4_likeOnesLeaveIt
theorem dX5_goesTo_0 : decode cX5_goesTo 0 = .ok (.iconst (-1), 1) := by decide +kernel
theorem dX5_goesTo_1 : decode cX5_goesTo 1 = .ok (.istore 5, 2) := by decide +kernel
theorem dX5_goesTo_3 : decode cX5_goesTo 3 = .ok (.iconst 0, 1) := by decide +kernel
theorem dX5_goesTo_4 : decode cX5_goesTo 4 = .ok (.istore 6, 2) := by decide +kernel
theorem dX5_goesTo_6 : decode cX5_goesTo 6 = .ok (.iconst 0, 1) := by decide +kernel
theorem dX5_goesTo_7 : decode cX5_goesTo 7 = .ok (.istore 7, 2) := by decide +kernel
theorem dX5_goesTo_9 : decode cX5_goesTo 9 = .ok (.iconst 0, 1) := by decide +kernel
theorem dX5_goesTo_10 : decode cX5_goesTo 10 = .ok (.istore 8, 2) := by decide +kernel
theorem dX5_goesTo_12 : decode cX5_goesTo 12 = .ok (.iload 8, 2) := by decide +kernel
theorem dX5_goesTo_14 : decode cX5_goesTo 14 = .ok (.aload_n 0, 1) := by decide +kernel
theorem dX5_goesTo_15 : decode cX5_goesTo 15 = .ok (.getfield 54, 3) := by decide +kernel
theorem dX5_goesTo_18 : decode cX5_goesTo 18 = .ok (.if_icmp .ge 68, 3) := by decide +kernel
theorem dX5_goesTo_21 : decode cX5_goesTo 21 = .ok (.aload_n 0, 1) := by decide +kernel
theorem dX5_goesTo_22 : decode cX5_goesTo 22 = .ok (.iload_n 1, 1) := by decide +kernel
theorem dX5_goesTo_23 : decode cX5_goesTo 23 = .ok (.iload_n 2, 1) := by decide +kernel
theorem dX5_goesTo_24 : decode cX5_goesTo 24 = .ok (.iload_n 3, 1) := by decide +kernel
theorem dX5_goesTo_25 : decode cX5_goesTo 25 = .ok (.iload 8, 2) := by decide +kernel
theorem dX5_goesTo_27 : decode cX5_goesTo 27 = .ok (.iload 4, 2) := by decide +kernel
theorem dX5_goesTo_29 : decode cX5_goesTo 29 = .ok (.invokevirtual 113, 3) := by decide +kernel
theorem dX5_goesTo_32 : decode cX5_goesTo 32 = .ok (.istore 9, 2) := by decide +kernel
theorem dX5_goesTo_34 : decode cX5_goesTo 34 = .ok (.iload 9, 2) := by decide +kernel
theorem dX5_goesTo_36 : decode cX5_goesTo 36 = .ok (.iconst (-1), 1) := by decide +kernel
theorem dX5_goesTo_37 : decode cX5_goesTo 37 = .ok (.if_icmp .ne 6, 3) := by decide +kernel
theorem dX5_goesTo_40 : decode cX5_goesTo 40 = .ok (.goto 40, 3) := by decide +kernel
theorem dX5_goesTo_43 : decode cX5_goesTo 43 = .ok (.iload 5, 2) := by decide +kernel
theorem dX5_goesTo_45 : decode cX5_goesTo 45 = .ok (.iconst (-1), 1) := by decide +kernel
theorem dX5_goesTo_46 : decode cX5_goesTo 46 = .ok (.if_icmp .eq 10, 3) := by decide +kernel
theorem dX5_goesTo_49 : decode cX5_goesTo 49 = .ok (.iload 9, 2) := by decide +kernel
theorem dX5_goesTo_51 : decode cX5_goesTo 51 = .ok (.iload 6, 2) := by decide +kernel
theorem dX5_goesTo_53 : decode cX5_goesTo 53 = .ok (.if_icmp .ge 17, 3) := by decide +kernel
theorem dX5_goesTo_56 : decode cX5_goesTo 56 = .ok (.iload 8, 2) := by decide +kernel
theorem dX5_goesTo_58 : decode cX5_goesTo 58 = .ok (.istore 5, 2) := by decide +kernel
theorem dX5_goesTo_60 : decode cX5_goesTo 60 = .ok (.iload 9, 2) := by decide +kernel
theorem dX5_goesTo_62 : decode cX5_goesTo 62 = .ok (.istore 6, 2) := by decide +kernel
theorem dX5_goesTo_64 : decode cX5_goesTo 64 = .ok (.iconst 0, 1) := by decide +kernel
theorem dX5_goesTo_65 : decode cX5_goesTo 65 = .ok (.istore 7, 2) := by decide +kernel
theorem dX5_goesTo_67 : decode cX5_goesTo 67 = .ok (.goto 13, 3) := by decide +kernel
theorem dX5_goesTo_70 : decode cX5_goesTo 70 = .ok (.iload 9, 2) := by decide +kernel
theorem dX5_goesTo_72 : decode cX5_goesTo 72 = .ok (.iload 6, 2) := by decide +kernel
theorem dX5_goesTo_74 : decode cX5_goesTo 74 = .ok (.if_icmp .ne 6, 3) := by decide +kernel
theorem dX5_goesTo_77 : decode cX5_goesTo 77 = .ok (.iconst 1, 1) := by decide +kernel
theorem dX5_goesTo_78 : decode cX5_goesTo 78 = .ok (.istore 7, 2) := by decide +kernel
theorem dX5_goesTo_80 : decode cX5_goesTo 80 = .ok (.iinc 8 1, 3) := by decide +kernel
theorem dX5_goesTo_83 : decode cX5_goesTo 83 = .ok (.goto (-71), 3) := by decide +kernel
theorem dX5_goesTo_86 : decode cX5_goesTo 86 = .ok (.iload 7, 2) := by decide +kernel
theorem dX5_goesTo_88 : decode cX5_goesTo 88 = .ok (.ifCond .eq 14, 3) := by decide +kernel
theorem dX5_goesTo_91 : decode cX5_goesTo 91 = .ok (.iload_n 1, 1) := by decide +kernel
theorem dX5_goesTo_92 : decode cX5_goesTo 92 = .ok (.invokestatic 115, 3) := by decide +kernel
theorem dX5_goesTo_95 : decode cX5_goesTo 95 = .ok (.ifCond .eq 7, 3) := by decide +kernel
theorem dX5_goesTo_98 : decode cX5_goesTo 98 = .ok (.iconst (-1), 1) := by decide +kernel
theorem dX5_goesTo_99 : decode cX5_goesTo 99 = .ok (.goto 5, 3) := by decide +kernel
theorem dX5_goesTo_102 : decode cX5_goesTo 102 = .ok (.iload 5, 2) := by decide +kernel
theorem dX5_goesTo_104 : decode cX5_goesTo 104 = .ok (.ireturn, 1) := by decide +kernel
set_option maxRecDepth 20000 in
theorem ggX5_nextOf_X5_goesTo : GoodIn wsX5_nextOf wsX5_goesTo := goodIn_r _ [8, 9, 10, 11, 12, 7, 13, 14, 15, 16, 17, 18, 19, 20, 21, 22, 23, 24, 25, 26, 27, 28, 29, 30, 31, 32, 33, 34, 35, 36, 37, 38, 39, 40, 41, 42, 43, 44, 45, 46, 47] (by decide +kernel) (by decide +kernel)
set_option maxRecDepth 20000 in
theorem gX5_nextOf_X5_goesTo : GoodIn wsX5_nextOf (wsV RX5 92 RX5 yX5_goesTo wsX5_goesTo) := goodIn_app (goodIn_of _ (by decide +kernel)) ggX5_nextOf_X5_goesTo
theorem dX5_nextOf_0 : decode cX5_nextOf 0 = .ok (.aload_n 0, 1) := by decide +kernel
theorem dX5_nextOf_1 : decode cX5_nextOf 1 = .ok (.aload_n 0, 1) := by decide +kernel
theorem dX5_nextOf_2 : decode cX5_nextOf 2 = .ok (.getfield 24, 3) := by decide +kernel
theorem dX5_nextOf_5 : decode cX5_nextOf 5 = .ok (.iload_n 1, 1) := by decide +kernel
theorem dX5_nextOf_6 : decode cX5_nextOf 6 = .ok (.iaload, 1) := by decide +kernel
theorem dX5_nextOf_7 : decode cX5_nextOf 7 = .ok (.aload_n 0, 1) := by decide +kernel
theorem dX5_nextOf_8 : decode cX5_nextOf 8 = .ok (.getfield 27, 3) := by decide +kernel
theorem dX5_nextOf_11 : decode cX5_nextOf 11 = .ok (.iload_n 1, 1) := by decide +kernel
theorem dX5_nextOf_12 : decode cX5_nextOf 12 = .ok (.iaload, 1) := by decide +kernel
theorem dX5_nextOf_13 : decode cX5_nextOf 13 = .ok (.iload_n 2, 1) := by decide +kernel
theorem dX5_nextOf_14 : decode cX5_nextOf 14 = .ok (.aload_n 0, 1) := by decide +kernel
theorem dX5_nextOf_15 : decode cX5_nextOf 15 = .ok (.getfield 61, 3) := by decide +kernel
theorem dX5_nextOf_18 : decode cX5_nextOf 18 = .ok (.invokevirtual 92, 3) := by decide +kernel
theorem dX5_nextOf_21 : decode cX5_nextOf 21 = .ok (.ireturn, 1) := by decide +kernel
theorem dX5_isAway_0 : decode cX5_isAway 0 = .ok (.aload_n 0, 1) := by decide +kernel
theorem dX5_isAway_1 : decode cX5_isAway 1 = .ok (.getfield 36, 3) := by decide +kernel
theorem dX5_isAway_4 : decode cX5_isAway 4 = .ok (.iload_n 1, 1) := by decide +kernel
theorem dX5_isAway_5 : decode cX5_isAway 5 = .ok (.iaload, 1) := by decide +kernel
theorem dX5_isAway_6 : decode cX5_isAway 6 = .ok (.ifCond .ne 22, 3) := by decide +kernel
theorem dX5_isAway_9 : decode cX5_isAway 9 = .ok (.aload_n 0, 1) := by decide +kernel
theorem dX5_isAway_10 : decode cX5_isAway 10 = .ok (.getfield 33, 3) := by decide +kernel
theorem dX5_isAway_13 : decode cX5_isAway 13 = .ok (.iload_n 1, 1) := by decide +kernel
theorem dX5_isAway_14 : decode cX5_isAway 14 = .ok (.iaload, 1) := by decide +kernel
theorem dX5_isAway_15 : decode cX5_isAway 15 = .ok (.aload_n 0, 1) := by decide +kernel
theorem dX5_isAway_16 : decode cX5_isAway 16 = .ok (.getfield 30, 3) := by decide +kernel
theorem dX5_isAway_19 : decode cX5_isAway 19 = .ok (.iload_n 1, 1) := by decide +kernel
theorem dX5_isAway_20 : decode cX5_isAway 20 = .ok (.iaload, 1) := by decide +kernel
theorem dX5_isAway_21 : decode cX5_isAway 21 = .ok (.if_icmp .eq 7, 3) := by decide +kernel
theorem dX5_isAway_24 : decode cX5_isAway 24 = .ok (.iconst 1, 1) := by decide +kernel
theorem dX5_isAway_25 : decode cX5_isAway 25 = .ok (.goto 4, 3) := by decide +kernel
theorem dX5_isAway_28 : decode cX5_isAway 28 = .ok (.iconst 0, 1) := by decide +kernel
theorem dX5_isAway_29 : decode cX5_isAway 29 = .ok (.ireturn, 1) := by decide +kernel
set_option maxRecDepth 20000 in
theorem ggX5_askedFor_X5_shown : GoodIn wsX5_askedFor wsX5_shown := goodIn_r _ [9, 1, 10, 11, 12, 13, 14, 15, 23, 24, 25, 26, 27, 28, 29, 30, 31, 32, 33, 34, 35, 36, 37] (by decide +kernel) (by decide +kernel)
set_option maxRecDepth 20000 in
theorem gX5_askedFor_X5_shown : GoodIn wsX5_askedFor (wsV RX5 119 RX5 yX5_shown wsX5_shown) := goodIn_app (goodIn_of _ (by decide +kernel)) ggX5_askedFor_X5_shown
set_option maxRecDepth 20000 in
theorem ggX5_askedFor_X1_asked : GoodIn wsX5_askedFor wsX1_asked := goodIn_r _ [18, 19, 20, 21, 22] (by decide +kernel) (by decide +kernel)
set_option maxRecDepth 20000 in
theorem gX5_askedFor_X1_asked : GoodIn wsX5_askedFor (va_wsS RX5 122 yX1_asked wsX1_asked) := goodIn_app (goodIn_of _ (by decide +kernel)) ggX5_askedFor_X1_asked
theorem dX5_askedFor_0 : decode cX5_askedFor 0 = .ok (.aload_n 0, 1) := by decide +kernel
theorem dX5_askedFor_1 : decode cX5_askedFor 1 = .ok (.getfield 9, 3) := by decide +kernel
theorem dX5_askedFor_4 : decode cX5_askedFor 4 = .ok (.aload_n 0, 1) := by decide +kernel
theorem dX5_askedFor_5 : decode cX5_askedFor 5 = .ok (.getfield 33, 3) := by decide +kernel
theorem dX5_askedFor_8 : decode cX5_askedFor 8 = .ok (.iload_n 1, 1) := by decide +kernel
theorem dX5_askedFor_9 : decode cX5_askedFor 9 = .ok (.iaload, 1) := by decide +kernel
theorem dX5_askedFor_10 : decode cX5_askedFor 10 = .ok (.iaload, 1) := by decide +kernel
theorem dX5_askedFor_11 : decode cX5_askedFor 11 = .ok (.aload_n 0, 1) := by decide +kernel
theorem dX5_askedFor_12 : decode cX5_askedFor 12 = .ok (.aload_n 0, 1) := by decide +kernel
theorem dX5_askedFor_13 : decode cX5_askedFor 13 = .ok (.getfield 33, 3) := by decide +kernel
theorem dX5_askedFor_16 : decode cX5_askedFor 16 = .ok (.iload_n 1, 1) := by decide +kernel
theorem dX5_askedFor_17 : decode cX5_askedFor 17 = .ok (.iaload, 1) := by decide +kernel
theorem dX5_askedFor_18 : decode cX5_askedFor 18 = .ok (.aload_n 0, 1) := by decide +kernel
theorem dX5_askedFor_19 : decode cX5_askedFor 19 = .ok (.getfield 27, 3) := by decide +kernel
theorem dX5_askedFor_22 : decode cX5_askedFor 22 = .ok (.iload_n 1, 1) := by decide +kernel
theorem dX5_askedFor_23 : decode cX5_askedFor 23 = .ok (.iaload, 1) := by decide +kernel
theorem dX5_askedFor_24 : decode cX5_askedFor 24 = .ok (.aload_n 0, 1) := by decide +kernel
theorem dX5_askedFor_25 : decode cX5_askedFor 25 = .ok (.getfield 61, 3) := by decide +kernel
theorem dX5_askedFor_28 : decode cX5_askedFor 28 = .ok (.invokevirtual 119, 3) := by decide +kernel
theorem dX5_askedFor_31 : decode cX5_askedFor 31 = .ok (.invokestatic 122, 3) := by decide +kernel
theorem dX5_askedFor_34 : decode cX5_askedFor 34 = .ok (.ireturn, 1) := by decide +kernel
theorem dX5_howManyLie_0 : decode cX5_howManyLie 0 = .ok (.iconst 0, 1) := by decide +kernel
theorem dX5_howManyLie_1 : decode cX5_howManyLie 1 = .ok (.istore_n 2, 1) := by decide +kernel
theorem dX5_howManyLie_2 : decode cX5_howManyLie 2 = .ok (.iconst 0, 1) := by decide +kernel
theorem dX5_howManyLie_3 : decode cX5_howManyLie 3 = .ok (.istore_n 3, 1) := by decide +kernel
theorem dX5_howManyLie_4 : decode cX5_howManyLie 4 = .ok (.iload_n 3, 1) := by decide +kernel
theorem dX5_howManyLie_5 : decode cX5_howManyLie 5 = .ok (.aload_n 0, 1) := by decide +kernel
theorem dX5_howManyLie_6 : decode cX5_howManyLie 6 = .ok (.getfield 58, 3) := by decide +kernel
theorem dX5_howManyLie_9 : decode cX5_howManyLie 9 = .ok (.if_icmp .ge 22, 3) := by decide +kernel
theorem dX5_howManyLie_12 : decode cX5_howManyLie 12 = .ok (.aload_n 0, 1) := by decide +kernel
theorem dX5_howManyLie_13 : decode cX5_howManyLie 13 = .ok (.getfield 36, 3) := by decide +kernel
theorem dX5_howManyLie_16 : decode cX5_howManyLie 16 = .ok (.iload_n 3, 1) := by decide +kernel
theorem dX5_howManyLie_17 : decode cX5_howManyLie 17 = .ok (.iaload, 1) := by decide +kernel
theorem dX5_howManyLie_18 : decode cX5_howManyLie 18 = .ok (.iload_n 1, 1) := by decide +kernel
theorem dX5_howManyLie_19 : decode cX5_howManyLie 19 = .ok (.if_icmp .ne 6, 3) := by decide +kernel
theorem dX5_howManyLie_22 : decode cX5_howManyLie 22 = .ok (.iinc 2 1, 3) := by decide +kernel
theorem dX5_howManyLie_25 : decode cX5_howManyLie 25 = .ok (.iinc 3 1, 3) := by decide +kernel
theorem dX5_howManyLie_28 : decode cX5_howManyLie 28 = .ok (.goto (-24), 3) := by decide +kernel
theorem dX5_howManyLie_31 : decode cX5_howManyLie 31 = .ok (.iload_n 2, 1) := by decide +kernel
theorem dX5_howManyLie_32 : decode cX5_howManyLie 32 = .ok (.ireturn, 1) := by decide +kernel
theorem dX5_howManyHas_0 : decode cX5_howManyHas 0 = .ok (.iconst 0, 1) := by decide +kernel
theorem dX5_howManyHas_1 : decode cX5_howManyHas 1 = .ok (.istore_n 2, 1) := by decide +kernel
theorem dX5_howManyHas_2 : decode cX5_howManyHas 2 = .ok (.iconst 0, 1) := by decide +kernel
theorem dX5_howManyHas_3 : decode cX5_howManyHas 3 = .ok (.istore_n 3, 1) := by decide +kernel
theorem dX5_howManyHas_4 : decode cX5_howManyHas 4 = .ok (.iload_n 3, 1) := by decide +kernel
theorem dX5_howManyHas_5 : decode cX5_howManyHas 5 = .ok (.aload_n 0, 1) := by decide +kernel
theorem dX5_howManyHas_6 : decode cX5_howManyHas 6 = .ok (.getfield 58, 3) := by decide +kernel
theorem dX5_howManyHas_9 : decode cX5_howManyHas 9 = .ok (.if_icmp .ge 31, 3) := by decide +kernel
theorem dX5_howManyHas_12 : decode cX5_howManyHas 12 = .ok (.aload_n 0, 1) := by decide +kernel
theorem dX5_howManyHas_13 : decode cX5_howManyHas 13 = .ok (.getfield 36, 3) := by decide +kernel
theorem dX5_howManyHas_16 : decode cX5_howManyHas 16 = .ok (.iload_n 3, 1) := by decide +kernel
theorem dX5_howManyHas_17 : decode cX5_howManyHas 17 = .ok (.iaload, 1) := by decide +kernel
theorem dX5_howManyHas_18 : decode cX5_howManyHas 18 = .ok (.ifCond .ne 16, 3) := by decide +kernel
theorem dX5_howManyHas_21 : decode cX5_howManyHas 21 = .ok (.aload_n 0, 1) := by decide +kernel
theorem dX5_howManyHas_22 : decode cX5_howManyHas 22 = .ok (.getfield 33, 3) := by decide +kernel
theorem dX5_howManyHas_25 : decode cX5_howManyHas 25 = .ok (.iload_n 3, 1) := by decide +kernel
theorem dX5_howManyHas_26 : decode cX5_howManyHas 26 = .ok (.iaload, 1) := by decide +kernel
theorem dX5_howManyHas_27 : decode cX5_howManyHas 27 = .ok (.iload_n 1, 1) := by decide +kernel
theorem dX5_howManyHas_28 : decode cX5_howManyHas 28 = .ok (.if_icmp .ne 6, 3) := by decide +kernel
theorem dX5_howManyHas_31 : decode cX5_howManyHas 31 = .ok (.iinc 2 1, 3) := by decide +kernel
theorem dX5_howManyHas_34 : decode cX5_howManyHas 34 = .ok (.iinc 3 1, 3) := by decide +kernel
theorem dX5_howManyHas_37 : decode cX5_howManyHas 37 = .ok (.goto (-33), 3) := by decide +kernel
theorem dX5_howManyHas_40 : decode cX5_howManyHas 40 = .ok (.iload_n 2, 1) := by decide +kernel
theorem dX5_howManyHas_41 : decode cX5_howManyHas 41 = .ok (.ireturn, 1) := by decide +kernel
theorem dX5_howManyAtHome_0 : decode cX5_howManyAtHome 0 = .ok (.iconst 0, 1) := by decide +kernel
theorem dX5_howManyAtHome_1 : decode cX5_howManyAtHome 1 = .ok (.istore_n 1, 1) := by decide +kernel
theorem dX5_howManyAtHome_2 : decode cX5_howManyAtHome 2 = .ok (.iconst 0, 1) := by decide +kernel
theorem dX5_howManyAtHome_3 : decode cX5_howManyAtHome 3 = .ok (.istore_n 2, 1) := by decide +kernel
theorem dX5_howManyAtHome_4 : decode cX5_howManyAtHome 4 = .ok (.iload_n 2, 1) := by decide +kernel
theorem dX5_howManyAtHome_5 : decode cX5_howManyAtHome 5 = .ok (.aload_n 0, 1) := by decide +kernel
theorem dX5_howManyAtHome_6 : decode cX5_howManyAtHome 6 = .ok (.getfield 58, 3) := by decide +kernel
theorem dX5_howManyAtHome_9 : decode cX5_howManyAtHome 9 = .ok (.if_icmp .ge 36, 3) := by decide +kernel
theorem dX5_howManyAtHome_12 : decode cX5_howManyAtHome 12 = .ok (.aload_n 0, 1) := by decide +kernel
theorem dX5_howManyAtHome_13 : decode cX5_howManyAtHome 13 = .ok (.getfield 36, 3) := by decide +kernel
theorem dX5_howManyAtHome_16 : decode cX5_howManyAtHome 16 = .ok (.iload_n 2, 1) := by decide +kernel
theorem dX5_howManyAtHome_17 : decode cX5_howManyAtHome 17 = .ok (.iaload, 1) := by decide +kernel
theorem dX5_howManyAtHome_18 : decode cX5_howManyAtHome 18 = .ok (.ifCond .ne 21, 3) := by decide +kernel
theorem dX5_howManyAtHome_21 : decode cX5_howManyAtHome 21 = .ok (.aload_n 0, 1) := by decide +kernel
theorem dX5_howManyAtHome_22 : decode cX5_howManyAtHome 22 = .ok (.getfield 33, 3) := by decide +kernel
theorem dX5_howManyAtHome_25 : decode cX5_howManyAtHome 25 = .ok (.iload_n 2, 1) := by decide +kernel
theorem dX5_howManyAtHome_26 : decode cX5_howManyAtHome 26 = .ok (.iaload, 1) := by decide +kernel
theorem dX5_howManyAtHome_27 : decode cX5_howManyAtHome 27 = .ok (.aload_n 0, 1) := by decide +kernel
theorem dX5_howManyAtHome_28 : decode cX5_howManyAtHome 28 = .ok (.getfield 30, 3) := by decide +kernel
theorem dX5_howManyAtHome_31 : decode cX5_howManyAtHome 31 = .ok (.iload_n 2, 1) := by decide +kernel
theorem dX5_howManyAtHome_32 : decode cX5_howManyAtHome 32 = .ok (.iaload, 1) := by decide +kernel
theorem dX5_howManyAtHome_33 : decode cX5_howManyAtHome 33 = .ok (.if_icmp .ne 6, 3) := by decide +kernel
theorem dX5_howManyAtHome_36 : decode cX5_howManyAtHome 36 = .ok (.iinc 1 1, 3) := by decide +kernel
theorem dX5_howManyAtHome_39 : decode cX5_howManyAtHome 39 = .ok (.iinc 2 1, 3) := by decide +kernel
theorem dX5_howManyAtHome_42 : decode cX5_howManyAtHome 42 = .ok (.goto (-38), 3) := by decide +kernel
theorem dX5_howManyAtHome_45 : decode cX5_howManyAtHome 45 = .ok (.iload_n 1, 1) := by decide +kernel
theorem dX5_howManyAtHome_46 : decode cX5_howManyAtHome 46 = .ok (.ireturn, 1) := by decide +kernel
set_option maxRecDepth 20000 in
theorem ggX5_kindsByNotes_X5_notesAreSo : GoodIn wsX5_kindsByNotes wsX5_notesAreSo := goodIn_r _ [5, 6, 7, 8, 9, 10, 11, 12, 13, 14, 15, 16, 17, 18, 19, 20, 21, 22, 23, 24, 25, 26, 27, 28, 29, 30, 31, 32, 33, 34, 35, 36, 37] (by decide +kernel) (by decide +kernel)
set_option maxRecDepth 20000 in
theorem gX5_kindsByNotes_X5_notesAreSo : GoodIn wsX5_kindsByNotes (wsV RX5 125 RX5 yX5_notesAreSo wsX5_notesAreSo) := goodIn_app (goodIn_of _ (by decide +kernel)) ggX5_kindsByNotes_X5_notesAreSo
theorem dX5_kindsByNotes_0 : decode cX5_kindsByNotes 0 = .ok (.iconst 0, 1) := by decide +kernel
theorem dX5_kindsByNotes_1 : decode cX5_kindsByNotes 1 = .ok (.istore_n 2, 1) := by decide +kernel
theorem dX5_kindsByNotes_2 : decode cX5_kindsByNotes 2 = .ok (.iconst 0, 1) := by decide +kernel
theorem dX5_kindsByNotes_3 : decode cX5_kindsByNotes 3 = .ok (.istore_n 3, 1) := by decide +kernel
theorem dX5_kindsByNotes_4 : decode cX5_kindsByNotes 4 = .ok (.iload_n 3, 1) := by decide +kernel
theorem dX5_kindsByNotes_5 : decode cX5_kindsByNotes 5 = .ok (.bipush 6, 2) := by decide +kernel
theorem dX5_kindsByNotes_7 : decode cX5_kindsByNotes 7 = .ok (.if_icmp .ge 24, 3) := by decide +kernel
theorem dX5_kindsByNotes_10 : decode cX5_kindsByNotes 10 = .ok (.aload_n 0, 1) := by decide +kernel
theorem dX5_kindsByNotes_11 : decode cX5_kindsByNotes 11 = .ok (.iload_n 1, 1) := by decide +kernel
theorem dX5_kindsByNotes_12 : decode cX5_kindsByNotes 12 = .ok (.iload_n 3, 1) := by decide +kernel
theorem dX5_kindsByNotes_13 : decode cX5_kindsByNotes 13 = .ok (.invokevirtual 125, 3) := by decide +kernel
theorem dX5_kindsByNotes_16 : decode cX5_kindsByNotes 16 = .ok (.ifCond .eq 9, 3) := by decide +kernel
theorem dX5_kindsByNotes_19 : decode cX5_kindsByNotes 19 = .ok (.iload_n 2, 1) := by decide +kernel
theorem dX5_kindsByNotes_20 : decode cX5_kindsByNotes 20 = .ok (.iconst 1, 1) := by decide +kernel
theorem dX5_kindsByNotes_21 : decode cX5_kindsByNotes 21 = .ok (.iload_n 3, 1) := by decide +kernel
theorem dX5_kindsByNotes_22 : decode cX5_kindsByNotes 22 = .ok (.ishl, 1) := by decide +kernel
theorem dX5_kindsByNotes_23 : decode cX5_kindsByNotes 23 = .ok (.ior, 1) := by decide +kernel
theorem dX5_kindsByNotes_24 : decode cX5_kindsByNotes 24 = .ok (.istore_n 2, 1) := by decide +kernel
theorem dX5_kindsByNotes_25 : decode cX5_kindsByNotes 25 = .ok (.iinc 3 1, 3) := by decide +kernel
theorem dX5_kindsByNotes_28 : decode cX5_kindsByNotes 28 = .ok (.goto (-24), 3) := by decide +kernel
theorem dX5_kindsByNotes_31 : decode cX5_kindsByNotes 31 = .ok (.iload_n 2, 1) := by decide +kernel
theorem dX5_kindsByNotes_32 : decode cX5_kindsByNotes 32 = .ok (.ireturn, 1) := by decide +kernel
set_option maxRecDepth 20000 in
theorem ggX5_notesAreSo_X3_cell : GoodIn wsX5_notesAreSo wsX3_cell := goodIn_r _ [7, 8, 9, 29, 30, 31, 32] (by decide +kernel) (by decide +kernel)
set_option maxRecDepth 20000 in
theorem gX5_notesAreSo_X3_cell : GoodIn wsX5_notesAreSo (wsV RX5 88 RX3 yX3_cell wsX3_cell) := goodIn_app (goodIn_of _ (by decide +kernel)) ggX5_notesAreSo_X3_cell
set_option maxRecDepth 20000 in
theorem ggX5_notesAreSo_X1_shown : GoodIn wsX5_notesAreSo wsX1_shown := goodIn_r _ [13] (by decide +kernel) (by decide +kernel)
set_option maxRecDepth 20000 in
theorem gX5_notesAreSo_X1_shown : GoodIn wsX5_notesAreSo (va_wsS RX5 96 yX1_shown wsX1_shown) := goodIn_app (goodIn_of _ (by decide +kernel)) ggX5_notesAreSo_X1_shown
theorem dX5_notesAreSo_0 : decode cX5_notesAreSo 0 = .ok (.iconst 0, 1) := by decide +kernel
theorem dX5_notesAreSo_1 : decode cX5_notesAreSo 1 = .ok (.istore_n 3, 1) := by decide +kernel
theorem dX5_notesAreSo_2 : decode cX5_notesAreSo 2 = .ok (.iload_n 3, 1) := by decide +kernel
theorem dX5_notesAreSo_3 : decode cX5_notesAreSo 3 = .ok (.aload_n 0, 1) := by decide +kernel
theorem dX5_notesAreSo_4 : decode cX5_notesAreSo 4 = .ok (.getfield 44, 3) := by decide +kernel
theorem dX5_notesAreSo_7 : decode cX5_notesAreSo 7 = .ok (.getfield 64, 3) := by decide +kernel
theorem dX5_notesAreSo_10 : decode cX5_notesAreSo 10 = .ok (.if_icmp .ge 83, 3) := by decide +kernel
theorem dX5_notesAreSo_13 : decode cX5_notesAreSo 13 = .ok (.aload_n 0, 1) := by decide +kernel
theorem dX5_notesAreSo_14 : decode cX5_notesAreSo 14 = .ok (.getfield 44, 3) := by decide +kernel
theorem dX5_notesAreSo_17 : decode cX5_notesAreSo 17 = .ok (.iload_n 3, 1) := by decide +kernel
theorem dX5_notesAreSo_18 : decode cX5_notesAreSo 18 = .ok (.iconst 0, 1) := by decide +kernel
theorem dX5_notesAreSo_19 : decode cX5_notesAreSo 19 = .ok (.invokevirtual 88, 3) := by decide +kernel
theorem dX5_notesAreSo_22 : decode cX5_notesAreSo 22 = .ok (.iload_n 1, 1) := by decide +kernel
theorem dX5_notesAreSo_23 : decode cX5_notesAreSo 23 = .ok (.if_icmp .eq 6, 3) := by decide +kernel
theorem dX5_notesAreSo_26 : decode cX5_notesAreSo 26 = .ok (.goto 61, 3) := by decide +kernel
theorem dX5_notesAreSo_29 : decode cX5_notesAreSo 29 = .ok (.iload_n 2, 1) := by decide +kernel
theorem dX5_notesAreSo_30 : decode cX5_notesAreSo 30 = .ok (.aload_n 0, 1) := by decide +kernel
theorem dX5_notesAreSo_31 : decode cX5_notesAreSo 31 = .ok (.getfield 44, 3) := by decide +kernel
theorem dX5_notesAreSo_34 : decode cX5_notesAreSo 34 = .ok (.iload_n 3, 1) := by decide +kernel
theorem dX5_notesAreSo_35 : decode cX5_notesAreSo 35 = .ok (.iconst 1, 1) := by decide +kernel
theorem dX5_notesAreSo_36 : decode cX5_notesAreSo 36 = .ok (.invokevirtual 88, 3) := by decide +kernel
theorem dX5_notesAreSo_39 : decode cX5_notesAreSo 39 = .ok (.aload_n 0, 1) := by decide +kernel
theorem dX5_notesAreSo_40 : decode cX5_notesAreSo 40 = .ok (.getfield 44, 3) := by decide +kernel
theorem dX5_notesAreSo_43 : decode cX5_notesAreSo 43 = .ok (.iload_n 3, 1) := by decide +kernel
theorem dX5_notesAreSo_44 : decode cX5_notesAreSo 44 = .ok (.iconst 2, 1) := by decide +kernel
theorem dX5_notesAreSo_45 : decode cX5_notesAreSo 45 = .ok (.invokevirtual 88, 3) := by decide +kernel
theorem dX5_notesAreSo_48 : decode cX5_notesAreSo 48 = .ok (.aload_n 0, 1) := by decide +kernel
theorem dX5_notesAreSo_49 : decode cX5_notesAreSo 49 = .ok (.getfield 44, 3) := by decide +kernel
theorem dX5_notesAreSo_52 : decode cX5_notesAreSo 52 = .ok (.iload_n 3, 1) := by decide +kernel
theorem dX5_notesAreSo_53 : decode cX5_notesAreSo 53 = .ok (.iconst 3, 1) := by decide +kernel
theorem dX5_notesAreSo_54 : decode cX5_notesAreSo 54 = .ok (.invokevirtual 88, 3) := by decide +kernel
theorem dX5_notesAreSo_57 : decode cX5_notesAreSo 57 = .ok (.aload_n 0, 1) := by decide +kernel
theorem dX5_notesAreSo_58 : decode cX5_notesAreSo 58 = .ok (.getfield 44, 3) := by decide +kernel
theorem dX5_notesAreSo_61 : decode cX5_notesAreSo 61 = .ok (.iload_n 3, 1) := by decide +kernel
theorem dX5_notesAreSo_62 : decode cX5_notesAreSo 62 = .ok (.iconst 4, 1) := by decide +kernel
theorem dX5_notesAreSo_63 : decode cX5_notesAreSo 63 = .ok (.invokevirtual 88, 3) := by decide +kernel
theorem dX5_notesAreSo_66 : decode cX5_notesAreSo 66 = .ok (.invokestatic 96, 3) := by decide +kernel
theorem dX5_notesAreSo_69 : decode cX5_notesAreSo 69 = .ok (.istore 4, 2) := by decide +kernel
theorem dX5_notesAreSo_71 : decode cX5_notesAreSo 71 = .ok (.iload 4, 2) := by decide +kernel
theorem dX5_notesAreSo_73 : decode cX5_notesAreSo 73 = .ok (.aload_n 0, 1) := by decide +kernel
theorem dX5_notesAreSo_74 : decode cX5_notesAreSo 74 = .ok (.getfield 44, 3) := by decide +kernel
theorem dX5_notesAreSo_77 : decode cX5_notesAreSo 77 = .ok (.iload_n 3, 1) := by decide +kernel
theorem dX5_notesAreSo_78 : decode cX5_notesAreSo 78 = .ok (.iconst 5, 1) := by decide +kernel
theorem dX5_notesAreSo_79 : decode cX5_notesAreSo 79 = .ok (.invokevirtual 88, 3) := by decide +kernel
theorem dX5_notesAreSo_82 : decode cX5_notesAreSo 82 = .ok (.if_icmp .eq 5, 3) := by decide +kernel
theorem dX5_notesAreSo_85 : decode cX5_notesAreSo 85 = .ok (.iconst 0, 1) := by decide +kernel
theorem dX5_notesAreSo_86 : decode cX5_notesAreSo 86 = .ok (.ireturn, 1) := by decide +kernel
theorem dX5_notesAreSo_87 : decode cX5_notesAreSo 87 = .ok (.iinc 3 1, 3) := by decide +kernel
theorem dX5_notesAreSo_90 : decode cX5_notesAreSo 90 = .ok (.goto (-88), 3) := by decide +kernel
theorem dX5_notesAreSo_93 : decode cX5_notesAreSo 93 = .ok (.iconst 1, 1) := by decide +kernel
theorem dX5_notesAreSo_94 : decode cX5_notesAreSo 94 = .ok (.ireturn, 1) := by decide +kernel
set_option maxRecDepth 20000 in
theorem ggX5_kindsByComings_X5_comingsAreSo : GoodIn wsX5_kindsByComings wsX5_comingsAreSo := goodIn_r _ [5, 6, 7, 8, 9, 10, 11, 12, 13, 14, 15, 16, 17, 18, 4, 19, 20, 21, 22, 23, 24, 25, 26, 27, 28, 29, 30, 31, 32, 33, 34, 35, 36, 37, 38, 39, 40, 41, 42, 43, 44, 45, 46, 47, 48, 49, 50, 51, 52, 53, 54, 55, 56, 57, 58, 59, 60, 61, 62] (by decide +kernel) (by decide +kernel)
set_option maxRecDepth 20000 in
theorem gX5_kindsByComings_X5_comingsAreSo : GoodIn wsX5_kindsByComings (wsV RX5 129 RX5 yX5_comingsAreSo wsX5_comingsAreSo) := goodIn_app (goodIn_of _ (by decide +kernel)) ggX5_kindsByComings_X5_comingsAreSo
theorem dX5_kindsByComings_0 : decode cX5_kindsByComings 0 = .ok (.iconst 0, 1) := by decide +kernel
theorem dX5_kindsByComings_1 : decode cX5_kindsByComings 1 = .ok (.istore_n 2, 1) := by decide +kernel
theorem dX5_kindsByComings_2 : decode cX5_kindsByComings 2 = .ok (.iconst 0, 1) := by decide +kernel
theorem dX5_kindsByComings_3 : decode cX5_kindsByComings 3 = .ok (.istore_n 3, 1) := by decide +kernel
theorem dX5_kindsByComings_4 : decode cX5_kindsByComings 4 = .ok (.iload_n 3, 1) := by decide +kernel
theorem dX5_kindsByComings_5 : decode cX5_kindsByComings 5 = .ok (.bipush 6, 2) := by decide +kernel
theorem dX5_kindsByComings_7 : decode cX5_kindsByComings 7 = .ok (.if_icmp .ge 24, 3) := by decide +kernel
theorem dX5_kindsByComings_10 : decode cX5_kindsByComings 10 = .ok (.aload_n 0, 1) := by decide +kernel
theorem dX5_kindsByComings_11 : decode cX5_kindsByComings 11 = .ok (.iload_n 1, 1) := by decide +kernel
theorem dX5_kindsByComings_12 : decode cX5_kindsByComings 12 = .ok (.iload_n 3, 1) := by decide +kernel
theorem dX5_kindsByComings_13 : decode cX5_kindsByComings 13 = .ok (.invokevirtual 129, 3) := by decide +kernel
theorem dX5_kindsByComings_16 : decode cX5_kindsByComings 16 = .ok (.ifCond .eq 9, 3) := by decide +kernel
theorem dX5_kindsByComings_19 : decode cX5_kindsByComings 19 = .ok (.iload_n 2, 1) := by decide +kernel
theorem dX5_kindsByComings_20 : decode cX5_kindsByComings 20 = .ok (.iconst 1, 1) := by decide +kernel
theorem dX5_kindsByComings_21 : decode cX5_kindsByComings 21 = .ok (.iload_n 3, 1) := by decide +kernel
theorem dX5_kindsByComings_22 : decode cX5_kindsByComings 22 = .ok (.ishl, 1) := by decide +kernel
theorem dX5_kindsByComings_23 : decode cX5_kindsByComings 23 = .ok (.ior, 1) := by decide +kernel
theorem dX5_kindsByComings_24 : decode cX5_kindsByComings 24 = .ok (.istore_n 2, 1) := by decide +kernel
theorem dX5_kindsByComings_25 : decode cX5_kindsByComings 25 = .ok (.iinc 3 1, 3) := by decide +kernel
theorem dX5_kindsByComings_28 : decode cX5_kindsByComings 28 = .ok (.goto (-24), 3) := by decide +kernel
theorem dX5_kindsByComings_31 : decode cX5_kindsByComings 31 = .ok (.iload_n 2, 1) := by decide +kernel
theorem dX5_kindsByComings_32 : decode cX5_kindsByComings 32 = .ok (.ireturn, 1) := by decide +kernel
set_option maxRecDepth 20000 in
theorem ggX5_comingsAreSo_X3_cell : GoodIn wsX5_comingsAreSo wsX3_cell := goodIn_r _ [8, 9, 10, 55, 56, 57, 58] (by decide +kernel) (by decide +kernel)
set_option maxRecDepth 20000 in
theorem gX5_comingsAreSo_X3_cell : GoodIn wsX5_comingsAreSo (wsV RX5 88 RX3 yX3_cell wsX3_cell) := goodIn_app (goodIn_of _ (by decide +kernel)) ggX5_comingsAreSo_X3_cell
set_option maxRecDepth 20000 in
theorem ggX5_comingsAreSo_X5_goesTo : GoodIn wsX5_comingsAreSo wsX5_goesTo := goodIn_r _ [15, 16, 17, 18, 19, 14, 20, 21, 22, 23, 24, 25, 26, 27, 28, 29, 30, 31, 32, 33, 34, 35, 36, 37, 38, 39, 40, 41, 42, 43, 44, 45, 46, 47, 48, 49, 50, 51, 52, 53, 54] (by decide +kernel) (by decide +kernel)
set_option maxRecDepth 20000 in
theorem gX5_comingsAreSo_X5_goesTo : GoodIn wsX5_comingsAreSo (wsV RX5 92 RX5 yX5_goesTo wsX5_goesTo) := goodIn_app (goodIn_of _ (by decide +kernel)) ggX5_comingsAreSo_X5_goesTo
theorem dX5_comingsAreSo_0 : decode cX5_comingsAreSo 0 = .ok (.iconst 0, 1) := by decide +kernel
theorem dX5_comingsAreSo_1 : decode cX5_comingsAreSo 1 = .ok (.istore_n 3, 1) := by decide +kernel
theorem dX5_comingsAreSo_2 : decode cX5_comingsAreSo 2 = .ok (.iload_n 3, 1) := by decide +kernel
theorem dX5_comingsAreSo_3 : decode cX5_comingsAreSo 3 = .ok (.aload_n 0, 1) := by decide +kernel
theorem dX5_comingsAreSo_4 : decode cX5_comingsAreSo 4 = .ok (.getfield 48, 3) := by decide +kernel
theorem dX5_comingsAreSo_7 : decode cX5_comingsAreSo 7 = .ok (.getfield 64, 3) := by decide +kernel
theorem dX5_comingsAreSo_10 : decode cX5_comingsAreSo 10 = .ok (.if_icmp .ge 72, 3) := by decide +kernel
theorem dX5_comingsAreSo_13 : decode cX5_comingsAreSo 13 = .ok (.aload_n 0, 1) := by decide +kernel
theorem dX5_comingsAreSo_14 : decode cX5_comingsAreSo 14 = .ok (.getfield 48, 3) := by decide +kernel
theorem dX5_comingsAreSo_17 : decode cX5_comingsAreSo 17 = .ok (.iload_n 3, 1) := by decide +kernel
theorem dX5_comingsAreSo_18 : decode cX5_comingsAreSo 18 = .ok (.iconst 0, 1) := by decide +kernel
theorem dX5_comingsAreSo_19 : decode cX5_comingsAreSo 19 = .ok (.invokevirtual 88, 3) := by decide +kernel
theorem dX5_comingsAreSo_22 : decode cX5_comingsAreSo 22 = .ok (.iload_n 1, 1) := by decide +kernel
theorem dX5_comingsAreSo_23 : decode cX5_comingsAreSo 23 = .ok (.if_icmp .eq 6, 3) := by decide +kernel
theorem dX5_comingsAreSo_26 : decode cX5_comingsAreSo 26 = .ok (.goto 50, 3) := by decide +kernel
theorem dX5_comingsAreSo_29 : decode cX5_comingsAreSo 29 = .ok (.aload_n 0, 1) := by decide +kernel
theorem dX5_comingsAreSo_30 : decode cX5_comingsAreSo 30 = .ok (.iload_n 2, 1) := by decide +kernel
theorem dX5_comingsAreSo_31 : decode cX5_comingsAreSo 31 = .ok (.aload_n 0, 1) := by decide +kernel
theorem dX5_comingsAreSo_32 : decode cX5_comingsAreSo 32 = .ok (.getfield 27, 3) := by decide +kernel
theorem dX5_comingsAreSo_35 : decode cX5_comingsAreSo 35 = .ok (.iload_n 1, 1) := by decide +kernel
theorem dX5_comingsAreSo_36 : decode cX5_comingsAreSo 36 = .ok (.iaload, 1) := by decide +kernel
theorem dX5_comingsAreSo_37 : decode cX5_comingsAreSo 37 = .ok (.aload_n 0, 1) := by decide +kernel
theorem dX5_comingsAreSo_38 : decode cX5_comingsAreSo 38 = .ok (.getfield 48, 3) := by decide +kernel
theorem dX5_comingsAreSo_41 : decode cX5_comingsAreSo 41 = .ok (.iload_n 3, 1) := by decide +kernel
theorem dX5_comingsAreSo_42 : decode cX5_comingsAreSo 42 = .ok (.iconst 1, 1) := by decide +kernel
theorem dX5_comingsAreSo_43 : decode cX5_comingsAreSo 43 = .ok (.invokevirtual 88, 3) := by decide +kernel
theorem dX5_comingsAreSo_46 : decode cX5_comingsAreSo 46 = .ok (.aload_n 0, 1) := by decide +kernel
theorem dX5_comingsAreSo_47 : decode cX5_comingsAreSo 47 = .ok (.getfield 48, 3) := by decide +kernel
theorem dX5_comingsAreSo_50 : decode cX5_comingsAreSo 50 = .ok (.iload_n 3, 1) := by decide +kernel
theorem dX5_comingsAreSo_51 : decode cX5_comingsAreSo 51 = .ok (.iconst 2, 1) := by decide +kernel
theorem dX5_comingsAreSo_52 : decode cX5_comingsAreSo 52 = .ok (.invokevirtual 88, 3) := by decide +kernel
theorem dX5_comingsAreSo_55 : decode cX5_comingsAreSo 55 = .ok (.invokevirtual 92, 3) := by decide +kernel
theorem dX5_comingsAreSo_58 : decode cX5_comingsAreSo 58 = .ok (.istore 4, 2) := by decide +kernel
theorem dX5_comingsAreSo_60 : decode cX5_comingsAreSo 60 = .ok (.iload 4, 2) := by decide +kernel
theorem dX5_comingsAreSo_62 : decode cX5_comingsAreSo 62 = .ok (.aload_n 0, 1) := by decide +kernel
theorem dX5_comingsAreSo_63 : decode cX5_comingsAreSo 63 = .ok (.getfield 48, 3) := by decide +kernel
theorem dX5_comingsAreSo_66 : decode cX5_comingsAreSo 66 = .ok (.iload_n 3, 1) := by decide +kernel
theorem dX5_comingsAreSo_67 : decode cX5_comingsAreSo 67 = .ok (.iconst 3, 1) := by decide +kernel
theorem dX5_comingsAreSo_68 : decode cX5_comingsAreSo 68 = .ok (.invokevirtual 88, 3) := by decide +kernel
theorem dX5_comingsAreSo_71 : decode cX5_comingsAreSo 71 = .ok (.if_icmp .eq 5, 3) := by decide +kernel
theorem dX5_comingsAreSo_74 : decode cX5_comingsAreSo 74 = .ok (.iconst 0, 1) := by decide +kernel
theorem dX5_comingsAreSo_75 : decode cX5_comingsAreSo 75 = .ok (.ireturn, 1) := by decide +kernel
theorem dX5_comingsAreSo_76 : decode cX5_comingsAreSo 76 = .ok (.iinc 3 1, 3) := by decide +kernel
theorem dX5_comingsAreSo_79 : decode cX5_comingsAreSo 79 = .ok (.goto (-77), 3) := by decide +kernel
theorem dX5_comingsAreSo_82 : decode cX5_comingsAreSo 82 = .ok (.iconst 1, 1) := by decide +kernel
theorem dX5_comingsAreSo_83 : decode cX5_comingsAreSo 83 = .ok (.ireturn, 1) := by decide +kernel
theorem dX5_mixPeople_0 : decode cX5_mixPeople 0 = .ok (.lload_n 1, 1) := by decide +kernel
theorem dX5_mixPeople_1 : decode cX5_mixPeople 1 = .ok (.lstore_n 3, 1) := by decide +kernel
theorem dX5_mixPeople_2 : decode cX5_mixPeople 2 = .ok (.iconst 0, 1) := by decide +kernel
theorem dX5_mixPeople_3 : decode cX5_mixPeople 3 = .ok (.istore 5, 2) := by decide +kernel
theorem dX5_mixPeople_5 : decode cX5_mixPeople 5 = .ok (.iload 5, 2) := by decide +kernel
theorem dX5_mixPeople_7 : decode cX5_mixPeople 7 = .ok (.aload_n 0, 1) := by decide +kernel
theorem dX5_mixPeople_8 : decode cX5_mixPeople 8 = .ok (.getfield 54, 3) := by decide +kernel
theorem dX5_mixPeople_11 : decode cX5_mixPeople 11 = .ok (.if_icmp .ge 89, 3) := by decide +kernel
theorem dX5_mixPeople_14 : decode cX5_mixPeople 14 = .ok (.ldc2_w 132, 3) := by decide +kernel
theorem dX5_mixPeople_17 : decode cX5_mixPeople 17 = .ok (.lload_n 3, 1) := by decide +kernel
theorem dX5_mixPeople_18 : decode cX5_mixPeople 18 = .ok (.lmul, 1) := by decide +kernel
theorem dX5_mixPeople_19 : decode cX5_mixPeople 19 = .ok (.aload_n 0, 1) := by decide +kernel
theorem dX5_mixPeople_20 : decode cX5_mixPeople 20 = .ok (.getfield 9, 3) := by decide +kernel
theorem dX5_mixPeople_23 : decode cX5_mixPeople 23 = .ok (.iload 5, 2) := by decide +kernel
theorem dX5_mixPeople_25 : decode cX5_mixPeople 25 = .ok (.iaload, 1) := by decide +kernel
theorem dX5_mixPeople_26 : decode cX5_mixPeople 26 = .ok (.i2l, 1) := by decide +kernel
theorem dX5_mixPeople_27 : decode cX5_mixPeople 27 = .ok (.ladd, 1) := by decide +kernel
theorem dX5_mixPeople_28 : decode cX5_mixPeople 28 = .ok (.lstore_n 3, 1) := by decide +kernel
theorem dX5_mixPeople_29 : decode cX5_mixPeople 29 = .ok (.ldc2_w 132, 3) := by decide +kernel
theorem dX5_mixPeople_32 : decode cX5_mixPeople 32 = .ok (.lload_n 3, 1) := by decide +kernel
theorem dX5_mixPeople_33 : decode cX5_mixPeople 33 = .ok (.lmul, 1) := by decide +kernel
theorem dX5_mixPeople_34 : decode cX5_mixPeople 34 = .ok (.aload_n 0, 1) := by decide +kernel
theorem dX5_mixPeople_35 : decode cX5_mixPeople 35 = .ok (.getfield 15, 3) := by decide +kernel
theorem dX5_mixPeople_38 : decode cX5_mixPeople 38 = .ok (.iload 5, 2) := by decide +kernel
theorem dX5_mixPeople_40 : decode cX5_mixPeople 40 = .ok (.iaload, 1) := by decide +kernel
theorem dX5_mixPeople_41 : decode cX5_mixPeople 41 = .ok (.i2l, 1) := by decide +kernel
theorem dX5_mixPeople_42 : decode cX5_mixPeople 42 = .ok (.ladd, 1) := by decide +kernel
theorem dX5_mixPeople_43 : decode cX5_mixPeople 43 = .ok (.lstore_n 3, 1) := by decide +kernel
theorem dX5_mixPeople_44 : decode cX5_mixPeople 44 = .ok (.ldc2_w 132, 3) := by decide +kernel
theorem dX5_mixPeople_47 : decode cX5_mixPeople 47 = .ok (.lload_n 3, 1) := by decide +kernel
theorem dX5_mixPeople_48 : decode cX5_mixPeople 48 = .ok (.lmul, 1) := by decide +kernel
theorem dX5_mixPeople_49 : decode cX5_mixPeople 49 = .ok (.aload_n 0, 1) := by decide +kernel
theorem dX5_mixPeople_50 : decode cX5_mixPeople 50 = .ok (.getfield 18, 3) := by decide +kernel
theorem dX5_mixPeople_53 : decode cX5_mixPeople 53 = .ok (.iload 5, 2) := by decide +kernel
theorem dX5_mixPeople_55 : decode cX5_mixPeople 55 = .ok (.iaload, 1) := by decide +kernel
theorem dX5_mixPeople_56 : decode cX5_mixPeople 56 = .ok (.i2l, 1) := by decide +kernel
theorem dX5_mixPeople_57 : decode cX5_mixPeople 57 = .ok (.ladd, 1) := by decide +kernel
theorem dX5_mixPeople_58 : decode cX5_mixPeople 58 = .ok (.lstore_n 3, 1) := by decide +kernel
theorem dX5_mixPeople_59 : decode cX5_mixPeople 59 = .ok (.iconst 0, 1) := by decide +kernel
theorem dX5_mixPeople_60 : decode cX5_mixPeople 60 = .ok (.istore 6, 2) := by decide +kernel
theorem dX5_mixPeople_62 : decode cX5_mixPeople 62 = .ok (.iload 6, 2) := by decide +kernel
theorem dX5_mixPeople_64 : decode cX5_mixPeople 64 = .ok (.iconst 4, 1) := by decide +kernel
theorem dX5_mixPeople_65 : decode cX5_mixPeople 65 = .ok (.if_icmp .ge 29, 3) := by decide +kernel
theorem dX5_mixPeople_68 : decode cX5_mixPeople 68 = .ok (.ldc2_w 132, 3) := by decide +kernel
theorem dX5_mixPeople_71 : decode cX5_mixPeople 71 = .ok (.lload_n 3, 1) := by decide +kernel
theorem dX5_mixPeople_72 : decode cX5_mixPeople 72 = .ok (.lmul, 1) := by decide +kernel
theorem dX5_mixPeople_73 : decode cX5_mixPeople 73 = .ok (.aload_n 0, 1) := by decide +kernel
theorem dX5_mixPeople_74 : decode cX5_mixPeople 74 = .ok (.getfield 21, 3) := by decide +kernel
theorem dX5_mixPeople_77 : decode cX5_mixPeople 77 = .ok (.iconst 4, 1) := by decide +kernel
theorem dX5_mixPeople_78 : decode cX5_mixPeople 78 = .ok (.iload 5, 2) := by decide +kernel
theorem dX5_mixPeople_80 : decode cX5_mixPeople 80 = .ok (.imul, 1) := by decide +kernel
theorem dX5_mixPeople_81 : decode cX5_mixPeople 81 = .ok (.iload 6, 2) := by decide +kernel
theorem dX5_mixPeople_83 : decode cX5_mixPeople 83 = .ok (.iadd, 1) := by decide +kernel
theorem dX5_mixPeople_84 : decode cX5_mixPeople 84 = .ok (.iaload, 1) := by decide +kernel
theorem dX5_mixPeople_85 : decode cX5_mixPeople 85 = .ok (.i2l, 1) := by decide +kernel
theorem dX5_mixPeople_86 : decode cX5_mixPeople 86 = .ok (.ladd, 1) := by decide +kernel
theorem dX5_mixPeople_87 : decode cX5_mixPeople 87 = .ok (.lstore_n 3, 1) := by decide +kernel
theorem dX5_mixPeople_88 : decode cX5_mixPeople 88 = .ok (.iinc 6 1, 3) := by decide +kernel
theorem dX5_mixPeople_91 : decode cX5_mixPeople 91 = .ok (.goto (-29), 3) := by decide +kernel
theorem dX5_mixPeople_94 : decode cX5_mixPeople 94 = .ok (.iinc 5 1, 3) := by decide +kernel
theorem dX5_mixPeople_97 : decode cX5_mixPeople 97 = .ok (.goto (-92), 3) := by decide +kernel
theorem dX5_mixPeople_100 : decode cX5_mixPeople 100 = .ok (.lload_n 3, 1) := by decide +kernel
theorem dX5_mixPeople_101 : decode cX5_mixPeople 101 = .ok (.lreturn, 1) := by decide +kernel
theorem dX5_mixThings_0 : decode cX5_mixThings 0 = .ok (.lload_n 1, 1) := by decide +kernel
theorem dX5_mixThings_1 : decode cX5_mixThings 1 = .ok (.lstore_n 3, 1) := by decide +kernel
theorem dX5_mixThings_2 : decode cX5_mixThings 2 = .ok (.iconst 0, 1) := by decide +kernel
theorem dX5_mixThings_3 : decode cX5_mixThings 3 = .ok (.istore 5, 2) := by decide +kernel
theorem dX5_mixThings_5 : decode cX5_mixThings 5 = .ok (.iload 5, 2) := by decide +kernel
theorem dX5_mixThings_7 : decode cX5_mixThings 7 = .ok (.aload_n 0, 1) := by decide +kernel
theorem dX5_mixThings_8 : decode cX5_mixThings 8 = .ok (.getfield 58, 3) := by decide +kernel
theorem dX5_mixThings_11 : decode cX5_mixThings 11 = .ok (.if_icmp .ge 84, 3) := by decide +kernel
theorem dX5_mixThings_14 : decode cX5_mixThings 14 = .ok (.ldc2_w 132, 3) := by decide +kernel
theorem dX5_mixThings_17 : decode cX5_mixThings 17 = .ok (.lload_n 3, 1) := by decide +kernel
theorem dX5_mixThings_18 : decode cX5_mixThings 18 = .ok (.lmul, 1) := by decide +kernel
theorem dX5_mixThings_19 : decode cX5_mixThings 19 = .ok (.aload_n 0, 1) := by decide +kernel
theorem dX5_mixThings_20 : decode cX5_mixThings 20 = .ok (.getfield 24, 3) := by decide +kernel
theorem dX5_mixThings_23 : decode cX5_mixThings 23 = .ok (.iload 5, 2) := by decide +kernel
theorem dX5_mixThings_25 : decode cX5_mixThings 25 = .ok (.iaload, 1) := by decide +kernel
theorem dX5_mixThings_26 : decode cX5_mixThings 26 = .ok (.i2l, 1) := by decide +kernel
theorem dX5_mixThings_27 : decode cX5_mixThings 27 = .ok (.ladd, 1) := by decide +kernel
theorem dX5_mixThings_28 : decode cX5_mixThings 28 = .ok (.lstore_n 3, 1) := by decide +kernel
theorem dX5_mixThings_29 : decode cX5_mixThings 29 = .ok (.ldc2_w 132, 3) := by decide +kernel
theorem dX5_mixThings_32 : decode cX5_mixThings 32 = .ok (.lload_n 3, 1) := by decide +kernel
theorem dX5_mixThings_33 : decode cX5_mixThings 33 = .ok (.lmul, 1) := by decide +kernel
theorem dX5_mixThings_34 : decode cX5_mixThings 34 = .ok (.aload_n 0, 1) := by decide +kernel
theorem dX5_mixThings_35 : decode cX5_mixThings 35 = .ok (.getfield 27, 3) := by decide +kernel
theorem dX5_mixThings_38 : decode cX5_mixThings 38 = .ok (.iload 5, 2) := by decide +kernel
theorem dX5_mixThings_40 : decode cX5_mixThings 40 = .ok (.iaload, 1) := by decide +kernel
theorem dX5_mixThings_41 : decode cX5_mixThings 41 = .ok (.i2l, 1) := by decide +kernel
theorem dX5_mixThings_42 : decode cX5_mixThings 42 = .ok (.ladd, 1) := by decide +kernel
theorem dX5_mixThings_43 : decode cX5_mixThings 43 = .ok (.lstore_n 3, 1) := by decide +kernel
theorem dX5_mixThings_44 : decode cX5_mixThings 44 = .ok (.ldc2_w 132, 3) := by decide +kernel
theorem dX5_mixThings_47 : decode cX5_mixThings 47 = .ok (.lload_n 3, 1) := by decide +kernel
theorem dX5_mixThings_48 : decode cX5_mixThings 48 = .ok (.lmul, 1) := by decide +kernel
theorem dX5_mixThings_49 : decode cX5_mixThings 49 = .ok (.aload_n 0, 1) := by decide +kernel
theorem dX5_mixThings_50 : decode cX5_mixThings 50 = .ok (.getfield 30, 3) := by decide +kernel
theorem dX5_mixThings_53 : decode cX5_mixThings 53 = .ok (.iload 5, 2) := by decide +kernel
theorem dX5_mixThings_55 : decode cX5_mixThings 55 = .ok (.iaload, 1) := by decide +kernel
theorem dX5_mixThings_56 : decode cX5_mixThings 56 = .ok (.i2l, 1) := by decide +kernel
theorem dX5_mixThings_57 : decode cX5_mixThings 57 = .ok (.ladd, 1) := by decide +kernel
theorem dX5_mixThings_58 : decode cX5_mixThings 58 = .ok (.lstore_n 3, 1) := by decide +kernel
theorem dX5_mixThings_59 : decode cX5_mixThings 59 = .ok (.ldc2_w 132, 3) := by decide +kernel
theorem dX5_mixThings_62 : decode cX5_mixThings 62 = .ok (.lload_n 3, 1) := by decide +kernel
theorem dX5_mixThings_63 : decode cX5_mixThings 63 = .ok (.lmul, 1) := by decide +kernel
theorem dX5_mixThings_64 : decode cX5_mixThings 64 = .ok (.aload_n 0, 1) := by decide +kernel
theorem dX5_mixThings_65 : decode cX5_mixThings 65 = .ok (.getfield 33, 3) := by decide +kernel
theorem dX5_mixThings_68 : decode cX5_mixThings 68 = .ok (.iload 5, 2) := by decide +kernel
theorem dX5_mixThings_70 : decode cX5_mixThings 70 = .ok (.iaload, 1) := by decide +kernel
theorem dX5_mixThings_71 : decode cX5_mixThings 71 = .ok (.i2l, 1) := by decide +kernel
theorem dX5_mixThings_72 : decode cX5_mixThings 72 = .ok (.ladd, 1) := by decide +kernel
theorem dX5_mixThings_73 : decode cX5_mixThings 73 = .ok (.lstore_n 3, 1) := by decide +kernel
theorem dX5_mixThings_74 : decode cX5_mixThings 74 = .ok (.ldc2_w 132, 3) := by decide +kernel
theorem dX5_mixThings_77 : decode cX5_mixThings 77 = .ok (.lload_n 3, 1) := by decide +kernel
theorem dX5_mixThings_78 : decode cX5_mixThings 78 = .ok (.lmul, 1) := by decide +kernel
theorem dX5_mixThings_79 : decode cX5_mixThings 79 = .ok (.aload_n 0, 1) := by decide +kernel
theorem dX5_mixThings_80 : decode cX5_mixThings 80 = .ok (.getfield 36, 3) := by decide +kernel
theorem dX5_mixThings_83 : decode cX5_mixThings 83 = .ok (.iload 5, 2) := by decide +kernel
theorem dX5_mixThings_85 : decode cX5_mixThings 85 = .ok (.iaload, 1) := by decide +kernel
theorem dX5_mixThings_86 : decode cX5_mixThings 86 = .ok (.i2l, 1) := by decide +kernel
theorem dX5_mixThings_87 : decode cX5_mixThings 87 = .ok (.ladd, 1) := by decide +kernel
theorem dX5_mixThings_88 : decode cX5_mixThings 88 = .ok (.lstore_n 3, 1) := by decide +kernel
theorem dX5_mixThings_89 : decode cX5_mixThings 89 = .ok (.iinc 5 1, 3) := by decide +kernel
theorem dX5_mixThings_92 : decode cX5_mixThings 92 = .ok (.goto (-87), 3) := by decide +kernel
theorem dX5_mixThings_95 : decode cX5_mixThings 95 = .ok (.lload_n 3, 1) := by decide +kernel
theorem dX5_mixThings_96 : decode cX5_mixThings 96 = .ok (.lreturn, 1) := by decide +kernel
theorem dX6_copyRow_0 : decode cX6_copyRow 0 = .ok (.aload_n 0, 1) := by decide +kernel
theorem dX6_copyRow_1 : decode cX6_copyRow 1 = .ok (.iconst 0, 1) := by decide +kernel
theorem dX6_copyRow_2 : decode cX6_copyRow 2 = .ok (.aload_n 1, 1) := by decide +kernel
theorem dX6_copyRow_3 : decode cX6_copyRow 3 = .ok (.iconst 0, 1) := by decide +kernel
theorem dX6_copyRow_4 : decode cX6_copyRow 4 = .ok (.aload_n 0, 1) := by decide +kernel
theorem dX6_copyRow_5 : decode cX6_copyRow 5 = .ok (.arraylength, 1) := by decide +kernel
theorem dX6_copyRow_6 : decode cX6_copyRow 6 = .ok (.aload_n 1, 1) := by decide +kernel
theorem dX6_copyRow_7 : decode cX6_copyRow 7 = .ok (.arraylength, 1) := by decide +kernel
theorem dX6_copyRow_8 : decode cX6_copyRow 8 = .ok (.invokestatic 284, 3) := by decide +kernel
theorem dX6_copyRow_11 : decode cX6_copyRow 11 = .ok (.invokestatic 289, 3) := by decide +kernel
theorem dX6_copyRow_14 : decode cX6_copyRow 14 = .ok (.return_, 1) := by decide +kernel
