theorem dX0_init_0 : decode cX0_init 0 = .ok (.aload_n 0, 1) := by decide +kernel
theorem dX0_init_1 : decode cX0_init 1 = .ok (.invokespecial 3, 3) := by decide +kernel
theorem dX0_init_4 : decode cX0_init 4 = .ok (.aload_n 0, 1) := by decide +kernel
theorem dX0_init_5 : decode cX0_init 5 = .ok (.bipush 7, 2) := by decide +kernel
theorem dX0_init_7 : decode cX0_init 7 = .ok (.newarray .long, 2) := by decide +kernel
theorem dX0_init_9 : decode cX0_init 9 = .ok (.putfield 9, 3) := by decide +kernel
theorem dX0_init_12 : decode cX0_init 12 = .ok (.aload_n 0, 1) := by decide +kernel
theorem dX0_init_13 : decode cX0_init 13 = .ok (.bipush 7, 2) := by decide +kernel
theorem dX0_init_15 : decode cX0_init 15 = .ok (.newarray .long, 2) := by decide +kernel
theorem dX0_init_17 : decode cX0_init 17 = .ok (.putfield 15, 3) := by decide +kernel
theorem dX0_init_20 : decode cX0_init 20 = .ok (.aload_n 0, 1) := by decide +kernel
theorem dX0_init_21 : decode cX0_init 21 = .ok (.bipush 7, 2) := by decide +kernel
theorem dX0_init_23 : decode cX0_init 23 = .ok (.newarray .long, 2) := by decide +kernel
theorem dX0_init_25 : decode cX0_init 25 = .ok (.putfield 18, 3) := by decide +kernel
theorem dX0_init_28 : decode cX0_init 28 = .ok (.aload_n 0, 1) := by decide +kernel
theorem dX0_init_29 : decode cX0_init 29 = .ok (.bipush 7, 2) := by decide +kernel
theorem dX0_init_31 : decode cX0_init 31 = .ok (.newarray .long, 2) := by decide +kernel
theorem dX0_init_33 : decode cX0_init 33 = .ok (.putfield 21, 3) := by decide +kernel
theorem dX0_init_36 : decode cX0_init 36 = .ok (.return_, 1) := by decide +kernel
set_option maxRecDepth 20000 in
theorem ggX0_fewestDays_X0_setOut : GoodIn wsX0_fewestDays wsX0_setOut := goodIn_r _ [9, 2, 10, 11, 12, 13, 14, 8, 15, 65, 66, 67, 68, 69, 70, 71, 72, 73, 74, 75, 76, 77, 78, 79, 80, 81, 82, 83, 84] (by decide +kernel) (by decide +kernel)
set_option maxRecDepth 20000 in
theorem gX0_fewestDays_X0_setOut : GoodIn wsX0_fewestDays (wsV RX0 26 RX0 yX0_setOut wsX0_setOut) := goodIn_app (goodIn_of _ (by decide +kernel)) ggX0_fewestDays_X0_setOut
set_option maxRecDepth 20000 in
theorem ggX0_fewestDays_X0_goOnByFewest : GoodIn wsX0_fewestDays wsX0_goOnByFewest := goodIn_r _ [19, 20, 1, 21, 22, 23, 24, 2, 10, 25, 26, 27, 28, 13, 14, 8, 15, 29, 30, 31, 32, 33, 34, 35, 36, 37, 38, 39, 40, 41, 42, 43, 44, 45, 46, 47, 48, 49, 50, 51, 52, 53, 54, 55, 56, 57, 58, 59, 60, 61, 62, 63, 64, 65, 66, 67, 68, 69, 70, 71, 72, 73, 74, 75, 76, 77, 78, 79, 80, 81, 82, 83, 84] (by decide +kernel) (by decide +kernel)
set_option maxRecDepth 20000 in
theorem gX0_fewestDays_X0_goOnByFewest : GoodIn wsX0_fewestDays (wsV RX0 39 RX0 yX0_goOnByFewest wsX0_goOnByFewest) := goodIn_app (goodIn_of _ (by decide +kernel)) ggX0_fewestDays_X0_goOnByFewest
theorem dX0_fewestDays_0 : decode cX0_fewestDays 0 = .ok (.aload_n 0, 1) := by decide +kernel
theorem dX0_fewestDays_1 : decode cX0_fewestDays 1 = .ok (.aload_n 1, 1) := by decide +kernel
theorem dX0_fewestDays_2 : decode cX0_fewestDays 2 = .ok (.iload_n 2, 1) := by decide +kernel
theorem dX0_fewestDays_3 : decode cX0_fewestDays 3 = .ok (.ldc2_w 24, 3) := by decide +kernel
theorem dX0_fewestDays_6 : decode cX0_fewestDays 6 = .ok (.lconst 0, 1) := by decide +kernel
theorem dX0_fewestDays_7 : decode cX0_fewestDays 7 = .ok (.invokevirtual 26, 3) := by decide +kernel
theorem dX0_fewestDays_10 : decode cX0_fewestDays 10 = .ok (.iconst 0, 1) := by decide +kernel
theorem dX0_fewestDays_11 : decode cX0_fewestDays 11 = .ok (.istore 4, 2) := by decide +kernel
theorem dX0_fewestDays_13 : decode cX0_fewestDays 13 = .ok (.iload 4, 2) := by decide +kernel
theorem dX0_fewestDays_15 : decode cX0_fewestDays 15 = .ok (.bipush 30, 2) := by decide +kernel
theorem dX0_fewestDays_17 : decode cX0_fewestDays 17 = .ok (.if_icmp .gt 49, 3) := by decide +kernel
theorem dX0_fewestDays_20 : decode cX0_fewestDays 20 = .ok (.aload_n 0, 1) := by decide +kernel
theorem dX0_fewestDays_21 : decode cX0_fewestDays 21 = .ok (.getfield 9, 3) := by decide +kernel
theorem dX0_fewestDays_24 : decode cX0_fewestDays 24 = .ok (.iload_n 3, 1) := by decide +kernel
theorem dX0_fewestDays_25 : decode cX0_fewestDays 25 = .ok (.laload, 1) := by decide +kernel
theorem dX0_fewestDays_26 : decode cX0_fewestDays 26 = .ok (.ldc2_w 24, 3) := by decide +kernel
theorem dX0_fewestDays_29 : decode cX0_fewestDays 29 = .ok (.lcmp, 1) := by decide +kernel
theorem dX0_fewestDays_30 : decode cX0_fewestDays 30 = .ok (.ifCond .ge 17, 3) := by decide +kernel
theorem dX0_fewestDays_33 : decode cX0_fewestDays 33 = .ok (.aload_n 0, 1) := by decide +kernel
theorem dX0_fewestDays_34 : decode cX0_fewestDays 34 = .ok (.aload_n 0, 1) := by decide +kernel
theorem dX0_fewestDays_35 : decode cX0_fewestDays 35 = .ok (.getfield 9, 3) := by decide +kernel
theorem dX0_fewestDays_38 : decode cX0_fewestDays 38 = .ok (.iload_n 3, 1) := by decide +kernel
theorem dX0_fewestDays_39 : decode cX0_fewestDays 39 = .ok (.laload, 1) := by decide +kernel
theorem dX0_fewestDays_40 : decode cX0_fewestDays 40 = .ok (.l2i, 1) := by decide +kernel
theorem dX0_fewestDays_41 : decode cX0_fewestDays 41 = .ok (.putfield 30, 3) := by decide +kernel
theorem dX0_fewestDays_44 : decode cX0_fewestDays 44 = .ok (.iload 4, 2) := by decide +kernel
theorem dX0_fewestDays_46 : decode cX0_fewestDays 46 = .ok (.ireturn, 1) := by decide +kernel
theorem dX0_fewestDays_47 : decode cX0_fewestDays 47 = .ok (.aload_n 0, 1) := by decide +kernel
theorem dX0_fewestDays_48 : decode cX0_fewestDays 48 = .ok (.aload_n 1, 1) := by decide +kernel
theorem dX0_fewestDays_49 : decode cX0_fewestDays 49 = .ok (.iload_n 2, 1) := by decide +kernel
theorem dX0_fewestDays_50 : decode cX0_fewestDays 50 = .ok (.aload_n 1, 1) := by decide +kernel
theorem dX0_fewestDays_51 : decode cX0_fewestDays 51 = .ok (.getfield 34, 3) := by decide +kernel
theorem dX0_fewestDays_54 : decode cX0_fewestDays 54 = .ok (.iload 4, 2) := by decide +kernel
theorem dX0_fewestDays_56 : decode cX0_fewestDays 56 = .ok (.iadd, 1) := by decide +kernel
theorem dX0_fewestDays_57 : decode cX0_fewestDays 57 = .ok (.invokevirtual 39, 3) := by decide +kernel
theorem dX0_fewestDays_60 : decode cX0_fewestDays 60 = .ok (.iinc 4 1, 3) := by decide +kernel
theorem dX0_fewestDays_63 : decode cX0_fewestDays 63 = .ok (.goto (-50), 3) := by decide +kernel
theorem dX0_fewestDays_66 : decode cX0_fewestDays 66 = .ok (.iconst (-1), 1) := by decide +kernel
theorem dX0_fewestDays_67 : decode cX0_fewestDays 67 = .ok (.ireturn, 1) := by decide +kernel
set_option maxRecDepth 20000 in
theorem ggX0_chanceOfTens_X0_setOut : GoodIn wsX0_chanceOfTens wsX0_setOut := goodIn_r _ [7, 2, 8, 9, 10, 11, 12, 6, 13, 76, 77, 78, 79, 80, 61, 62, 63, 64, 65, 66, 67, 68, 69, 70, 71, 72, 73, 74, 75] (by decide +kernel) (by decide +kernel)
set_option maxRecDepth 20000 in
theorem gX0_chanceOfTens_X0_setOut : GoodIn wsX0_chanceOfTens (wsV RX0 26 RX0 yX0_setOut wsX0_setOut) := goodIn_app (goodIn_of _ (by decide +kernel)) ggX0_chanceOfTens_X0_setOut
set_option maxRecDepth 20000 in
theorem ggX0_chanceOfTens_X0_goOnByChance : GoodIn wsX0_chanceOfTens wsX0_goOnByChance := goodIn_r _ [17, 18, 19, 20, 21, 22, 2, 8, 23, 11, 12, 6, 13, 24, 25, 26, 27, 28, 29, 30, 31, 32, 33, 34, 35, 36, 37, 38, 39, 40, 41, 42, 43, 44, 45, 46, 47, 48, 49, 50, 51, 52, 53, 54, 55, 56, 57, 58, 59, 60, 76, 77, 78, 79, 80, 61, 62, 63, 64, 65, 66, 67, 68, 69, 70, 71, 72, 73, 74, 75] (by decide +kernel) (by decide +kernel)
set_option maxRecDepth 20000 in
theorem gX0_chanceOfTens_X0_goOnByChance : GoodIn wsX0_chanceOfTens (wsV RX0 43 RX0 yX0_goOnByChance wsX0_goOnByChance) := goodIn_app (goodIn_of _ (by decide +kernel)) ggX0_chanceOfTens_X0_goOnByChance
theorem dX0_chanceOfTens_0 : decode cX0_chanceOfTens 0 = .ok (.aload_n 0, 1) := by decide +kernel
theorem dX0_chanceOfTens_1 : decode cX0_chanceOfTens 1 = .ok (.aload_n 1, 1) := by decide +kernel
theorem dX0_chanceOfTens_2 : decode cX0_chanceOfTens 2 = .ok (.iload_n 2, 1) := by decide +kernel
theorem dX0_chanceOfTens_3 : decode cX0_chanceOfTens 3 = .ok (.lconst 0, 1) := by decide +kernel
theorem dX0_chanceOfTens_4 : decode cX0_chanceOfTens 4 = .ok (.lconst 1, 1) := by decide +kernel
theorem dX0_chanceOfTens_5 : decode cX0_chanceOfTens 5 = .ok (.invokevirtual 26, 3) := by decide +kernel
theorem dX0_chanceOfTens_8 : decode cX0_chanceOfTens 8 = .ok (.iconst 0, 1) := by decide +kernel
theorem dX0_chanceOfTens_9 : decode cX0_chanceOfTens 9 = .ok (.istore 6, 2) := by decide +kernel
theorem dX0_chanceOfTens_11 : decode cX0_chanceOfTens 11 = .ok (.iload 6, 2) := by decide +kernel
theorem dX0_chanceOfTens_13 : decode cX0_chanceOfTens 13 = .ok (.iload 4, 2) := by decide +kernel
theorem dX0_chanceOfTens_15 : decode cX0_chanceOfTens 15 = .ok (.if_icmp .ge 24, 3) := by decide +kernel
theorem dX0_chanceOfTens_18 : decode cX0_chanceOfTens 18 = .ok (.aload_n 0, 1) := by decide +kernel
theorem dX0_chanceOfTens_19 : decode cX0_chanceOfTens 19 = .ok (.aload_n 1, 1) := by decide +kernel
theorem dX0_chanceOfTens_20 : decode cX0_chanceOfTens 20 = .ok (.iload_n 2, 1) := by decide +kernel
theorem dX0_chanceOfTens_21 : decode cX0_chanceOfTens 21 = .ok (.aload_n 1, 1) := by decide +kernel
theorem dX0_chanceOfTens_22 : decode cX0_chanceOfTens 22 = .ok (.getfield 34, 3) := by decide +kernel
theorem dX0_chanceOfTens_25 : decode cX0_chanceOfTens 25 = .ok (.iload 6, 2) := by decide +kernel
theorem dX0_chanceOfTens_27 : decode cX0_chanceOfTens 27 = .ok (.iadd, 1) := by decide +kernel
theorem dX0_chanceOfTens_28 : decode cX0_chanceOfTens 28 = .ok (.iload 5, 2) := by decide +kernel
theorem dX0_chanceOfTens_30 : decode cX0_chanceOfTens 30 = .ok (.invokevirtual 43, 3) := by decide +kernel
theorem dX0_chanceOfTens_33 : decode cX0_chanceOfTens 33 = .ok (.iinc 6 1, 3) := by decide +kernel
theorem dX0_chanceOfTens_36 : decode cX0_chanceOfTens 36 = .ok (.goto (-25), 3) := by decide +kernel
theorem dX0_chanceOfTens_39 : decode cX0_chanceOfTens 39 = .ok (.aload_n 0, 1) := by decide +kernel
theorem dX0_chanceOfTens_40 : decode cX0_chanceOfTens 40 = .ok (.getfield 9, 3) := by decide +kernel
theorem dX0_chanceOfTens_43 : decode cX0_chanceOfTens 43 = .ok (.iload_n 3, 1) := by decide +kernel
theorem dX0_chanceOfTens_44 : decode cX0_chanceOfTens 44 = .ok (.laload, 1) := by decide +kernel
theorem dX0_chanceOfTens_45 : decode cX0_chanceOfTens 45 = .ok (.lreturn, 1) := by decide +kernel
set_option maxRecDepth 20000 in
theorem ggX0_setOut_X0_fill : GoodIn wsX0_setOut wsX0_fill := goodIn_r _ [8] (by decide +kernel) (by decide +kernel)
set_option maxRecDepth 20000 in
theorem gX0_setOut_X0_fill : GoodIn wsX0_setOut (va_wsS RX0 47 yX0_fill wsX0_fill) := goodIn_app (goodIn_of _ (by decide +kernel)) ggX0_setOut_X0_fill
theorem dX0_setOut_0 : decode cX0_setOut 0 = .ok (.aload_n 0, 1) := by decide +kernel
theorem dX0_setOut_1 : decode cX0_setOut 1 = .ok (.getfield 9, 3) := by decide +kernel
theorem dX0_setOut_4 : decode cX0_setOut 4 = .ok (.lload_n 3, 1) := by decide +kernel
theorem dX0_setOut_5 : decode cX0_setOut 5 = .ok (.invokestatic 47, 3) := by decide +kernel
theorem dX0_setOut_8 : decode cX0_setOut 8 = .ok (.aload_n 0, 1) := by decide +kernel
theorem dX0_setOut_9 : decode cX0_setOut 9 = .ok (.getfield 15, 3) := by decide +kernel
theorem dX0_setOut_12 : decode cX0_setOut 12 = .ok (.lload_n 3, 1) := by decide +kernel
theorem dX0_setOut_13 : decode cX0_setOut 13 = .ok (.invokestatic 47, 3) := by decide +kernel
theorem dX0_setOut_16 : decode cX0_setOut 16 = .ok (.aload_n 1, 1) := by decide +kernel
theorem dX0_setOut_17 : decode cX0_setOut 17 = .ok (.getfield 51, 3) := by decide +kernel
theorem dX0_setOut_20 : decode cX0_setOut 20 = .ok (.iload_n 2, 1) := by decide +kernel
theorem dX0_setOut_21 : decode cX0_setOut 21 = .ok (.iaload, 1) := by decide +kernel
theorem dX0_setOut_22 : decode cX0_setOut 22 = .ok (.ifCond .ne 19, 3) := by decide +kernel
theorem dX0_setOut_25 : decode cX0_setOut 25 = .ok (.aload_n 0, 1) := by decide +kernel
theorem dX0_setOut_26 : decode cX0_setOut 26 = .ok (.getfield 9, 3) := by decide +kernel
theorem dX0_setOut_29 : decode cX0_setOut 29 = .ok (.aload_n 1, 1) := by decide +kernel
theorem dX0_setOut_30 : decode cX0_setOut 30 = .ok (.getfield 55, 3) := by decide +kernel
theorem dX0_setOut_33 : decode cX0_setOut 33 = .ok (.iload_n 2, 1) := by decide +kernel
theorem dX0_setOut_34 : decode cX0_setOut 34 = .ok (.iaload, 1) := by decide +kernel
theorem dX0_setOut_35 : decode cX0_setOut 35 = .ok (.lload 5, 2) := by decide +kernel
theorem dX0_setOut_37 : decode cX0_setOut 37 = .ok (.lastore, 1) := by decide +kernel
theorem dX0_setOut_38 : decode cX0_setOut 38 = .ok (.goto 16, 3) := by decide +kernel
theorem dX0_setOut_41 : decode cX0_setOut 41 = .ok (.aload_n 0, 1) := by decide +kernel
theorem dX0_setOut_42 : decode cX0_setOut 42 = .ok (.getfield 15, 3) := by decide +kernel
theorem dX0_setOut_45 : decode cX0_setOut 45 = .ok (.aload_n 1, 1) := by decide +kernel
theorem dX0_setOut_46 : decode cX0_setOut 46 = .ok (.getfield 55, 3) := by decide +kernel
theorem dX0_setOut_49 : decode cX0_setOut 49 = .ok (.iload_n 2, 1) := by decide +kernel
theorem dX0_setOut_50 : decode cX0_setOut 50 = .ok (.iaload, 1) := by decide +kernel
theorem dX0_setOut_51 : decode cX0_setOut 51 = .ok (.lload 5, 2) := by decide +kernel
theorem dX0_setOut_53 : decode cX0_setOut 53 = .ok (.lastore, 1) := by decide +kernel
theorem dX0_setOut_54 : decode cX0_setOut 54 = .ok (.return_, 1) := by decide +kernel
set_option maxRecDepth 20000 in
theorem ggX0_goOnByFewest_X0_fill : GoodIn wsX0_goOnByFewest wsX0_fill := goodIn_r _ [16] (by decide +kernel) (by decide +kernel)
set_option maxRecDepth 20000 in
theorem gX0_goOnByFewest_X0_fill : GoodIn wsX0_goOnByFewest (va_wsS RX0 47 yX0_fill wsX0_fill) := goodIn_app (goodIn_of _ (by decide +kernel)) ggX0_goOnByFewest_X0_fill
set_option maxRecDepth 20000 in
theorem ggX0_goOnByFewest_X5_goesTo : GoodIn wsX0_goOnByFewest wsX5_goesTo := goodIn_r _ [21, 22, 23, 24, 25, 20, 26, 27, 28, 29, 30, 31, 32, 11, 33, 34, 35, 36, 37, 38, 39, 40, 41, 42, 43, 44, 58, 59, 60, 61, 62, 63, 64, 65, 66, 67, 68, 69, 70, 71, 72] (by decide +kernel) (by decide +kernel)
set_option maxRecDepth 20000 in
theorem gX0_goOnByFewest_X5_goesTo : GoodIn wsX0_goOnByFewest (wsV RX0 67 RX5 yX5_goesTo wsX5_goesTo) := goodIn_app (goodIn_of _ (by decide +kernel)) ggX0_goOnByFewest_X5_goesTo
set_option maxRecDepth 20000 in
theorem ggX0_goOnByFewest_X0_takeNext : GoodIn wsX0_goOnByFewest wsX0_takeNext := goodIn_r _ [48, 1, 7, 49, 50, 51, 52, 3, 8, 53, 54, 55, 56, 57] (by decide +kernel) (by decide +kernel)
set_option maxRecDepth 20000 in
theorem gX0_goOnByFewest_X0_takeNext : GoodIn wsX0_goOnByFewest (wsV RX0 77 RX0 yX0_takeNext wsX0_takeNext) := goodIn_app (goodIn_of _ (by decide +kernel)) ggX0_goOnByFewest_X0_takeNext
theorem dX0_goOnByFewest_0 : decode cX0_goOnByFewest 0 = .ok (.aload_n 0, 1) := by decide +kernel
theorem dX0_goOnByFewest_1 : decode cX0_goOnByFewest 1 = .ok (.getfield 18, 3) := by decide +kernel
theorem dX0_goOnByFewest_4 : decode cX0_goOnByFewest 4 = .ok (.ldc2_w 24, 3) := by decide +kernel
theorem dX0_goOnByFewest_7 : decode cX0_goOnByFewest 7 = .ok (.invokestatic 47, 3) := by decide +kernel
theorem dX0_goOnByFewest_10 : decode cX0_goOnByFewest 10 = .ok (.aload_n 0, 1) := by decide +kernel
theorem dX0_goOnByFewest_11 : decode cX0_goOnByFewest 11 = .ok (.getfield 21, 3) := by decide +kernel
theorem dX0_goOnByFewest_14 : decode cX0_goOnByFewest 14 = .ok (.ldc2_w 24, 3) := by decide +kernel
theorem dX0_goOnByFewest_17 : decode cX0_goOnByFewest 17 = .ok (.invokestatic 47, 3) := by decide +kernel
theorem dX0_goOnByFewest_20 : decode cX0_goOnByFewest 20 = .ok (.iconst 0, 1) := by decide +kernel
theorem dX0_goOnByFewest_21 : decode cX0_goOnByFewest 21 = .ok (.istore 4, 2) := by decide +kernel
theorem dX0_goOnByFewest_23 : decode cX0_goOnByFewest 23 = .ok (.iload 4, 2) := by decide +kernel
theorem dX0_goOnByFewest_25 : decode cX0_goOnByFewest 25 = .ok (.aload_n 1, 1) := by decide +kernel
theorem dX0_goOnByFewest_26 : decode cX0_goOnByFewest 26 = .ok (.getfield 58, 3) := by decide +kernel
theorem dX0_goOnByFewest_29 : decode cX0_goOnByFewest 29 = .ok (.if_icmp .ge 122, 3) := by decide +kernel
theorem dX0_goOnByFewest_32 : decode cX0_goOnByFewest 32 = .ok (.aload_n 1, 1) := by decide +kernel
theorem dX0_goOnByFewest_33 : decode cX0_goOnByFewest 33 = .ok (.aload_n 1, 1) := by decide +kernel
theorem dX0_goOnByFewest_34 : decode cX0_goOnByFewest 34 = .ok (.getfield 61, 3) := by decide +kernel
theorem dX0_goOnByFewest_37 : decode cX0_goOnByFewest 37 = .ok (.iload_n 2, 1) := by decide +kernel
theorem dX0_goOnByFewest_38 : decode cX0_goOnByFewest 38 = .ok (.iaload, 1) := by decide +kernel
theorem dX0_goOnByFewest_39 : decode cX0_goOnByFewest 39 = .ok (.aload_n 1, 1) := by decide +kernel
theorem dX0_goOnByFewest_40 : decode cX0_goOnByFewest 40 = .ok (.getfield 64, 3) := by decide +kernel
theorem dX0_goOnByFewest_43 : decode cX0_goOnByFewest 43 = .ok (.iload_n 2, 1) := by decide +kernel
theorem dX0_goOnByFewest_44 : decode cX0_goOnByFewest 44 = .ok (.iaload, 1) := by decide +kernel
theorem dX0_goOnByFewest_45 : decode cX0_goOnByFewest 45 = .ok (.iload 4, 2) := by decide +kernel
theorem dX0_goOnByFewest_47 : decode cX0_goOnByFewest 47 = .ok (.iload_n 3, 1) := by decide +kernel
theorem dX0_goOnByFewest_48 : decode cX0_goOnByFewest 48 = .ok (.invokevirtual 67, 3) := by decide +kernel
theorem dX0_goOnByFewest_51 : decode cX0_goOnByFewest 51 = .ok (.istore 5, 2) := by decide +kernel
theorem dX0_goOnByFewest_53 : decode cX0_goOnByFewest 53 = .ok (.aload_n 0, 1) := by decide +kernel
theorem dX0_goOnByFewest_54 : decode cX0_goOnByFewest 54 = .ok (.getfield 9, 3) := by decide +kernel
theorem dX0_goOnByFewest_57 : decode cX0_goOnByFewest 57 = .ok (.iload 4, 2) := by decide +kernel
theorem dX0_goOnByFewest_59 : decode cX0_goOnByFewest 59 = .ok (.laload, 1) := by decide +kernel
theorem dX0_goOnByFewest_60 : decode cX0_goOnByFewest 60 = .ok (.lconst 1, 1) := by decide +kernel
theorem dX0_goOnByFewest_61 : decode cX0_goOnByFewest 61 = .ok (.ladd, 1) := by decide +kernel
theorem dX0_goOnByFewest_62 : decode cX0_goOnByFewest 62 = .ok (.aload_n 0, 1) := by decide +kernel
theorem dX0_goOnByFewest_63 : decode cX0_goOnByFewest 63 = .ok (.getfield 15, 3) := by decide +kernel
theorem dX0_goOnByFewest_66 : decode cX0_goOnByFewest 66 = .ok (.iload 4, 2) := by decide +kernel
theorem dX0_goOnByFewest_68 : decode cX0_goOnByFewest 68 = .ok (.laload, 1) := by decide +kernel
theorem dX0_goOnByFewest_69 : decode cX0_goOnByFewest 69 = .ok (.invokestatic 71, 3) := by decide +kernel
theorem dX0_goOnByFewest_72 : decode cX0_goOnByFewest 72 = .ok (.lstore 6, 2) := by decide +kernel
theorem dX0_goOnByFewest_74 : decode cX0_goOnByFewest 74 = .ok (.aload_n 0, 1) := by decide +kernel
theorem dX0_goOnByFewest_75 : decode cX0_goOnByFewest 75 = .ok (.getfield 18, 3) := by decide +kernel
theorem dX0_goOnByFewest_78 : decode cX0_goOnByFewest 78 = .ok (.iload 4, 2) := by decide +kernel
theorem dX0_goOnByFewest_80 : decode cX0_goOnByFewest 80 = .ok (.aload_n 0, 1) := by decide +kernel
theorem dX0_goOnByFewest_81 : decode cX0_goOnByFewest 81 = .ok (.getfield 18, 3) := by decide +kernel
theorem dX0_goOnByFewest_84 : decode cX0_goOnByFewest 84 = .ok (.iload 4, 2) := by decide +kernel
theorem dX0_goOnByFewest_86 : decode cX0_goOnByFewest 86 = .ok (.laload, 1) := by decide +kernel
theorem dX0_goOnByFewest_87 : decode cX0_goOnByFewest 87 = .ok (.aload_n 0, 1) := by decide +kernel
theorem dX0_goOnByFewest_88 : decode cX0_goOnByFewest 88 = .ok (.getfield 9, 3) := by decide +kernel
theorem dX0_goOnByFewest_91 : decode cX0_goOnByFewest 91 = .ok (.iload 4, 2) := by decide +kernel
theorem dX0_goOnByFewest_93 : decode cX0_goOnByFewest 93 = .ok (.laload, 1) := by decide +kernel
theorem dX0_goOnByFewest_94 : decode cX0_goOnByFewest 94 = .ok (.invokestatic 71, 3) := by decide +kernel
theorem dX0_goOnByFewest_97 : decode cX0_goOnByFewest 97 = .ok (.lastore, 1) := by decide +kernel
theorem dX0_goOnByFewest_98 : decode cX0_goOnByFewest 98 = .ok (.iload 5, 2) := by decide +kernel
theorem dX0_goOnByFewest_100 : decode cX0_goOnByFewest 100 = .ok (.iconst (-1), 1) := by decide +kernel
theorem dX0_goOnByFewest_101 : decode cX0_goOnByFewest 101 = .ok (.if_icmp .ne 25, 3) := by decide +kernel
theorem dX0_goOnByFewest_104 : decode cX0_goOnByFewest 104 = .ok (.aload_n 0, 1) := by decide +kernel
theorem dX0_goOnByFewest_105 : decode cX0_goOnByFewest 105 = .ok (.getfield 21, 3) := by decide +kernel
theorem dX0_goOnByFewest_108 : decode cX0_goOnByFewest 108 = .ok (.iload 4, 2) := by decide +kernel
theorem dX0_goOnByFewest_110 : decode cX0_goOnByFewest 110 = .ok (.aload_n 0, 1) := by decide +kernel
theorem dX0_goOnByFewest_111 : decode cX0_goOnByFewest 111 = .ok (.getfield 21, 3) := by decide +kernel
theorem dX0_goOnByFewest_114 : decode cX0_goOnByFewest 114 = .ok (.iload 4, 2) := by decide +kernel
theorem dX0_goOnByFewest_116 : decode cX0_goOnByFewest 116 = .ok (.laload, 1) := by decide +kernel
theorem dX0_goOnByFewest_117 : decode cX0_goOnByFewest 117 = .ok (.lload 6, 2) := by decide +kernel
theorem dX0_goOnByFewest_119 : decode cX0_goOnByFewest 119 = .ok (.invokestatic 71, 3) := by decide +kernel
theorem dX0_goOnByFewest_122 : decode cX0_goOnByFewest 122 = .ok (.lastore, 1) := by decide +kernel
theorem dX0_goOnByFewest_123 : decode cX0_goOnByFewest 123 = .ok (.goto 22, 3) := by decide +kernel
theorem dX0_goOnByFewest_126 : decode cX0_goOnByFewest 126 = .ok (.aload_n 0, 1) := by decide +kernel
theorem dX0_goOnByFewest_127 : decode cX0_goOnByFewest 127 = .ok (.getfield 18, 3) := by decide +kernel
theorem dX0_goOnByFewest_130 : decode cX0_goOnByFewest 130 = .ok (.iload 5, 2) := by decide +kernel
theorem dX0_goOnByFewest_132 : decode cX0_goOnByFewest 132 = .ok (.aload_n 0, 1) := by decide +kernel
theorem dX0_goOnByFewest_133 : decode cX0_goOnByFewest 133 = .ok (.getfield 18, 3) := by decide +kernel
theorem dX0_goOnByFewest_136 : decode cX0_goOnByFewest 136 = .ok (.iload 5, 2) := by decide +kernel
theorem dX0_goOnByFewest_138 : decode cX0_goOnByFewest 138 = .ok (.laload, 1) := by decide +kernel
theorem dX0_goOnByFewest_139 : decode cX0_goOnByFewest 139 = .ok (.lload 6, 2) := by decide +kernel
theorem dX0_goOnByFewest_141 : decode cX0_goOnByFewest 141 = .ok (.invokestatic 71, 3) := by decide +kernel
theorem dX0_goOnByFewest_144 : decode cX0_goOnByFewest 144 = .ok (.lastore, 1) := by decide +kernel
theorem dX0_goOnByFewest_145 : decode cX0_goOnByFewest 145 = .ok (.iinc 4 1, 3) := by decide +kernel
theorem dX0_goOnByFewest_148 : decode cX0_goOnByFewest 148 = .ok (.goto (-125), 3) := by decide +kernel
theorem dX0_goOnByFewest_151 : decode cX0_goOnByFewest 151 = .ok (.aload_n 0, 1) := by decide +kernel
theorem dX0_goOnByFewest_152 : decode cX0_goOnByFewest 152 = .ok (.invokevirtual 77, 3) := by decide +kernel
theorem dX0_goOnByFewest_155 : decode cX0_goOnByFewest 155 = .ok (.return_, 1) := by decide +kernel
set_option maxRecDepth 20000 in
theorem ggX0_goOnByChance_X0_fill : GoodIn wsX0_goOnByChance wsX0_fill := goodIn_r _ [12] (by decide +kernel) (by decide +kernel)
set_option maxRecDepth 20000 in
theorem gX0_goOnByChance_X0_fill : GoodIn wsX0_goOnByChance (va_wsS RX0 47 yX0_fill wsX0_fill) := goodIn_app (goodIn_of _ (by decide +kernel)) ggX0_goOnByChance_X0_fill
set_option maxRecDepth 20000 in
theorem ggX0_goOnByChance_X5_goesTo : GoodIn wsX0_goOnByChance wsX5_goesTo := goodIn_r _ [17, 18, 19, 20, 21, 16, 22, 23, 24, 25, 26, 27, 28, 29, 30, 31, 32, 33, 34, 35, 36, 37, 38, 39, 40, 41, 55, 56, 57, 58, 59, 60, 61, 62, 63, 64, 65, 66, 67, 68, 69] (by decide +kernel) (by decide +kernel)
set_option maxRecDepth 20000 in
theorem gX0_goOnByChance_X5_goesTo : GoodIn wsX0_goOnByChance (wsV RX0 67 RX5 yX5_goesTo wsX5_goesTo) := goodIn_app (goodIn_of _ (by decide +kernel)) ggX0_goOnByChance_X5_goesTo
set_option maxRecDepth 20000 in
theorem ggX0_goOnByChance_X0_takeNext : GoodIn wsX0_goOnByChance wsX0_takeNext := goodIn_r _ [45, 1, 6, 46, 47, 48, 49, 2, 7, 50, 51, 52, 53, 54] (by decide +kernel) (by decide +kernel)
set_option maxRecDepth 20000 in
theorem gX0_goOnByChance_X0_takeNext : GoodIn wsX0_goOnByChance (wsV RX0 77 RX0 yX0_takeNext wsX0_takeNext) := goodIn_app (goodIn_of _ (by decide +kernel)) ggX0_goOnByChance_X0_takeNext
theorem dX0_goOnByChance_0 : decode cX0_goOnByChance 0 = .ok (.aload_n 0, 1) := by decide +kernel
theorem dX0_goOnByChance_1 : decode cX0_goOnByChance 1 = .ok (.getfield 18, 3) := by decide +kernel
theorem dX0_goOnByChance_4 : decode cX0_goOnByChance 4 = .ok (.lconst 0, 1) := by decide +kernel
theorem dX0_goOnByChance_5 : decode cX0_goOnByChance 5 = .ok (.invokestatic 47, 3) := by decide +kernel
theorem dX0_goOnByChance_8 : decode cX0_goOnByChance 8 = .ok (.aload_n 0, 1) := by decide +kernel
theorem dX0_goOnByChance_9 : decode cX0_goOnByChance 9 = .ok (.getfield 21, 3) := by decide +kernel
theorem dX0_goOnByChance_12 : decode cX0_goOnByChance 12 = .ok (.lconst 0, 1) := by decide +kernel
theorem dX0_goOnByChance_13 : decode cX0_goOnByChance 13 = .ok (.invokestatic 47, 3) := by decide +kernel
theorem dX0_goOnByChance_16 : decode cX0_goOnByChance 16 = .ok (.iconst 0, 1) := by decide +kernel
theorem dX0_goOnByChance_17 : decode cX0_goOnByChance 17 = .ok (.istore 5, 2) := by decide +kernel
theorem dX0_goOnByChance_19 : decode cX0_goOnByChance 19 = .ok (.iload 5, 2) := by decide +kernel
theorem dX0_goOnByChance_21 : decode cX0_goOnByChance 21 = .ok (.aload_n 1, 1) := by decide +kernel
theorem dX0_goOnByChance_22 : decode cX0_goOnByChance 22 = .ok (.getfield 58, 3) := by decide +kernel
theorem dX0_goOnByChance_25 : decode cX0_goOnByChance 25 = .ok (.if_icmp .ge 112, 3) := by decide +kernel
theorem dX0_goOnByChance_28 : decode cX0_goOnByChance 28 = .ok (.aload_n 1, 1) := by decide +kernel
theorem dX0_goOnByChance_29 : decode cX0_goOnByChance 29 = .ok (.aload_n 1, 1) := by decide +kernel
theorem dX0_goOnByChance_30 : decode cX0_goOnByChance 30 = .ok (.getfield 61, 3) := by decide +kernel
theorem dX0_goOnByChance_33 : decode cX0_goOnByChance 33 = .ok (.iload_n 2, 1) := by decide +kernel
theorem dX0_goOnByChance_34 : decode cX0_goOnByChance 34 = .ok (.iaload, 1) := by decide +kernel
theorem dX0_goOnByChance_35 : decode cX0_goOnByChance 35 = .ok (.aload_n 1, 1) := by decide +kernel
theorem dX0_goOnByChance_36 : decode cX0_goOnByChance 36 = .ok (.getfield 64, 3) := by decide +kernel
theorem dX0_goOnByChance_39 : decode cX0_goOnByChance 39 = .ok (.iload_n 2, 1) := by decide +kernel
theorem dX0_goOnByChance_40 : decode cX0_goOnByChance 40 = .ok (.iaload, 1) := by decide +kernel
theorem dX0_goOnByChance_41 : decode cX0_goOnByChance 41 = .ok (.iload 5, 2) := by decide +kernel
theorem dX0_goOnByChance_43 : decode cX0_goOnByChance 43 = .ok (.iload_n 3, 1) := by decide +kernel
theorem dX0_goOnByChance_44 : decode cX0_goOnByChance 44 = .ok (.invokevirtual 67, 3) := by decide +kernel
theorem dX0_goOnByChance_47 : decode cX0_goOnByChance 47 = .ok (.istore 6, 2) := by decide +kernel
theorem dX0_goOnByChance_49 : decode cX0_goOnByChance 49 = .ok (.aload_n 0, 1) := by decide +kernel
theorem dX0_goOnByChance_50 : decode cX0_goOnByChance 50 = .ok (.getfield 9, 3) := by decide +kernel
theorem dX0_goOnByChance_53 : decode cX0_goOnByChance 53 = .ok (.iload 5, 2) := by decide +kernel
theorem dX0_goOnByChance_55 : decode cX0_goOnByChance 55 = .ok (.laload, 1) := by decide +kernel
theorem dX0_goOnByChance_56 : decode cX0_goOnByChance 56 = .ok (.iload 4, 2) := by decide +kernel
theorem dX0_goOnByChance_58 : decode cX0_goOnByChance 58 = .ok (.i2l, 1) := by decide +kernel
theorem dX0_goOnByChance_59 : decode cX0_goOnByChance 59 = .ok (.lmul, 1) := by decide +kernel
theorem dX0_goOnByChance_60 : decode cX0_goOnByChance 60 = .ok (.aload_n 0, 1) := by decide +kernel
theorem dX0_goOnByChance_61 : decode cX0_goOnByChance 61 = .ok (.getfield 15, 3) := by decide +kernel
theorem dX0_goOnByChance_64 : decode cX0_goOnByChance 64 = .ok (.iload 5, 2) := by decide +kernel
theorem dX0_goOnByChance_66 : decode cX0_goOnByChance 66 = .ok (.laload, 1) := by decide +kernel
theorem dX0_goOnByChance_67 : decode cX0_goOnByChance 67 = .ok (.ldc2_w 80, 3) := by decide +kernel
theorem dX0_goOnByChance_70 : decode cX0_goOnByChance 70 = .ok (.lmul, 1) := by decide +kernel
theorem dX0_goOnByChance_71 : decode cX0_goOnByChance 71 = .ok (.ladd, 1) := by decide +kernel
theorem dX0_goOnByChance_72 : decode cX0_goOnByChance 72 = .ok (.lstore 7, 2) := by decide +kernel
theorem dX0_goOnByChance_74 : decode cX0_goOnByChance 74 = .ok (.aload_n 0, 1) := by decide +kernel
theorem dX0_goOnByChance_75 : decode cX0_goOnByChance 75 = .ok (.getfield 18, 3) := by decide +kernel
theorem dX0_goOnByChance_78 : decode cX0_goOnByChance 78 = .ok (.iload 5, 2) := by decide +kernel
theorem dX0_goOnByChance_80 : decode cX0_goOnByChance 80 = .ok (.dup2, 1) := by decide +kernel
theorem dX0_goOnByChance_81 : decode cX0_goOnByChance 81 = .ok (.laload, 1) := by decide +kernel
theorem dX0_goOnByChance_82 : decode cX0_goOnByChance 82 = .ok (.aload_n 0, 1) := by decide +kernel
theorem dX0_goOnByChance_83 : decode cX0_goOnByChance 83 = .ok (.getfield 9, 3) := by decide +kernel
theorem dX0_goOnByChance_86 : decode cX0_goOnByChance 86 = .ok (.iload 5, 2) := by decide +kernel
theorem dX0_goOnByChance_88 : decode cX0_goOnByChance 88 = .ok (.laload, 1) := by decide +kernel
theorem dX0_goOnByChance_89 : decode cX0_goOnByChance 89 = .ok (.bipush 10, 2) := by decide +kernel
theorem dX0_goOnByChance_91 : decode cX0_goOnByChance 91 = .ok (.iload 4, 2) := by decide +kernel
theorem dX0_goOnByChance_93 : decode cX0_goOnByChance 93 = .ok (.isub, 1) := by decide +kernel
theorem dX0_goOnByChance_94 : decode cX0_goOnByChance 94 = .ok (.i2l, 1) := by decide +kernel
theorem dX0_goOnByChance_95 : decode cX0_goOnByChance 95 = .ok (.lmul, 1) := by decide +kernel
theorem dX0_goOnByChance_96 : decode cX0_goOnByChance 96 = .ok (.ladd, 1) := by decide +kernel
theorem dX0_goOnByChance_97 : decode cX0_goOnByChance 97 = .ok (.lastore, 1) := by decide +kernel
theorem dX0_goOnByChance_98 : decode cX0_goOnByChance 98 = .ok (.iload 6, 2) := by decide +kernel
theorem dX0_goOnByChance_100 : decode cX0_goOnByChance 100 = .ok (.iconst (-1), 1) := by decide +kernel
theorem dX0_goOnByChance_101 : decode cX0_goOnByChance 101 = .ok (.if_icmp .ne 18, 3) := by decide +kernel
theorem dX0_goOnByChance_104 : decode cX0_goOnByChance 104 = .ok (.aload_n 0, 1) := by decide +kernel
theorem dX0_goOnByChance_105 : decode cX0_goOnByChance 105 = .ok (.getfield 21, 3) := by decide +kernel
theorem dX0_goOnByChance_108 : decode cX0_goOnByChance 108 = .ok (.iload 5, 2) := by decide +kernel
theorem dX0_goOnByChance_110 : decode cX0_goOnByChance 110 = .ok (.dup2, 1) := by decide +kernel
theorem dX0_goOnByChance_111 : decode cX0_goOnByChance 111 = .ok (.laload, 1) := by decide +kernel
theorem dX0_goOnByChance_112 : decode cX0_goOnByChance 112 = .ok (.lload 7, 2) := by decide +kernel
theorem dX0_goOnByChance_114 : decode cX0_goOnByChance 114 = .ok (.ladd, 1) := by decide +kernel
theorem dX0_goOnByChance_115 : decode cX0_goOnByChance 115 = .ok (.lastore, 1) := by decide +kernel
theorem dX0_goOnByChance_116 : decode cX0_goOnByChance 116 = .ok (.goto 15, 3) := by decide +kernel
theorem dX0_goOnByChance_119 : decode cX0_goOnByChance 119 = .ok (.aload_n 0, 1) := by decide +kernel
theorem dX0_goOnByChance_120 : decode cX0_goOnByChance 120 = .ok (.getfield 18, 3) := by decide +kernel
theorem dX0_goOnByChance_123 : decode cX0_goOnByChance 123 = .ok (.iload 6, 2) := by decide +kernel
theorem dX0_goOnByChance_125 : decode cX0_goOnByChance 125 = .ok (.dup2, 1) := by decide +kernel
theorem dX0_goOnByChance_126 : decode cX0_goOnByChance 126 = .ok (.laload, 1) := by decide +kernel
theorem dX0_goOnByChance_127 : decode cX0_goOnByChance 127 = .ok (.lload 7, 2) := by decide +kernel
theorem dX0_goOnByChance_129 : decode cX0_goOnByChance 129 = .ok (.ladd, 1) := by decide +kernel
theorem dX0_goOnByChance_130 : decode cX0_goOnByChance 130 = .ok (.lastore, 1) := by decide +kernel
theorem dX0_goOnByChance_131 : decode cX0_goOnByChance 131 = .ok (.iinc 5 1, 3) := by decide +kernel
theorem dX0_goOnByChance_134 : decode cX0_goOnByChance 134 = .ok (.goto (-115), 3) := by decide +kernel
theorem dX0_goOnByChance_137 : decode cX0_goOnByChance 137 = .ok (.aload_n 0, 1) := by decide +kernel
theorem dX0_goOnByChance_138 : decode cX0_goOnByChance 138 = .ok (.invokevirtual 77, 3) := by decide +kernel
theorem dX0_goOnByChance_141 : decode cX0_goOnByChance 141 = .ok (.return_, 1) := by decide +kernel
theorem dX0_takeNext_0 : decode cX0_takeNext 0 = .ok (.aload_n 0, 1) := by decide +kernel
theorem dX0_takeNext_1 : decode cX0_takeNext 1 = .ok (.getfield 18, 3) := by decide +kernel
theorem dX0_takeNext_4 : decode cX0_takeNext 4 = .ok (.iconst 0, 1) := by decide +kernel
theorem dX0_takeNext_5 : decode cX0_takeNext 5 = .ok (.aload_n 0, 1) := by decide +kernel
theorem dX0_takeNext_6 : decode cX0_takeNext 6 = .ok (.getfield 9, 3) := by decide +kernel
theorem dX0_takeNext_9 : decode cX0_takeNext 9 = .ok (.iconst 0, 1) := by decide +kernel
theorem dX0_takeNext_10 : decode cX0_takeNext 10 = .ok (.bipush 7, 2) := by decide +kernel
theorem dX0_takeNext_12 : decode cX0_takeNext 12 = .ok (.invokestatic 82, 3) := by decide +kernel
theorem dX0_takeNext_15 : decode cX0_takeNext 15 = .ok (.aload_n 0, 1) := by decide +kernel
theorem dX0_takeNext_16 : decode cX0_takeNext 16 = .ok (.getfield 21, 3) := by decide +kernel
theorem dX0_takeNext_19 : decode cX0_takeNext 19 = .ok (.iconst 0, 1) := by decide +kernel
theorem dX0_takeNext_20 : decode cX0_takeNext 20 = .ok (.aload_n 0, 1) := by decide +kernel
theorem dX0_takeNext_21 : decode cX0_takeNext 21 = .ok (.getfield 15, 3) := by decide +kernel
theorem dX0_takeNext_24 : decode cX0_takeNext 24 = .ok (.iconst 0, 1) := by decide +kernel
theorem dX0_takeNext_25 : decode cX0_takeNext 25 = .ok (.bipush 7, 2) := by decide +kernel
theorem dX0_takeNext_27 : decode cX0_takeNext 27 = .ok (.invokestatic 82, 3) := by decide +kernel
theorem dX0_takeNext_30 : decode cX0_takeNext 30 = .ok (.return_, 1) := by decide +kernel
theorem dX0_fill_0 : decode cX0_fill 0 = .ok (.iconst 0, 1) := by decide +kernel
theorem dX0_fill_1 : decode cX0_fill 1 = .ok (.istore_n 3, 1) := by decide +kernel
theorem dX0_fill_2 : decode cX0_fill 2 = .ok (.iload_n 3, 1) := by decide +kernel
theorem dX0_fill_3 : decode cX0_fill 3 = .ok (.aload_n 0, 1) := by decide +kernel
theorem dX0_fill_4 : decode cX0_fill 4 = .ok (.arraylength, 1) := by decide +kernel
theorem dX0_fill_5 : decode cX0_fill 5 = .ok (.if_icmp .ge 13, 3) := by decide +kernel
theorem dX0_fill_8 : decode cX0_fill 8 = .ok (.aload_n 0, 1) := by decide +kernel
theorem dX0_fill_9 : decode cX0_fill 9 = .ok (.iload_n 3, 1) := by decide +kernel
theorem dX0_fill_10 : decode cX0_fill 10 = .ok (.lload_n 1, 1) := by decide +kernel
theorem dX0_fill_11 : decode cX0_fill 11 = .ok (.lastore, 1) := by decide +kernel
theorem dX0_fill_12 : decode cX0_fill 12 = .ok (.iinc 3 1, 3) := by decide +kernel
theorem dX0_fill_15 : decode cX0_fill 15 = .ok (.goto (-13), 3) := by decide +kernel
theorem dX0_fill_18 : decode cX0_fill 18 = .ok (.return_, 1) := by decide +kernel
theorem dX2_init_0 : decode cX2_init 0 = .ok (.aload_n 0, 1) := by decide +kernel
theorem dX2_init_1 : decode cX2_init 1 = .ok (.invokespecial 3, 3) := by decide +kernel
theorem dX2_init_4 : decode cX2_init 4 = .ok (.aload_n 0, 1) := by decide +kernel
theorem dX2_init_5 : decode cX2_init 5 = .ok (.sipush 150, 3) := by decide +kernel
theorem dX2_init_8 : decode cX2_init 8 = .ok (.newarray .char, 2) := by decide +kernel
theorem dX2_init_10 : decode cX2_init 10 = .ok (.putfield 9, 3) := by decide +kernel
theorem dX2_init_13 : decode cX2_init 13 = .ok (.aload_n 0, 1) := by decide +kernel
theorem dX2_init_14 : decode cX2_init 14 = .ok (.bipush 6, 2) := by decide +kernel
theorem dX2_init_16 : decode cX2_init 16 = .ok (.newarray .int, 2) := by decide +kernel
theorem dX2_init_18 : decode cX2_init 18 = .ok (.putfield 15, 3) := by decide +kernel
theorem dX2_init_21 : decode cX2_init 21 = .ok (.return_, 1) := by decide +kernel
theorem dX2_put_0 : decode cX2_put 0 = .ok (.aload_n 0, 1) := by decide +kernel
theorem dX2_put_1 : decode cX2_put 1 = .ok (.getfield 19, 3) := by decide +kernel
theorem dX2_put_4 : decode cX2_put 4 = .ok (.sipush 150, 3) := by decide +kernel
theorem dX2_put_7 : decode cX2_put 7 = .ok (.if_icmp .lt 4, 3) := by decide +kernel
theorem dX2_put_10 : decode cX2_put 10 = .ok (.return_, 1) := by decide +kernel
theorem dX2_put_11 : decode cX2_put 11 = .ok (.aload_n 0, 1) := by decide +kernel
theorem dX2_put_12 : decode cX2_put 12 = .ok (.getfield 9, 3) := by decide +kernel
theorem dX2_put_15 : decode cX2_put 15 = .ok (.aload_n 0, 1) := by decide +kernel
theorem dX2_put_16 : decode cX2_put 16 = .ok (.getfield 19, 3) := by decide +kernel
theorem dX2_put_19 : decode cX2_put 19 = .ok (.iload_n 1, 1) := by decide +kernel
theorem dX2_put_20 : decode cX2_put 20 = .ok (.castore, 1) := by decide +kernel
theorem dX2_put_21 : decode cX2_put 21 = .ok (.aload_n 0, 1) := by decide +kernel
theorem dX2_put_22 : decode cX2_put 22 = .ok (.dup, 1) := by decide +kernel
theorem dX2_put_23 : decode cX2_put 23 = .ok (.getfield 19, 3) := by decide +kernel
theorem dX2_put_26 : decode cX2_put 26 = .ok (.iconst 1, 1) := by decide +kernel
theorem dX2_put_27 : decode cX2_put 27 = .ok (.iadd, 1) := by decide +kernel
theorem dX2_put_28 : decode cX2_put 28 = .ok (.putfield 19, 3) := by decide +kernel
theorem dX2_put_31 : decode cX2_put 31 = .ok (.return_, 1) := by decide +kernel
set_option maxRecDepth 20000 in
theorem ggX2_tell_X5_empty : GoodIn wsX2_tell wsX5_empty := goodIn_r _ [8, 9, 10, 11, 12, 13, 14, 15, 165, 166, 167, 168, 169, 170, 171, 172, 173, 174, 175, 176, 177, 178, 179, 180, 181, 182, 183] (by decide +kernel) (by decide +kernel)
set_option maxRecDepth 20000 in
theorem gX2_tell_X5_empty : GoodIn wsX2_tell (wsV RX2 23 RX5 yX5_empty wsX5_empty) := goodIn_app (goodIn_of _ (by decide +kernel)) ggX2_tell_X5_empty
set_option maxRecDepth 20000 in
theorem ggX2_tell_X2_toNextToken : GoodIn wsX2_tell wsX2_toNextToken := goodIn_r _ [20, 1, 21, 22, 2, 3, 23, 24, 19, 25, 26, 27, 28, 159, 160, 161, 162, 163, 164] (by decide +kernel) (by decide +kernel)
set_option maxRecDepth 20000 in
theorem gX2_tell_X2_toNextToken : GoodIn wsX2_tell (wsV RX2 31 RX2 yX2_toNextToken wsX2_toNextToken) := goodIn_app (goodIn_of _ (by decide +kernel)) ggX2_tell_X2_toNextToken
set_option maxRecDepth 20000 in
theorem ggX2_tell_X2_isWord : GoodIn wsX2_tell wsX2_isWord := goodIn_r _ [32, 3, 1, 2, 22, 33, 34, 35, 36, 37, 38, 39, 40, 41, 42, 43, 44, 45, 46, 47, 48, 49, 50, 51, 52, 53, 54, 55, 56, 57, 58, 59, 60, 61, 62, 63, 64, 65, 66, 67, 68, 69, 70, 71, 72, 73, 74, 75, 76, 77, 78, 79, 80, 81, 159, 160, 161, 162, 163, 164] (by decide +kernel) (by decide +kernel)
set_option maxRecDepth 20000 in
theorem gX2_tell_X2_isWord : GoodIn wsX2_tell (wsV RX2 36 RX2 yX2_isWord wsX2_isWord) := goodIn_app (goodIn_of _ (by decide +kernel)) ggX2_tell_X2_isWord
set_option maxRecDepth 20000 in
theorem ggX2_tell_X2_itemEnds : GoodIn wsX2_tell wsX2_itemEnds := goodIn_r _ [85, 3, 16, 17, 18, 19, 20, 1, 21, 22, 2, 23, 24, 25, 26, 27, 28, 159, 160, 161, 162, 163, 164] (by decide +kernel) (by decide +kernel)
set_option maxRecDepth 20000 in
theorem gX2_tell_X2_itemEnds : GoodIn wsX2_tell (wsV RX2 40 RX2 yX2_itemEnds wsX2_itemEnds) := goodIn_app (goodIn_of _ (by decide +kernel)) ggX2_tell_X2_itemEnds
set_option maxRecDepth 20000 in
theorem ggX2_tell_X2_personIsTold : GoodIn wsX2_tell wsX2_personIsTold := goodIn_r _ [89, 90, 91, 92, 93, 94, 19, 95, 3, 22, 2, 1, 16, 17, 18, 20, 21, 23, 24, 25, 26, 27, 28, 82, 83, 84, 85, 96, 97, 98, 7, 99, 9, 100, 101, 102, 103, 15, 13, 165, 166, 167, 168, 169, 170, 171, 172, 173, 174, 175, 176, 177, 178, 179, 159, 160, 161, 162, 163, 164, 180, 181, 182, 183] (by decide +kernel) (by decide +kernel)
set_option maxRecDepth 20000 in
theorem gX2_tell_X2_personIsTold : GoodIn wsX2_tell (wsV RX2 52 RX2 yX2_personIsTold wsX2_personIsTold) := goodIn_app (goodIn_of _ (by decide +kernel)) ggX2_tell_X2_personIsTold
set_option maxRecDepth 20000 in
theorem ggX2_tell_X2_coatIsTold : GoodIn wsX2_tell wsX2_coatIsTold := goodIn_r _ [107, 90, 108, 91, 92, 93, 94, 19, 95, 3, 22, 2, 1, 16, 17, 18, 20, 21, 23, 24, 25, 26, 27, 28, 82, 83, 84, 85, 165, 166, 167, 168, 169, 170, 171, 172, 173, 174, 175, 176, 177, 178, 179, 159, 160, 161, 162, 163, 164] (by decide +kernel) (by decide +kernel)
set_option maxRecDepth 20000 in
theorem gX2_tell_X2_coatIsTold : GoodIn wsX2_tell (wsV RX2 58 RX2 yX2_coatIsTold wsX2_coatIsTold) := goodIn_app (goodIn_of _ (by decide +kernel)) ggX2_tell_X2_coatIsTold
set_option maxRecDepth 20000 in
theorem ggX2_tell_X2_thingIsTold : GoodIn wsX2_tell wsX2_thingIsTold := goodIn_r _ [112, 113, 90, 91, 92, 93, 94, 19, 95, 3, 22, 2, 1, 16, 17, 18, 20, 21, 23, 24, 25, 26, 27, 28, 82, 83, 84, 85, 114, 115, 116, 7, 117, 10, 118, 119, 120, 121, 122, 15, 13, 165, 166, 167, 168, 169, 170, 171, 172, 173, 174, 175, 176, 177, 178, 179, 159, 160, 161, 162, 163, 164, 180, 181, 182, 183] (by decide +kernel) (by decide +kernel)
set_option maxRecDepth 20000 in
theorem gX2_tell_X2_thingIsTold : GoodIn wsX2_tell (wsV RX2 63 RX2 yX2_thingIsTold wsX2_thingIsTold) := goodIn_app (goodIn_of _ (by decide +kernel)) ggX2_tell_X2_thingIsTold
set_option maxRecDepth 20000 in
theorem ggX2_tell_X2_lossIsTold : GoodIn wsX2_tell wsX2_lossIsTold := goodIn_r _ [126, 113, 91, 127, 92, 93, 94, 19, 95, 3, 22, 2, 1, 16, 17, 18, 20, 21, 23, 24, 25, 26, 27, 28, 82, 83, 84, 85, 165, 166, 167, 168, 169, 170, 171, 172, 173, 174, 175, 176, 177, 178, 179, 159, 160, 161, 162, 163, 164] (by decide +kernel) (by decide +kernel)
set_option maxRecDepth 20000 in
theorem gX2_tell_X2_lossIsTold : GoodIn wsX2_tell (wsV RX2 68 RX2 yX2_lossIsTold wsX2_lossIsTold) := goodIn_app (goodIn_of _ (by decide +kernel)) ggX2_tell_X2_lossIsTold
set_option maxRecDepth 20000 in
theorem ggX2_tell_X2_daysAreTold : GoodIn wsX2_tell wsX2_daysAreTold := goodIn_r _ [131, 91, 92, 93, 94, 19, 95, 3, 22, 2, 1, 16, 17, 18, 20, 21, 23, 24, 25, 26, 27, 28, 82, 83, 84, 85, 132, 133, 134, 7, 135, 10, 122, 118, 119, 121, 11, 136, 137, 138, 139, 9, 140, 141, 142, 143, 100, 103, 102, 101, 144, 145, 146, 147, 148, 149, 150, 151, 152, 153, 154, 155, 156, 157, 158, 159, 160, 161, 162, 163, 164, 165, 166, 167, 168, 169, 170, 171, 172, 173, 174, 175, 176, 177, 178, 179] (by decide +kernel) (by decide +kernel)
set_option maxRecDepth 20000 in
theorem gX2_tell_X2_daysAreTold : GoodIn wsX2_tell (wsV RX2 73 RX2 yX2_daysAreTold wsX2_daysAreTold) := goodIn_app (goodIn_of _ (by decide +kernel)) ggX2_tell_X2_daysAreTold
theorem dX2_tell_0 : decode cX2_tell 0 = .ok (.aload_n 1, 1) := by decide +kernel
theorem dX2_tell_1 : decode cX2_tell 1 = .ok (.invokevirtual 23, 3) := by decide +kernel
theorem dX2_tell_4 : decode cX2_tell 4 = .ok (.aload_n 0, 1) := by decide +kernel
theorem dX2_tell_5 : decode cX2_tell 5 = .ok (.iconst 0, 1) := by decide +kernel
theorem dX2_tell_6 : decode cX2_tell 6 = .ok (.putfield 28, 3) := by decide +kernel
theorem dX2_tell_9 : decode cX2_tell 9 = .ok (.aload_n 0, 1) := by decide +kernel
theorem dX2_tell_10 : decode cX2_tell 10 = .ok (.invokevirtual 31, 3) := by decide +kernel
theorem dX2_tell_13 : decode cX2_tell 13 = .ok (.aload_n 0, 1) := by decide +kernel
theorem dX2_tell_14 : decode cX2_tell 14 = .ok (.ldc 34, 2) := by decide +kernel
theorem dX2_tell_16 : decode cX2_tell 16 = .ok (.invokevirtual 36, 3) := by decide +kernel
theorem dX2_tell_19 : decode cX2_tell 19 = .ok (.ifCond .eq 10, 3) := by decide +kernel
theorem dX2_tell_22 : decode cX2_tell 22 = .ok (.aload_n 0, 1) := by decide +kernel
theorem dX2_tell_23 : decode cX2_tell 23 = .ok (.invokevirtual 40, 3) := by decide +kernel
theorem dX2_tell_26 : decode cX2_tell 26 = .ok (.ifCond .ne 11, 3) := by decide +kernel
theorem dX2_tell_29 : decode cX2_tell 29 = .ok (.bipush (-10), 2) := by decide +kernel
theorem dX2_tell_31 : decode cX2_tell 31 = .ok (.aload_n 0, 1) := by decide +kernel
theorem dX2_tell_32 : decode cX2_tell 32 = .ok (.getfield 44, 3) := by decide +kernel
theorem dX2_tell_35 : decode cX2_tell 35 = .ok (.isub, 1) := by decide +kernel
theorem dX2_tell_36 : decode cX2_tell 36 = .ok (.ireturn, 1) := by decide +kernel
theorem dX2_tell_37 : decode cX2_tell 37 = .ok (.iconst 1, 1) := by decide +kernel
theorem dX2_tell_38 : decode cX2_tell 38 = .ok (.istore_n 2, 1) := by decide +kernel
theorem dX2_tell_39 : decode cX2_tell 39 = .ok (.iload_n 2, 1) := by decide +kernel
theorem dX2_tell_40 : decode cX2_tell 40 = .ok (.sipush 150, 3) := by decide +kernel
theorem dX2_tell_43 : decode cX2_tell 43 = .ok (.if_icmp .gt 118, 3) := by decide +kernel
theorem dX2_tell_46 : decode cX2_tell 46 = .ok (.aload_n 0, 1) := by decide +kernel
theorem dX2_tell_47 : decode cX2_tell 47 = .ok (.getfield 47, 3) := by decide +kernel
theorem dX2_tell_50 : decode cX2_tell 50 = .ok (.iconst 3, 1) := by decide +kernel
theorem dX2_tell_51 : decode cX2_tell 51 = .ok (.if_icmp .eq 110, 3) := by decide +kernel
theorem dX2_tell_54 : decode cX2_tell 54 = .ok (.iconst 0, 1) := by decide +kernel
theorem dX2_tell_55 : decode cX2_tell 55 = .ok (.istore_n 3, 1) := by decide +kernel
theorem dX2_tell_56 : decode cX2_tell 56 = .ok (.aload_n 0, 1) := by decide +kernel
theorem dX2_tell_57 : decode cX2_tell 57 = .ok (.ldc 50, 2) := by decide +kernel
theorem dX2_tell_59 : decode cX2_tell 59 = .ok (.invokevirtual 36, 3) := by decide +kernel
theorem dX2_tell_62 : decode cX2_tell 62 = .ok (.ifCond .eq 12, 3) := by decide +kernel
theorem dX2_tell_65 : decode cX2_tell 65 = .ok (.aload_n 0, 1) := by decide +kernel
theorem dX2_tell_66 : decode cX2_tell 66 = .ok (.aload_n 1, 1) := by decide +kernel
theorem dX2_tell_67 : decode cX2_tell 67 = .ok (.invokevirtual 52, 3) := by decide +kernel
theorem dX2_tell_70 : decode cX2_tell 70 = .ok (.istore_n 3, 1) := by decide +kernel
theorem dX2_tell_71 : decode cX2_tell 71 = .ok (.goto 72, 3) := by decide +kernel
theorem dX2_tell_74 : decode cX2_tell 74 = .ok (.aload_n 0, 1) := by decide +kernel
theorem dX2_tell_75 : decode cX2_tell 75 = .ok (.ldc 56, 2) := by decide +kernel
theorem dX2_tell_77 : decode cX2_tell 77 = .ok (.invokevirtual 36, 3) := by decide +kernel
theorem dX2_tell_80 : decode cX2_tell 80 = .ok (.ifCond .eq 12, 3) := by decide +kernel
theorem dX2_tell_83 : decode cX2_tell 83 = .ok (.aload_n 0, 1) := by decide +kernel
theorem dX2_tell_84 : decode cX2_tell 84 = .ok (.aload_n 1, 1) := by decide +kernel
theorem dX2_tell_85 : decode cX2_tell 85 = .ok (.invokevirtual 58, 3) := by decide +kernel
theorem dX2_tell_88 : decode cX2_tell 88 = .ok (.istore_n 3, 1) := by decide +kernel
theorem dX2_tell_89 : decode cX2_tell 89 = .ok (.goto 54, 3) := by decide +kernel
theorem dX2_tell_92 : decode cX2_tell 92 = .ok (.aload_n 0, 1) := by decide +kernel
theorem dX2_tell_93 : decode cX2_tell 93 = .ok (.ldc 61, 2) := by decide +kernel
theorem dX2_tell_95 : decode cX2_tell 95 = .ok (.invokevirtual 36, 3) := by decide +kernel
theorem dX2_tell_98 : decode cX2_tell 98 = .ok (.ifCond .eq 12, 3) := by decide +kernel
theorem dX2_tell_101 : decode cX2_tell 101 = .ok (.aload_n 0, 1) := by decide +kernel
theorem dX2_tell_102 : decode cX2_tell 102 = .ok (.aload_n 1, 1) := by decide +kernel
theorem dX2_tell_103 : decode cX2_tell 103 = .ok (.invokevirtual 63, 3) := by decide +kernel
theorem dX2_tell_106 : decode cX2_tell 106 = .ok (.istore_n 3, 1) := by decide +kernel
theorem dX2_tell_107 : decode cX2_tell 107 = .ok (.goto 36, 3) := by decide +kernel
theorem dX2_tell_110 : decode cX2_tell 110 = .ok (.aload_n 0, 1) := by decide +kernel
theorem dX2_tell_111 : decode cX2_tell 111 = .ok (.ldc 66, 2) := by decide +kernel
theorem dX2_tell_113 : decode cX2_tell 113 = .ok (.invokevirtual 36, 3) := by decide +kernel
theorem dX2_tell_116 : decode cX2_tell 116 = .ok (.ifCond .eq 12, 3) := by decide +kernel
theorem dX2_tell_119 : decode cX2_tell 119 = .ok (.aload_n 0, 1) := by decide +kernel
theorem dX2_tell_120 : decode cX2_tell 120 = .ok (.aload_n 1, 1) := by decide +kernel
theorem dX2_tell_121 : decode cX2_tell 121 = .ok (.invokevirtual 68, 3) := by decide +kernel
theorem dX2_tell_124 : decode cX2_tell 124 = .ok (.istore_n 3, 1) := by decide +kernel
theorem dX2_tell_125 : decode cX2_tell 125 = .ok (.goto 18, 3) := by decide +kernel
theorem dX2_tell_128 : decode cX2_tell 128 = .ok (.aload_n 0, 1) := by decide +kernel
theorem dX2_tell_129 : decode cX2_tell 129 = .ok (.ldc 71, 2) := by decide +kernel
theorem dX2_tell_131 : decode cX2_tell 131 = .ok (.invokevirtual 36, 3) := by decide +kernel
theorem dX2_tell_134 : decode cX2_tell 134 = .ok (.ifCond .eq 9, 3) := by decide +kernel
theorem dX2_tell_137 : decode cX2_tell 137 = .ok (.aload_n 0, 1) := by decide +kernel
theorem dX2_tell_138 : decode cX2_tell 138 = .ok (.aload_n 1, 1) := by decide +kernel
theorem dX2_tell_139 : decode cX2_tell 139 = .ok (.invokevirtual 73, 3) := by decide +kernel
theorem dX2_tell_142 : decode cX2_tell 142 = .ok (.istore_n 3, 1) := by decide +kernel
theorem dX2_tell_143 : decode cX2_tell 143 = .ok (.iload_n 3, 1) := by decide +kernel
theorem dX2_tell_144 : decode cX2_tell 144 = .ok (.ifCond .ne 11, 3) := by decide +kernel
theorem dX2_tell_147 : decode cX2_tell 147 = .ok (.bipush (-10), 2) := by decide +kernel
theorem dX2_tell_149 : decode cX2_tell 149 = .ok (.aload_n 0, 1) := by decide +kernel
theorem dX2_tell_150 : decode cX2_tell 150 = .ok (.getfield 44, 3) := by decide +kernel
theorem dX2_tell_153 : decode cX2_tell 153 = .ok (.isub, 1) := by decide +kernel
theorem dX2_tell_154 : decode cX2_tell 154 = .ok (.ireturn, 1) := by decide +kernel
theorem dX2_tell_155 : decode cX2_tell 155 = .ok (.iinc 2 1, 3) := by decide +kernel
theorem dX2_tell_158 : decode cX2_tell 158 = .ok (.goto (-119), 3) := by decide +kernel
theorem dX2_tell_161 : decode cX2_tell 161 = .ok (.iload_n 2, 1) := by decide +kernel
theorem dX2_tell_162 : decode cX2_tell 162 = .ok (.ireturn, 1) := by decide +kernel
set_option maxRecDepth 20000 in
theorem ggX2_personIsTold_X2_number : GoodIn wsX2_personIsTold wsX2_number := goodIn_r _ [7, 8, 9, 10, 11, 2, 12, 13, 14, 6, 15, 16, 17, 18, 19, 20, 21, 22, 54, 55, 56, 57, 58, 59] (by decide +kernel) (by decide +kernel)
set_option maxRecDepth 20000 in
theorem gX2_personIsTold_X2_number : GoodIn wsX2_personIsTold (wsV RX2 79 RX2 yX2_number wsX2_number) := goodIn_app (goodIn_of _ (by decide +kernel)) ggX2_personIsTold_X2_number
set_option maxRecDepth 20000 in
theorem ggX2_personIsTold_X2_itemEnds : GoodIn wsX2_personIsTold wsX2_itemEnds := goodIn_r _ [26, 8, 12, 13, 14, 6, 15, 11, 16, 9, 10, 17, 18, 19, 20, 21, 22, 54, 55, 56, 57, 58, 59] (by decide +kernel) (by decide +kernel)
set_option maxRecDepth 20000 in
theorem gX2_personIsTold_X2_itemEnds : GoodIn wsX2_personIsTold (wsV RX2 40 RX2 yX2_itemEnds wsX2_itemEnds) := goodIn_app (goodIn_of _ (by decide +kernel)) ggX2_personIsTold_X2_itemEnds
set_option maxRecDepth 20000 in
theorem ggX2_personIsTold_X5_addPerson : GoodIn wsX2_personIsTold wsX5_addPerson := goodIn_r _ [31, 32, 33, 34, 35, 36, 37, 38, 39, 40, 41, 42, 43, 44, 45, 46, 47, 48, 49, 50, 51, 52, 53, 60, 61, 62, 63] (by decide +kernel) (by decide +kernel)
set_option maxRecDepth 20000 in
theorem gX2_personIsTold_X5_addPerson : GoodIn wsX2_personIsTold (wsV RX2 83 RX5 yX5_addPerson wsX5_addPerson) := goodIn_app (goodIn_of _ (by decide +kernel)) ggX2_personIsTold_X5_addPerson
theorem dX2_personIsTold_0 : decode cX2_personIsTold 0 = .ok (.aload_n 1, 1) := by decide +kernel
theorem dX2_personIsTold_1 : decode cX2_personIsTold 1 = .ok (.getfield 76, 3) := by decide +kernel
theorem dX2_personIsTold_4 : decode cX2_personIsTold 4 = .ok (.bipush 7, 2) := by decide +kernel
theorem dX2_personIsTold_6 : decode cX2_personIsTold 6 = .ok (.if_icmp .lt 5, 3) := by decide +kernel
theorem dX2_personIsTold_9 : decode cX2_personIsTold 9 = .ok (.iconst 0, 1) := by decide +kernel
theorem dX2_personIsTold_10 : decode cX2_personIsTold 10 = .ok (.ireturn, 1) := by decide +kernel
theorem dX2_personIsTold_11 : decode cX2_personIsTold 11 = .ok (.aload_n 0, 1) := by decide +kernel
theorem dX2_personIsTold_12 : decode cX2_personIsTold 12 = .ok (.iconst 0, 1) := by decide +kernel
theorem dX2_personIsTold_13 : decode cX2_personIsTold 13 = .ok (.iconst 0, 1) := by decide +kernel
theorem dX2_personIsTold_14 : decode cX2_personIsTold 14 = .ok (.iconst 5, 1) := by decide +kernel
theorem dX2_personIsTold_15 : decode cX2_personIsTold 15 = .ok (.invokevirtual 79, 3) := by decide +kernel
theorem dX2_personIsTold_18 : decode cX2_personIsTold 18 = .ok (.ifCond .eq 14, 3) := by decide +kernel
theorem dX2_personIsTold_21 : decode cX2_personIsTold 21 = .ok (.aload_n 0, 1) := by decide +kernel
theorem dX2_personIsTold_22 : decode cX2_personIsTold 22 = .ok (.iconst 1, 1) := by decide +kernel
theorem dX2_personIsTold_23 : decode cX2_personIsTold 23 = .ok (.iconst 0, 1) := by decide +kernel
theorem dX2_personIsTold_24 : decode cX2_personIsTold 24 = .ok (.bipush 19, 2) := by decide +kernel
theorem dX2_personIsTold_26 : decode cX2_personIsTold 26 = .ok (.invokevirtual 79, 3) := by decide +kernel
theorem dX2_personIsTold_29 : decode cX2_personIsTold 29 = .ok (.ifCond .ne 5, 3) := by decide +kernel
theorem dX2_personIsTold_32 : decode cX2_personIsTold 32 = .ok (.iconst 0, 1) := by decide +kernel
theorem dX2_personIsTold_33 : decode cX2_personIsTold 33 = .ok (.ireturn, 1) := by decide +kernel
theorem dX2_personIsTold_34 : decode cX2_personIsTold 34 = .ok (.iconst 0, 1) := by decide +kernel
theorem dX2_personIsTold_35 : decode cX2_personIsTold 35 = .ok (.istore_n 2, 1) := by decide +kernel
theorem dX2_personIsTold_36 : decode cX2_personIsTold 36 = .ok (.iload_n 2, 1) := by decide +kernel
theorem dX2_personIsTold_37 : decode cX2_personIsTold 37 = .ok (.iconst 4, 1) := by decide +kernel
theorem dX2_personIsTold_38 : decode cX2_personIsTold 38 = .ok (.if_icmp .ge 24, 3) := by decide +kernel
theorem dX2_personIsTold_41 : decode cX2_personIsTold 41 = .ok (.aload_n 0, 1) := by decide +kernel
theorem dX2_personIsTold_42 : decode cX2_personIsTold 42 = .ok (.iconst 2, 1) := by decide +kernel
theorem dX2_personIsTold_43 : decode cX2_personIsTold 43 = .ok (.iload_n 2, 1) := by decide +kernel
theorem dX2_personIsTold_44 : decode cX2_personIsTold 44 = .ok (.iadd, 1) := by decide +kernel
theorem dX2_personIsTold_45 : decode cX2_personIsTold 45 = .ok (.iconst 0, 1) := by decide +kernel
theorem dX2_personIsTold_46 : decode cX2_personIsTold 46 = .ok (.bipush 9, 2) := by decide +kernel
theorem dX2_personIsTold_48 : decode cX2_personIsTold 48 = .ok (.invokevirtual 79, 3) := by decide +kernel
theorem dX2_personIsTold_51 : decode cX2_personIsTold 51 = .ok (.ifCond .ne 5, 3) := by decide +kernel
theorem dX2_personIsTold_54 : decode cX2_personIsTold 54 = .ok (.iconst 0, 1) := by decide +kernel
theorem dX2_personIsTold_55 : decode cX2_personIsTold 55 = .ok (.ireturn, 1) := by decide +kernel
theorem dX2_personIsTold_56 : decode cX2_personIsTold 56 = .ok (.iinc 2 1, 3) := by decide +kernel
theorem dX2_personIsTold_59 : decode cX2_personIsTold 59 = .ok (.goto (-23), 3) := by decide +kernel
theorem dX2_personIsTold_62 : decode cX2_personIsTold 62 = .ok (.aload_n 0, 1) := by decide +kernel
theorem dX2_personIsTold_63 : decode cX2_personIsTold 63 = .ok (.invokevirtual 40, 3) := by decide +kernel
theorem dX2_personIsTold_66 : decode cX2_personIsTold 66 = .ok (.ifCond .ne 5, 3) := by decide +kernel
theorem dX2_personIsTold_69 : decode cX2_personIsTold 69 = .ok (.iconst 0, 1) := by decide +kernel
theorem dX2_personIsTold_70 : decode cX2_personIsTold 70 = .ok (.ireturn, 1) := by decide +kernel
theorem dX2_personIsTold_71 : decode cX2_personIsTold 71 = .ok (.aload_n 1, 1) := by decide +kernel
theorem dX2_personIsTold_72 : decode cX2_personIsTold 72 = .ok (.aload_n 0, 1) := by decide +kernel
theorem dX2_personIsTold_73 : decode cX2_personIsTold 73 = .ok (.getfield 15, 3) := by decide +kernel
theorem dX2_personIsTold_76 : decode cX2_personIsTold 76 = .ok (.iconst 0, 1) := by decide +kernel
theorem dX2_personIsTold_77 : decode cX2_personIsTold 77 = .ok (.iaload, 1) := by decide +kernel
theorem dX2_personIsTold_78 : decode cX2_personIsTold 78 = .ok (.aload_n 0, 1) := by decide +kernel
theorem dX2_personIsTold_79 : decode cX2_personIsTold 79 = .ok (.getfield 15, 3) := by decide +kernel
theorem dX2_personIsTold_82 : decode cX2_personIsTold 82 = .ok (.iconst 1, 1) := by decide +kernel
theorem dX2_personIsTold_83 : decode cX2_personIsTold 83 = .ok (.iaload, 1) := by decide +kernel
theorem dX2_personIsTold_84 : decode cX2_personIsTold 84 = .ok (.aload_n 0, 1) := by decide +kernel
theorem dX2_personIsTold_85 : decode cX2_personIsTold 85 = .ok (.getfield 15, 3) := by decide +kernel
theorem dX2_personIsTold_88 : decode cX2_personIsTold 88 = .ok (.iconst 2, 1) := by decide +kernel
theorem dX2_personIsTold_89 : decode cX2_personIsTold 89 = .ok (.iaload, 1) := by decide +kernel
theorem dX2_personIsTold_90 : decode cX2_personIsTold 90 = .ok (.aload_n 0, 1) := by decide +kernel
theorem dX2_personIsTold_91 : decode cX2_personIsTold 91 = .ok (.getfield 15, 3) := by decide +kernel
theorem dX2_personIsTold_94 : decode cX2_personIsTold 94 = .ok (.iconst 3, 1) := by decide +kernel
theorem dX2_personIsTold_95 : decode cX2_personIsTold 95 = .ok (.iaload, 1) := by decide +kernel
theorem dX2_personIsTold_96 : decode cX2_personIsTold 96 = .ok (.aload_n 0, 1) := by decide +kernel
theorem dX2_personIsTold_97 : decode cX2_personIsTold 97 = .ok (.getfield 15, 3) := by decide +kernel
theorem dX2_personIsTold_100 : decode cX2_personIsTold 100 = .ok (.iconst 4, 1) := by decide +kernel
theorem dX2_personIsTold_101 : decode cX2_personIsTold 101 = .ok (.iaload, 1) := by decide +kernel
theorem dX2_personIsTold_102 : decode cX2_personIsTold 102 = .ok (.aload_n 0, 1) := by decide +kernel
theorem dX2_personIsTold_103 : decode cX2_personIsTold 103 = .ok (.getfield 15, 3) := by decide +kernel
theorem dX2_personIsTold_106 : decode cX2_personIsTold 106 = .ok (.iconst 5, 1) := by decide +kernel
theorem dX2_personIsTold_107 : decode cX2_personIsTold 107 = .ok (.iaload, 1) := by decide +kernel
theorem dX2_personIsTold_108 : decode cX2_personIsTold 108 = .ok (.invokevirtual 83, 3) := by decide +kernel
theorem dX2_personIsTold_111 : decode cX2_personIsTold 111 = .ok (.iconst 1, 1) := by decide +kernel
theorem dX2_personIsTold_112 : decode cX2_personIsTold 112 = .ok (.ireturn, 1) := by decide +kernel
set_option maxRecDepth 20000 in
theorem ggX2_coatIsTold_X2_number : GoodIn wsX2_coatIsTold wsX2_number := goodIn_r _ [8, 9, 10, 11, 12, 3, 13, 14, 15, 7, 16, 17, 18, 19, 20, 21, 22, 23, 43, 44, 45, 46, 47, 48] (by decide +kernel) (by decide +kernel)
set_option maxRecDepth 20000 in
theorem gX2_coatIsTold_X2_number : GoodIn wsX2_coatIsTold (wsV RX2 79 RX2 yX2_number wsX2_number) := goodIn_app (goodIn_of _ (by decide +kernel)) ggX2_coatIsTold_X2_number
set_option maxRecDepth 20000 in
theorem ggX2_coatIsTold_X2_itemEnds : GoodIn wsX2_coatIsTold wsX2_itemEnds := goodIn_r _ [27, 9, 13, 14, 15, 7, 16, 12, 17, 10, 11, 18, 19, 20, 21, 22, 23, 43, 44, 45, 46, 47, 48] (by decide +kernel) (by decide +kernel)
set_option maxRecDepth 20000 in
theorem gX2_coatIsTold_X2_itemEnds : GoodIn wsX2_coatIsTold (wsV RX2 40 RX2 yX2_itemEnds wsX2_itemEnds) := goodIn_app (goodIn_of _ (by decide +kernel)) ggX2_coatIsTold_X2_itemEnds
theorem dX2_coatIsTold_0 : decode cX2_coatIsTold 0 = .ok (.aload_n 0, 1) := by decide +kernel
theorem dX2_coatIsTold_1 : decode cX2_coatIsTold 1 = .ok (.iconst 0, 1) := by decide +kernel
theorem dX2_coatIsTold_2 : decode cX2_coatIsTold 2 = .ok (.iconst 0, 1) := by decide +kernel
theorem dX2_coatIsTold_3 : decode cX2_coatIsTold 3 = .ok (.aload_n 1, 1) := by decide +kernel
theorem dX2_coatIsTold_4 : decode cX2_coatIsTold 4 = .ok (.getfield 76, 3) := by decide +kernel
theorem dX2_coatIsTold_7 : decode cX2_coatIsTold 7 = .ok (.iconst 1, 1) := by decide +kernel
theorem dX2_coatIsTold_8 : decode cX2_coatIsTold 8 = .ok (.isub, 1) := by decide +kernel
theorem dX2_coatIsTold_9 : decode cX2_coatIsTold 9 = .ok (.invokevirtual 79, 3) := by decide +kernel
theorem dX2_coatIsTold_12 : decode cX2_coatIsTold 12 = .ok (.ifCond .eq 21, 3) := by decide +kernel
theorem dX2_coatIsTold_15 : decode cX2_coatIsTold 15 = .ok (.aload_n 0, 1) := by decide +kernel
theorem dX2_coatIsTold_16 : decode cX2_coatIsTold 16 = .ok (.iconst 1, 1) := by decide +kernel
theorem dX2_coatIsTold_17 : decode cX2_coatIsTold 17 = .ok (.iconst 0, 1) := by decide +kernel
theorem dX2_coatIsTold_18 : decode cX2_coatIsTold 18 = .ok (.bipush 9, 2) := by decide +kernel
theorem dX2_coatIsTold_20 : decode cX2_coatIsTold 20 = .ok (.invokevirtual 79, 3) := by decide +kernel
theorem dX2_coatIsTold_23 : decode cX2_coatIsTold 23 = .ok (.ifCond .eq 10, 3) := by decide +kernel
theorem dX2_coatIsTold_26 : decode cX2_coatIsTold 26 = .ok (.aload_n 0, 1) := by decide +kernel
theorem dX2_coatIsTold_27 : decode cX2_coatIsTold 27 = .ok (.invokevirtual 40, 3) := by decide +kernel
theorem dX2_coatIsTold_30 : decode cX2_coatIsTold 30 = .ok (.ifCond .ne 5, 3) := by decide +kernel
theorem dX2_coatIsTold_33 : decode cX2_coatIsTold 33 = .ok (.iconst 0, 1) := by decide +kernel
theorem dX2_coatIsTold_34 : decode cX2_coatIsTold 34 = .ok (.ireturn, 1) := by decide +kernel
theorem dX2_coatIsTold_35 : decode cX2_coatIsTold 35 = .ok (.aload_n 1, 1) := by decide +kernel
theorem dX2_coatIsTold_36 : decode cX2_coatIsTold 36 = .ok (.getfield 87, 3) := by decide +kernel
theorem dX2_coatIsTold_39 : decode cX2_coatIsTold 39 = .ok (.aload_n 0, 1) := by decide +kernel
theorem dX2_coatIsTold_40 : decode cX2_coatIsTold 40 = .ok (.getfield 15, 3) := by decide +kernel
theorem dX2_coatIsTold_43 : decode cX2_coatIsTold 43 = .ok (.iconst 0, 1) := by decide +kernel
theorem dX2_coatIsTold_44 : decode cX2_coatIsTold 44 = .ok (.iaload, 1) := by decide +kernel
theorem dX2_coatIsTold_45 : decode cX2_coatIsTold 45 = .ok (.aload_n 0, 1) := by decide +kernel
theorem dX2_coatIsTold_46 : decode cX2_coatIsTold 46 = .ok (.getfield 15, 3) := by decide +kernel
theorem dX2_coatIsTold_49 : decode cX2_coatIsTold 49 = .ok (.iconst 1, 1) := by decide +kernel
theorem dX2_coatIsTold_50 : decode cX2_coatIsTold 50 = .ok (.iaload, 1) := by decide +kernel
theorem dX2_coatIsTold_51 : decode cX2_coatIsTold 51 = .ok (.iastore, 1) := by decide +kernel
theorem dX2_coatIsTold_52 : decode cX2_coatIsTold 52 = .ok (.iconst 1, 1) := by decide +kernel
theorem dX2_coatIsTold_53 : decode cX2_coatIsTold 53 = .ok (.ireturn, 1) := by decide +kernel
set_option maxRecDepth 20000 in
theorem ggX2_thingIsTold_X2_number : GoodIn wsX2_thingIsTold wsX2_number := goodIn_r _ [8, 9, 10, 11, 12, 3, 13, 14, 15, 7, 16, 17, 18, 19, 20, 21, 22, 23, 56, 57, 58, 59, 60, 61] (by decide +kernel) (by decide +kernel)
set_option maxRecDepth 20000 in
theorem gX2_thingIsTold_X2_number : GoodIn wsX2_thingIsTold (wsV RX2 79 RX2 yX2_number wsX2_number) := goodIn_app (goodIn_of _ (by decide +kernel)) ggX2_thingIsTold_X2_number
set_option maxRecDepth 20000 in
theorem ggX2_thingIsTold_X2_itemEnds : GoodIn wsX2_thingIsTold wsX2_itemEnds := goodIn_r _ [27, 9, 13, 14, 15, 7, 16, 12, 17, 10, 11, 18, 19, 20, 21, 22, 23, 56, 57, 58, 59, 60, 61] (by decide +kernel) (by decide +kernel)
set_option maxRecDepth 20000 in
theorem gX2_thingIsTold_X2_itemEnds : GoodIn wsX2_thingIsTold (wsV RX2 40 RX2 yX2_itemEnds wsX2_itemEnds) := goodIn_app (goodIn_of _ (by decide +kernel)) ggX2_thingIsTold_X2_itemEnds
set_option maxRecDepth 20000 in
theorem ggX2_thingIsTold_X5_addThing : GoodIn wsX2_thingIsTold wsX5_addThing := goodIn_r _ [32, 33, 34, 35, 36, 37, 38, 39, 40, 41, 42, 43, 44, 45, 46, 47, 48, 49, 50, 51, 52, 53, 54, 55, 62, 63, 64, 65] (by decide +kernel) (by decide +kernel)
set_option maxRecDepth 20000 in
theorem gX2_thingIsTold_X5_addThing : GoodIn wsX2_thingIsTold (wsV RX2 93 RX5 yX5_addThing wsX5_addThing) := goodIn_app (goodIn_of _ (by decide +kernel)) ggX2_thingIsTold_X5_addThing
theorem dX2_thingIsTold_0 : decode cX2_thingIsTold 0 = .ok (.aload_n 1, 1) := by decide +kernel
theorem dX2_thingIsTold_1 : decode cX2_thingIsTold 1 = .ok (.getfield 90, 3) := by decide +kernel
theorem dX2_thingIsTold_4 : decode cX2_thingIsTold 4 = .ok (.iconst 5, 1) := by decide +kernel
theorem dX2_thingIsTold_5 : decode cX2_thingIsTold 5 = .ok (.if_icmp .lt 5, 3) := by decide +kernel
theorem dX2_thingIsTold_8 : decode cX2_thingIsTold 8 = .ok (.iconst 0, 1) := by decide +kernel
theorem dX2_thingIsTold_9 : decode cX2_thingIsTold 9 = .ok (.ireturn, 1) := by decide +kernel
theorem dX2_thingIsTold_10 : decode cX2_thingIsTold 10 = .ok (.aload_n 0, 1) := by decide +kernel
theorem dX2_thingIsTold_11 : decode cX2_thingIsTold 11 = .ok (.iconst 0, 1) := by decide +kernel
theorem dX2_thingIsTold_12 : decode cX2_thingIsTold 12 = .ok (.iconst 0, 1) := by decide +kernel
theorem dX2_thingIsTold_13 : decode cX2_thingIsTold 13 = .ok (.iconst 5, 1) := by decide +kernel
theorem dX2_thingIsTold_14 : decode cX2_thingIsTold 14 = .ok (.invokevirtual 79, 3) := by decide +kernel
theorem dX2_thingIsTold_17 : decode cX2_thingIsTold 17 = .ok (.ifCond .eq 13, 3) := by decide +kernel
theorem dX2_thingIsTold_20 : decode cX2_thingIsTold 20 = .ok (.aload_n 0, 1) := by decide +kernel
theorem dX2_thingIsTold_21 : decode cX2_thingIsTold 21 = .ok (.iconst 1, 1) := by decide +kernel
theorem dX2_thingIsTold_22 : decode cX2_thingIsTold 22 = .ok (.iconst 0, 1) := by decide +kernel
theorem dX2_thingIsTold_23 : decode cX2_thingIsTold 23 = .ok (.iconst 3, 1) := by decide +kernel
theorem dX2_thingIsTold_24 : decode cX2_thingIsTold 24 = .ok (.invokevirtual 79, 3) := by decide +kernel
theorem dX2_thingIsTold_27 : decode cX2_thingIsTold 27 = .ok (.ifCond .ne 5, 3) := by decide +kernel
theorem dX2_thingIsTold_30 : decode cX2_thingIsTold 30 = .ok (.iconst 0, 1) := by decide +kernel
theorem dX2_thingIsTold_31 : decode cX2_thingIsTold 31 = .ok (.ireturn, 1) := by decide +kernel
theorem dX2_thingIsTold_32 : decode cX2_thingIsTold 32 = .ok (.aload_n 0, 1) := by decide +kernel
theorem dX2_thingIsTold_33 : decode cX2_thingIsTold 33 = .ok (.iconst 2, 1) := by decide +kernel
theorem dX2_thingIsTold_34 : decode cX2_thingIsTold 34 = .ok (.iconst 0, 1) := by decide +kernel
theorem dX2_thingIsTold_35 : decode cX2_thingIsTold 35 = .ok (.aload_n 1, 1) := by decide +kernel
theorem dX2_thingIsTold_36 : decode cX2_thingIsTold 36 = .ok (.getfield 76, 3) := by decide +kernel
theorem dX2_thingIsTold_39 : decode cX2_thingIsTold 39 = .ok (.iconst 1, 1) := by decide +kernel
theorem dX2_thingIsTold_40 : decode cX2_thingIsTold 40 = .ok (.isub, 1) := by decide +kernel
theorem dX2_thingIsTold_41 : decode cX2_thingIsTold 41 = .ok (.invokevirtual 79, 3) := by decide +kernel
theorem dX2_thingIsTold_44 : decode cX2_thingIsTold 44 = .ok (.ifCond .eq 10, 3) := by decide +kernel
theorem dX2_thingIsTold_47 : decode cX2_thingIsTold 47 = .ok (.aload_n 0, 1) := by decide +kernel
theorem dX2_thingIsTold_48 : decode cX2_thingIsTold 48 = .ok (.invokevirtual 40, 3) := by decide +kernel
theorem dX2_thingIsTold_51 : decode cX2_thingIsTold 51 = .ok (.ifCond .ne 5, 3) := by decide +kernel
theorem dX2_thingIsTold_54 : decode cX2_thingIsTold 54 = .ok (.iconst 0, 1) := by decide +kernel
theorem dX2_thingIsTold_55 : decode cX2_thingIsTold 55 = .ok (.ireturn, 1) := by decide +kernel
theorem dX2_thingIsTold_56 : decode cX2_thingIsTold 56 = .ok (.aload_n 1, 1) := by decide +kernel
theorem dX2_thingIsTold_57 : decode cX2_thingIsTold 57 = .ok (.aload_n 0, 1) := by decide +kernel
theorem dX2_thingIsTold_58 : decode cX2_thingIsTold 58 = .ok (.getfield 15, 3) := by decide +kernel
theorem dX2_thingIsTold_61 : decode cX2_thingIsTold 61 = .ok (.iconst 0, 1) := by decide +kernel
theorem dX2_thingIsTold_62 : decode cX2_thingIsTold 62 = .ok (.iaload, 1) := by decide +kernel
theorem dX2_thingIsTold_63 : decode cX2_thingIsTold 63 = .ok (.aload_n 0, 1) := by decide +kernel
theorem dX2_thingIsTold_64 : decode cX2_thingIsTold 64 = .ok (.getfield 15, 3) := by decide +kernel
theorem dX2_thingIsTold_67 : decode cX2_thingIsTold 67 = .ok (.iconst 1, 1) := by decide +kernel
theorem dX2_thingIsTold_68 : decode cX2_thingIsTold 68 = .ok (.iaload, 1) := by decide +kernel
theorem dX2_thingIsTold_69 : decode cX2_thingIsTold 69 = .ok (.aload_n 0, 1) := by decide +kernel
theorem dX2_thingIsTold_70 : decode cX2_thingIsTold 70 = .ok (.getfield 15, 3) := by decide +kernel
theorem dX2_thingIsTold_73 : decode cX2_thingIsTold 73 = .ok (.iconst 2, 1) := by decide +kernel
theorem dX2_thingIsTold_74 : decode cX2_thingIsTold 74 = .ok (.iaload, 1) := by decide +kernel
theorem dX2_thingIsTold_75 : decode cX2_thingIsTold 75 = .ok (.invokevirtual 93, 3) := by decide +kernel
theorem dX2_thingIsTold_78 : decode cX2_thingIsTold 78 = .ok (.iconst 1, 1) := by decide +kernel
theorem dX2_thingIsTold_79 : decode cX2_thingIsTold 79 = .ok (.ireturn, 1) := by decide +kernel
set_option maxRecDepth 20000 in
theorem ggX2_lossIsTold_X2_number : GoodIn wsX2_lossIsTold wsX2_number := goodIn_r _ [8, 9, 10, 11, 12, 2, 13, 14, 15, 7, 16, 17, 18, 19, 20, 21, 22, 23, 43, 44, 45, 46, 47, 48] (by decide +kernel) (by decide +kernel)
set_option maxRecDepth 20000 in
theorem gX2_lossIsTold_X2_number : GoodIn wsX2_lossIsTold (wsV RX2 79 RX2 yX2_number wsX2_number) := goodIn_app (goodIn_of _ (by decide +kernel)) ggX2_lossIsTold_X2_number
set_option maxRecDepth 20000 in
theorem ggX2_lossIsTold_X2_itemEnds : GoodIn wsX2_lossIsTold wsX2_itemEnds := goodIn_r _ [27, 9, 13, 14, 15, 7, 16, 12, 17, 10, 11, 18, 19, 20, 21, 22, 23, 43, 44, 45, 46, 47, 48] (by decide +kernel) (by decide +kernel)
set_option maxRecDepth 20000 in
theorem gX2_lossIsTold_X2_itemEnds : GoodIn wsX2_lossIsTold (wsV RX2 40 RX2 yX2_itemEnds wsX2_itemEnds) := goodIn_app (goodIn_of _ (by decide +kernel)) ggX2_lossIsTold_X2_itemEnds
theorem dX2_lossIsTold_0 : decode cX2_lossIsTold 0 = .ok (.aload_n 0, 1) := by decide +kernel
theorem dX2_lossIsTold_1 : decode cX2_lossIsTold 1 = .ok (.iconst 0, 1) := by decide +kernel
theorem dX2_lossIsTold_2 : decode cX2_lossIsTold 2 = .ok (.iconst 0, 1) := by decide +kernel
theorem dX2_lossIsTold_3 : decode cX2_lossIsTold 3 = .ok (.aload_n 1, 1) := by decide +kernel
theorem dX2_lossIsTold_4 : decode cX2_lossIsTold 4 = .ok (.getfield 90, 3) := by decide +kernel
theorem dX2_lossIsTold_7 : decode cX2_lossIsTold 7 = .ok (.iconst 1, 1) := by decide +kernel
theorem dX2_lossIsTold_8 : decode cX2_lossIsTold 8 = .ok (.isub, 1) := by decide +kernel
theorem dX2_lossIsTold_9 : decode cX2_lossIsTold 9 = .ok (.invokevirtual 79, 3) := by decide +kernel
theorem dX2_lossIsTold_12 : decode cX2_lossIsTold 12 = .ok (.ifCond .ne 5, 3) := by decide +kernel
theorem dX2_lossIsTold_15 : decode cX2_lossIsTold 15 = .ok (.iconst 0, 1) := by decide +kernel
theorem dX2_lossIsTold_16 : decode cX2_lossIsTold 16 = .ok (.ireturn, 1) := by decide +kernel
theorem dX2_lossIsTold_17 : decode cX2_lossIsTold 17 = .ok (.aload_n 0, 1) := by decide +kernel
theorem dX2_lossIsTold_18 : decode cX2_lossIsTold 18 = .ok (.getfield 15, 3) := by decide +kernel
theorem dX2_lossIsTold_21 : decode cX2_lossIsTold 21 = .ok (.iconst 0, 1) := by decide +kernel
theorem dX2_lossIsTold_22 : decode cX2_lossIsTold 22 = .ok (.iaload, 1) := by decide +kernel
theorem dX2_lossIsTold_23 : decode cX2_lossIsTold 23 = .ok (.istore_n 2, 1) := by decide +kernel
theorem dX2_lossIsTold_24 : decode cX2_lossIsTold 24 = .ok (.aload_n 1, 1) := by decide +kernel
theorem dX2_lossIsTold_25 : decode cX2_lossIsTold 25 = .ok (.getfield 97, 3) := by decide +kernel
theorem dX2_lossIsTold_28 : decode cX2_lossIsTold 28 = .ok (.iload_n 2, 1) := by decide +kernel
theorem dX2_lossIsTold_29 : decode cX2_lossIsTold 29 = .ok (.iaload, 1) := by decide +kernel
theorem dX2_lossIsTold_30 : decode cX2_lossIsTold 30 = .ok (.ifCond .ne 10, 3) := by decide +kernel
theorem dX2_lossIsTold_33 : decode cX2_lossIsTold 33 = .ok (.aload_n 0, 1) := by decide +kernel
theorem dX2_lossIsTold_34 : decode cX2_lossIsTold 34 = .ok (.invokevirtual 40, 3) := by decide +kernel
theorem dX2_lossIsTold_37 : decode cX2_lossIsTold 37 = .ok (.ifCond .ne 5, 3) := by decide +kernel
theorem dX2_lossIsTold_40 : decode cX2_lossIsTold 40 = .ok (.iconst 0, 1) := by decide +kernel
theorem dX2_lossIsTold_41 : decode cX2_lossIsTold 41 = .ok (.ireturn, 1) := by decide +kernel
theorem dX2_lossIsTold_42 : decode cX2_lossIsTold 42 = .ok (.aload_n 1, 1) := by decide +kernel
theorem dX2_lossIsTold_43 : decode cX2_lossIsTold 43 = .ok (.getfield 97, 3) := by decide +kernel
theorem dX2_lossIsTold_46 : decode cX2_lossIsTold 46 = .ok (.iload_n 2, 1) := by decide +kernel
theorem dX2_lossIsTold_47 : decode cX2_lossIsTold 47 = .ok (.iconst 1, 1) := by decide +kernel
theorem dX2_lossIsTold_48 : decode cX2_lossIsTold 48 = .ok (.iastore, 1) := by decide +kernel
theorem dX2_lossIsTold_49 : decode cX2_lossIsTold 49 = .ok (.iconst 1, 1) := by decide +kernel
theorem dX2_lossIsTold_50 : decode cX2_lossIsTold 50 = .ok (.ireturn, 1) := by decide +kernel
set_option maxRecDepth 20000 in
theorem ggX2_daysAreTold_X2_number : GoodIn wsX2_daysAreTold wsX2_number := goodIn_r _ [6, 7, 8, 9, 10, 1, 11, 12, 13, 5, 14, 15, 16, 17, 18, 19, 20, 21, 65, 66, 67, 68, 69, 70] (by decide +kernel) (by decide +kernel)
set_option maxRecDepth 20000 in
theorem gX2_daysAreTold_X2_number : GoodIn wsX2_daysAreTold (wsV RX2 79 RX2 yX2_number wsX2_number) := goodIn_app (goodIn_of _ (by decide +kernel)) ggX2_daysAreTold_X2_number
set_option maxRecDepth 20000 in
theorem ggX2_daysAreTold_X2_itemEnds : GoodIn wsX2_daysAreTold wsX2_itemEnds := goodIn_r _ [25, 7, 11, 12, 13, 5, 14, 10, 15, 8, 9, 16, 17, 18, 19, 20, 21, 65, 66, 67, 68, 69, 70] (by decide +kernel) (by decide +kernel)
set_option maxRecDepth 20000 in
theorem gX2_daysAreTold_X2_itemEnds : GoodIn wsX2_daysAreTold (wsV RX2 40 RX2 yX2_itemEnds wsX2_itemEnds) := goodIn_app (goodIn_of _ (by decide +kernel)) ggX2_daysAreTold_X2_itemEnds
set_option maxRecDepth 20000 in
theorem ggX2_daysAreTold_X5_dayGoesBy : GoodIn wsX2_daysAreTold wsX5_dayGoesBy := goodIn_r _ [30, 31, 32, 33, 34, 35, 36, 37, 38, 39, 29, 40, 41, 42, 43, 44, 45, 46, 47, 48, 49, 50, 51, 52, 53, 54, 55, 56, 57, 58, 59, 60, 61, 62, 63, 64, 71, 72, 73, 74, 75, 76, 77, 78, 79, 80, 81, 82, 83, 84, 85] (by decide +kernel) (by decide +kernel)
set_option maxRecDepth 20000 in
theorem gX2_daysAreTold_X5_dayGoesBy : GoodIn wsX2_daysAreTold (wsV RX2 100 RX5 yX5_dayGoesBy wsX5_dayGoesBy) := goodIn_app (goodIn_of _ (by decide +kernel)) ggX2_daysAreTold_X5_dayGoesBy
theorem dX2_daysAreTold_0 : decode cX2_daysAreTold 0 = .ok (.aload_n 0, 1) := by decide +kernel
theorem dX2_daysAreTold_1 : decode cX2_daysAreTold 1 = .ok (.iconst 0, 1) := by decide +kernel
theorem dX2_daysAreTold_2 : decode cX2_daysAreTold 2 = .ok (.iconst 1, 1) := by decide +kernel
theorem dX2_daysAreTold_3 : decode cX2_daysAreTold 3 = .ok (.bipush 99, 2) := by decide +kernel
theorem dX2_daysAreTold_5 : decode cX2_daysAreTold 5 = .ok (.invokevirtual 79, 3) := by decide +kernel
theorem dX2_daysAreTold_8 : decode cX2_daysAreTold 8 = .ok (.ifCond .eq 10, 3) := by decide +kernel
theorem dX2_daysAreTold_11 : decode cX2_daysAreTold 11 = .ok (.aload_n 0, 1) := by decide +kernel
theorem dX2_daysAreTold_12 : decode cX2_daysAreTold 12 = .ok (.invokevirtual 40, 3) := by decide +kernel
theorem dX2_daysAreTold_15 : decode cX2_daysAreTold 15 = .ok (.ifCond .ne 5, 3) := by decide +kernel
theorem dX2_daysAreTold_18 : decode cX2_daysAreTold 18 = .ok (.iconst 0, 1) := by decide +kernel
theorem dX2_daysAreTold_19 : decode cX2_daysAreTold 19 = .ok (.ireturn, 1) := by decide +kernel
theorem dX2_daysAreTold_20 : decode cX2_daysAreTold 20 = .ok (.iconst 0, 1) := by decide +kernel
theorem dX2_daysAreTold_21 : decode cX2_daysAreTold 21 = .ok (.istore_n 2, 1) := by decide +kernel
theorem dX2_daysAreTold_22 : decode cX2_daysAreTold 22 = .ok (.iload_n 2, 1) := by decide +kernel
theorem dX2_daysAreTold_23 : decode cX2_daysAreTold 23 = .ok (.aload_n 0, 1) := by decide +kernel
theorem dX2_daysAreTold_24 : decode cX2_daysAreTold 24 = .ok (.getfield 15, 3) := by decide +kernel
theorem dX2_daysAreTold_27 : decode cX2_daysAreTold 27 = .ok (.iconst 0, 1) := by decide +kernel
theorem dX2_daysAreTold_28 : decode cX2_daysAreTold 28 = .ok (.iaload, 1) := by decide +kernel
theorem dX2_daysAreTold_29 : decode cX2_daysAreTold 29 = .ok (.if_icmp .ge 13, 3) := by decide +kernel
theorem dX2_daysAreTold_32 : decode cX2_daysAreTold 32 = .ok (.aload_n 1, 1) := by decide +kernel
theorem dX2_daysAreTold_33 : decode cX2_daysAreTold 33 = .ok (.invokevirtual 100, 3) := by decide +kernel
theorem dX2_daysAreTold_36 : decode cX2_daysAreTold 36 = .ok (.iinc 2 1, 3) := by decide +kernel
theorem dX2_daysAreTold_39 : decode cX2_daysAreTold 39 = .ok (.goto (-17), 3) := by decide +kernel
theorem dX2_daysAreTold_42 : decode cX2_daysAreTold 42 = .ok (.iconst 1, 1) := by decide +kernel
theorem dX2_daysAreTold_43 : decode cX2_daysAreTold 43 = .ok (.ireturn, 1) := by decide +kernel
set_option maxRecDepth 20000 in
theorem ggX2_number_X2_toNextToken : GoodIn wsX2_number wsX2_toNextToken := goodIn_r _ [10, 4, 11, 2, 3, 1, 12, 13, 9, 14, 15, 16, 17, 18, 19, 20, 21, 22, 23] (by decide +kernel) (by decide +kernel)
set_option maxRecDepth 20000 in
theorem gX2_number_X2_toNextToken : GoodIn wsX2_number (wsV RX2 31 RX2 yX2_toNextToken wsX2_toNextToken) := goodIn_app (goodIn_of _ (by decide +kernel)) ggX2_number_X2_toNextToken
theorem dX2_number_0 : decode cX2_number 0 = .ok (.aload_n 0, 1) := by decide +kernel
theorem dX2_number_1 : decode cX2_number 1 = .ok (.invokevirtual 31, 3) := by decide +kernel
theorem dX2_number_4 : decode cX2_number 4 = .ok (.aload_n 0, 1) := by decide +kernel
theorem dX2_number_5 : decode cX2_number 5 = .ok (.getfield 47, 3) := by decide +kernel
theorem dX2_number_8 : decode cX2_number 8 = .ok (.iconst 1, 1) := by decide +kernel
theorem dX2_number_9 : decode cX2_number 9 = .ok (.if_icmp .eq 5, 3) := by decide +kernel
theorem dX2_number_12 : decode cX2_number 12 = .ok (.iconst 0, 1) := by decide +kernel
theorem dX2_number_13 : decode cX2_number 13 = .ok (.ireturn, 1) := by decide +kernel
theorem dX2_number_14 : decode cX2_number 14 = .ok (.aload_n 0, 1) := by decide +kernel
theorem dX2_number_15 : decode cX2_number 15 = .ok (.getfield 9, 3) := by decide +kernel
theorem dX2_number_18 : decode cX2_number 18 = .ok (.aload_n 0, 1) := by decide +kernel
theorem dX2_number_19 : decode cX2_number 19 = .ok (.getfield 44, 3) := by decide +kernel
theorem dX2_number_22 : decode cX2_number 22 = .ok (.caload, 1) := by decide +kernel
theorem dX2_number_23 : decode cX2_number 23 = .ok (.bipush 48, 2) := by decide +kernel
theorem dX2_number_25 : decode cX2_number 25 = .ok (.isub, 1) := by decide +kernel
theorem dX2_number_26 : decode cX2_number 26 = .ok (.istore 4, 2) := by decide +kernel
theorem dX2_number_28 : decode cX2_number 28 = .ok (.aload_n 0, 1) := by decide +kernel
theorem dX2_number_29 : decode cX2_number 29 = .ok (.getfield 28, 3) := by decide +kernel
theorem dX2_number_32 : decode cX2_number 32 = .ok (.aload_n 0, 1) := by decide +kernel
theorem dX2_number_33 : decode cX2_number 33 = .ok (.getfield 44, 3) := by decide +kernel
theorem dX2_number_36 : decode cX2_number 36 = .ok (.isub, 1) := by decide +kernel
theorem dX2_number_37 : decode cX2_number 37 = .ok (.iconst 2, 1) := by decide +kernel
theorem dX2_number_38 : decode cX2_number 38 = .ok (.if_icmp .ne 25, 3) := by decide +kernel
theorem dX2_number_41 : decode cX2_number 41 = .ok (.bipush 10, 2) := by decide +kernel
theorem dX2_number_43 : decode cX2_number 43 = .ok (.iload 4, 2) := by decide +kernel
theorem dX2_number_45 : decode cX2_number 45 = .ok (.imul, 1) := by decide +kernel
theorem dX2_number_46 : decode cX2_number 46 = .ok (.aload_n 0, 1) := by decide +kernel
theorem dX2_number_47 : decode cX2_number 47 = .ok (.getfield 9, 3) := by decide +kernel
theorem dX2_number_50 : decode cX2_number 50 = .ok (.aload_n 0, 1) := by decide +kernel
theorem dX2_number_51 : decode cX2_number 51 = .ok (.getfield 44, 3) := by decide +kernel
theorem dX2_number_54 : decode cX2_number 54 = .ok (.iconst 1, 1) := by decide +kernel
theorem dX2_number_55 : decode cX2_number 55 = .ok (.iadd, 1) := by decide +kernel
theorem dX2_number_56 : decode cX2_number 56 = .ok (.caload, 1) := by decide +kernel
theorem dX2_number_57 : decode cX2_number 57 = .ok (.iadd, 1) := by decide +kernel
theorem dX2_number_58 : decode cX2_number 58 = .ok (.bipush 48, 2) := by decide +kernel
theorem dX2_number_60 : decode cX2_number 60 = .ok (.isub, 1) := by decide +kernel
theorem dX2_number_61 : decode cX2_number 61 = .ok (.istore 4, 2) := by decide +kernel
theorem dX2_number_63 : decode cX2_number 63 = .ok (.aload_n 0, 1) := by decide +kernel
theorem dX2_number_64 : decode cX2_number 64 = .ok (.getfield 15, 3) := by decide +kernel
theorem dX2_number_67 : decode cX2_number 67 = .ok (.iload_n 1, 1) := by decide +kernel
theorem dX2_number_68 : decode cX2_number 68 = .ok (.iload 4, 2) := by decide +kernel
theorem dX2_number_70 : decode cX2_number 70 = .ok (.iastore, 1) := by decide +kernel
theorem dX2_number_71 : decode cX2_number 71 = .ok (.iload 4, 2) := by decide +kernel
theorem dX2_number_73 : decode cX2_number 73 = .ok (.iload_n 2, 1) := by decide +kernel
theorem dX2_number_74 : decode cX2_number 74 = .ok (.if_icmp .lt 13, 3) := by decide +kernel
theorem dX2_number_77 : decode cX2_number 77 = .ok (.iload 4, 2) := by decide +kernel
theorem dX2_number_79 : decode cX2_number 79 = .ok (.iload_n 3, 1) := by decide +kernel
theorem dX2_number_80 : decode cX2_number 80 = .ok (.if_icmp .gt 7, 3) := by decide +kernel
theorem dX2_number_83 : decode cX2_number 83 = .ok (.iconst 1, 1) := by decide +kernel
theorem dX2_number_84 : decode cX2_number 84 = .ok (.goto 4, 3) := by decide +kernel
theorem dX2_number_87 : decode cX2_number 87 = .ok (.iconst 0, 1) := by decide +kernel
theorem dX2_number_88 : decode cX2_number 88 = .ok (.ireturn, 1) := by decide +kernel
set_option maxRecDepth 20000 in
theorem ggX2_itemEnds_X2_toNextToken : GoodIn wsX2_itemEnds wsX2_toNextToken := goodIn_r _ [6, 7, 8, 9, 10, 1, 11, 12, 5, 13, 14, 15, 16, 17, 18, 19, 20, 21, 22] (by decide +kernel) (by decide +kernel)
set_option maxRecDepth 20000 in
theorem gX2_itemEnds_X2_toNextToken : GoodIn wsX2_itemEnds (wsV RX2 31 RX2 yX2_toNextToken wsX2_toNextToken) := goodIn_app (goodIn_of _ (by decide +kernel)) ggX2_itemEnds_X2_toNextToken
theorem dX2_itemEnds_0 : decode cX2_itemEnds 0 = .ok (.aload_n 0, 1) := by decide +kernel
theorem dX2_itemEnds_1 : decode cX2_itemEnds 1 = .ok (.invokevirtual 31, 3) := by decide +kernel
theorem dX2_itemEnds_4 : decode cX2_itemEnds 4 = .ok (.aload_n 0, 1) := by decide +kernel
theorem dX2_itemEnds_5 : decode cX2_itemEnds 5 = .ok (.getfield 47, 3) := by decide +kernel
theorem dX2_itemEnds_8 : decode cX2_itemEnds 8 = .ok (.iconst 2, 1) := by decide +kernel
theorem dX2_itemEnds_9 : decode cX2_itemEnds 9 = .ok (.if_icmp .eq 5, 3) := by decide +kernel
theorem dX2_itemEnds_12 : decode cX2_itemEnds 12 = .ok (.iconst 0, 1) := by decide +kernel
theorem dX2_itemEnds_13 : decode cX2_itemEnds 13 = .ok (.ireturn, 1) := by decide +kernel
theorem dX2_itemEnds_14 : decode cX2_itemEnds 14 = .ok (.aload_n 0, 1) := by decide +kernel
theorem dX2_itemEnds_15 : decode cX2_itemEnds 15 = .ok (.invokevirtual 31, 3) := by decide +kernel
theorem dX2_itemEnds_18 : decode cX2_itemEnds 18 = .ok (.iconst 1, 1) := by decide +kernel
theorem dX2_itemEnds_19 : decode cX2_itemEnds 19 = .ok (.ireturn, 1) := by decide +kernel
set_option maxRecDepth 20000 in
theorem ggX2_toNextToken_X2_isLetter : GoodIn wsX2_toNextToken wsX2_isLetter := goodIn_r _ [9] (by decide +kernel) (by decide +kernel)
set_option maxRecDepth 20000 in
theorem gX2_toNextToken_X2_isLetter : GoodIn wsX2_toNextToken (va_wsS RX2 103 yX2_isLetter wsX2_isLetter) := goodIn_app (goodIn_of _ (by decide +kernel)) ggX2_toNextToken_X2_isLetter
set_option maxRecDepth 20000 in
theorem ggX2_toNextToken_X2_isFigure : GoodIn wsX2_toNextToken wsX2_isFigure := goodIn_r _ [12] (by decide +kernel) (by decide +kernel)
set_option maxRecDepth 20000 in
theorem gX2_toNextToken_X2_isFigure : GoodIn wsX2_toNextToken (va_wsS RX2 107 yX2_isFigure wsX2_isFigure) := goodIn_app (goodIn_of _ (by decide +kernel)) ggX2_toNextToken_X2_isFigure
theorem dX2_toNextToken_0 : decode cX2_toNextToken 0 = .ok (.aload_n 0, 1) := by decide +kernel
theorem dX2_toNextToken_1 : decode cX2_toNextToken 1 = .ok (.getfield 28, 3) := by decide +kernel
theorem dX2_toNextToken_4 : decode cX2_toNextToken 4 = .ok (.aload_n 0, 1) := by decide +kernel
theorem dX2_toNextToken_5 : decode cX2_toNextToken 5 = .ok (.getfield 19, 3) := by decide +kernel
theorem dX2_toNextToken_8 : decode cX2_toNextToken 8 = .ok (.if_icmp .ge 30, 3) := by decide +kernel
theorem dX2_toNextToken_11 : decode cX2_toNextToken 11 = .ok (.aload_n 0, 1) := by decide +kernel
theorem dX2_toNextToken_12 : decode cX2_toNextToken 12 = .ok (.getfield 9, 3) := by decide +kernel
theorem dX2_toNextToken_15 : decode cX2_toNextToken 15 = .ok (.aload_n 0, 1) := by decide +kernel
theorem dX2_toNextToken_16 : decode cX2_toNextToken 16 = .ok (.getfield 28, 3) := by decide +kernel
theorem dX2_toNextToken_19 : decode cX2_toNextToken 19 = .ok (.caload, 1) := by decide +kernel
theorem dX2_toNextToken_20 : decode cX2_toNextToken 20 = .ok (.bipush 32, 2) := by decide +kernel
theorem dX2_toNextToken_22 : decode cX2_toNextToken 22 = .ok (.if_icmp .ne 16, 3) := by decide +kernel
theorem dX2_toNextToken_25 : decode cX2_toNextToken 25 = .ok (.aload_n 0, 1) := by decide +kernel
theorem dX2_toNextToken_26 : decode cX2_toNextToken 26 = .ok (.dup, 1) := by decide +kernel
theorem dX2_toNextToken_27 : decode cX2_toNextToken 27 = .ok (.getfield 28, 3) := by decide +kernel
theorem dX2_toNextToken_30 : decode cX2_toNextToken 30 = .ok (.iconst 1, 1) := by decide +kernel
theorem dX2_toNextToken_31 : decode cX2_toNextToken 31 = .ok (.iadd, 1) := by decide +kernel
theorem dX2_toNextToken_32 : decode cX2_toNextToken 32 = .ok (.putfield 28, 3) := by decide +kernel
theorem dX2_toNextToken_35 : decode cX2_toNextToken 35 = .ok (.goto (-35), 3) := by decide +kernel
theorem dX2_toNextToken_38 : decode cX2_toNextToken 38 = .ok (.aload_n 0, 1) := by decide +kernel
theorem dX2_toNextToken_39 : decode cX2_toNextToken 39 = .ok (.aload_n 0, 1) := by decide +kernel
theorem dX2_toNextToken_40 : decode cX2_toNextToken 40 = .ok (.getfield 28, 3) := by decide +kernel
theorem dX2_toNextToken_43 : decode cX2_toNextToken 43 = .ok (.putfield 44, 3) := by decide +kernel
theorem dX2_toNextToken_46 : decode cX2_toNextToken 46 = .ok (.aload_n 0, 1) := by decide +kernel
theorem dX2_toNextToken_47 : decode cX2_toNextToken 47 = .ok (.getfield 44, 3) := by decide +kernel
theorem dX2_toNextToken_50 : decode cX2_toNextToken 50 = .ok (.aload_n 0, 1) := by decide +kernel
theorem dX2_toNextToken_51 : decode cX2_toNextToken 51 = .ok (.getfield 19, 3) := by decide +kernel
theorem dX2_toNextToken_54 : decode cX2_toNextToken 54 = .ok (.if_icmp .lt 11, 3) := by decide +kernel
theorem dX2_toNextToken_57 : decode cX2_toNextToken 57 = .ok (.aload_n 0, 1) := by decide +kernel
theorem dX2_toNextToken_58 : decode cX2_toNextToken 58 = .ok (.iconst 3, 1) := by decide +kernel
theorem dX2_toNextToken_59 : decode cX2_toNextToken 59 = .ok (.putfield 47, 3) := by decide +kernel
theorem dX2_toNextToken_62 : decode cX2_toNextToken 62 = .ok (.goto 174, 3) := by decide +kernel
theorem dX2_toNextToken_65 : decode cX2_toNextToken 65 = .ok (.aload_n 0, 1) := by decide +kernel
theorem dX2_toNextToken_66 : decode cX2_toNextToken 66 = .ok (.getfield 9, 3) := by decide +kernel
theorem dX2_toNextToken_69 : decode cX2_toNextToken 69 = .ok (.aload_n 0, 1) := by decide +kernel
theorem dX2_toNextToken_70 : decode cX2_toNextToken 70 = .ok (.getfield 44, 3) := by decide +kernel
theorem dX2_toNextToken_73 : decode cX2_toNextToken 73 = .ok (.caload, 1) := by decide +kernel
theorem dX2_toNextToken_74 : decode cX2_toNextToken 74 = .ok (.invokestatic 103, 3) := by decide +kernel
theorem dX2_toNextToken_77 : decode cX2_toNextToken 77 = .ok (.ifCond .eq 47, 3) := by decide +kernel
theorem dX2_toNextToken_80 : decode cX2_toNextToken 80 = .ok (.aload_n 0, 1) := by decide +kernel
theorem dX2_toNextToken_81 : decode cX2_toNextToken 81 = .ok (.iconst 0, 1) := by decide +kernel
theorem dX2_toNextToken_82 : decode cX2_toNextToken 82 = .ok (.putfield 47, 3) := by decide +kernel
theorem dX2_toNextToken_85 : decode cX2_toNextToken 85 = .ok (.aload_n 0, 1) := by decide +kernel
theorem dX2_toNextToken_86 : decode cX2_toNextToken 86 = .ok (.getfield 28, 3) := by decide +kernel
theorem dX2_toNextToken_89 : decode cX2_toNextToken 89 = .ok (.aload_n 0, 1) := by decide +kernel
theorem dX2_toNextToken_90 : decode cX2_toNextToken 90 = .ok (.getfield 19, 3) := by decide +kernel
theorem dX2_toNextToken_93 : decode cX2_toNextToken 93 = .ok (.if_icmp .ge 143, 3) := by decide +kernel
theorem dX2_toNextToken_96 : decode cX2_toNextToken 96 = .ok (.aload_n 0, 1) := by decide +kernel
theorem dX2_toNextToken_97 : decode cX2_toNextToken 97 = .ok (.getfield 9, 3) := by decide +kernel
theorem dX2_toNextToken_100 : decode cX2_toNextToken 100 = .ok (.aload_n 0, 1) := by decide +kernel
theorem dX2_toNextToken_101 : decode cX2_toNextToken 101 = .ok (.getfield 28, 3) := by decide +kernel
theorem dX2_toNextToken_104 : decode cX2_toNextToken 104 = .ok (.caload, 1) := by decide +kernel
theorem dX2_toNextToken_105 : decode cX2_toNextToken 105 = .ok (.invokestatic 103, 3) := by decide +kernel
theorem dX2_toNextToken_108 : decode cX2_toNextToken 108 = .ok (.ifCond .eq 128, 3) := by decide +kernel
theorem dX2_toNextToken_111 : decode cX2_toNextToken 111 = .ok (.aload_n 0, 1) := by decide +kernel
theorem dX2_toNextToken_112 : decode cX2_toNextToken 112 = .ok (.dup, 1) := by decide +kernel
theorem dX2_toNextToken_113 : decode cX2_toNextToken 113 = .ok (.getfield 28, 3) := by decide +kernel
theorem dX2_toNextToken_116 : decode cX2_toNextToken 116 = .ok (.iconst 1, 1) := by decide +kernel
theorem dX2_toNextToken_117 : decode cX2_toNextToken 117 = .ok (.iadd, 1) := by decide +kernel
theorem dX2_toNextToken_118 : decode cX2_toNextToken 118 = .ok (.putfield 28, 3) := by decide +kernel
theorem dX2_toNextToken_121 : decode cX2_toNextToken 121 = .ok (.goto (-36), 3) := by decide +kernel
theorem dX2_toNextToken_124 : decode cX2_toNextToken 124 = .ok (.aload_n 0, 1) := by decide +kernel
theorem dX2_toNextToken_125 : decode cX2_toNextToken 125 = .ok (.getfield 9, 3) := by decide +kernel
theorem dX2_toNextToken_128 : decode cX2_toNextToken 128 = .ok (.aload_n 0, 1) := by decide +kernel
theorem dX2_toNextToken_129 : decode cX2_toNextToken 129 = .ok (.getfield 44, 3) := by decide +kernel
theorem dX2_toNextToken_132 : decode cX2_toNextToken 132 = .ok (.caload, 1) := by decide +kernel
theorem dX2_toNextToken_133 : decode cX2_toNextToken 133 = .ok (.invokestatic 107, 3) := by decide +kernel
theorem dX2_toNextToken_136 : decode cX2_toNextToken 136 = .ok (.ifCond .eq 67, 3) := by decide +kernel
theorem dX2_toNextToken_139 : decode cX2_toNextToken 139 = .ok (.aload_n 0, 1) := by decide +kernel
theorem dX2_toNextToken_140 : decode cX2_toNextToken 140 = .ok (.getfield 28, 3) := by decide +kernel
theorem dX2_toNextToken_143 : decode cX2_toNextToken 143 = .ok (.aload_n 0, 1) := by decide +kernel
theorem dX2_toNextToken_144 : decode cX2_toNextToken 144 = .ok (.getfield 19, 3) := by decide +kernel
theorem dX2_toNextToken_147 : decode cX2_toNextToken 147 = .ok (.if_icmp .ge 31, 3) := by decide +kernel
theorem dX2_toNextToken_150 : decode cX2_toNextToken 150 = .ok (.aload_n 0, 1) := by decide +kernel
theorem dX2_toNextToken_151 : decode cX2_toNextToken 151 = .ok (.getfield 9, 3) := by decide +kernel
theorem dX2_toNextToken_154 : decode cX2_toNextToken 154 = .ok (.aload_n 0, 1) := by decide +kernel
theorem dX2_toNextToken_155 : decode cX2_toNextToken 155 = .ok (.getfield 28, 3) := by decide +kernel
theorem dX2_toNextToken_158 : decode cX2_toNextToken 158 = .ok (.caload, 1) := by decide +kernel
theorem dX2_toNextToken_159 : decode cX2_toNextToken 159 = .ok (.invokestatic 107, 3) := by decide +kernel
theorem dX2_toNextToken_162 : decode cX2_toNextToken 162 = .ok (.ifCond .eq 16, 3) := by decide +kernel
theorem dX2_toNextToken_165 : decode cX2_toNextToken 165 = .ok (.aload_n 0, 1) := by decide +kernel
theorem dX2_toNextToken_166 : decode cX2_toNextToken 166 = .ok (.dup, 1) := by decide +kernel
theorem dX2_toNextToken_167 : decode cX2_toNextToken 167 = .ok (.getfield 28, 3) := by decide +kernel
theorem dX2_toNextToken_170 : decode cX2_toNextToken 170 = .ok (.iconst 1, 1) := by decide +kernel
theorem dX2_toNextToken_171 : decode cX2_toNextToken 171 = .ok (.iadd, 1) := by decide +kernel
theorem dX2_toNextToken_172 : decode cX2_toNextToken 172 = .ok (.putfield 28, 3) := by decide +kernel
theorem dX2_toNextToken_175 : decode cX2_toNextToken 175 = .ok (.goto (-36), 3) := by decide +kernel
theorem dX2_toNextToken_178 : decode cX2_toNextToken 178 = .ok (.aload_n 0, 1) := by decide +kernel
theorem dX2_toNextToken_179 : decode cX2_toNextToken 179 = .ok (.aload_n 0, 1) := by decide +kernel
theorem dX2_toNextToken_180 : decode cX2_toNextToken 180 = .ok (.getfield 28, 3) := by decide +kernel
theorem dX2_toNextToken_183 : decode cX2_toNextToken 183 = .ok (.aload_n 0, 1) := by decide +kernel
theorem dX2_toNextToken_184 : decode cX2_toNextToken 184 = .ok (.getfield 44, 3) := by decide +kernel
theorem dX2_toNextToken_187 : decode cX2_toNextToken 187 = .ok (.isub, 1) := by decide +kernel
theorem dX2_toNextToken_188 : decode cX2_toNextToken 188 = .ok (.iconst 2, 1) := by decide +kernel
theorem dX2_toNextToken_189 : decode cX2_toNextToken 189 = .ok (.if_icmp .le 7, 3) := by decide +kernel
theorem dX2_toNextToken_192 : decode cX2_toNextToken 192 = .ok (.iconst 4, 1) := by decide +kernel
theorem dX2_toNextToken_193 : decode cX2_toNextToken 193 = .ok (.goto 4, 3) := by decide +kernel
theorem dX2_toNextToken_196 : decode cX2_toNextToken 196 = .ok (.iconst 1, 1) := by decide +kernel
theorem dX2_toNextToken_197 : decode cX2_toNextToken 197 = .ok (.putfield 47, 3) := by decide +kernel
theorem dX2_toNextToken_200 : decode cX2_toNextToken 200 = .ok (.goto 36, 3) := by decide +kernel
theorem dX2_toNextToken_203 : decode cX2_toNextToken 203 = .ok (.aload_n 0, 1) := by decide +kernel
theorem dX2_toNextToken_204 : decode cX2_toNextToken 204 = .ok (.aload_n 0, 1) := by decide +kernel
theorem dX2_toNextToken_205 : decode cX2_toNextToken 205 = .ok (.getfield 9, 3) := by decide +kernel
theorem dX2_toNextToken_208 : decode cX2_toNextToken 208 = .ok (.aload_n 0, 1) := by decide +kernel
theorem dX2_toNextToken_209 : decode cX2_toNextToken 209 = .ok (.getfield 44, 3) := by decide +kernel
theorem dX2_toNextToken_212 : decode cX2_toNextToken 212 = .ok (.caload, 1) := by decide +kernel
theorem dX2_toNextToken_213 : decode cX2_toNextToken 213 = .ok (.bipush 59, 2) := by decide +kernel
theorem dX2_toNextToken_215 : decode cX2_toNextToken 215 = .ok (.if_icmp .ne 7, 3) := by decide +kernel
theorem dX2_toNextToken_218 : decode cX2_toNextToken 218 = .ok (.iconst 2, 1) := by decide +kernel
theorem dX2_toNextToken_219 : decode cX2_toNextToken 219 = .ok (.goto 4, 3) := by decide +kernel
theorem dX2_toNextToken_222 : decode cX2_toNextToken 222 = .ok (.iconst 4, 1) := by decide +kernel
theorem dX2_toNextToken_223 : decode cX2_toNextToken 223 = .ok (.putfield 47, 3) := by decide +kernel
theorem dX2_toNextToken_226 : decode cX2_toNextToken 226 = .ok (.aload_n 0, 1) := by decide +kernel
theorem dX2_toNextToken_227 : decode cX2_toNextToken 227 = .ok (.dup, 1) := by decide +kernel
theorem dX2_toNextToken_228 : decode cX2_toNextToken 228 = .ok (.getfield 28, 3) := by decide +kernel
theorem dX2_toNextToken_231 : decode cX2_toNextToken 231 = .ok (.iconst 1, 1) := by decide +kernel
theorem dX2_toNextToken_232 : decode cX2_toNextToken 232 = .ok (.iadd, 1) := by decide +kernel
theorem dX2_toNextToken_233 : decode cX2_toNextToken 233 = .ok (.putfield 28, 3) := by decide +kernel
theorem dX2_toNextToken_236 : decode cX2_toNextToken 236 = .ok (.return_, 1) := by decide +kernel
set_option maxRecDepth 20000 in
theorem ggX2_isWord_J0_length_8abf5 : GoodIn wsX2_isWord wsJ0_length_8abf5 := goodIn_r _ [9, 10, 11, 12, 13, 8, 14, 15, 16] (by decide +kernel) (by decide +kernel)
set_option maxRecDepth 20000 in
theorem gX2_isWord_J0_length_8abf5 : GoodIn wsX2_isWord (wsV RX2 110 RJ0 yJ0_length_8abf5 wsJ0_length_8abf5) := goodIn_app (goodIn_of _ (by decide +kernel)) ggX2_isWord_J0_length_8abf5
set_option maxRecDepth 20000 in
theorem ggX2_isWord_J0_charAt_5068e : GoodIn wsX2_isWord wsJ0_charAt_5068e := goodIn_r _ [20, 10, 21, 22, 23, 8, 24, 15, 16, 25, 26, 27, 28, 29, 30, 31, 32, 33, 34, 35, 36, 37, 38, 39, 40, 41, 42, 43, 44, 45, 46, 47, 48, 49, 50, 51, 52, 53] (by decide +kernel) (by decide +kernel)
set_option maxRecDepth 20000 in
theorem gX2_isWord_J0_charAt_5068e : GoodIn wsX2_isWord (wsV RX2 115 RJ0 yJ0_charAt_5068e wsJ0_charAt_5068e) := goodIn_app (goodIn_of _ (by decide +kernel)) ggX2_isWord_J0_charAt_5068e
theorem dX2_isWord_0 : decode cX2_isWord 0 = .ok (.aload_n 0, 1) := by decide +kernel
theorem dX2_isWord_1 : decode cX2_isWord 1 = .ok (.getfield 47, 3) := by decide +kernel
theorem dX2_isWord_4 : decode cX2_isWord 4 = .ok (.ifCond .ne 19, 3) := by decide +kernel
theorem dX2_isWord_7 : decode cX2_isWord 7 = .ok (.aload_n 0, 1) := by decide +kernel
theorem dX2_isWord_8 : decode cX2_isWord 8 = .ok (.getfield 28, 3) := by decide +kernel
theorem dX2_isWord_11 : decode cX2_isWord 11 = .ok (.aload_n 0, 1) := by decide +kernel
theorem dX2_isWord_12 : decode cX2_isWord 12 = .ok (.getfield 44, 3) := by decide +kernel
theorem dX2_isWord_15 : decode cX2_isWord 15 = .ok (.isub, 1) := by decide +kernel
theorem dX2_isWord_16 : decode cX2_isWord 16 = .ok (.aload_n 1, 1) := by decide +kernel
theorem dX2_isWord_17 : decode cX2_isWord 17 = .ok (.invokevirtual 110, 3) := by decide +kernel
theorem dX2_isWord_20 : decode cX2_isWord 20 = .ok (.if_icmp .eq 5, 3) := by decide +kernel
theorem dX2_isWord_23 : decode cX2_isWord 23 = .ok (.iconst 0, 1) := by decide +kernel
theorem dX2_isWord_24 : decode cX2_isWord 24 = .ok (.ireturn, 1) := by decide +kernel
theorem dX2_isWord_25 : decode cX2_isWord 25 = .ok (.iconst 0, 1) := by decide +kernel
theorem dX2_isWord_26 : decode cX2_isWord 26 = .ok (.istore_n 2, 1) := by decide +kernel
theorem dX2_isWord_27 : decode cX2_isWord 27 = .ok (.iload_n 2, 1) := by decide +kernel
theorem dX2_isWord_28 : decode cX2_isWord 28 = .ok (.aload_n 1, 1) := by decide +kernel
theorem dX2_isWord_29 : decode cX2_isWord 29 = .ok (.invokevirtual 110, 3) := by decide +kernel
theorem dX2_isWord_32 : decode cX2_isWord 32 = .ok (.if_icmp .ge 30, 3) := by decide +kernel
theorem dX2_isWord_35 : decode cX2_isWord 35 = .ok (.aload_n 0, 1) := by decide +kernel
theorem dX2_isWord_36 : decode cX2_isWord 36 = .ok (.getfield 9, 3) := by decide +kernel
theorem dX2_isWord_39 : decode cX2_isWord 39 = .ok (.aload_n 0, 1) := by decide +kernel
theorem dX2_isWord_40 : decode cX2_isWord 40 = .ok (.getfield 44, 3) := by decide +kernel
theorem dX2_isWord_43 : decode cX2_isWord 43 = .ok (.iload_n 2, 1) := by decide +kernel
theorem dX2_isWord_44 : decode cX2_isWord 44 = .ok (.iadd, 1) := by decide +kernel
theorem dX2_isWord_45 : decode cX2_isWord 45 = .ok (.caload, 1) := by decide +kernel
theorem dX2_isWord_46 : decode cX2_isWord 46 = .ok (.aload_n 1, 1) := by decide +kernel
theorem dX2_isWord_47 : decode cX2_isWord 47 = .ok (.iload_n 2, 1) := by decide +kernel
theorem dX2_isWord_48 : decode cX2_isWord 48 = .ok (.invokevirtual 115, 3) := by decide +kernel
theorem dX2_isWord_51 : decode cX2_isWord 51 = .ok (.if_icmp .eq 5, 3) := by decide +kernel
theorem dX2_isWord_54 : decode cX2_isWord 54 = .ok (.iconst 0, 1) := by decide +kernel
theorem dX2_isWord_55 : decode cX2_isWord 55 = .ok (.ireturn, 1) := by decide +kernel
theorem dX2_isWord_56 : decode cX2_isWord 56 = .ok (.iinc 2 1, 3) := by decide +kernel
theorem dX2_isWord_59 : decode cX2_isWord 59 = .ok (.goto (-32), 3) := by decide +kernel
theorem dX2_isWord_62 : decode cX2_isWord 62 = .ok (.iconst 1, 1) := by decide +kernel
theorem dX2_isWord_63 : decode cX2_isWord 63 = .ok (.ireturn, 1) := by decide +kernel
theorem dX2_isLetter_0 : decode cX2_isLetter 0 = .ok (.iload_n 0, 1) := by decide +kernel
theorem dX2_isLetter_1 : decode cX2_isLetter 1 = .ok (.bipush 97, 2) := by decide +kernel
theorem dX2_isLetter_3 : decode cX2_isLetter 3 = .ok (.if_icmp .lt 13, 3) := by decide +kernel
theorem dX2_isLetter_6 : decode cX2_isLetter 6 = .ok (.iload_n 0, 1) := by decide +kernel
theorem dX2_isLetter_7 : decode cX2_isLetter 7 = .ok (.bipush 122, 2) := by decide +kernel
theorem dX2_isLetter_9 : decode cX2_isLetter 9 = .ok (.if_icmp .gt 7, 3) := by decide +kernel
theorem dX2_isLetter_12 : decode cX2_isLetter 12 = .ok (.iconst 1, 1) := by decide +kernel
theorem dX2_isLetter_13 : decode cX2_isLetter 13 = .ok (.goto 4, 3) := by decide +kernel
theorem dX2_isLetter_16 : decode cX2_isLetter 16 = .ok (.iconst 0, 1) := by decide +kernel
theorem dX2_isLetter_17 : decode cX2_isLetter 17 = .ok (.ireturn, 1) := by decide +kernel
theorem dX2_isFigure_0 : decode cX2_isFigure 0 = .ok (.iload_n 0, 1) := by decide +kernel
theorem dX2_isFigure_1 : decode cX2_isFigure 1 = .ok (.bipush 48, 2) := by decide +kernel
theorem dX2_isFigure_3 : decode cX2_isFigure 3 = .ok (.if_icmp .lt 13, 3) := by decide +kernel
theorem dX2_isFigure_6 : decode cX2_isFigure 6 = .ok (.iload_n 0, 1) := by decide +kernel
theorem dX2_isFigure_7 : decode cX2_isFigure 7 = .ok (.bipush 57, 2) := by decide +kernel
theorem dX2_isFigure_9 : decode cX2_isFigure 9 = .ok (.if_icmp .gt 7, 3) := by decide +kernel
theorem dX2_isFigure_12 : decode cX2_isFigure 12 = .ok (.iconst 1, 1) := by decide +kernel
theorem dX2_isFigure_13 : decode cX2_isFigure 13 = .ok (.goto 4, 3) := by decide +kernel
theorem dX2_isFigure_16 : decode cX2_isFigure 16 = .ok (.iconst 0, 1) := by decide +kernel
theorem dX2_isFigure_17 : decode cX2_isFigure 17 = .ok (.ireturn, 1) := by decide +kernel
