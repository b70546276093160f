set_option maxRecDepth 20000 in
theorem ggX6_init_X5_init : GoodIn wsX6_init wsX5_init := goodIn_r _ [28, 29, 2, 3, 20, 30, 31, 32, 33, 34, 35, 36, 37, 38, 39, 40, 41, 42, 43, 44, 45, 46, 47, 48, 49, 50, 51, 52, 67, 68, 69, 70, 71, 72, 73, 74, 75, 76, 77, 78, 79, 80, 81, 105, 106, 107, 108] (by decide +kernel) (by decide +kernel)
set_option maxRecDepth 20000 in
theorem gX6_init_X5_init_n11 : GoodIn wsX6_init (wsX5_init) := ggX6_init_X5_init
set_option maxRecDepth 20000 in
theorem ggX6_init_X2_init : GoodIn wsX6_init wsX2_init := goodIn_r _ [54, 55, 2, 3, 56, 57, 20, 58, 94, 95, 96, 97, 98, 99] (by decide +kernel) (by decide +kernel)
set_option maxRecDepth 20000 in
theorem gX6_init_X2_init_n29 : GoodIn wsX6_init (wsX2_init) := ggX6_init_X2_init
set_option maxRecDepth 20000 in
theorem ggX6_init_X0_init : GoodIn wsX6_init wsX0_init := goodIn_r _ [60, 61, 2, 3, 62, 63, 64, 65, 66, 100, 101, 102, 103, 104] (by decide +kernel) (by decide +kernel)
set_option maxRecDepth 20000 in
theorem gX6_init_X0_init_n36 : GoodIn wsX6_init (wsX0_init) := ggX6_init_X0_init
theorem dX6_init_0 : decode cX6_init 0 = .ok (.aload_n 0, 1) := by decide +kernel
theorem dX6_init_1 : decode cX6_init 1 = .ok (.invokespecial 3, 3) := by decide +kernel
theorem dX6_init_4 : decode cX6_init 4 = .ok (.aload_n 0, 1) := by decide +kernel
theorem dX6_init_5 : decode cX6_init 5 = .ok (.new 9, 3) := by decide +kernel
theorem dX6_init_8 : decode cX6_init 8 = .ok (.dup, 1) := by decide +kernel
theorem dX6_init_9 : decode cX6_init 9 = .ok (.invokespecial 11, 3) := by decide +kernel
theorem dX6_init_12 : decode cX6_init 12 = .ok (.putfield 12, 3) := by decide +kernel
theorem dX6_init_15 : decode cX6_init 15 = .ok (.aload_n 0, 1) := by decide +kernel
theorem dX6_init_16 : decode cX6_init 16 = .ok (.new 9, 3) := by decide +kernel
theorem dX6_init_19 : decode cX6_init 19 = .ok (.dup, 1) := by decide +kernel
theorem dX6_init_20 : decode cX6_init 20 = .ok (.invokespecial 11, 3) := by decide +kernel
theorem dX6_init_23 : decode cX6_init 23 = .ok (.putfield 16, 3) := by decide +kernel
theorem dX6_init_26 : decode cX6_init 26 = .ok (.aload_n 0, 1) := by decide +kernel
theorem dX6_init_27 : decode cX6_init 27 = .ok (.iconst 2, 1) := by decide +kernel
theorem dX6_init_28 : decode cX6_init 28 = .ok (.anewarray 9, 3) := by decide +kernel
theorem dX6_init_31 : decode cX6_init 31 = .ok (.putfield 19, 3) := by decide +kernel
theorem dX6_init_34 : decode cX6_init 34 = .ok (.aload_n 0, 1) := by decide +kernel
theorem dX6_init_35 : decode cX6_init 35 = .ok (.getfield 19, 3) := by decide +kernel
theorem dX6_init_38 : decode cX6_init 38 = .ok (.iconst 0, 1) := by decide +kernel
theorem dX6_init_39 : decode cX6_init 39 = .ok (.new 9, 3) := by decide +kernel
theorem dX6_init_42 : decode cX6_init 42 = .ok (.dup, 1) := by decide +kernel
theorem dX6_init_43 : decode cX6_init 43 = .ok (.invokespecial 11, 3) := by decide +kernel
theorem dX6_init_46 : decode cX6_init 46 = .ok (.aastore, 1) := by decide +kernel
theorem dX6_init_47 : decode cX6_init 47 = .ok (.aload_n 0, 1) := by decide +kernel
theorem dX6_init_48 : decode cX6_init 48 = .ok (.getfield 19, 3) := by decide +kernel
theorem dX6_init_51 : decode cX6_init 51 = .ok (.iconst 1, 1) := by decide +kernel
theorem dX6_init_52 : decode cX6_init 52 = .ok (.new 9, 3) := by decide +kernel
theorem dX6_init_55 : decode cX6_init 55 = .ok (.dup, 1) := by decide +kernel
theorem dX6_init_56 : decode cX6_init 56 = .ok (.invokespecial 11, 3) := by decide +kernel
theorem dX6_init_59 : decode cX6_init 59 = .ok (.aastore, 1) := by decide +kernel
theorem dX6_init_60 : decode cX6_init 60 = .ok (.aload_n 0, 1) := by decide +kernel
theorem dX6_init_61 : decode cX6_init 61 = .ok (.iconst 2, 1) := by decide +kernel
theorem dX6_init_62 : decode cX6_init 62 = .ok (.newarray .boolean, 2) := by decide +kernel
theorem dX6_init_64 : decode cX6_init 64 = .ok (.putfield 23, 3) := by decide +kernel
theorem dX6_init_67 : decode cX6_init 67 = .ok (.aload_n 0, 1) := by decide +kernel
theorem dX6_init_68 : decode cX6_init 68 = .ok (.new 27, 3) := by decide +kernel
theorem dX6_init_71 : decode cX6_init 71 = .ok (.dup, 1) := by decide +kernel
theorem dX6_init_72 : decode cX6_init 72 = .ok (.invokespecial 29, 3) := by decide +kernel
theorem dX6_init_75 : decode cX6_init 75 = .ok (.putfield 30, 3) := by decide +kernel
theorem dX6_init_78 : decode cX6_init 78 = .ok (.aload_n 0, 1) := by decide +kernel
theorem dX6_init_79 : decode cX6_init 79 = .ok (.new 34, 3) := by decide +kernel
theorem dX6_init_82 : decode cX6_init 82 = .ok (.dup, 1) := by decide +kernel
theorem dX6_init_83 : decode cX6_init 83 = .ok (.invokespecial 36, 3) := by decide +kernel
theorem dX6_init_86 : decode cX6_init 86 = .ok (.putfield 37, 3) := by decide +kernel
theorem dX6_init_89 : decode cX6_init 89 = .ok (.aload_n 0, 1) := by decide +kernel
theorem dX6_init_90 : decode cX6_init 90 = .ok (.iconst 3, 1) := by decide +kernel
theorem dX6_init_91 : decode cX6_init 91 = .ok (.newarray .int, 2) := by decide +kernel
theorem dX6_init_93 : decode cX6_init 93 = .ok (.putfield 41, 3) := by decide +kernel
theorem dX6_init_96 : decode cX6_init 96 = .ok (.aload_n 0, 1) := by decide +kernel
theorem dX6_init_97 : decode cX6_init 97 = .ok (.bipush 6, 2) := by decide +kernel
theorem dX6_init_99 : decode cX6_init 99 = .ok (.newarray .int, 2) := by decide +kernel
theorem dX6_init_101 : decode cX6_init 101 = .ok (.putfield 45, 3) := by decide +kernel
theorem dX6_init_104 : decode cX6_init 104 = .ok (.aload_n 0, 1) := by decide +kernel
theorem dX6_init_105 : decode cX6_init 105 = .ok (.bipush 8, 2) := by decide +kernel
theorem dX6_init_107 : decode cX6_init 107 = .ok (.newarray .int, 2) := by decide +kernel
theorem dX6_init_109 : decode cX6_init 109 = .ok (.putfield 48, 3) := by decide +kernel
theorem dX6_init_112 : decode cX6_init 112 = .ok (.aload_n 0, 1) := by decide +kernel
theorem dX6_init_113 : decode cX6_init 113 = .ok (.bipush 36, 2) := by decide +kernel
theorem dX6_init_115 : decode cX6_init 115 = .ok (.newarray .int, 2) := by decide +kernel
theorem dX6_init_117 : decode cX6_init 117 = .ok (.putfield 51, 3) := by decide +kernel
theorem dX6_init_120 : decode cX6_init 120 = .ok (.aload_n 0, 1) := by decide +kernel
theorem dX6_init_121 : decode cX6_init 121 = .ok (.lconst 0, 1) := by decide +kernel
theorem dX6_init_122 : decode cX6_init 122 = .ok (.putfield 54, 3) := by decide +kernel
theorem dX6_init_125 : decode cX6_init 125 = .ok (.aload_n 0, 1) := by decide +kernel
theorem dX6_init_126 : decode cX6_init 126 = .ok (.lconst 1, 1) := by decide +kernel
theorem dX6_init_127 : decode cX6_init 127 = .ok (.putfield 58, 3) := by decide +kernel
theorem dX6_init_130 : decode cX6_init 130 = .ok (.return_, 1) := by decide +kernel
set_option maxRecDepth 20000 in
theorem ggX6_valley_X5_empty : GoodIn wsX6_valley wsX5_empty := goodIn_r _ [7, 8, 9, 10, 11, 12, 13, 14, 27, 28, 29, 30, 31, 32, 33, 34, 35, 36, 37, 38, 39, 40, 41, 42, 43, 44, 45] (by decide +kernel) (by decide +kernel)
set_option maxRecDepth 20000 in
theorem gX6_valley_X5_empty : GoodIn wsX6_valley (wsV RX6 65 RX5 yX5_empty wsX5_empty) := goodIn_app (goodIn_of _ (by decide +kernel)) ggX6_valley_X5_empty
theorem dX6_valley_0 : decode cX6_valley 0 = .ok (.aload_n 0, 1) := by decide +kernel
theorem dX6_valley_1 : decode cX6_valley 1 = .ok (.getfield 12, 3) := by decide +kernel
theorem dX6_valley_4 : decode cX6_valley 4 = .ok (.getfield 61, 3) := by decide +kernel
theorem dX6_valley_7 : decode cX6_valley 7 = .ok (.istore_n 1, 1) := by decide +kernel
theorem dX6_valley_8 : decode cX6_valley 8 = .ok (.aload_n 0, 1) := by decide +kernel
theorem dX6_valley_9 : decode cX6_valley 9 = .ok (.getfield 12, 3) := by decide +kernel
theorem dX6_valley_12 : decode cX6_valley 12 = .ok (.invokevirtual 65, 3) := by decide +kernel
theorem dX6_valley_15 : decode cX6_valley 15 = .ok (.iload_n 1, 1) := by decide +kernel
theorem dX6_valley_16 : decode cX6_valley 16 = .ok (.ireturn, 1) := by decide +kernel
set_option maxRecDepth 20000 in
theorem ggX6_person_X6_upTo : GoodIn wsX6_person wsX6_upTo := goodIn_r _ [6] (by decide +kernel) (by decide +kernel)
set_option maxRecDepth 20000 in
theorem gX6_person_X6_upTo : GoodIn wsX6_person (va_wsS RX6 68 yX6_upTo wsX6_upTo) := goodIn_app (goodIn_of _ (by decide +kernel)) ggX6_person_X6_upTo
set_option maxRecDepth 20000 in
theorem ggX6_person_X6_refusedAsBad : GoodIn wsX6_person wsX6_refusedAsBad := goodIn_r _ [10, 11, 28, 29, 30, 31, 32, 33, 34, 35, 36, 37, 38, 39] (by decide +kernel) (by decide +kernel)
set_option maxRecDepth 20000 in
theorem gX6_person_X6_refusedAsBad : GoodIn wsX6_person (wsV RX6 72 RX6 yX6_refusedAsBad wsX6_refusedAsBad) := goodIn_app (goodIn_of _ (by decide +kernel)) ggX6_person_X6_refusedAsBad
set_option maxRecDepth 20000 in
theorem ggX6_person_X6_refusedAsFull : GoodIn wsX6_person wsX6_refusedAsFull := goodIn_r _ [15, 11, 28, 29, 30, 31, 32, 33, 34, 35, 36, 37, 38, 39] (by decide +kernel) (by decide +kernel)
set_option maxRecDepth 20000 in
theorem gX6_person_X6_refusedAsFull : GoodIn wsX6_person (wsV RX6 76 RX6 yX6_refusedAsFull wsX6_refusedAsFull) := goodIn_app (goodIn_of _ (by decide +kernel)) ggX6_person_X6_refusedAsFull
set_option maxRecDepth 20000 in
theorem ggX6_person_X5_addPerson : GoodIn wsX6_person wsX5_addPerson := goodIn_r _ [20, 21, 22, 23, 24, 25, 26, 27, 40, 41, 42, 43, 44, 45, 46, 47, 48, 49, 50, 51, 52, 53, 54, 55, 56, 57, 58] (by decide +kernel) (by decide +kernel)
set_option maxRecDepth 20000 in
theorem gX6_person_X5_addPerson : GoodIn wsX6_person (wsV RX6 79 RX5 yX5_addPerson wsX5_addPerson) := goodIn_app (goodIn_of _ (by decide +kernel)) ggX6_person_X5_addPerson
theorem dX6_person_0 : decode cX6_person 0 = .ok (.iload_n 1, 1) := by decide +kernel
theorem dX6_person_1 : decode cX6_person 1 = .ok (.bipush 6, 2) := by decide +kernel
theorem dX6_person_3 : decode cX6_person 3 = .ok (.invokestatic 68, 3) := by decide +kernel
theorem dX6_person_6 : decode cX6_person 6 = .ok (.ifCond .eq 16, 3) := by decide +kernel
theorem dX6_person_9 : decode cX6_person 9 = .ok (.iload_n 2, 1) := by decide +kernel
theorem dX6_person_10 : decode cX6_person 10 = .ok (.bipush 20, 2) := by decide +kernel
theorem dX6_person_12 : decode cX6_person 12 = .ok (.invokestatic 68, 3) := by decide +kernel
theorem dX6_person_15 : decode cX6_person 15 = .ok (.ifCond .eq 7, 3) := by decide +kernel
theorem dX6_person_18 : decode cX6_person 18 = .ok (.iconst 1, 1) := by decide +kernel
theorem dX6_person_19 : decode cX6_person 19 = .ok (.goto 4, 3) := by decide +kernel
theorem dX6_person_22 : decode cX6_person 22 = .ok (.iconst 0, 1) := by decide +kernel
theorem dX6_person_23 : decode cX6_person 23 = .ok (.istore 7, 2) := by decide +kernel
theorem dX6_person_25 : decode cX6_person 25 = .ok (.iload 7, 2) := by decide +kernel
theorem dX6_person_27 : decode cX6_person 27 = .ok (.ifCond .eq 42, 3) := by decide +kernel
theorem dX6_person_30 : decode cX6_person 30 = .ok (.iload_n 3, 1) := by decide +kernel
theorem dX6_person_31 : decode cX6_person 31 = .ok (.bipush 10, 2) := by decide +kernel
theorem dX6_person_33 : decode cX6_person 33 = .ok (.invokestatic 68, 3) := by decide +kernel
theorem dX6_person_36 : decode cX6_person 36 = .ok (.ifCond .eq 33, 3) := by decide +kernel
theorem dX6_person_39 : decode cX6_person 39 = .ok (.iload 4, 2) := by decide +kernel
theorem dX6_person_41 : decode cX6_person 41 = .ok (.bipush 10, 2) := by decide +kernel
theorem dX6_person_43 : decode cX6_person 43 = .ok (.invokestatic 68, 3) := by decide +kernel
theorem dX6_person_46 : decode cX6_person 46 = .ok (.ifCond .eq 23, 3) := by decide +kernel
theorem dX6_person_49 : decode cX6_person 49 = .ok (.iload 5, 2) := by decide +kernel
theorem dX6_person_51 : decode cX6_person 51 = .ok (.bipush 10, 2) := by decide +kernel
theorem dX6_person_53 : decode cX6_person 53 = .ok (.invokestatic 68, 3) := by decide +kernel
theorem dX6_person_56 : decode cX6_person 56 = .ok (.ifCond .eq 13, 3) := by decide +kernel
theorem dX6_person_59 : decode cX6_person 59 = .ok (.iload 6, 2) := by decide +kernel
theorem dX6_person_61 : decode cX6_person 61 = .ok (.bipush 10, 2) := by decide +kernel
theorem dX6_person_63 : decode cX6_person 63 = .ok (.invokestatic 68, 3) := by decide +kernel
theorem dX6_person_66 : decode cX6_person 66 = .ok (.ifCond .ne 8, 3) := by decide +kernel
theorem dX6_person_69 : decode cX6_person 69 = .ok (.aload_n 0, 1) := by decide +kernel
theorem dX6_person_70 : decode cX6_person 70 = .ok (.invokevirtual 72, 3) := by decide +kernel
theorem dX6_person_73 : decode cX6_person 73 = .ok (.ireturn, 1) := by decide +kernel
theorem dX6_person_74 : decode cX6_person 74 = .ok (.aload_n 0, 1) := by decide +kernel
theorem dX6_person_75 : decode cX6_person 75 = .ok (.getfield 12, 3) := by decide +kernel
theorem dX6_person_78 : decode cX6_person 78 = .ok (.getfield 61, 3) := by decide +kernel
theorem dX6_person_81 : decode cX6_person 81 = .ok (.bipush 7, 2) := by decide +kernel
theorem dX6_person_83 : decode cX6_person 83 = .ok (.if_icmp .lt 8, 3) := by decide +kernel
theorem dX6_person_86 : decode cX6_person 86 = .ok (.aload_n 0, 1) := by decide +kernel
theorem dX6_person_87 : decode cX6_person 87 = .ok (.invokevirtual 76, 3) := by decide +kernel
theorem dX6_person_90 : decode cX6_person 90 = .ok (.ireturn, 1) := by decide +kernel
theorem dX6_person_91 : decode cX6_person 91 = .ok (.aload_n 0, 1) := by decide +kernel
theorem dX6_person_92 : decode cX6_person 92 = .ok (.getfield 12, 3) := by decide +kernel
theorem dX6_person_95 : decode cX6_person 95 = .ok (.iload_n 1, 1) := by decide +kernel
theorem dX6_person_96 : decode cX6_person 96 = .ok (.iload_n 2, 1) := by decide +kernel
theorem dX6_person_97 : decode cX6_person 97 = .ok (.iload_n 3, 1) := by decide +kernel
theorem dX6_person_98 : decode cX6_person 98 = .ok (.iload 4, 2) := by decide +kernel
theorem dX6_person_100 : decode cX6_person 100 = .ok (.iload 5, 2) := by decide +kernel
theorem dX6_person_102 : decode cX6_person 102 = .ok (.iload 6, 2) := by decide +kernel
theorem dX6_person_104 : decode cX6_person 104 = .ok (.invokevirtual 79, 3) := by decide +kernel
theorem dX6_person_107 : decode cX6_person 107 = .ok (.aload_n 0, 1) := by decide +kernel
theorem dX6_person_108 : decode cX6_person 108 = .ok (.getfield 12, 3) := by decide +kernel
theorem dX6_person_111 : decode cX6_person 111 = .ok (.getfield 61, 3) := by decide +kernel
theorem dX6_person_114 : decode cX6_person 114 = .ok (.iconst 1, 1) := by decide +kernel
theorem dX6_person_115 : decode cX6_person 115 = .ok (.isub, 1) := by decide +kernel
theorem dX6_person_116 : decode cX6_person 116 = .ok (.ireturn, 1) := by decide +kernel
set_option maxRecDepth 20000 in
theorem ggX6_thing_X6_upTo : GoodIn wsX6_thing wsX6_upTo := goodIn_r _ [6] (by decide +kernel) (by decide +kernel)
set_option maxRecDepth 20000 in
theorem gX6_thing_X6_upTo : GoodIn wsX6_thing (va_wsS RX6 68 yX6_upTo wsX6_upTo) := goodIn_app (goodIn_of _ (by decide +kernel)) ggX6_thing_X6_upTo
set_option maxRecDepth 20000 in
theorem ggX6_thing_X6_isPerson : GoodIn wsX6_thing wsX6_isPerson := goodIn_r _ [10, 1, 11, 3, 4, 5, 6, 34, 35, 36, 37, 38, 39, 40, 41, 42, 43, 44, 45, 46, 47, 48, 49, 50, 51, 52, 53, 54, 55, 56, 57, 58, 59, 60] (by decide +kernel) (by decide +kernel)
set_option maxRecDepth 20000 in
theorem gX6_thing_X6_isPerson : GoodIn wsX6_thing (wsV RX6 83 RX6 yX6_isPerson wsX6_isPerson) := goodIn_app (goodIn_of _ (by decide +kernel)) ggX6_thing_X6_isPerson
set_option maxRecDepth 20000 in
theorem ggX6_thing_X6_refusedAsBad : GoodIn wsX6_thing wsX6_refusedAsBad := goodIn_r _ [15, 16, 34, 35, 36, 37, 38, 39, 40, 41, 42, 43, 44, 45] (by decide +kernel) (by decide +kernel)
set_option maxRecDepth 20000 in
theorem gX6_thing_X6_refusedAsBad : GoodIn wsX6_thing (wsV RX6 72 RX6 yX6_refusedAsBad wsX6_refusedAsBad) := goodIn_app (goodIn_of _ (by decide +kernel)) ggX6_thing_X6_refusedAsBad
set_option maxRecDepth 20000 in
theorem ggX6_thing_X6_refusedAsFull : GoodIn wsX6_thing wsX6_refusedAsFull := goodIn_r _ [20, 16, 34, 35, 36, 37, 38, 39, 40, 41, 42, 43, 44, 45] (by decide +kernel) (by decide +kernel)
set_option maxRecDepth 20000 in
theorem gX6_thing_X6_refusedAsFull : GoodIn wsX6_thing (wsV RX6 76 RX6 yX6_refusedAsFull wsX6_refusedAsFull) := goodIn_app (goodIn_of _ (by decide +kernel)) ggX6_thing_X6_refusedAsFull
set_option maxRecDepth 20000 in
theorem ggX6_thing_X5_addThing : GoodIn wsX6_thing wsX5_addThing := goodIn_r _ [25, 26, 27, 28, 29, 30, 31, 32, 33, 46, 47, 48, 49, 50, 51, 52, 53, 54, 55, 56, 57, 58, 59, 60, 61, 62, 63, 64] (by decide +kernel) (by decide +kernel)
set_option maxRecDepth 20000 in
theorem gX6_thing_X5_addThing : GoodIn wsX6_thing (wsV RX6 90 RX5 yX5_addThing wsX5_addThing) := goodIn_app (goodIn_of _ (by decide +kernel)) ggX6_thing_X5_addThing
theorem dX6_thing_0 : decode cX6_thing 0 = .ok (.iload_n 1, 1) := by decide +kernel
theorem dX6_thing_1 : decode cX6_thing 1 = .ok (.bipush 6, 2) := by decide +kernel
theorem dX6_thing_3 : decode cX6_thing 3 = .ok (.invokestatic 68, 3) := by decide +kernel
theorem dX6_thing_6 : decode cX6_thing 6 = .ok (.ifCond .eq 19, 3) := by decide +kernel
theorem dX6_thing_9 : decode cX6_thing 9 = .ok (.iload_n 2, 1) := by decide +kernel
theorem dX6_thing_10 : decode cX6_thing 10 = .ok (.iconst 4, 1) := by decide +kernel
theorem dX6_thing_11 : decode cX6_thing 11 = .ok (.invokestatic 68, 3) := by decide +kernel
theorem dX6_thing_14 : decode cX6_thing 14 = .ok (.ifCond .eq 11, 3) := by decide +kernel
theorem dX6_thing_17 : decode cX6_thing 17 = .ok (.aload_n 0, 1) := by decide +kernel
theorem dX6_thing_18 : decode cX6_thing 18 = .ok (.iload_n 3, 1) := by decide +kernel
theorem dX6_thing_19 : decode cX6_thing 19 = .ok (.invokevirtual 83, 3) := by decide +kernel
theorem dX6_thing_22 : decode cX6_thing 22 = .ok (.ifCond .ne 8, 3) := by decide +kernel
theorem dX6_thing_25 : decode cX6_thing 25 = .ok (.aload_n 0, 1) := by decide +kernel
theorem dX6_thing_26 : decode cX6_thing 26 = .ok (.invokevirtual 72, 3) := by decide +kernel
theorem dX6_thing_29 : decode cX6_thing 29 = .ok (.ireturn, 1) := by decide +kernel
theorem dX6_thing_30 : decode cX6_thing 30 = .ok (.aload_n 0, 1) := by decide +kernel
theorem dX6_thing_31 : decode cX6_thing 31 = .ok (.getfield 12, 3) := by decide +kernel
theorem dX6_thing_34 : decode cX6_thing 34 = .ok (.getfield 87, 3) := by decide +kernel
theorem dX6_thing_37 : decode cX6_thing 37 = .ok (.iconst 5, 1) := by decide +kernel
theorem dX6_thing_38 : decode cX6_thing 38 = .ok (.if_icmp .lt 8, 3) := by decide +kernel
theorem dX6_thing_41 : decode cX6_thing 41 = .ok (.aload_n 0, 1) := by decide +kernel
theorem dX6_thing_42 : decode cX6_thing 42 = .ok (.invokevirtual 76, 3) := by decide +kernel
theorem dX6_thing_45 : decode cX6_thing 45 = .ok (.ireturn, 1) := by decide +kernel
theorem dX6_thing_46 : decode cX6_thing 46 = .ok (.aload_n 0, 1) := by decide +kernel
theorem dX6_thing_47 : decode cX6_thing 47 = .ok (.getfield 12, 3) := by decide +kernel
theorem dX6_thing_50 : decode cX6_thing 50 = .ok (.iload_n 1, 1) := by decide +kernel
theorem dX6_thing_51 : decode cX6_thing 51 = .ok (.iload_n 2, 1) := by decide +kernel
theorem dX6_thing_52 : decode cX6_thing 52 = .ok (.iload_n 3, 1) := by decide +kernel
theorem dX6_thing_53 : decode cX6_thing 53 = .ok (.invokevirtual 90, 3) := by decide +kernel
theorem dX6_thing_56 : decode cX6_thing 56 = .ok (.aload_n 0, 1) := by decide +kernel
theorem dX6_thing_57 : decode cX6_thing 57 = .ok (.getfield 12, 3) := by decide +kernel
theorem dX6_thing_60 : decode cX6_thing 60 = .ok (.getfield 87, 3) := by decide +kernel
theorem dX6_thing_63 : decode cX6_thing 63 = .ok (.iconst 1, 1) := by decide +kernel
theorem dX6_thing_64 : decode cX6_thing 64 = .ok (.isub, 1) := by decide +kernel
theorem dX6_thing_65 : decode cX6_thing 65 = .ok (.ireturn, 1) := by decide +kernel
set_option maxRecDepth 20000 in
theorem ggX6_type_X6_upTo : GoodIn wsX6_type wsX6_upTo := goodIn_r _ [6] (by decide +kernel) (by decide +kernel)
set_option maxRecDepth 20000 in
theorem gX6_type_X6_upTo : GoodIn wsX6_type (va_wsS RX6 68 yX6_upTo wsX6_upTo) := goodIn_app (goodIn_of _ (by decide +kernel)) ggX6_type_X6_upTo
set_option maxRecDepth 20000 in
theorem ggX6_type_X6_refusedAsBad : GoodIn wsX6_type wsX6_refusedAsBad := goodIn_r _ [10, 11, 23, 24, 25, 26, 27, 28, 29, 30, 31, 32, 33, 34] (by decide +kernel) (by decide +kernel)
set_option maxRecDepth 20000 in
theorem gX6_type_X6_refusedAsBad : GoodIn wsX6_type (wsV RX6 72 RX6 yX6_refusedAsBad wsX6_refusedAsBad) := goodIn_app (goodIn_of _ (by decide +kernel)) ggX6_type_X6_refusedAsBad
set_option maxRecDepth 20000 in
theorem ggX6_type_X6_refusedAsFull : GoodIn wsX6_type wsX6_refusedAsFull := goodIn_r _ [15, 11, 23, 24, 25, 26, 27, 28, 29, 30, 31, 32, 33, 34] (by decide +kernel) (by decide +kernel)
set_option maxRecDepth 20000 in
theorem gX6_type_X6_refusedAsFull : GoodIn wsX6_type (wsV RX6 76 RX6 yX6_refusedAsFull wsX6_refusedAsFull) := goodIn_app (goodIn_of _ (by decide +kernel)) ggX6_type_X6_refusedAsFull
set_option maxRecDepth 20000 in
theorem ggX6_type_X2_put : GoodIn wsX6_type wsX2_put := goodIn_r _ [20, 21, 22, 35, 36, 37, 38, 39, 40] (by decide +kernel) (by decide +kernel)
set_option maxRecDepth 20000 in
theorem gX6_type_X2_put : GoodIn wsX6_type (wsV RX6 97 RX2 yX2_put wsX2_put) := goodIn_app (goodIn_of _ (by decide +kernel)) ggX6_type_X2_put
theorem dX6_type_0 : decode cX6_type 0 = .ok (.iload_n 1, 1) := by decide +kernel
theorem dX6_type_1 : decode cX6_type 1 = .ok (.sipush 128, 3) := by decide +kernel
theorem dX6_type_4 : decode cX6_type 4 = .ok (.invokestatic 68, 3) := by decide +kernel
theorem dX6_type_7 : decode cX6_type 7 = .ok (.ifCond .ne 8, 3) := by decide +kernel
theorem dX6_type_10 : decode cX6_type 10 = .ok (.aload_n 0, 1) := by decide +kernel
theorem dX6_type_11 : decode cX6_type 11 = .ok (.invokevirtual 72, 3) := by decide +kernel
theorem dX6_type_14 : decode cX6_type 14 = .ok (.ireturn, 1) := by decide +kernel
theorem dX6_type_15 : decode cX6_type 15 = .ok (.aload_n 0, 1) := by decide +kernel
theorem dX6_type_16 : decode cX6_type 16 = .ok (.getfield 30, 3) := by decide +kernel
theorem dX6_type_19 : decode cX6_type 19 = .ok (.getfield 94, 3) := by decide +kernel
theorem dX6_type_22 : decode cX6_type 22 = .ok (.sipush 150, 3) := by decide +kernel
theorem dX6_type_25 : decode cX6_type 25 = .ok (.if_icmp .lt 8, 3) := by decide +kernel
theorem dX6_type_28 : decode cX6_type 28 = .ok (.aload_n 0, 1) := by decide +kernel
theorem dX6_type_29 : decode cX6_type 29 = .ok (.invokevirtual 76, 3) := by decide +kernel
theorem dX6_type_32 : decode cX6_type 32 = .ok (.ireturn, 1) := by decide +kernel
theorem dX6_type_33 : decode cX6_type 33 = .ok (.aload_n 0, 1) := by decide +kernel
theorem dX6_type_34 : decode cX6_type 34 = .ok (.getfield 30, 3) := by decide +kernel
theorem dX6_type_37 : decode cX6_type 37 = .ok (.iload_n 1, 1) := by decide +kernel
theorem dX6_type_38 : decode cX6_type 38 = .ok (.i2c, 1) := by decide +kernel
theorem dX6_type_39 : decode cX6_type 39 = .ok (.invokevirtual 97, 3) := by decide +kernel
theorem dX6_type_42 : decode cX6_type 42 = .ok (.aload_n 0, 1) := by decide +kernel
theorem dX6_type_43 : decode cX6_type 43 = .ok (.getfield 30, 3) := by decide +kernel
theorem dX6_type_46 : decode cX6_type 46 = .ok (.getfield 94, 3) := by decide +kernel
theorem dX6_type_49 : decode cX6_type 49 = .ok (.ireturn, 1) := by decide +kernel
theorem dX6_clear_0 : decode cX6_clear 0 = .ok (.aload_n 0, 1) := by decide +kernel
theorem dX6_clear_1 : decode cX6_clear 1 = .ok (.getfield 30, 3) := by decide +kernel
theorem dX6_clear_4 : decode cX6_clear 4 = .ok (.getfield 94, 3) := by decide +kernel
theorem dX6_clear_7 : decode cX6_clear 7 = .ok (.istore_n 1, 1) := by decide +kernel
theorem dX6_clear_8 : decode cX6_clear 8 = .ok (.aload_n 0, 1) := by decide +kernel
theorem dX6_clear_9 : decode cX6_clear 9 = .ok (.getfield 30, 3) := by decide +kernel
theorem dX6_clear_12 : decode cX6_clear 12 = .ok (.iconst 0, 1) := by decide +kernel
theorem dX6_clear_13 : decode cX6_clear 13 = .ok (.putfield 94, 3) := by decide +kernel
theorem dX6_clear_16 : decode cX6_clear 16 = .ok (.iload_n 1, 1) := by decide +kernel
theorem dX6_clear_17 : decode cX6_clear 17 = .ok (.ireturn, 1) := by decide +kernel
set_option maxRecDepth 20000 in
theorem ggX6_read_X2_tell : GoodIn wsX6_read wsX2_tell := goodIn_r _ [8, 9, 10, 11, 12, 13, 14, 15, 16, 17, 18, 19, 20, 21, 22, 23, 24, 25, 26, 7, 27, 28, 29, 30, 31, 32, 33, 34, 35, 36, 37, 38, 39, 40, 41, 42, 43, 44, 45, 46, 47, 48, 49, 50, 51, 52, 53, 54, 55, 56, 57, 58, 59, 60, 61, 62, 63, 64, 65, 66, 67, 68, 69, 70, 71, 72, 73, 74, 75, 76, 77, 78, 79, 80, 81, 82, 83, 84, 85, 86, 87, 88, 89, 90, 91, 92, 93, 94, 95, 96, 97, 98, 99, 100, 101, 102, 103, 104, 105, 106, 107, 108, 109, 110, 111, 112, 113, 114, 115, 116, 117, 118, 119, 120, 121, 122, 123, 124, 125, 126, 127, 128, 129, 130, 131, 132, 133, 134, 135, 136, 137, 138, 139, 140, 141, 142, 143, 144, 145, 146, 147, 148, 149, 150, 151, 152, 153, 154, 155, 156, 157, 158, 159, 160, 161, 162, 163, 164, 165, 199, 200, 201, 202, 203, 204, 205, 206, 207, 208, 209, 210, 211, 212, 213, 214, 215, 216, 217, 218, 219, 220, 221, 222, 223] (by decide +kernel) (by decide +kernel)
set_option maxRecDepth 20000 in
theorem gX6_read_X2_tell : GoodIn wsX6_read (wsV RX6 101 RX2 yX2_tell wsX2_tell) := goodIn_app (goodIn_of _ (by decide +kernel)) ggX6_read_X2_tell
set_option maxRecDepth 20000 in
theorem ggX6_read_X5_copyOf : GoodIn wsX6_read wsX5_copyOf := goodIn_r _ [169, 107, 108, 109, 110, 125, 126, 127, 128, 129, 20, 22, 23, 17, 18, 19, 170, 171, 172, 173, 174, 153, 175, 176, 177, 178, 179, 180, 181, 182, 183, 184, 185, 186, 205, 206, 207, 208, 209, 210, 211, 212, 213, 214, 215, 216, 217, 218, 219, 220, 221, 222, 223] (by decide +kernel) (by decide +kernel)
set_option maxRecDepth 20000 in
theorem gX6_read_X5_copyOf : GoodIn wsX6_read (wsV RX6 105 RX5 yX5_copyOf wsX5_copyOf) := goodIn_app (goodIn_of _ (by decide +kernel)) ggX6_read_X5_copyOf
theorem dX6_read_0 : decode cX6_read 0 = .ok (.aload_n 0, 1) := by decide +kernel
theorem dX6_read_1 : decode cX6_read 1 = .ok (.getfield 30, 3) := by decide +kernel
theorem dX6_read_4 : decode cX6_read 4 = .ok (.aload_n 0, 1) := by decide +kernel
theorem dX6_read_5 : decode cX6_read 5 = .ok (.getfield 16, 3) := by decide +kernel
theorem dX6_read_8 : decode cX6_read 8 = .ok (.invokevirtual 101, 3) := by decide +kernel
theorem dX6_read_11 : decode cX6_read 11 = .ok (.istore_n 1, 1) := by decide +kernel
theorem dX6_read_12 : decode cX6_read 12 = .ok (.iload_n 1, 1) := by decide +kernel
theorem dX6_read_13 : decode cX6_read 13 = .ok (.ifCond .lt 14, 3) := by decide +kernel
theorem dX6_read_16 : decode cX6_read 16 = .ok (.aload_n 0, 1) := by decide +kernel
theorem dX6_read_17 : decode cX6_read 17 = .ok (.getfield 12, 3) := by decide +kernel
theorem dX6_read_20 : decode cX6_read 20 = .ok (.aload_n 0, 1) := by decide +kernel
theorem dX6_read_21 : decode cX6_read 21 = .ok (.getfield 16, 3) := by decide +kernel
theorem dX6_read_24 : decode cX6_read 24 = .ok (.invokevirtual 105, 3) := by decide +kernel
theorem dX6_read_27 : decode cX6_read 27 = .ok (.iload_n 1, 1) := by decide +kernel
theorem dX6_read_28 : decode cX6_read 28 = .ok (.ireturn, 1) := by decide +kernel
set_option maxRecDepth 20000 in
theorem ggX6_lose_X6_isThing : GoodIn wsX6_lose wsX6_isThing := goodIn_r _ [8, 1, 9, 10, 11, 7, 12, 57, 58, 59, 60, 61, 62, 63, 64, 65, 66, 67, 68, 69, 70, 71, 72, 73, 74, 75, 76, 77, 78, 79, 80, 81, 82, 83] (by decide +kernel) (by decide +kernel)
set_option maxRecDepth 20000 in
theorem gX6_lose_X6_isThing : GoodIn wsX6_lose (wsV RX6 109 RX6 yX6_isThing wsX6_isThing) := goodIn_app (goodIn_of _ (by decide +kernel)) ggX6_lose_X6_isThing
set_option maxRecDepth 20000 in
theorem ggX6_lose_X6_refusedAsBad : GoodIn wsX6_lose wsX6_refusedAsBad := goodIn_r _ [16, 17, 57, 58, 59, 60, 61, 62, 63, 64, 65, 66, 67, 68] (by decide +kernel) (by decide +kernel)
set_option maxRecDepth 20000 in
theorem gX6_lose_X6_refusedAsBad : GoodIn wsX6_lose (wsV RX6 72 RX6 yX6_refusedAsBad wsX6_refusedAsBad) := goodIn_app (goodIn_of _ (by decide +kernel)) ggX6_lose_X6_refusedAsBad
set_option maxRecDepth 20000 in
theorem ggX6_lose_X6_refusedAsNo : GoodIn wsX6_lose wsX6_refusedAsNo := goodIn_r _ [21, 17, 57, 58, 59, 60, 61, 62, 63, 64, 65, 66, 67, 68] (by decide +kernel) (by decide +kernel)
set_option maxRecDepth 20000 in
theorem gX6_lose_X6_refusedAsNo : GoodIn wsX6_lose (wsV RX6 115 RX6 yX6_refusedAsNo wsX6_refusedAsNo) := goodIn_app (goodIn_of _ (by decide +kernel)) ggX6_lose_X6_refusedAsNo
set_option maxRecDepth 20000 in
theorem ggX6_lose_X5_keepPast : GoodIn wsX6_lose wsX5_keepPast := goodIn_r _ [26, 27, 28, 29, 30, 31, 32, 33, 34, 35, 36, 37, 38, 39, 40, 41, 42, 43, 44, 45, 46, 47, 48, 49, 50, 51, 52, 53, 54, 55, 56, 69, 70, 71, 72, 73, 74, 75, 76, 77, 78, 79, 80, 81, 82, 83, 84, 85, 86, 87] (by decide +kernel) (by decide +kernel)
set_option maxRecDepth 20000 in
theorem gX6_lose_X5_keepPast : GoodIn wsX6_lose (wsV RX6 118 RX5 yX5_keepPast wsX5_keepPast) := goodIn_app (goodIn_of _ (by decide +kernel)) ggX6_lose_X5_keepPast
theorem dX6_lose_0 : decode cX6_lose 0 = .ok (.aload_n 0, 1) := by decide +kernel
theorem dX6_lose_1 : decode cX6_lose 1 = .ok (.iload_n 1, 1) := by decide +kernel
theorem dX6_lose_2 : decode cX6_lose 2 = .ok (.invokevirtual 109, 3) := by decide +kernel
theorem dX6_lose_5 : decode cX6_lose 5 = .ok (.ifCond .ne 8, 3) := by decide +kernel
theorem dX6_lose_8 : decode cX6_lose 8 = .ok (.aload_n 0, 1) := by decide +kernel
theorem dX6_lose_9 : decode cX6_lose 9 = .ok (.invokevirtual 72, 3) := by decide +kernel
theorem dX6_lose_12 : decode cX6_lose 12 = .ok (.ireturn, 1) := by decide +kernel
theorem dX6_lose_13 : decode cX6_lose 13 = .ok (.aload_n 0, 1) := by decide +kernel
theorem dX6_lose_14 : decode cX6_lose 14 = .ok (.getfield 12, 3) := by decide +kernel
theorem dX6_lose_17 : decode cX6_lose 17 = .ok (.getfield 112, 3) := by decide +kernel
theorem dX6_lose_20 : decode cX6_lose 20 = .ok (.iload_n 1, 1) := by decide +kernel
theorem dX6_lose_21 : decode cX6_lose 21 = .ok (.iaload, 1) := by decide +kernel
theorem dX6_lose_22 : decode cX6_lose 22 = .ok (.ifCond .eq 8, 3) := by decide +kernel
theorem dX6_lose_25 : decode cX6_lose 25 = .ok (.aload_n 0, 1) := by decide +kernel
theorem dX6_lose_26 : decode cX6_lose 26 = .ok (.invokevirtual 115, 3) := by decide +kernel
theorem dX6_lose_29 : decode cX6_lose 29 = .ok (.ireturn, 1) := by decide +kernel
theorem dX6_lose_30 : decode cX6_lose 30 = .ok (.aload_n 0, 1) := by decide +kernel
theorem dX6_lose_31 : decode cX6_lose 31 = .ok (.getfield 12, 3) := by decide +kernel
theorem dX6_lose_34 : decode cX6_lose 34 = .ok (.invokevirtual 118, 3) := by decide +kernel
theorem dX6_lose_37 : decode cX6_lose 37 = .ok (.aload_n 0, 1) := by decide +kernel
theorem dX6_lose_38 : decode cX6_lose 38 = .ok (.getfield 12, 3) := by decide +kernel
theorem dX6_lose_41 : decode cX6_lose 41 = .ok (.getfield 112, 3) := by decide +kernel
theorem dX6_lose_44 : decode cX6_lose 44 = .ok (.iload_n 1, 1) := by decide +kernel
theorem dX6_lose_45 : decode cX6_lose 45 = .ok (.iconst 1, 1) := by decide +kernel
theorem dX6_lose_46 : decode cX6_lose 46 = .ok (.iastore, 1) := by decide +kernel
theorem dX6_lose_47 : decode cX6_lose 47 = .ok (.aload_n 0, 1) := by decide +kernel
theorem dX6_lose_48 : decode cX6_lose 48 = .ok (.getfield 12, 3) := by decide +kernel
theorem dX6_lose_51 : decode cX6_lose 51 = .ok (.getfield 121, 3) := by decide +kernel
theorem dX6_lose_54 : decode cX6_lose 54 = .ok (.iload_n 1, 1) := by decide +kernel
theorem dX6_lose_55 : decode cX6_lose 55 = .ok (.iaload, 1) := by decide +kernel
theorem dX6_lose_56 : decode cX6_lose 56 = .ok (.ireturn, 1) := by decide +kernel
set_option maxRecDepth 20000 in
theorem ggX6_back_X6_isThing : GoodIn wsX6_back wsX6_isThing := goodIn_r _ [8, 1, 9, 10, 11, 7, 12, 84, 85, 86, 87, 88, 89, 90, 91, 92, 93, 94, 95, 96, 97, 98, 99, 100, 101, 102, 103, 104, 105, 106, 107, 108, 109, 110] (by decide +kernel) (by decide +kernel)
set_option maxRecDepth 20000 in
theorem gX6_back_X6_isThing : GoodIn wsX6_back (wsV RX6 109 RX6 yX6_isThing wsX6_isThing) := goodIn_app (goodIn_of _ (by decide +kernel)) ggX6_back_X6_isThing
set_option maxRecDepth 20000 in
theorem ggX6_back_X6_refusedAsBad : GoodIn wsX6_back wsX6_refusedAsBad := goodIn_r _ [16, 17, 84, 85, 86, 87, 88, 89, 90, 91, 92, 93, 94, 95] (by decide +kernel) (by decide +kernel)
set_option maxRecDepth 20000 in
theorem gX6_back_X6_refusedAsBad : GoodIn wsX6_back (wsV RX6 72 RX6 yX6_refusedAsBad wsX6_refusedAsBad) := goodIn_app (goodIn_of _ (by decide +kernel)) ggX6_back_X6_refusedAsBad
set_option maxRecDepth 20000 in
theorem ggX6_back_X5_isAway : GoodIn wsX6_back wsX5_isAway := goodIn_r _ [22, 23, 24, 25, 96, 97, 98, 99, 100, 101, 102, 103, 104, 105, 106, 107, 108, 109, 110] (by decide +kernel) (by decide +kernel)
set_option maxRecDepth 20000 in
theorem gX6_back_X5_isAway : GoodIn wsX6_back (wsV RX6 124 RX5 yX5_isAway wsX5_isAway) := goodIn_app (goodIn_of _ (by decide +kernel)) ggX6_back_X5_isAway
set_option maxRecDepth 20000 in
theorem ggX6_back_X6_refusedAsNo : GoodIn wsX6_back wsX6_refusedAsNo := goodIn_r _ [29, 17, 84, 85, 86, 87, 88, 89, 90, 91, 92, 93, 94, 95] (by decide +kernel) (by decide +kernel)
set_option maxRecDepth 20000 in
theorem gX6_back_X6_refusedAsNo : GoodIn wsX6_back (wsV RX6 115 RX6 yX6_refusedAsNo wsX6_refusedAsNo) := goodIn_app (goodIn_of _ (by decide +kernel)) ggX6_back_X6_refusedAsNo
set_option maxRecDepth 20000 in
theorem ggX6_back_X5_askedFor : GoodIn wsX6_back wsX5_askedFor := goodIn_r _ [33, 34, 24, 35, 36, 37, 38, 39, 21, 40, 41, 42, 43, 44, 45, 46, 47, 48, 49, 50, 51, 52, 53, 96, 97, 98, 99, 100, 101, 102, 103, 104, 105, 106, 107, 108, 109, 110] (by decide +kernel) (by decide +kernel)
set_option maxRecDepth 20000 in
theorem gX6_back_X5_askedFor : GoodIn wsX6_back (wsV RX6 127 RX5 yX5_askedFor wsX5_askedFor) := goodIn_app (goodIn_of _ (by decide +kernel)) ggX6_back_X5_askedFor
set_option maxRecDepth 20000 in
theorem ggX6_back_X5_keepPast : GoodIn wsX6_back wsX5_keepPast := goodIn_r _ [57, 58, 36, 42, 24, 23, 59, 60, 61, 62, 63, 64, 65, 66, 67, 68, 69, 70, 71, 72, 73, 74, 75, 76, 77, 78, 79, 80, 81, 82, 83, 96, 97, 98, 99, 100, 101, 102, 103, 104, 105, 106, 107, 108, 109, 110, 111, 112, 113, 114] (by decide +kernel) (by decide +kernel)
set_option maxRecDepth 20000 in
theorem gX6_back_X5_keepPast : GoodIn wsX6_back (wsV RX6 118 RX5 yX5_keepPast wsX5_keepPast) := goodIn_app (goodIn_of _ (by decide +kernel)) ggX6_back_X5_keepPast
theorem dX6_back_0 : decode cX6_back 0 = .ok (.aload_n 0, 1) := by decide +kernel
theorem dX6_back_1 : decode cX6_back 1 = .ok (.iload_n 1, 1) := by decide +kernel
theorem dX6_back_2 : decode cX6_back 2 = .ok (.invokevirtual 109, 3) := by decide +kernel
theorem dX6_back_5 : decode cX6_back 5 = .ok (.ifCond .ne 8, 3) := by decide +kernel
theorem dX6_back_8 : decode cX6_back 8 = .ok (.aload_n 0, 1) := by decide +kernel
theorem dX6_back_9 : decode cX6_back 9 = .ok (.invokevirtual 72, 3) := by decide +kernel
theorem dX6_back_12 : decode cX6_back 12 = .ok (.ireturn, 1) := by decide +kernel
theorem dX6_back_13 : decode cX6_back 13 = .ok (.aload_n 0, 1) := by decide +kernel
theorem dX6_back_14 : decode cX6_back 14 = .ok (.getfield 12, 3) := by decide +kernel
theorem dX6_back_17 : decode cX6_back 17 = .ok (.iload_n 1, 1) := by decide +kernel
theorem dX6_back_18 : decode cX6_back 18 = .ok (.invokevirtual 124, 3) := by decide +kernel
theorem dX6_back_21 : decode cX6_back 21 = .ok (.ifCond .ne 8, 3) := by decide +kernel
theorem dX6_back_24 : decode cX6_back 24 = .ok (.aload_n 0, 1) := by decide +kernel
theorem dX6_back_25 : decode cX6_back 25 = .ok (.invokevirtual 115, 3) := by decide +kernel
theorem dX6_back_28 : decode cX6_back 28 = .ok (.ireturn, 1) := by decide +kernel
theorem dX6_back_29 : decode cX6_back 29 = .ok (.aload_n 0, 1) := by decide +kernel
theorem dX6_back_30 : decode cX6_back 30 = .ok (.getfield 12, 3) := by decide +kernel
theorem dX6_back_33 : decode cX6_back 33 = .ok (.iload_n 1, 1) := by decide +kernel
theorem dX6_back_34 : decode cX6_back 34 = .ok (.invokevirtual 127, 3) := by decide +kernel
theorem dX6_back_37 : decode cX6_back 37 = .ok (.istore_n 2, 1) := by decide +kernel
theorem dX6_back_38 : decode cX6_back 38 = .ok (.aload_n 0, 1) := by decide +kernel
theorem dX6_back_39 : decode cX6_back 39 = .ok (.getfield 12, 3) := by decide +kernel
theorem dX6_back_42 : decode cX6_back 42 = .ok (.invokevirtual 118, 3) := by decide +kernel
theorem dX6_back_45 : decode cX6_back 45 = .ok (.aload_n 0, 1) := by decide +kernel
theorem dX6_back_46 : decode cX6_back 46 = .ok (.getfield 12, 3) := by decide +kernel
theorem dX6_back_49 : decode cX6_back 49 = .ok (.getfield 121, 3) := by decide +kernel
theorem dX6_back_52 : decode cX6_back 52 = .ok (.iload_n 1, 1) := by decide +kernel
theorem dX6_back_53 : decode cX6_back 53 = .ok (.aload_n 0, 1) := by decide +kernel
theorem dX6_back_54 : decode cX6_back 54 = .ok (.getfield 12, 3) := by decide +kernel
theorem dX6_back_57 : decode cX6_back 57 = .ok (.getfield 131, 3) := by decide +kernel
theorem dX6_back_60 : decode cX6_back 60 = .ok (.iload_n 1, 1) := by decide +kernel
theorem dX6_back_61 : decode cX6_back 61 = .ok (.iaload, 1) := by decide +kernel
theorem dX6_back_62 : decode cX6_back 62 = .ok (.iastore, 1) := by decide +kernel
theorem dX6_back_63 : decode cX6_back 63 = .ok (.iload_n 2, 1) := by decide +kernel
theorem dX6_back_64 : decode cX6_back 64 = .ok (.ireturn, 1) := by decide +kernel
set_option maxRecDepth 20000 in
theorem ggX6_coat_X6_isPerson : GoodIn wsX6_coat wsX6_isPerson := goodIn_r _ [7, 1, 8, 9, 10, 6, 11, 52, 53, 54, 55, 56, 57, 58, 59, 60, 61, 62, 63, 64, 65, 66, 67, 68, 69, 70, 71, 72, 73, 74, 75, 76, 77, 78] (by decide +kernel) (by decide +kernel)
set_option maxRecDepth 20000 in
theorem gX6_coat_X6_isPerson : GoodIn wsX6_coat (wsV RX6 83 RX6 yX6_isPerson wsX6_isPerson) := goodIn_app (goodIn_of _ (by decide +kernel)) ggX6_coat_X6_isPerson
set_option maxRecDepth 20000 in
theorem ggX6_coat_X6_upTo : GoodIn wsX6_coat wsX6_upTo := goodIn_r _ [11] (by decide +kernel) (by decide +kernel)
set_option maxRecDepth 20000 in
theorem gX6_coat_X6_upTo : GoodIn wsX6_coat (va_wsS RX6 68 yX6_upTo wsX6_upTo) := goodIn_app (goodIn_of _ (by decide +kernel)) ggX6_coat_X6_upTo
set_option maxRecDepth 20000 in
theorem ggX6_coat_X6_refusedAsBad : GoodIn wsX6_coat wsX6_refusedAsBad := goodIn_r _ [15, 16, 52, 53, 54, 55, 56, 57, 58, 59, 60, 61, 62, 63] (by decide +kernel) (by decide +kernel)
set_option maxRecDepth 20000 in
theorem gX6_coat_X6_refusedAsBad : GoodIn wsX6_coat (wsV RX6 72 RX6 yX6_refusedAsBad wsX6_refusedAsBad) := goodIn_app (goodIn_of _ (by decide +kernel)) ggX6_coat_X6_refusedAsBad
set_option maxRecDepth 20000 in
theorem ggX6_coat_X5_keepPast : GoodIn wsX6_coat wsX5_keepPast := goodIn_r _ [21, 22, 23, 24, 25, 26, 27, 28, 29, 30, 31, 32, 33, 34, 35, 36, 37, 38, 39, 40, 41, 42, 43, 44, 45, 46, 47, 48, 49, 50, 51, 64, 65, 66, 67, 68, 69, 70, 71, 72, 73, 74, 75, 76, 77, 78, 79, 80, 81, 82] (by decide +kernel) (by decide +kernel)
set_option maxRecDepth 20000 in
theorem gX6_coat_X5_keepPast : GoodIn wsX6_coat (wsV RX6 118 RX5 yX5_keepPast wsX5_keepPast) := goodIn_app (goodIn_of _ (by decide +kernel)) ggX6_coat_X5_keepPast
theorem dX6_coat_0 : decode cX6_coat 0 = .ok (.aload_n 0, 1) := by decide +kernel
theorem dX6_coat_1 : decode cX6_coat 1 = .ok (.iload_n 1, 1) := by decide +kernel
theorem dX6_coat_2 : decode cX6_coat 2 = .ok (.invokevirtual 83, 3) := by decide +kernel
theorem dX6_coat_5 : decode cX6_coat 5 = .ok (.ifCond .eq 12, 3) := by decide +kernel
theorem dX6_coat_8 : decode cX6_coat 8 = .ok (.iload_n 2, 1) := by decide +kernel
theorem dX6_coat_9 : decode cX6_coat 9 = .ok (.bipush 10, 2) := by decide +kernel
theorem dX6_coat_11 : decode cX6_coat 11 = .ok (.invokestatic 68, 3) := by decide +kernel
theorem dX6_coat_14 : decode cX6_coat 14 = .ok (.ifCond .ne 8, 3) := by decide +kernel
theorem dX6_coat_17 : decode cX6_coat 17 = .ok (.aload_n 0, 1) := by decide +kernel
theorem dX6_coat_18 : decode cX6_coat 18 = .ok (.invokevirtual 72, 3) := by decide +kernel
theorem dX6_coat_21 : decode cX6_coat 21 = .ok (.ireturn, 1) := by decide +kernel
theorem dX6_coat_22 : decode cX6_coat 22 = .ok (.aload_n 0, 1) := by decide +kernel
theorem dX6_coat_23 : decode cX6_coat 23 = .ok (.getfield 12, 3) := by decide +kernel
theorem dX6_coat_26 : decode cX6_coat 26 = .ok (.invokevirtual 118, 3) := by decide +kernel
theorem dX6_coat_29 : decode cX6_coat 29 = .ok (.aload_n 0, 1) := by decide +kernel
theorem dX6_coat_30 : decode cX6_coat 30 = .ok (.getfield 12, 3) := by decide +kernel
theorem dX6_coat_33 : decode cX6_coat 33 = .ok (.getfield 134, 3) := by decide +kernel
theorem dX6_coat_36 : decode cX6_coat 36 = .ok (.iload_n 1, 1) := by decide +kernel
theorem dX6_coat_37 : decode cX6_coat 37 = .ok (.iaload, 1) := by decide +kernel
theorem dX6_coat_38 : decode cX6_coat 38 = .ok (.istore_n 3, 1) := by decide +kernel
theorem dX6_coat_39 : decode cX6_coat 39 = .ok (.aload_n 0, 1) := by decide +kernel
theorem dX6_coat_40 : decode cX6_coat 40 = .ok (.getfield 12, 3) := by decide +kernel
theorem dX6_coat_43 : decode cX6_coat 43 = .ok (.getfield 134, 3) := by decide +kernel
theorem dX6_coat_46 : decode cX6_coat 46 = .ok (.iload_n 1, 1) := by decide +kernel
theorem dX6_coat_47 : decode cX6_coat 47 = .ok (.iload_n 2, 1) := by decide +kernel
theorem dX6_coat_48 : decode cX6_coat 48 = .ok (.iastore, 1) := by decide +kernel
theorem dX6_coat_49 : decode cX6_coat 49 = .ok (.iload_n 3, 1) := by decide +kernel
theorem dX6_coat_50 : decode cX6_coat 50 = .ok (.ireturn, 1) := by decide +kernel
set_option maxRecDepth 20000 in
theorem ggX6_day_X6_refusedAsBad : GoodIn wsX6_day wsX6_refusedAsBad := goodIn_r _ [7, 8, 82, 83, 84, 85, 86, 87, 88, 89, 90, 91, 92, 93] (by decide +kernel) (by decide +kernel)
set_option maxRecDepth 20000 in
theorem gX6_day_X6_refusedAsBad : GoodIn wsX6_day (wsV RX6 72 RX6 yX6_refusedAsBad wsX6_refusedAsBad) := goodIn_app (goodIn_of _ (by decide +kernel)) ggX6_day_X6_refusedAsBad
set_option maxRecDepth 20000 in
theorem ggX6_day_X5_keepPast : GoodIn wsX6_day wsX5_keepPast := goodIn_r _ [13, 14, 15, 16, 17, 18, 19, 20, 21, 22, 23, 24, 25, 26, 27, 28, 29, 30, 31, 32, 33, 34, 35, 36, 37, 38, 39, 40, 41, 42, 43, 94, 95, 96, 97, 98, 99, 100, 101, 102, 103, 104, 105, 106, 107, 108, 109, 110, 111, 112] (by decide +kernel) (by decide +kernel)
set_option maxRecDepth 20000 in
theorem gX6_day_X5_keepPast : GoodIn wsX6_day (wsV RX6 118 RX5 yX5_keepPast wsX5_keepPast) := goodIn_app (goodIn_of _ (by decide +kernel)) ggX6_day_X5_keepPast
set_option maxRecDepth 20000 in
theorem ggX6_day_X5_dayGoesBy : GoodIn wsX6_day wsX5_dayGoesBy := goodIn_r _ [47, 48, 18, 49, 50, 17, 15, 51, 52, 53, 12, 54, 55, 56, 57, 58, 59, 60, 61, 16, 62, 63, 64, 65, 66, 67, 68, 69, 70, 71, 72, 73, 74, 75, 76, 77, 94, 95, 96, 97, 98, 99, 100, 101, 102, 103, 104, 105, 106, 107, 108] (by decide +kernel) (by decide +kernel)
set_option maxRecDepth 20000 in
theorem gX6_day_X5_dayGoesBy : GoodIn wsX6_day (wsV RX6 140 RX5 yX5_dayGoesBy wsX5_dayGoesBy) := goodIn_app (goodIn_of _ (by decide +kernel)) ggX6_day_X5_dayGoesBy
set_option maxRecDepth 20000 in
theorem ggX6_day_X5_howManyLie : GoodIn wsX6_day wsX5_howManyLie := goodIn_r _ [81, 48, 18, 94, 95, 96, 97, 98, 99, 100, 101, 102, 103, 104, 105, 106, 107, 108] (by decide +kernel) (by decide +kernel)
set_option maxRecDepth 20000 in
theorem gX6_day_X5_howManyLie : GoodIn wsX6_day (wsV RX6 143 RX5 yX5_howManyLie wsX5_howManyLie) := goodIn_app (goodIn_of _ (by decide +kernel)) ggX6_day_X5_howManyLie
theorem dX6_day_0 : decode cX6_day 0 = .ok (.iload_n 1, 1) := by decide +kernel
theorem dX6_day_1 : decode cX6_day 1 = .ok (.iconst 1, 1) := by decide +kernel
theorem dX6_day_2 : decode cX6_day 2 = .ok (.if_icmp .lt 9, 3) := by decide +kernel
theorem dX6_day_5 : decode cX6_day 5 = .ok (.iload_n 1, 1) := by decide +kernel
theorem dX6_day_6 : decode cX6_day 6 = .ok (.bipush 99, 2) := by decide +kernel
theorem dX6_day_8 : decode cX6_day 8 = .ok (.if_icmp .le 8, 3) := by decide +kernel
theorem dX6_day_11 : decode cX6_day 11 = .ok (.aload_n 0, 1) := by decide +kernel
theorem dX6_day_12 : decode cX6_day 12 = .ok (.invokevirtual 72, 3) := by decide +kernel
theorem dX6_day_15 : decode cX6_day 15 = .ok (.ireturn, 1) := by decide +kernel
theorem dX6_day_16 : decode cX6_day 16 = .ok (.aload_n 0, 1) := by decide +kernel
theorem dX6_day_17 : decode cX6_day 17 = .ok (.getfield 12, 3) := by decide +kernel
theorem dX6_day_20 : decode cX6_day 20 = .ok (.invokevirtual 118, 3) := by decide +kernel
theorem dX6_day_23 : decode cX6_day 23 = .ok (.iconst 0, 1) := by decide +kernel
theorem dX6_day_24 : decode cX6_day 24 = .ok (.istore_n 2, 1) := by decide +kernel
theorem dX6_day_25 : decode cX6_day 25 = .ok (.iload_n 2, 1) := by decide +kernel
theorem dX6_day_26 : decode cX6_day 26 = .ok (.iload_n 1, 1) := by decide +kernel
theorem dX6_day_27 : decode cX6_day 27 = .ok (.if_icmp .ge 29, 3) := by decide +kernel
theorem dX6_day_30 : decode cX6_day 30 = .ok (.aload_n 0, 1) := by decide +kernel
theorem dX6_day_31 : decode cX6_day 31 = .ok (.getfield 12, 3) := by decide +kernel
theorem dX6_day_34 : decode cX6_day 34 = .ok (.getfield 137, 3) := by decide +kernel
theorem dX6_day_37 : decode cX6_day 37 = .ok (.sipush 9999, 3) := by decide +kernel
theorem dX6_day_40 : decode cX6_day 40 = .ok (.if_icmp .ge 16, 3) := by decide +kernel
theorem dX6_day_43 : decode cX6_day 43 = .ok (.aload_n 0, 1) := by decide +kernel
theorem dX6_day_44 : decode cX6_day 44 = .ok (.getfield 12, 3) := by decide +kernel
theorem dX6_day_47 : decode cX6_day 47 = .ok (.invokevirtual 140, 3) := by decide +kernel
theorem dX6_day_50 : decode cX6_day 50 = .ok (.iinc 2 1, 3) := by decide +kernel
theorem dX6_day_53 : decode cX6_day 53 = .ok (.goto (-28), 3) := by decide +kernel
theorem dX6_day_56 : decode cX6_day 56 = .ok (.aload_n 0, 1) := by decide +kernel
theorem dX6_day_57 : decode cX6_day 57 = .ok (.getfield 12, 3) := by decide +kernel
theorem dX6_day_60 : decode cX6_day 60 = .ok (.iconst 2, 1) := by decide +kernel
theorem dX6_day_61 : decode cX6_day 61 = .ok (.invokevirtual 143, 3) := by decide +kernel
theorem dX6_day_64 : decode cX6_day 64 = .ok (.ireturn, 1) := by decide +kernel
set_option maxRecDepth 20000 in
theorem ggX6_undo_X6_refusedAsNo : GoodIn wsX6_undo wsX6_refusedAsNo := goodIn_r _ [9, 10, 29, 30, 31, 32, 33, 34, 35, 36, 37, 38, 39, 40] (by decide +kernel) (by decide +kernel)
set_option maxRecDepth 20000 in
theorem gX6_undo_X6_refusedAsNo : GoodIn wsX6_undo (wsV RX6 115 RX6 yX6_refusedAsNo wsX6_refusedAsNo) := goodIn_app (goodIn_of _ (by decide +kernel)) ggX6_undo_X6_refusedAsNo
set_option maxRecDepth 20000 in
theorem ggX6_undo_X5_takePast : GoodIn wsX6_undo wsX5_takePast := goodIn_r _ [15, 16, 17, 18, 19, 20, 21, 22, 23, 24, 25, 26, 27, 28, 41, 42, 43, 44, 45, 46, 47, 48, 49, 50, 51, 52, 53, 54, 55, 56, 57, 58, 59] (by decide +kernel) (by decide +kernel)
set_option maxRecDepth 20000 in
theorem gX6_undo_X5_takePast : GoodIn wsX6_undo (wsV RX6 155 RX5 yX5_takePast wsX5_takePast) := goodIn_app (goodIn_of _ (by decide +kernel)) ggX6_undo_X5_takePast
theorem dX6_undo_0 : decode cX6_undo 0 = .ok (.aload_n 0, 1) := by decide +kernel
theorem dX6_undo_1 : decode cX6_undo 1 = .ok (.getfield 12, 3) := by decide +kernel
theorem dX6_undo_4 : decode cX6_undo 4 = .ok (.getfield 146, 3) := by decide +kernel
theorem dX6_undo_7 : decode cX6_undo 7 = .ok (.getfield 150, 3) := by decide +kernel
theorem dX6_undo_10 : decode cX6_undo 10 = .ok (.ifCond .ne 8, 3) := by decide +kernel
theorem dX6_undo_13 : decode cX6_undo 13 = .ok (.aload_n 0, 1) := by decide +kernel
theorem dX6_undo_14 : decode cX6_undo 14 = .ok (.invokevirtual 115, 3) := by decide +kernel
theorem dX6_undo_17 : decode cX6_undo 17 = .ok (.ireturn, 1) := by decide +kernel
theorem dX6_undo_18 : decode cX6_undo 18 = .ok (.aload_n 0, 1) := by decide +kernel
theorem dX6_undo_19 : decode cX6_undo 19 = .ok (.getfield 12, 3) := by decide +kernel
theorem dX6_undo_22 : decode cX6_undo 22 = .ok (.invokevirtual 155, 3) := by decide +kernel
theorem dX6_undo_25 : decode cX6_undo 25 = .ok (.aload_n 0, 1) := by decide +kernel
theorem dX6_undo_26 : decode cX6_undo 26 = .ok (.getfield 12, 3) := by decide +kernel
theorem dX6_undo_29 : decode cX6_undo 29 = .ok (.getfield 137, 3) := by decide +kernel
theorem dX6_undo_32 : decode cX6_undo 32 = .ok (.ireturn, 1) := by decide +kernel
set_option maxRecDepth 20000 in
theorem ggX6_of_X6_isPerson : GoodIn wsX6_of wsX6_isPerson := goodIn_r _ [10, 1, 11, 12, 13, 9, 14, 28, 29, 30, 31, 32, 33, 34, 35, 36, 37, 38, 39, 40, 41, 42, 43, 44, 45, 46, 47, 48, 49, 50, 51, 52, 53, 54] (by decide +kernel) (by decide +kernel)
set_option maxRecDepth 20000 in
theorem gX6_of_X6_isPerson : GoodIn wsX6_of (wsV RX6 83 RX6 yX6_isPerson wsX6_isPerson) := goodIn_app (goodIn_of _ (by decide +kernel)) ggX6_of_X6_isPerson
set_option maxRecDepth 20000 in
theorem ggX6_of_X6_upTo : GoodIn wsX6_of wsX6_upTo := goodIn_r _ [14] (by decide +kernel) (by decide +kernel)
set_option maxRecDepth 20000 in
theorem gX6_of_X6_upTo : GoodIn wsX6_of (va_wsS RX6 68 yX6_upTo wsX6_upTo) := goodIn_app (goodIn_of _ (by decide +kernel)) ggX6_of_X6_upTo
set_option maxRecDepth 20000 in
theorem ggX6_of_X6_refusedAsBad : GoodIn wsX6_of wsX6_refusedAsBad := goodIn_r _ [18, 19, 28, 29, 30, 31, 32, 33, 34, 35, 36, 37, 38, 39] (by decide +kernel) (by decide +kernel)
set_option maxRecDepth 20000 in
theorem gX6_of_X6_refusedAsBad : GoodIn wsX6_of (wsV RX6 72 RX6 yX6_refusedAsBad wsX6_refusedAsBad) := goodIn_app (goodIn_of _ (by decide +kernel)) ggX6_of_X6_refusedAsBad
set_option maxRecDepth 20000 in
theorem ggX6_of_X5_howManyHas : GoodIn wsX6_of wsX5_howManyHas := goodIn_r _ [24, 25, 26, 27, 40, 41, 42, 43, 44, 45, 46, 47, 48, 49, 50, 51, 52, 53, 54] (by decide +kernel) (by decide +kernel)
set_option maxRecDepth 20000 in
theorem gX6_of_X5_howManyHas : GoodIn wsX6_of (wsV RX6 164 RX5 yX5_howManyHas wsX5_howManyHas) := goodIn_app (goodIn_of _ (by decide +kernel)) ggX6_of_X5_howManyHas
theorem dX6_of_0 : decode cX6_of 0 = .ok (.aload_n 0, 1) := by decide +kernel
theorem dX6_of_1 : decode cX6_of 1 = .ok (.iload_n 1, 1) := by decide +kernel
theorem dX6_of_2 : decode cX6_of 2 = .ok (.invokevirtual 83, 3) := by decide +kernel
theorem dX6_of_5 : decode cX6_of 5 = .ok (.ifCond .eq 12, 3) := by decide +kernel
theorem dX6_of_8 : decode cX6_of 8 = .ok (.iload_n 2, 1) := by decide +kernel
theorem dX6_of_9 : decode cX6_of 9 = .ok (.bipush 8, 2) := by decide +kernel
theorem dX6_of_11 : decode cX6_of 11 = .ok (.invokestatic 68, 3) := by decide +kernel
theorem dX6_of_14 : decode cX6_of 14 = .ok (.ifCond .ne 8, 3) := by decide +kernel
theorem dX6_of_17 : decode cX6_of 17 = .ok (.aload_n 0, 1) := by decide +kernel
theorem dX6_of_18 : decode cX6_of 18 = .ok (.invokevirtual 72, 3) := by decide +kernel
theorem dX6_of_21 : decode cX6_of 21 = .ok (.ireturn, 1) := by decide +kernel
theorem dX6_of_22 : decode cX6_of 22 = .ok (.iload_n 2, 1) := by decide +kernel
theorem dX6_of_23 : decode cX6_of 23 = .ok (.tableswitch 68 0 3 #[29, 39, 49, 59], 29) := by decide +kernel
theorem dX6_of_52 : decode cX6_of 52 = .ok (.aload_n 0, 1) := by decide +kernel
theorem dX6_of_53 : decode cX6_of 53 = .ok (.getfield 12, 3) := by decide +kernel
theorem dX6_of_56 : decode cX6_of 56 = .ok (.getfield 158, 3) := by decide +kernel
theorem dX6_of_59 : decode cX6_of 59 = .ok (.iload_n 1, 1) := by decide +kernel
theorem dX6_of_60 : decode cX6_of 60 = .ok (.iaload, 1) := by decide +kernel
theorem dX6_of_61 : decode cX6_of 61 = .ok (.ireturn, 1) := by decide +kernel
theorem dX6_of_62 : decode cX6_of 62 = .ok (.aload_n 0, 1) := by decide +kernel
theorem dX6_of_63 : decode cX6_of 63 = .ok (.getfield 12, 3) := by decide +kernel
theorem dX6_of_66 : decode cX6_of 66 = .ok (.getfield 161, 3) := by decide +kernel
theorem dX6_of_69 : decode cX6_of 69 = .ok (.iload_n 1, 1) := by decide +kernel
theorem dX6_of_70 : decode cX6_of 70 = .ok (.iaload, 1) := by decide +kernel
theorem dX6_of_71 : decode cX6_of 71 = .ok (.ireturn, 1) := by decide +kernel
theorem dX6_of_72 : decode cX6_of 72 = .ok (.aload_n 0, 1) := by decide +kernel
theorem dX6_of_73 : decode cX6_of 73 = .ok (.getfield 12, 3) := by decide +kernel
theorem dX6_of_76 : decode cX6_of 76 = .ok (.getfield 134, 3) := by decide +kernel
theorem dX6_of_79 : decode cX6_of 79 = .ok (.iload_n 1, 1) := by decide +kernel
theorem dX6_of_80 : decode cX6_of 80 = .ok (.iaload, 1) := by decide +kernel
theorem dX6_of_81 : decode cX6_of 81 = .ok (.ireturn, 1) := by decide +kernel
theorem dX6_of_82 : decode cX6_of 82 = .ok (.aload_n 0, 1) := by decide +kernel
theorem dX6_of_83 : decode cX6_of 83 = .ok (.getfield 12, 3) := by decide +kernel
theorem dX6_of_86 : decode cX6_of 86 = .ok (.iload_n 1, 1) := by decide +kernel
theorem dX6_of_87 : decode cX6_of 87 = .ok (.invokevirtual 164, 3) := by decide +kernel
theorem dX6_of_90 : decode cX6_of 90 = .ok (.ireturn, 1) := by decide +kernel
theorem dX6_of_91 : decode cX6_of 91 = .ok (.aload_n 0, 1) := by decide +kernel
theorem dX6_of_92 : decode cX6_of 92 = .ok (.getfield 12, 3) := by decide +kernel
theorem dX6_of_95 : decode cX6_of 95 = .ok (.getfield 167, 3) := by decide +kernel
theorem dX6_of_98 : decode cX6_of 98 = .ok (.iconst 4, 1) := by decide +kernel
theorem dX6_of_99 : decode cX6_of 99 = .ok (.iload_n 1, 1) := by decide +kernel
theorem dX6_of_100 : decode cX6_of 100 = .ok (.imul, 1) := by decide +kernel
theorem dX6_of_101 : decode cX6_of 101 = .ok (.iload_n 2, 1) := by decide +kernel
theorem dX6_of_102 : decode cX6_of 102 = .ok (.iadd, 1) := by decide +kernel
theorem dX6_of_103 : decode cX6_of 103 = .ok (.iconst 4, 1) := by decide +kernel
theorem dX6_of_104 : decode cX6_of 104 = .ok (.isub, 1) := by decide +kernel
theorem dX6_of_105 : decode cX6_of 105 = .ok (.iaload, 1) := by decide +kernel
theorem dX6_of_106 : decode cX6_of 106 = .ok (.ireturn, 1) := by decide +kernel
set_option maxRecDepth 20000 in
theorem ggX6_about_X6_isThing : GoodIn wsX6_about wsX6_isThing := goodIn_r _ [11, 1, 12, 13, 14, 10, 15, 21, 22, 23, 24, 25, 26, 27, 28, 29, 30, 31, 32, 33, 34, 35, 36, 37, 38, 39, 40, 41, 42, 43, 44, 45, 46, 47] (by decide +kernel) (by decide +kernel)
set_option maxRecDepth 20000 in
theorem gX6_about_X6_isThing : GoodIn wsX6_about (wsV RX6 109 RX6 yX6_isThing wsX6_isThing) := goodIn_app (goodIn_of _ (by decide +kernel)) ggX6_about_X6_isThing
set_option maxRecDepth 20000 in
theorem ggX6_about_X6_upTo : GoodIn wsX6_about wsX6_upTo := goodIn_r _ [15] (by decide +kernel) (by decide +kernel)
set_option maxRecDepth 20000 in
theorem gX6_about_X6_upTo : GoodIn wsX6_about (va_wsS RX6 68 yX6_upTo wsX6_upTo) := goodIn_app (goodIn_of _ (by decide +kernel)) ggX6_about_X6_upTo
set_option maxRecDepth 20000 in
theorem ggX6_about_X6_refusedAsBad : GoodIn wsX6_about wsX6_refusedAsBad := goodIn_r _ [19, 20, 21, 22, 23, 24, 25, 26, 27, 28, 29, 30, 31, 32] (by decide +kernel) (by decide +kernel)
set_option maxRecDepth 20000 in
theorem gX6_about_X6_refusedAsBad : GoodIn wsX6_about (wsV RX6 72 RX6 yX6_refusedAsBad wsX6_refusedAsBad) := goodIn_app (goodIn_of _ (by decide +kernel)) ggX6_about_X6_refusedAsBad
theorem dX6_about_0 : decode cX6_about 0 = .ok (.aload_n 0, 1) := by decide +kernel
theorem dX6_about_1 : decode cX6_about 1 = .ok (.iload_n 1, 1) := by decide +kernel
theorem dX6_about_2 : decode cX6_about 2 = .ok (.invokevirtual 109, 3) := by decide +kernel
theorem dX6_about_5 : decode cX6_about 5 = .ok (.ifCond .eq 11, 3) := by decide +kernel
theorem dX6_about_8 : decode cX6_about 8 = .ok (.iload_n 2, 1) := by decide +kernel
theorem dX6_about_9 : decode cX6_about 9 = .ok (.iconst 5, 1) := by decide +kernel
theorem dX6_about_10 : decode cX6_about 10 = .ok (.invokestatic 68, 3) := by decide +kernel
theorem dX6_about_13 : decode cX6_about 13 = .ok (.ifCond .ne 8, 3) := by decide +kernel
theorem dX6_about_16 : decode cX6_about 16 = .ok (.aload_n 0, 1) := by decide +kernel
theorem dX6_about_17 : decode cX6_about 17 = .ok (.invokevirtual 72, 3) := by decide +kernel
theorem dX6_about_20 : decode cX6_about 20 = .ok (.ireturn, 1) := by decide +kernel
theorem dX6_about_21 : decode cX6_about 21 = .ok (.iload_n 2, 1) := by decide +kernel
theorem dX6_about_22 : decode cX6_about 22 = .ok (.tableswitch 70 0 3 #[30, 40, 50, 60], 30) := by decide +kernel
theorem dX6_about_52 : decode cX6_about 52 = .ok (.aload_n 0, 1) := by decide +kernel
theorem dX6_about_53 : decode cX6_about 53 = .ok (.getfield 12, 3) := by decide +kernel
theorem dX6_about_56 : decode cX6_about 56 = .ok (.getfield 170, 3) := by decide +kernel
theorem dX6_about_59 : decode cX6_about 59 = .ok (.iload_n 1, 1) := by decide +kernel
theorem dX6_about_60 : decode cX6_about 60 = .ok (.iaload, 1) := by decide +kernel
theorem dX6_about_61 : decode cX6_about 61 = .ok (.ireturn, 1) := by decide +kernel
theorem dX6_about_62 : decode cX6_about 62 = .ok (.aload_n 0, 1) := by decide +kernel
theorem dX6_about_63 : decode cX6_about 63 = .ok (.getfield 12, 3) := by decide +kernel
theorem dX6_about_66 : decode cX6_about 66 = .ok (.getfield 173, 3) := by decide +kernel
theorem dX6_about_69 : decode cX6_about 69 = .ok (.iload_n 1, 1) := by decide +kernel
theorem dX6_about_70 : decode cX6_about 70 = .ok (.iaload, 1) := by decide +kernel
theorem dX6_about_71 : decode cX6_about 71 = .ok (.ireturn, 1) := by decide +kernel
theorem dX6_about_72 : decode cX6_about 72 = .ok (.aload_n 0, 1) := by decide +kernel
theorem dX6_about_73 : decode cX6_about 73 = .ok (.getfield 12, 3) := by decide +kernel
theorem dX6_about_76 : decode cX6_about 76 = .ok (.getfield 131, 3) := by decide +kernel
theorem dX6_about_79 : decode cX6_about 79 = .ok (.iload_n 1, 1) := by decide +kernel
theorem dX6_about_80 : decode cX6_about 80 = .ok (.iaload, 1) := by decide +kernel
theorem dX6_about_81 : decode cX6_about 81 = .ok (.ireturn, 1) := by decide +kernel
theorem dX6_about_82 : decode cX6_about 82 = .ok (.aload_n 0, 1) := by decide +kernel
theorem dX6_about_83 : decode cX6_about 83 = .ok (.getfield 12, 3) := by decide +kernel
theorem dX6_about_86 : decode cX6_about 86 = .ok (.getfield 121, 3) := by decide +kernel
theorem dX6_about_89 : decode cX6_about 89 = .ok (.iload_n 1, 1) := by decide +kernel
theorem dX6_about_90 : decode cX6_about 90 = .ok (.iaload, 1) := by decide +kernel
theorem dX6_about_91 : decode cX6_about 91 = .ok (.ireturn, 1) := by decide +kernel
theorem dX6_about_92 : decode cX6_about 92 = .ok (.aload_n 0, 1) := by decide +kernel
theorem dX6_about_93 : decode cX6_about 93 = .ok (.getfield 12, 3) := by decide +kernel
theorem dX6_about_96 : decode cX6_about 96 = .ok (.getfield 112, 3) := by decide +kernel
theorem dX6_about_99 : decode cX6_about 99 = .ok (.iload_n 1, 1) := by decide +kernel
theorem dX6_about_100 : decode cX6_about 100 = .ok (.iaload, 1) := by decide +kernel
theorem dX6_about_101 : decode cX6_about 101 = .ok (.ireturn, 1) := by decide +kernel
set_option maxRecDepth 20000 in
theorem ggX6_shows_X6_isPerson : GoodIn wsX6_shows wsX6_isPerson := goodIn_r _ [7, 1, 8, 9, 10, 6, 11, 29, 30, 31, 32, 33, 34, 35, 36, 37, 38, 39, 40, 41, 42, 43, 44, 45, 46, 47, 48, 49, 50, 51, 52, 53, 54, 55] (by decide +kernel) (by decide +kernel)
set_option maxRecDepth 20000 in
theorem gX6_shows_X6_isPerson : GoodIn wsX6_shows (wsV RX6 83 RX6 yX6_isPerson wsX6_isPerson) := goodIn_app (goodIn_of _ (by decide +kernel)) ggX6_shows_X6_isPerson
set_option maxRecDepth 20000 in
theorem ggX6_shows_X6_upTo : GoodIn wsX6_shows wsX6_upTo := goodIn_r _ [11] (by decide +kernel) (by decide +kernel)
set_option maxRecDepth 20000 in
theorem gX6_shows_X6_upTo : GoodIn wsX6_shows (va_wsS RX6 68 yX6_upTo wsX6_upTo) := goodIn_app (goodIn_of _ (by decide +kernel)) ggX6_shows_X6_upTo
set_option maxRecDepth 20000 in
theorem ggX6_shows_X6_refusedAsBad : GoodIn wsX6_shows wsX6_refusedAsBad := goodIn_r _ [15, 16, 29, 30, 31, 32, 33, 34, 35, 36, 37, 38, 39, 40] (by decide +kernel) (by decide +kernel)
set_option maxRecDepth 20000 in
theorem gX6_shows_X6_refusedAsBad : GoodIn wsX6_shows (wsV RX6 72 RX6 yX6_refusedAsBad wsX6_refusedAsBad) := goodIn_app (goodIn_of _ (by decide +kernel)) ggX6_shows_X6_refusedAsBad
set_option maxRecDepth 20000 in
theorem ggX6_shows_X5_shown : GoodIn wsX6_shows wsX5_shown := goodIn_r _ [21, 22, 23, 24, 25, 26, 27, 28, 41, 42, 43, 44, 45, 46, 47, 48, 49, 50, 51, 52, 53, 54, 55] (by decide +kernel) (by decide +kernel)
set_option maxRecDepth 20000 in
theorem gX6_shows_X5_shown : GoodIn wsX6_shows (wsV RX6 176 RX5 yX5_shown wsX5_shown) := goodIn_app (goodIn_of _ (by decide +kernel)) ggX6_shows_X5_shown
theorem dX6_shows_0 : decode cX6_shows 0 = .ok (.aload_n 0, 1) := by decide +kernel
theorem dX6_shows_1 : decode cX6_shows 1 = .ok (.iload_n 1, 1) := by decide +kernel
theorem dX6_shows_2 : decode cX6_shows 2 = .ok (.invokevirtual 83, 3) := by decide +kernel
theorem dX6_shows_5 : decode cX6_shows 5 = .ok (.ifCond .eq 11, 3) := by decide +kernel
theorem dX6_shows_8 : decode cX6_shows 8 = .ok (.iload_n 2, 1) := by decide +kernel
theorem dX6_shows_9 : decode cX6_shows 9 = .ok (.iconst 4, 1) := by decide +kernel
theorem dX6_shows_10 : decode cX6_shows 10 = .ok (.invokestatic 68, 3) := by decide +kernel
theorem dX6_shows_13 : decode cX6_shows 13 = .ok (.ifCond .ne 8, 3) := by decide +kernel
theorem dX6_shows_16 : decode cX6_shows 16 = .ok (.aload_n 0, 1) := by decide +kernel
theorem dX6_shows_17 : decode cX6_shows 17 = .ok (.invokevirtual 72, 3) := by decide +kernel
theorem dX6_shows_20 : decode cX6_shows 20 = .ok (.ireturn, 1) := by decide +kernel
theorem dX6_shows_21 : decode cX6_shows 21 = .ok (.aload_n 0, 1) := by decide +kernel
theorem dX6_shows_22 : decode cX6_shows 22 = .ok (.getfield 12, 3) := by decide +kernel
theorem dX6_shows_25 : decode cX6_shows 25 = .ok (.iload_n 1, 1) := by decide +kernel
theorem dX6_shows_26 : decode cX6_shows 26 = .ok (.iload_n 2, 1) := by decide +kernel
theorem dX6_shows_27 : decode cX6_shows 27 = .ok (.aload_n 0, 1) := by decide +kernel
theorem dX6_shows_28 : decode cX6_shows 28 = .ok (.getfield 12, 3) := by decide +kernel
theorem dX6_shows_31 : decode cX6_shows 31 = .ok (.getfield 137, 3) := by decide +kernel
theorem dX6_shows_34 : decode cX6_shows 34 = .ok (.invokevirtual 176, 3) := by decide +kernel
theorem dX6_shows_37 : decode cX6_shows 37 = .ok (.ireturn, 1) := by decide +kernel
set_option maxRecDepth 20000 in
theorem ggX6_comes_X6_isThing : GoodIn wsX6_comes wsX6_isThing := goodIn_r _ [7, 1, 8, 9, 10, 6, 11, 53, 54, 55, 56, 57, 58, 59, 60, 61, 62, 63, 64, 65, 66, 67, 68, 69, 70, 71, 72, 73, 74, 75, 76, 77, 78, 79] (by decide +kernel) (by decide +kernel)
set_option maxRecDepth 20000 in
theorem gX6_comes_X6_isThing : GoodIn wsX6_comes (wsV RX6 109 RX6 yX6_isThing wsX6_isThing) := goodIn_app (goodIn_of _ (by decide +kernel)) ggX6_comes_X6_isThing
set_option maxRecDepth 20000 in
theorem ggX6_comes_X6_refusedAsBad : GoodIn wsX6_comes wsX6_refusedAsBad := goodIn_r _ [15, 16, 53, 54, 55, 56, 57, 58, 59, 60, 61, 62, 63, 64] (by decide +kernel) (by decide +kernel)
set_option maxRecDepth 20000 in
theorem gX6_comes_X6_refusedAsBad : GoodIn wsX6_comes (wsV RX6 72 RX6 yX6_refusedAsBad wsX6_refusedAsBad) := goodIn_app (goodIn_of _ (by decide +kernel)) ggX6_comes_X6_refusedAsBad
set_option maxRecDepth 20000 in
theorem ggX6_comes_X5_nextOf : GoodIn wsX6_comes wsX5_nextOf := goodIn_r _ [21, 22, 23, 24, 25, 26, 27, 20, 28, 29, 30, 31, 32, 33, 34, 35, 36, 37, 38, 39, 40, 41, 42, 43, 44, 45, 46, 47, 48, 49, 50, 51, 52, 65, 66, 67, 68, 69, 70, 71, 72, 73, 74, 75, 76, 77, 78, 79] (by decide +kernel) (by decide +kernel)
set_option maxRecDepth 20000 in
theorem gX6_comes_X5_nextOf : GoodIn wsX6_comes (wsV RX6 180 RX5 yX5_nextOf wsX5_nextOf) := goodIn_app (goodIn_of _ (by decide +kernel)) ggX6_comes_X5_nextOf
theorem dX6_comes_0 : decode cX6_comes 0 = .ok (.aload_n 0, 1) := by decide +kernel
theorem dX6_comes_1 : decode cX6_comes 1 = .ok (.iload_n 1, 1) := by decide +kernel
theorem dX6_comes_2 : decode cX6_comes 2 = .ok (.invokevirtual 109, 3) := by decide +kernel
theorem dX6_comes_5 : decode cX6_comes 5 = .ok (.ifCond .ne 8, 3) := by decide +kernel
theorem dX6_comes_8 : decode cX6_comes 8 = .ok (.aload_n 0, 1) := by decide +kernel
theorem dX6_comes_9 : decode cX6_comes 9 = .ok (.invokevirtual 72, 3) := by decide +kernel
theorem dX6_comes_12 : decode cX6_comes 12 = .ok (.ireturn, 1) := by decide +kernel
theorem dX6_comes_13 : decode cX6_comes 13 = .ok (.aload_n 0, 1) := by decide +kernel
theorem dX6_comes_14 : decode cX6_comes 14 = .ok (.getfield 12, 3) := by decide +kernel
theorem dX6_comes_17 : decode cX6_comes 17 = .ok (.iload_n 1, 1) := by decide +kernel
theorem dX6_comes_18 : decode cX6_comes 18 = .ok (.aload_n 0, 1) := by decide +kernel
theorem dX6_comes_19 : decode cX6_comes 19 = .ok (.getfield 12, 3) := by decide +kernel
theorem dX6_comes_22 : decode cX6_comes 22 = .ok (.getfield 121, 3) := by decide +kernel
theorem dX6_comes_25 : decode cX6_comes 25 = .ok (.iload_n 1, 1) := by decide +kernel
theorem dX6_comes_26 : decode cX6_comes 26 = .ok (.iaload, 1) := by decide +kernel
theorem dX6_comes_27 : decode cX6_comes 27 = .ok (.invokevirtual 180, 3) := by decide +kernel
theorem dX6_comes_30 : decode cX6_comes 30 = .ok (.ireturn, 1) := by decide +kernel
set_option maxRecDepth 20000 in
theorem ggX6_chain_X6_isThing : GoodIn wsX6_chain wsX6_isThing := goodIn_r _ [7, 1, 8, 9, 10, 6, 11, 53, 54, 55, 56, 57, 58, 59, 60, 61, 62, 63, 64, 65, 66, 67, 68, 69, 70, 71, 72, 73, 74, 75, 76, 77, 78, 79] (by decide +kernel) (by decide +kernel)
set_option maxRecDepth 20000 in
theorem gX6_chain_X6_isThing : GoodIn wsX6_chain (wsV RX6 109 RX6 yX6_isThing wsX6_isThing) := goodIn_app (goodIn_of _ (by decide +kernel)) ggX6_chain_X6_isThing
set_option maxRecDepth 20000 in
theorem ggX6_chain_X6_upTo : GoodIn wsX6_chain wsX6_upTo := goodIn_r _ [11] (by decide +kernel) (by decide +kernel)
set_option maxRecDepth 20000 in
theorem gX6_chain_X6_upTo : GoodIn wsX6_chain (va_wsS RX6 68 yX6_upTo wsX6_upTo) := goodIn_app (goodIn_of _ (by decide +kernel)) ggX6_chain_X6_upTo
set_option maxRecDepth 20000 in
theorem ggX6_chain_X6_refusedAsBad : GoodIn wsX6_chain wsX6_refusedAsBad := goodIn_r _ [15, 16, 53, 54, 55, 56, 57, 58, 59, 60, 61, 62, 63, 64] (by decide +kernel) (by decide +kernel)
set_option maxRecDepth 20000 in
theorem gX6_chain_X6_refusedAsBad : GoodIn wsX6_chain (wsV RX6 72 RX6 yX6_refusedAsBad wsX6_refusedAsBad) := goodIn_app (goodIn_of _ (by decide +kernel)) ggX6_chain_X6_refusedAsBad
set_option maxRecDepth 20000 in
theorem ggX6_chain_X5_nextOf : GoodIn wsX6_chain wsX5_nextOf := goodIn_r _ [21, 22, 23, 24, 25, 26, 27, 20, 28, 29, 30, 31, 32, 33, 34, 35, 36, 37, 38, 39, 40, 41, 42, 43, 44, 45, 46, 47, 48, 49, 50, 51, 52, 65, 66, 67, 68, 69, 70, 71, 72, 73, 74, 75, 76, 77, 78, 79] (by decide +kernel) (by decide +kernel)
set_option maxRecDepth 20000 in
theorem gX6_chain_X5_nextOf : GoodIn wsX6_chain (wsV RX6 180 RX5 yX5_nextOf wsX5_nextOf) := goodIn_app (goodIn_of _ (by decide +kernel)) ggX6_chain_X5_nextOf
theorem dX6_chain_0 : decode cX6_chain 0 = .ok (.aload_n 0, 1) := by decide +kernel
theorem dX6_chain_1 : decode cX6_chain 1 = .ok (.iload_n 1, 1) := by decide +kernel
theorem dX6_chain_2 : decode cX6_chain 2 = .ok (.invokevirtual 109, 3) := by decide +kernel
theorem dX6_chain_5 : decode cX6_chain 5 = .ok (.ifCond .eq 12, 3) := by decide +kernel
theorem dX6_chain_8 : decode cX6_chain 8 = .ok (.iload_n 2, 1) := by decide +kernel
theorem dX6_chain_9 : decode cX6_chain 9 = .ok (.bipush 51, 2) := by decide +kernel
theorem dX6_chain_11 : decode cX6_chain 11 = .ok (.invokestatic 68, 3) := by decide +kernel
theorem dX6_chain_14 : decode cX6_chain 14 = .ok (.ifCond .ne 8, 3) := by decide +kernel
theorem dX6_chain_17 : decode cX6_chain 17 = .ok (.aload_n 0, 1) := by decide +kernel
theorem dX6_chain_18 : decode cX6_chain 18 = .ok (.invokevirtual 72, 3) := by decide +kernel
theorem dX6_chain_21 : decode cX6_chain 21 = .ok (.ireturn, 1) := by decide +kernel
theorem dX6_chain_22 : decode cX6_chain 22 = .ok (.aload_n 0, 1) := by decide +kernel
theorem dX6_chain_23 : decode cX6_chain 23 = .ok (.getfield 12, 3) := by decide +kernel
theorem dX6_chain_26 : decode cX6_chain 26 = .ok (.getfield 121, 3) := by decide +kernel
theorem dX6_chain_29 : decode cX6_chain 29 = .ok (.iload_n 1, 1) := by decide +kernel
theorem dX6_chain_30 : decode cX6_chain 30 = .ok (.iaload, 1) := by decide +kernel
theorem dX6_chain_31 : decode cX6_chain 31 = .ok (.istore_n 3, 1) := by decide +kernel
theorem dX6_chain_32 : decode cX6_chain 32 = .ok (.iconst 0, 1) := by decide +kernel
theorem dX6_chain_33 : decode cX6_chain 33 = .ok (.istore 4, 2) := by decide +kernel
theorem dX6_chain_35 : decode cX6_chain 35 = .ok (.iload 4, 2) := by decide +kernel
theorem dX6_chain_37 : decode cX6_chain 37 = .ok (.iload_n 2, 1) := by decide +kernel
theorem dX6_chain_38 : decode cX6_chain 38 = .ok (.if_icmp .ge 24, 3) := by decide +kernel
theorem dX6_chain_41 : decode cX6_chain 41 = .ok (.iload_n 3, 1) := by decide +kernel
theorem dX6_chain_42 : decode cX6_chain 42 = .ok (.iconst (-1), 1) := by decide +kernel
theorem dX6_chain_43 : decode cX6_chain 43 = .ok (.if_icmp .eq 19, 3) := by decide +kernel
theorem dX6_chain_46 : decode cX6_chain 46 = .ok (.aload_n 0, 1) := by decide +kernel
theorem dX6_chain_47 : decode cX6_chain 47 = .ok (.getfield 12, 3) := by decide +kernel
theorem dX6_chain_50 : decode cX6_chain 50 = .ok (.iload_n 1, 1) := by decide +kernel
theorem dX6_chain_51 : decode cX6_chain 51 = .ok (.iload_n 3, 1) := by decide +kernel
theorem dX6_chain_52 : decode cX6_chain 52 = .ok (.invokevirtual 180, 3) := by decide +kernel
theorem dX6_chain_55 : decode cX6_chain 55 = .ok (.istore_n 3, 1) := by decide +kernel
theorem dX6_chain_56 : decode cX6_chain 56 = .ok (.iinc 4 1, 3) := by decide +kernel
theorem dX6_chain_59 : decode cX6_chain 59 = .ok (.goto (-24), 3) := by decide +kernel
theorem dX6_chain_62 : decode cX6_chain 62 = .ok (.iload_n 3, 1) := by decide +kernel
theorem dX6_chain_63 : decode cX6_chain 63 = .ok (.ireturn, 1) := by decide +kernel
set_option maxRecDepth 20000 in
theorem ggX6_ring_X6_isThing : GoodIn wsX6_ring wsX6_isThing := goodIn_r _ [8, 1, 9, 10, 11, 7, 12, 57, 58, 59, 60, 61, 62, 63, 64, 65, 66, 67, 68, 69, 70, 71, 72, 73, 74, 75, 76, 77, 78, 79, 80, 81, 82, 83] (by decide +kernel) (by decide +kernel)
set_option maxRecDepth 20000 in
theorem gX6_ring_X6_isThing : GoodIn wsX6_ring (wsV RX6 109 RX6 yX6_isThing wsX6_isThing) := goodIn_app (goodIn_of _ (by decide +kernel)) ggX6_ring_X6_isThing
set_option maxRecDepth 20000 in
theorem ggX6_ring_X6_upTo : GoodIn wsX6_ring wsX6_upTo := goodIn_r _ [12] (by decide +kernel) (by decide +kernel)
set_option maxRecDepth 20000 in
theorem gX6_ring_X6_upTo : GoodIn wsX6_ring (va_wsS RX6 68 yX6_upTo wsX6_upTo) := goodIn_app (goodIn_of _ (by decide +kernel)) ggX6_ring_X6_upTo
set_option maxRecDepth 20000 in
theorem ggX6_ring_X6_refusedAsBad : GoodIn wsX6_ring wsX6_refusedAsBad := goodIn_r _ [16, 17, 57, 58, 59, 60, 61, 62, 63, 64, 65, 66, 67, 68] (by decide +kernel) (by decide +kernel)
set_option maxRecDepth 20000 in
theorem gX6_ring_X6_refusedAsBad : GoodIn wsX6_ring (wsV RX6 72 RX6 yX6_refusedAsBad wsX6_refusedAsBad) := goodIn_app (goodIn_of _ (by decide +kernel)) ggX6_ring_X6_refusedAsBad
set_option maxRecDepth 20000 in
theorem ggX6_ring_X5_nextOf : GoodIn wsX6_ring wsX5_nextOf := goodIn_r _ [22, 23, 24, 25, 26, 27, 28, 21, 29, 30, 31, 32, 33, 34, 35, 36, 37, 38, 39, 40, 41, 42, 43, 44, 45, 46, 47, 48, 49, 50, 51, 52, 53, 69, 70, 71, 72, 73, 74, 75, 76, 77, 78, 79, 80, 81, 82, 83] (by decide +kernel) (by decide +kernel)
set_option maxRecDepth 20000 in
theorem gX6_ring_X5_nextOf : GoodIn wsX6_ring (wsV RX6 180 RX5 yX5_nextOf wsX5_nextOf) := goodIn_app (goodIn_of _ (by decide +kernel)) ggX6_ring_X5_nextOf
set_option maxRecDepth 20000 in
theorem ggX6_ring_X6_placeIn : GoodIn wsX6_ring wsX6_placeIn := goodIn_r _ [56] (by decide +kernel) (by decide +kernel)
set_option maxRecDepth 20000 in
theorem gX6_ring_X6_placeIn : GoodIn wsX6_ring (va_wsS RX6 184 yX6_placeIn wsX6_placeIn) := goodIn_app (goodIn_of _ (by decide +kernel)) ggX6_ring_X6_placeIn
theorem dX6_ring_0 : decode cX6_ring 0 = .ok (.aload_n 0, 1) := by decide +kernel
theorem dX6_ring_1 : decode cX6_ring 1 = .ok (.iload_n 1, 1) := by decide +kernel
theorem dX6_ring_2 : decode cX6_ring 2 = .ok (.invokevirtual 109, 3) := by decide +kernel
theorem dX6_ring_5 : decode cX6_ring 5 = .ok (.ifCond .eq 11, 3) := by decide +kernel
theorem dX6_ring_8 : decode cX6_ring 8 = .ok (.iload_n 2, 1) := by decide +kernel
theorem dX6_ring_9 : decode cX6_ring 9 = .ok (.iconst 2, 1) := by decide +kernel
theorem dX6_ring_10 : decode cX6_ring 10 = .ok (.invokestatic 68, 3) := by decide +kernel
theorem dX6_ring_13 : decode cX6_ring 13 = .ok (.ifCond .ne 8, 3) := by decide +kernel
theorem dX6_ring_16 : decode cX6_ring 16 = .ok (.aload_n 0, 1) := by decide +kernel
theorem dX6_ring_17 : decode cX6_ring 17 = .ok (.invokevirtual 72, 3) := by decide +kernel
theorem dX6_ring_20 : decode cX6_ring 20 = .ok (.ireturn, 1) := by decide +kernel
theorem dX6_ring_21 : decode cX6_ring 21 = .ok (.iconst 0, 1) := by decide +kernel
theorem dX6_ring_22 : decode cX6_ring 22 = .ok (.istore_n 3, 1) := by decide +kernel
theorem dX6_ring_23 : decode cX6_ring 23 = .ok (.aload_n 0, 1) := by decide +kernel
theorem dX6_ring_24 : decode cX6_ring 24 = .ok (.getfield 12, 3) := by decide +kernel
theorem dX6_ring_27 : decode cX6_ring 27 = .ok (.getfield 121, 3) := by decide +kernel
theorem dX6_ring_30 : decode cX6_ring 30 = .ok (.iload_n 1, 1) := by decide +kernel
theorem dX6_ring_31 : decode cX6_ring 31 = .ok (.iaload, 1) := by decide +kernel
theorem dX6_ring_32 : decode cX6_ring 32 = .ok (.istore 4, 2) := by decide +kernel
theorem dX6_ring_34 : decode cX6_ring 34 = .ok (.iconst (-1), 1) := by decide +kernel
theorem dX6_ring_35 : decode cX6_ring 35 = .ok (.istore 5, 2) := by decide +kernel
theorem dX6_ring_37 : decode cX6_ring 37 = .ok (.iload_n 3, 1) := by decide +kernel
theorem dX6_ring_38 : decode cX6_ring 38 = .ok (.bipush 7, 2) := by decide +kernel
theorem dX6_ring_40 : decode cX6_ring 40 = .ok (.if_icmp .ge 53, 3) := by decide +kernel
theorem dX6_ring_43 : decode cX6_ring 43 = .ok (.iload 4, 2) := by decide +kernel
theorem dX6_ring_45 : decode cX6_ring 45 = .ok (.iconst (-1), 1) := by decide +kernel
theorem dX6_ring_46 : decode cX6_ring 46 = .ok (.if_icmp .eq 47, 3) := by decide +kernel
theorem dX6_ring_49 : decode cX6_ring 49 = .ok (.iload 5, 2) := by decide +kernel
theorem dX6_ring_51 : decode cX6_ring 51 = .ok (.iconst (-1), 1) := by decide +kernel
theorem dX6_ring_52 : decode cX6_ring 52 = .ok (.if_icmp .ne 41, 3) := by decide +kernel
theorem dX6_ring_55 : decode cX6_ring 55 = .ok (.aload_n 0, 1) := by decide +kernel
theorem dX6_ring_56 : decode cX6_ring 56 = .ok (.getfield 48, 3) := by decide +kernel
theorem dX6_ring_59 : decode cX6_ring 59 = .ok (.iload_n 3, 1) := by decide +kernel
theorem dX6_ring_60 : decode cX6_ring 60 = .ok (.iload 4, 2) := by decide +kernel
theorem dX6_ring_62 : decode cX6_ring 62 = .ok (.iastore, 1) := by decide +kernel
theorem dX6_ring_63 : decode cX6_ring 63 = .ok (.iinc 3 1, 3) := by decide +kernel
theorem dX6_ring_66 : decode cX6_ring 66 = .ok (.aload_n 0, 1) := by decide +kernel
theorem dX6_ring_67 : decode cX6_ring 67 = .ok (.getfield 12, 3) := by decide +kernel
theorem dX6_ring_70 : decode cX6_ring 70 = .ok (.iload_n 1, 1) := by decide +kernel
theorem dX6_ring_71 : decode cX6_ring 71 = .ok (.iload 4, 2) := by decide +kernel
theorem dX6_ring_73 : decode cX6_ring 73 = .ok (.invokevirtual 180, 3) := by decide +kernel
theorem dX6_ring_76 : decode cX6_ring 76 = .ok (.istore 4, 2) := by decide +kernel
theorem dX6_ring_78 : decode cX6_ring 78 = .ok (.aload_n 0, 1) := by decide +kernel
theorem dX6_ring_79 : decode cX6_ring 79 = .ok (.getfield 48, 3) := by decide +kernel
theorem dX6_ring_82 : decode cX6_ring 82 = .ok (.iload_n 3, 1) := by decide +kernel
theorem dX6_ring_83 : decode cX6_ring 83 = .ok (.iload 4, 2) := by decide +kernel
theorem dX6_ring_85 : decode cX6_ring 85 = .ok (.invokestatic 184, 3) := by decide +kernel
theorem dX6_ring_88 : decode cX6_ring 88 = .ok (.istore 5, 2) := by decide +kernel
theorem dX6_ring_90 : decode cX6_ring 90 = .ok (.goto (-53), 3) := by decide +kernel
theorem dX6_ring_93 : decode cX6_ring 93 = .ok (.iload_n 2, 1) := by decide +kernel
theorem dX6_ring_94 : decode cX6_ring 94 = .ok (.ifCond .ne 5, 3) := by decide +kernel
theorem dX6_ring_97 : decode cX6_ring 97 = .ok (.iload_n 3, 1) := by decide +kernel
theorem dX6_ring_98 : decode cX6_ring 98 = .ok (.ireturn, 1) := by decide +kernel
theorem dX6_ring_99 : decode cX6_ring 99 = .ok (.iload 5, 2) := by decide +kernel
theorem dX6_ring_101 : decode cX6_ring 101 = .ok (.iconst (-1), 1) := by decide +kernel
theorem dX6_ring_102 : decode cX6_ring 102 = .ok (.if_icmp .ne 7, 3) := by decide +kernel
theorem dX6_ring_105 : decode cX6_ring 105 = .ok (.iconst 0, 1) := by decide +kernel
theorem dX6_ring_106 : decode cX6_ring 106 = .ok (.goto 7, 3) := by decide +kernel
theorem dX6_ring_109 : decode cX6_ring 109 = .ok (.iload_n 3, 1) := by decide +kernel
theorem dX6_ring_110 : decode cX6_ring 110 = .ok (.iload 5, 2) := by decide +kernel
theorem dX6_ring_112 : decode cX6_ring 112 = .ok (.isub, 1) := by decide +kernel
theorem dX6_ring_113 : decode cX6_ring 113 = .ok (.ireturn, 1) := by decide +kernel
set_option maxRecDepth 20000 in
theorem ggX6_send_X6_isThing : GoodIn wsX6_send wsX6_isThing := goodIn_r _ [8, 2, 9, 10, 11, 7, 12, 91, 92, 93, 94, 95, 96, 97, 98, 99, 100, 101, 102, 108, 109, 110, 111, 112, 113, 114, 115, 116, 117, 118, 119, 120, 121, 122] (by decide +kernel) (by decide +kernel)
set_option maxRecDepth 20000 in
theorem gX6_send_X6_isThing : GoodIn wsX6_send (wsV RX6 109 RX6 yX6_isThing wsX6_isThing) := goodIn_app (goodIn_of _ (by decide +kernel)) ggX6_send_X6_isThing
set_option maxRecDepth 20000 in
theorem ggX6_send_X6_isPerson : GoodIn wsX6_send wsX6_isPerson := goodIn_r _ [16, 2, 17, 10, 11, 7, 12, 91, 92, 93, 94, 95, 96, 97, 98, 99, 100, 101, 102, 108, 109, 110, 111, 112, 113, 114, 115, 116, 117, 118, 119, 120, 121, 122] (by decide +kernel) (by decide +kernel)
set_option maxRecDepth 20000 in
theorem gX6_send_X6_isPerson : GoodIn wsX6_send (wsV RX6 83 RX6 yX6_isPerson wsX6_isPerson) := goodIn_app (goodIn_of _ (by decide +kernel)) ggX6_send_X6_isPerson
set_option maxRecDepth 20000 in
theorem ggX6_send_X6_upTo : GoodIn wsX6_send wsX6_upTo := goodIn_r _ [12] (by decide +kernel) (by decide +kernel)
set_option maxRecDepth 20000 in
theorem gX6_send_X6_upTo : GoodIn wsX6_send (va_wsS RX6 68 yX6_upTo wsX6_upTo) := goodIn_app (goodIn_of _ (by decide +kernel)) ggX6_send_X6_upTo
set_option maxRecDepth 20000 in
theorem ggX6_send_X6_refusedAsBad : GoodIn wsX6_send wsX6_refusedAsBad := goodIn_r _ [21, 22, 91, 92, 93, 94, 95, 96, 97, 98, 99, 100, 101, 102] (by decide +kernel) (by decide +kernel)
set_option maxRecDepth 20000 in
theorem gX6_send_X6_refusedAsBad : GoodIn wsX6_send (wsV RX6 72 RX6 yX6_refusedAsBad wsX6_refusedAsBad) := goodIn_app (goodIn_of _ (by decide +kernel)) ggX6_send_X6_refusedAsBad
set_option maxRecDepth 20000 in
theorem ggX6_send_X0_fewestDays : GoodIn wsX6_send wsX0_fewestDays := goodIn_r _ [27, 28, 29, 30, 31, 32, 33, 34, 26, 35, 36, 37, 38, 39, 40, 41, 42, 43, 44, 45, 46, 47, 48, 49, 50, 51, 52, 53, 54, 55, 56, 57, 58, 59, 60, 61, 62, 63, 64, 65, 66, 67, 68, 69, 70, 71, 72, 73, 74, 75, 76, 77, 78, 79, 80, 81, 82, 83, 84, 85, 86, 87, 88, 89, 90, 103, 104, 105, 106, 107, 108, 109, 110, 111, 112, 113, 114, 115, 116, 117, 118, 119, 120, 121, 122] (by decide +kernel) (by decide +kernel)
set_option maxRecDepth 20000 in
theorem gX6_send_X0_fewestDays : GoodIn wsX6_send (wsV RX6 188 RX0 yX0_fewestDays wsX0_fewestDays) := goodIn_app (goodIn_of _ (by decide +kernel)) ggX6_send_X0_fewestDays
theorem dX6_send_0 : decode cX6_send 0 = .ok (.aload_n 0, 1) := by decide +kernel
theorem dX6_send_1 : decode cX6_send 1 = .ok (.iload_n 1, 1) := by decide +kernel
theorem dX6_send_2 : decode cX6_send 2 = .ok (.invokevirtual 109, 3) := by decide +kernel
theorem dX6_send_5 : decode cX6_send 5 = .ok (.ifCond .eq 19, 3) := by decide +kernel
theorem dX6_send_8 : decode cX6_send 8 = .ok (.aload_n 0, 1) := by decide +kernel
theorem dX6_send_9 : decode cX6_send 9 = .ok (.iload_n 2, 1) := by decide +kernel
theorem dX6_send_10 : decode cX6_send 10 = .ok (.invokevirtual 83, 3) := by decide +kernel
theorem dX6_send_13 : decode cX6_send 13 = .ok (.ifCond .eq 11, 3) := by decide +kernel
theorem dX6_send_16 : decode cX6_send 16 = .ok (.iload_n 3, 1) := by decide +kernel
theorem dX6_send_17 : decode cX6_send 17 = .ok (.iconst 2, 1) := by decide +kernel
theorem dX6_send_18 : decode cX6_send 18 = .ok (.invokestatic 68, 3) := by decide +kernel
theorem dX6_send_21 : decode cX6_send 21 = .ok (.ifCond .ne 8, 3) := by decide +kernel
theorem dX6_send_24 : decode cX6_send 24 = .ok (.aload_n 0, 1) := by decide +kernel
theorem dX6_send_25 : decode cX6_send 25 = .ok (.invokevirtual 72, 3) := by decide +kernel
theorem dX6_send_28 : decode cX6_send 28 = .ok (.ireturn, 1) := by decide +kernel
theorem dX6_send_29 : decode cX6_send 29 = .ok (.aload_n 0, 1) := by decide +kernel
theorem dX6_send_30 : decode cX6_send 30 = .ok (.getfield 37, 3) := by decide +kernel
theorem dX6_send_33 : decode cX6_send 33 = .ok (.aload_n 0, 1) := by decide +kernel
theorem dX6_send_34 : decode cX6_send 34 = .ok (.getfield 12, 3) := by decide +kernel
theorem dX6_send_37 : decode cX6_send 37 = .ok (.iload_n 1, 1) := by decide +kernel
theorem dX6_send_38 : decode cX6_send 38 = .ok (.iload_n 2, 1) := by decide +kernel
theorem dX6_send_39 : decode cX6_send 39 = .ok (.invokevirtual 188, 3) := by decide +kernel
theorem dX6_send_42 : decode cX6_send 42 = .ok (.istore 4, 2) := by decide +kernel
theorem dX6_send_44 : decode cX6_send 44 = .ok (.iload 4, 2) := by decide +kernel
theorem dX6_send_46 : decode cX6_send 46 = .ok (.iconst (-1), 1) := by decide +kernel
theorem dX6_send_47 : decode cX6_send 47 = .ok (.if_icmp .eq 7, 3) := by decide +kernel
theorem dX6_send_50 : decode cX6_send 50 = .ok (.iload_n 3, 1) := by decide +kernel
theorem dX6_send_51 : decode cX6_send 51 = .ok (.ifCond .ne 6, 3) := by decide +kernel
theorem dX6_send_54 : decode cX6_send 54 = .ok (.iload 4, 2) := by decide +kernel
theorem dX6_send_56 : decode cX6_send 56 = .ok (.ireturn, 1) := by decide +kernel
theorem dX6_send_57 : decode cX6_send 57 = .ok (.aload_n 0, 1) := by decide +kernel
theorem dX6_send_58 : decode cX6_send 58 = .ok (.getfield 37, 3) := by decide +kernel
theorem dX6_send_61 : decode cX6_send 61 = .ok (.getfield 192, 3) := by decide +kernel
theorem dX6_send_64 : decode cX6_send 64 = .ok (.ireturn, 1) := by decide +kernel
set_option maxRecDepth 20000 in
theorem ggX6_wears_X6_isPerson : GoodIn wsX6_wears wsX6_isPerson := goodIn_r _ [9, 1, 10, 11, 12, 8, 13, 87, 88, 89, 90, 91, 92, 93, 94, 95, 96, 97, 98, 99, 100, 101, 102, 103, 104, 105, 106, 107, 108, 109, 110, 111, 112, 113] (by decide +kernel) (by decide +kernel)
set_option maxRecDepth 20000 in
theorem gX6_wears_X6_isPerson : GoodIn wsX6_wears (wsV RX6 83 RX6 yX6_isPerson wsX6_isPerson) := goodIn_app (goodIn_of _ (by decide +kernel)) ggX6_wears_X6_isPerson
set_option maxRecDepth 20000 in
theorem ggX6_wears_X6_isThing : GoodIn wsX6_wears wsX6_isThing := goodIn_r _ [17, 1, 18, 11, 12, 8, 13, 87, 88, 89, 90, 91, 92, 93, 94, 95, 96, 97, 98, 99, 100, 101, 102, 103, 104, 105, 106, 107, 108, 109, 110, 111, 112, 113] (by decide +kernel) (by decide +kernel)
set_option maxRecDepth 20000 in
theorem gX6_wears_X6_isThing : GoodIn wsX6_wears (wsV RX6 109 RX6 yX6_isThing wsX6_isThing) := goodIn_app (goodIn_of _ (by decide +kernel)) ggX6_wears_X6_isThing
set_option maxRecDepth 20000 in
theorem ggX6_wears_X6_upTo : GoodIn wsX6_wears wsX6_upTo := goodIn_r _ [13] (by decide +kernel) (by decide +kernel)
set_option maxRecDepth 20000 in
theorem gX6_wears_X6_upTo : GoodIn wsX6_wears (va_wsS RX6 68 yX6_upTo wsX6_upTo) := goodIn_app (goodIn_of _ (by decide +kernel)) ggX6_wears_X6_upTo
set_option maxRecDepth 20000 in
theorem ggX6_wears_X6_refusedAsBad : GoodIn wsX6_wears wsX6_refusedAsBad := goodIn_r _ [22, 23, 87, 88, 89, 90, 91, 92, 93, 94, 95, 96, 97, 98] (by decide +kernel) (by decide +kernel)
set_option maxRecDepth 20000 in
theorem gX6_wears_X6_refusedAsBad : GoodIn wsX6_wears (wsV RX6 72 RX6 yX6_refusedAsBad wsX6_refusedAsBad) := goodIn_app (goodIn_of _ (by decide +kernel)) ggX6_wears_X6_refusedAsBad
set_option maxRecDepth 20000 in
theorem ggX6_wears_X5_copyOf : GoodIn wsX6_wears wsX5_copyOf := goodIn_r _ [28, 29, 30, 31, 32, 33, 34, 35, 36, 37, 38, 39, 40, 41, 42, 43, 44, 8, 45, 46, 47, 48, 49, 50, 51, 52, 53, 54, 55, 56, 57, 58, 59, 60, 99, 100, 101, 102, 103, 104, 105, 106, 107, 108, 109, 110, 111, 112, 113, 114, 115, 116, 117] (by decide +kernel) (by decide +kernel)
set_option maxRecDepth 20000 in
theorem gX6_wears_X5_copyOf : GoodIn wsX6_wears (wsV RX6 105 RX5 yX5_copyOf wsX5_copyOf) := goodIn_app (goodIn_of _ (by decide +kernel)) ggX6_wears_X5_copyOf
set_option maxRecDepth 20000 in
theorem ggX6_wears_X5_nextOf : GoodIn wsX6_wears wsX5_nextOf := goodIn_r _ [64, 33, 34, 43, 65, 66, 67, 27, 68, 41, 69, 70, 71, 72, 29, 32, 31, 30, 73, 74, 48, 75, 76, 77, 78, 79, 80, 81, 82, 83, 84, 85, 86, 99, 100, 101, 102, 103, 104, 105, 106, 107, 108, 109, 110, 111, 112, 113] (by decide +kernel) (by decide +kernel)
set_option maxRecDepth 20000 in
theorem gX6_wears_X5_nextOf : GoodIn wsX6_wears (wsV RX6 180 RX5 yX5_nextOf wsX5_nextOf) := goodIn_app (goodIn_of _ (by decide +kernel)) ggX6_wears_X5_nextOf
theorem dX6_wears_0 : decode cX6_wears 0 = .ok (.aload_n 0, 1) := by decide +kernel
theorem dX6_wears_1 : decode cX6_wears 1 = .ok (.iload_n 1, 1) := by decide +kernel
theorem dX6_wears_2 : decode cX6_wears 2 = .ok (.invokevirtual 83, 3) := by decide +kernel
theorem dX6_wears_5 : decode cX6_wears 5 = .ok (.ifCond .eq 19, 3) := by decide +kernel
theorem dX6_wears_8 : decode cX6_wears 8 = .ok (.aload_n 0, 1) := by decide +kernel
theorem dX6_wears_9 : decode cX6_wears 9 = .ok (.iload_n 2, 1) := by decide +kernel
theorem dX6_wears_10 : decode cX6_wears 10 = .ok (.invokevirtual 109, 3) := by decide +kernel
theorem dX6_wears_13 : decode cX6_wears 13 = .ok (.ifCond .eq 11, 3) := by decide +kernel
theorem dX6_wears_16 : decode cX6_wears 16 = .ok (.iload_n 3, 1) := by decide +kernel
theorem dX6_wears_17 : decode cX6_wears 17 = .ok (.iconst 2, 1) := by decide +kernel
theorem dX6_wears_18 : decode cX6_wears 18 = .ok (.invokestatic 68, 3) := by decide +kernel
theorem dX6_wears_21 : decode cX6_wears 21 = .ok (.ifCond .ne 8, 3) := by decide +kernel
theorem dX6_wears_24 : decode cX6_wears 24 = .ok (.aload_n 0, 1) := by decide +kernel
theorem dX6_wears_25 : decode cX6_wears 25 = .ok (.invokevirtual 72, 3) := by decide +kernel
theorem dX6_wears_28 : decode cX6_wears 28 = .ok (.ireturn, 1) := by decide +kernel
theorem dX6_wears_29 : decode cX6_wears 29 = .ok (.aload_n 0, 1) := by decide +kernel
theorem dX6_wears_30 : decode cX6_wears 30 = .ok (.getfield 12, 3) := by decide +kernel
theorem dX6_wears_33 : decode cX6_wears 33 = .ok (.getfield 121, 3) := by decide +kernel
theorem dX6_wears_36 : decode cX6_wears 36 = .ok (.iload_n 2, 1) := by decide +kernel
theorem dX6_wears_37 : decode cX6_wears 37 = .ok (.iaload, 1) := by decide +kernel
theorem dX6_wears_38 : decode cX6_wears 38 = .ok (.iload_n 1, 1) := by decide +kernel
theorem dX6_wears_39 : decode cX6_wears 39 = .ok (.if_icmp .ne 5, 3) := by decide +kernel
theorem dX6_wears_42 : decode cX6_wears 42 = .ok (.iconst (-1), 1) := by decide +kernel
theorem dX6_wears_43 : decode cX6_wears 43 = .ok (.ireturn, 1) := by decide +kernel
theorem dX6_wears_44 : decode cX6_wears 44 = .ok (.aload_n 0, 1) := by decide +kernel
theorem dX6_wears_45 : decode cX6_wears 45 = .ok (.getfield 16, 3) := by decide +kernel
theorem dX6_wears_48 : decode cX6_wears 48 = .ok (.aload_n 0, 1) := by decide +kernel
theorem dX6_wears_49 : decode cX6_wears 49 = .ok (.getfield 12, 3) := by decide +kernel
theorem dX6_wears_52 : decode cX6_wears 52 = .ok (.invokevirtual 105, 3) := by decide +kernel
theorem dX6_wears_55 : decode cX6_wears 55 = .ok (.iconst 0, 1) := by decide +kernel
theorem dX6_wears_56 : decode cX6_wears 56 = .ok (.istore 4, 2) := by decide +kernel
theorem dX6_wears_58 : decode cX6_wears 58 = .ok (.iload 4, 2) := by decide +kernel
theorem dX6_wears_60 : decode cX6_wears 60 = .ok (.bipush 10, 2) := by decide +kernel
theorem dX6_wears_62 : decode cX6_wears 62 = .ok (.if_icmp .ge 66, 3) := by decide +kernel
theorem dX6_wears_65 : decode cX6_wears 65 = .ok (.aload_n 0, 1) := by decide +kernel
theorem dX6_wears_66 : decode cX6_wears 66 = .ok (.getfield 16, 3) := by decide +kernel
theorem dX6_wears_69 : decode cX6_wears 69 = .ok (.getfield 134, 3) := by decide +kernel
theorem dX6_wears_72 : decode cX6_wears 72 = .ok (.iload_n 1, 1) := by decide +kernel
theorem dX6_wears_73 : decode cX6_wears 73 = .ok (.iload 4, 2) := by decide +kernel
theorem dX6_wears_75 : decode cX6_wears 75 = .ok (.iastore, 1) := by decide +kernel
theorem dX6_wears_76 : decode cX6_wears 76 = .ok (.aload_n 0, 1) := by decide +kernel
theorem dX6_wears_77 : decode cX6_wears 77 = .ok (.getfield 16, 3) := by decide +kernel
theorem dX6_wears_80 : decode cX6_wears 80 = .ok (.iload_n 2, 1) := by decide +kernel
theorem dX6_wears_81 : decode cX6_wears 81 = .ok (.aload_n 0, 1) := by decide +kernel
theorem dX6_wears_82 : decode cX6_wears 82 = .ok (.getfield 16, 3) := by decide +kernel
theorem dX6_wears_85 : decode cX6_wears 85 = .ok (.getfield 121, 3) := by decide +kernel
theorem dX6_wears_88 : decode cX6_wears 88 = .ok (.iload_n 2, 1) := by decide +kernel
theorem dX6_wears_89 : decode cX6_wears 89 = .ok (.iaload, 1) := by decide +kernel
theorem dX6_wears_90 : decode cX6_wears 90 = .ok (.invokevirtual 180, 3) := by decide +kernel
theorem dX6_wears_93 : decode cX6_wears 93 = .ok (.iload_n 1, 1) := by decide +kernel
theorem dX6_wears_94 : decode cX6_wears 94 = .ok (.if_icmp .ne 7, 3) := by decide +kernel
theorem dX6_wears_97 : decode cX6_wears 97 = .ok (.iconst 1, 1) := by decide +kernel
theorem dX6_wears_98 : decode cX6_wears 98 = .ok (.goto 4, 3) := by decide +kernel
theorem dX6_wears_101 : decode cX6_wears 101 = .ok (.iconst 0, 1) := by decide +kernel
theorem dX6_wears_102 : decode cX6_wears 102 = .ok (.istore 5, 2) := by decide +kernel
theorem dX6_wears_104 : decode cX6_wears 104 = .ok (.iload 5, 2) := by decide +kernel
theorem dX6_wears_106 : decode cX6_wears 106 = .ok (.iload_n 3, 1) := by decide +kernel
theorem dX6_wears_107 : decode cX6_wears 107 = .ok (.iconst 1, 1) := by decide +kernel
theorem dX6_wears_108 : decode cX6_wears 108 = .ok (.if_icmp .ne 7, 3) := by decide +kernel
theorem dX6_wears_111 : decode cX6_wears 111 = .ok (.iconst 1, 1) := by decide +kernel
theorem dX6_wears_112 : decode cX6_wears 112 = .ok (.goto 4, 3) := by decide +kernel
theorem dX6_wears_115 : decode cX6_wears 115 = .ok (.iconst 0, 1) := by decide +kernel
theorem dX6_wears_116 : decode cX6_wears 116 = .ok (.if_icmp .ne 6, 3) := by decide +kernel
theorem dX6_wears_119 : decode cX6_wears 119 = .ok (.iload 4, 2) := by decide +kernel
theorem dX6_wears_121 : decode cX6_wears 121 = .ok (.ireturn, 1) := by decide +kernel
theorem dX6_wears_122 : decode cX6_wears 122 = .ok (.iinc 4 1, 3) := by decide +kernel
theorem dX6_wears_125 : decode cX6_wears 125 = .ok (.goto (-67), 3) := by decide +kernel
theorem dX6_wears_128 : decode cX6_wears 128 = .ok (.iconst (-1), 1) := by decide +kernel
theorem dX6_wears_129 : decode cX6_wears 129 = .ok (.ireturn, 1) := by decide +kernel
set_option maxRecDepth 20000 in
theorem ggX6_costs_X5_isAway : GoodIn wsX6_costs wsX5_isAway := goodIn_r _ [7, 8, 9, 10, 47, 48, 49, 50, 51, 52, 53, 54, 55, 56, 57, 58, 59, 60, 61] (by decide +kernel) (by decide +kernel)
set_option maxRecDepth 20000 in
theorem gX6_costs_X5_isAway : GoodIn wsX6_costs (wsV RX6 124 RX5 yX5_isAway wsX5_isAway) := goodIn_app (goodIn_of _ (by decide +kernel)) ggX6_costs_X5_isAway
set_option maxRecDepth 20000 in
theorem ggX6_costs_X5_askedFor : GoodIn wsX6_costs wsX5_askedFor := goodIn_r _ [14, 15, 9, 16, 17, 18, 19, 20, 6, 21, 22, 23, 24, 25, 26, 27, 28, 29, 30, 31, 32, 33, 34, 47, 48, 49, 50, 51, 52, 53, 54, 55, 56, 57, 58, 59, 60, 61] (by decide +kernel) (by decide +kernel)
set_option maxRecDepth 20000 in
theorem gX6_costs_X5_askedFor : GoodIn wsX6_costs (wsV RX6 127 RX5 yX5_askedFor wsX5_askedFor) := goodIn_app (goodIn_of _ (by decide +kernel)) ggX6_costs_X5_askedFor
theorem dX6_costs_0 : decode cX6_costs 0 = .ok (.iconst 0, 1) := by decide +kernel
theorem dX6_costs_1 : decode cX6_costs 1 = .ok (.istore_n 1, 1) := by decide +kernel
theorem dX6_costs_2 : decode cX6_costs 2 = .ok (.iconst 0, 1) := by decide +kernel
theorem dX6_costs_3 : decode cX6_costs 3 = .ok (.istore_n 2, 1) := by decide +kernel
theorem dX6_costs_4 : decode cX6_costs 4 = .ok (.iload_n 2, 1) := by decide +kernel
theorem dX6_costs_5 : decode cX6_costs 5 = .ok (.aload_n 0, 1) := by decide +kernel
theorem dX6_costs_6 : decode cX6_costs 6 = .ok (.getfield 12, 3) := by decide +kernel
theorem dX6_costs_9 : decode cX6_costs 9 = .ok (.getfield 87, 3) := by decide +kernel
theorem dX6_costs_12 : decode cX6_costs 12 = .ok (.if_icmp .ge 31, 3) := by decide +kernel
theorem dX6_costs_15 : decode cX6_costs 15 = .ok (.aload_n 0, 1) := by decide +kernel
theorem dX6_costs_16 : decode cX6_costs 16 = .ok (.getfield 12, 3) := by decide +kernel
theorem dX6_costs_19 : decode cX6_costs 19 = .ok (.iload_n 2, 1) := by decide +kernel
theorem dX6_costs_20 : decode cX6_costs 20 = .ok (.invokevirtual 124, 3) := by decide +kernel
theorem dX6_costs_23 : decode cX6_costs 23 = .ok (.ifCond .eq 14, 3) := by decide +kernel
theorem dX6_costs_26 : decode cX6_costs 26 = .ok (.iload_n 1, 1) := by decide +kernel
theorem dX6_costs_27 : decode cX6_costs 27 = .ok (.aload_n 0, 1) := by decide +kernel
theorem dX6_costs_28 : decode cX6_costs 28 = .ok (.getfield 12, 3) := by decide +kernel
theorem dX6_costs_31 : decode cX6_costs 31 = .ok (.iload_n 2, 1) := by decide +kernel
theorem dX6_costs_32 : decode cX6_costs 32 = .ok (.invokevirtual 127, 3) := by decide +kernel
theorem dX6_costs_35 : decode cX6_costs 35 = .ok (.iadd, 1) := by decide +kernel
theorem dX6_costs_36 : decode cX6_costs 36 = .ok (.istore_n 1, 1) := by decide +kernel
theorem dX6_costs_37 : decode cX6_costs 37 = .ok (.iinc 2 1, 3) := by decide +kernel
theorem dX6_costs_40 : decode cX6_costs 40 = .ok (.goto (-36), 3) := by decide +kernel
theorem dX6_costs_43 : decode cX6_costs 43 = .ok (.iload_n 1, 1) := by decide +kernel
theorem dX6_costs_44 : decode cX6_costs 44 = .ok (.ireturn, 1) := by decide +kernel
set_option maxRecDepth 20000 in
theorem ggX6_few_X6_upTo : GoodIn wsX6_few wsX6_upTo := goodIn_r _ [5] (by decide +kernel) (by decide +kernel)
set_option maxRecDepth 20000 in
theorem gX6_few_X6_upTo : GoodIn wsX6_few (va_wsS RX6 68 yX6_upTo wsX6_upTo) := goodIn_app (goodIn_of _ (by decide +kernel)) ggX6_few_X6_upTo
set_option maxRecDepth 20000 in
theorem ggX6_few_X6_refusedAsBad : GoodIn wsX6_few wsX6_refusedAsBad := goodIn_r _ [9, 10, 49, 50, 51, 52, 53, 54, 55, 56, 57, 58, 59, 60] (by decide +kernel) (by decide +kernel)
set_option maxRecDepth 20000 in
theorem gX6_few_X6_refusedAsBad : GoodIn wsX6_few (wsV RX6 72 RX6 yX6_refusedAsBad wsX6_refusedAsBad) := goodIn_app (goodIn_of _ (by decide +kernel)) ggX6_few_X6_refusedAsBad
set_option maxRecDepth 20000 in
theorem ggX6_few_X6_sortAsked : GoodIn wsX6_few wsX6_sortAsked := goodIn_r _ [14, 15, 16, 1, 17, 18, 19, 20, 21, 22, 23, 24, 25, 26, 27, 28, 29, 30, 31, 32, 33, 34, 35, 36, 37, 38, 39, 40, 41, 42, 43, 44, 45, 46, 47, 48, 49, 50, 51, 52, 53, 54, 55, 56, 57, 58, 59, 60, 61, 62, 63, 64, 65, 66, 67, 68, 69, 70, 71, 72, 73, 74, 75] (by decide +kernel) (by decide +kernel)
set_option maxRecDepth 20000 in
theorem gX6_few_X6_sortAsked : GoodIn wsX6_few (wsV RX6 195 RX6 yX6_sortAsked wsX6_sortAsked) := goodIn_app (goodIn_of _ (by decide +kernel)) ggX6_few_X6_sortAsked
theorem dX6_few_0 : decode cX6_few 0 = .ok (.iload_n 1, 1) := by decide +kernel
theorem dX6_few_1 : decode cX6_few 1 = .ok (.sipush 201, 3) := by decide +kernel
theorem dX6_few_4 : decode cX6_few 4 = .ok (.invokestatic 68, 3) := by decide +kernel
theorem dX6_few_7 : decode cX6_few 7 = .ok (.ifCond .ne 8, 3) := by decide +kernel
theorem dX6_few_10 : decode cX6_few 10 = .ok (.aload_n 0, 1) := by decide +kernel
theorem dX6_few_11 : decode cX6_few 11 = .ok (.invokevirtual 72, 3) := by decide +kernel
theorem dX6_few_14 : decode cX6_few 14 = .ok (.ireturn, 1) := by decide +kernel
theorem dX6_few_15 : decode cX6_few 15 = .ok (.aload_n 0, 1) := by decide +kernel
theorem dX6_few_16 : decode cX6_few 16 = .ok (.invokevirtual 195, 3) := by decide +kernel
theorem dX6_few_19 : decode cX6_few 19 = .ok (.istore_n 2, 1) := by decide +kernel
theorem dX6_few_20 : decode cX6_few 20 = .ok (.iload_n 1, 1) := by decide +kernel
theorem dX6_few_21 : decode cX6_few 21 = .ok (.istore_n 3, 1) := by decide +kernel
theorem dX6_few_22 : decode cX6_few 22 = .ok (.iconst 0, 1) := by decide +kernel
theorem dX6_few_23 : decode cX6_few 23 = .ok (.istore 4, 2) := by decide +kernel
theorem dX6_few_25 : decode cX6_few 25 = .ok (.iload 4, 2) := by decide +kernel
theorem dX6_few_27 : decode cX6_few 27 = .ok (.iload_n 2, 1) := by decide +kernel
theorem dX6_few_28 : decode cX6_few 28 = .ok (.if_icmp .ge 30, 3) := by decide +kernel
theorem dX6_few_31 : decode cX6_few 31 = .ok (.aload_n 0, 1) := by decide +kernel
theorem dX6_few_32 : decode cX6_few 32 = .ok (.getfield 48, 3) := by decide +kernel
theorem dX6_few_35 : decode cX6_few 35 = .ok (.iload 4, 2) := by decide +kernel
theorem dX6_few_37 : decode cX6_few 37 = .ok (.iaload, 1) := by decide +kernel
theorem dX6_few_38 : decode cX6_few 38 = .ok (.iload_n 3, 1) := by decide +kernel
theorem dX6_few_39 : decode cX6_few 39 = .ok (.if_icmp .gt 19, 3) := by decide +kernel
theorem dX6_few_42 : decode cX6_few 42 = .ok (.iload_n 3, 1) := by decide +kernel
theorem dX6_few_43 : decode cX6_few 43 = .ok (.aload_n 0, 1) := by decide +kernel
theorem dX6_few_44 : decode cX6_few 44 = .ok (.getfield 48, 3) := by decide +kernel
theorem dX6_few_47 : decode cX6_few 47 = .ok (.iload 4, 2) := by decide +kernel
theorem dX6_few_49 : decode cX6_few 49 = .ok (.iaload, 1) := by decide +kernel
theorem dX6_few_50 : decode cX6_few 50 = .ok (.isub, 1) := by decide +kernel
theorem dX6_few_51 : decode cX6_few 51 = .ok (.istore_n 3, 1) := by decide +kernel
theorem dX6_few_52 : decode cX6_few 52 = .ok (.iinc 4 1, 3) := by decide +kernel
theorem dX6_few_55 : decode cX6_few 55 = .ok (.goto (-30), 3) := by decide +kernel
theorem dX6_few_58 : decode cX6_few 58 = .ok (.iload 4, 2) := by decide +kernel
theorem dX6_few_60 : decode cX6_few 60 = .ok (.ireturn, 1) := by decide +kernel
set_option maxRecDepth 20000 in
theorem ggX6_loser_X6_isThing : GoodIn wsX6_loser wsX6_isThing := goodIn_r _ [7, 1, 8, 9, 10, 6, 11, 57, 58, 59, 60, 61, 62, 63, 64, 65, 66, 67, 68, 69, 70, 71, 72, 73, 74, 75, 76, 77, 78, 79, 80, 81, 82, 83] (by decide +kernel) (by decide +kernel)
set_option maxRecDepth 20000 in
theorem gX6_loser_X6_isThing : GoodIn wsX6_loser (wsV RX6 109 RX6 yX6_isThing wsX6_isThing) := goodIn_app (goodIn_of _ (by decide +kernel)) ggX6_loser_X6_isThing
set_option maxRecDepth 20000 in
theorem ggX6_loser_X6_isPerson : GoodIn wsX6_loser wsX6_isPerson := goodIn_r _ [15, 1, 2, 9, 10, 6, 11, 57, 58, 59, 60, 61, 62, 63, 64, 65, 66, 67, 68, 69, 70, 71, 72, 73, 74, 75, 76, 77, 78, 79, 80, 81, 82, 83] (by decide +kernel) (by decide +kernel)
set_option maxRecDepth 20000 in
theorem gX6_loser_X6_isPerson : GoodIn wsX6_loser (wsV RX6 83 RX6 yX6_isPerson wsX6_isPerson) := goodIn_app (goodIn_of _ (by decide +kernel)) ggX6_loser_X6_isPerson
set_option maxRecDepth 20000 in
theorem ggX6_loser_X6_refusedAsBad : GoodIn wsX6_loser wsX6_refusedAsBad := goodIn_r _ [19, 20, 57, 58, 59, 60, 61, 62, 63, 64, 65, 66, 67, 68] (by decide +kernel) (by decide +kernel)
set_option maxRecDepth 20000 in
theorem gX6_loser_X6_refusedAsBad : GoodIn wsX6_loser (wsV RX6 72 RX6 yX6_refusedAsBad wsX6_refusedAsBad) := goodIn_app (goodIn_of _ (by decide +kernel)) ggX6_loser_X6_refusedAsBad
set_option maxRecDepth 20000 in
theorem ggX6_loser_X5_nextOf : GoodIn wsX6_loser wsX5_nextOf := goodIn_r _ [25, 26, 27, 28, 29, 30, 31, 24, 32, 33, 34, 35, 36, 37, 38, 39, 40, 41, 42, 43, 44, 45, 46, 47, 48, 49, 50, 51, 52, 53, 54, 55, 56, 69, 70, 71, 72, 73, 74, 75, 76, 77, 78, 79, 80, 81, 82, 83] (by decide +kernel) (by decide +kernel)
set_option maxRecDepth 20000 in
theorem gX6_loser_X5_nextOf : GoodIn wsX6_loser (wsV RX6 180 RX5 yX5_nextOf wsX5_nextOf) := goodIn_app (goodIn_of _ (by decide +kernel)) ggX6_loser_X5_nextOf
theorem dX6_loser_0 : decode cX6_loser 0 = .ok (.aload_n 0, 1) := by decide +kernel
theorem dX6_loser_1 : decode cX6_loser 1 = .ok (.iload_n 1, 1) := by decide +kernel
theorem dX6_loser_2 : decode cX6_loser 2 = .ok (.invokevirtual 109, 3) := by decide +kernel
theorem dX6_loser_5 : decode cX6_loser 5 = .ok (.ifCond .eq 11, 3) := by decide +kernel
theorem dX6_loser_8 : decode cX6_loser 8 = .ok (.aload_n 0, 1) := by decide +kernel
theorem dX6_loser_9 : decode cX6_loser 9 = .ok (.iload_n 2, 1) := by decide +kernel
theorem dX6_loser_10 : decode cX6_loser 10 = .ok (.invokevirtual 83, 3) := by decide +kernel
theorem dX6_loser_13 : decode cX6_loser 13 = .ok (.ifCond .ne 8, 3) := by decide +kernel
theorem dX6_loser_16 : decode cX6_loser 16 = .ok (.aload_n 0, 1) := by decide +kernel
theorem dX6_loser_17 : decode cX6_loser 17 = .ok (.invokevirtual 72, 3) := by decide +kernel
theorem dX6_loser_20 : decode cX6_loser 20 = .ok (.ireturn, 1) := by decide +kernel
theorem dX6_loser_21 : decode cX6_loser 21 = .ok (.iconst 0, 1) := by decide +kernel
theorem dX6_loser_22 : decode cX6_loser 22 = .ok (.istore_n 3, 1) := by decide +kernel
theorem dX6_loser_23 : decode cX6_loser 23 = .ok (.iconst 0, 1) := by decide +kernel
theorem dX6_loser_24 : decode cX6_loser 24 = .ok (.istore 4, 2) := by decide +kernel
theorem dX6_loser_26 : decode cX6_loser 26 = .ok (.iload 4, 2) := by decide +kernel
theorem dX6_loser_28 : decode cX6_loser 28 = .ok (.aload_n 0, 1) := by decide +kernel
theorem dX6_loser_29 : decode cX6_loser 29 = .ok (.getfield 12, 3) := by decide +kernel
theorem dX6_loser_32 : decode cX6_loser 32 = .ok (.getfield 61, 3) := by decide +kernel
theorem dX6_loser_35 : decode cX6_loser 35 = .ok (.if_icmp .ge 30, 3) := by decide +kernel
theorem dX6_loser_38 : decode cX6_loser 38 = .ok (.aload_n 0, 1) := by decide +kernel
theorem dX6_loser_39 : decode cX6_loser 39 = .ok (.getfield 12, 3) := by decide +kernel
theorem dX6_loser_42 : decode cX6_loser 42 = .ok (.iload_n 1, 1) := by decide +kernel
theorem dX6_loser_43 : decode cX6_loser 43 = .ok (.iload 4, 2) := by decide +kernel
theorem dX6_loser_45 : decode cX6_loser 45 = .ok (.invokevirtual 180, 3) := by decide +kernel
theorem dX6_loser_48 : decode cX6_loser 48 = .ok (.iload_n 2, 1) := by decide +kernel
theorem dX6_loser_49 : decode cX6_loser 49 = .ok (.if_icmp .ne 10, 3) := by decide +kernel
theorem dX6_loser_52 : decode cX6_loser 52 = .ok (.iload_n 3, 1) := by decide +kernel
theorem dX6_loser_53 : decode cX6_loser 53 = .ok (.iconst 1, 1) := by decide +kernel
theorem dX6_loser_54 : decode cX6_loser 54 = .ok (.iload 4, 2) := by decide +kernel
theorem dX6_loser_56 : decode cX6_loser 56 = .ok (.ishl, 1) := by decide +kernel
theorem dX6_loser_57 : decode cX6_loser 57 = .ok (.ior, 1) := by decide +kernel
theorem dX6_loser_58 : decode cX6_loser 58 = .ok (.istore_n 3, 1) := by decide +kernel
theorem dX6_loser_59 : decode cX6_loser 59 = .ok (.iinc 4 1, 3) := by decide +kernel
theorem dX6_loser_62 : decode cX6_loser 62 = .ok (.goto (-36), 3) := by decide +kernel
theorem dX6_loser_65 : decode cX6_loser 65 = .ok (.iload_n 3, 1) := by decide +kernel
theorem dX6_loser_66 : decode cX6_loser 66 = .ok (.ireturn, 1) := by decide +kernel
set_option maxRecDepth 20000 in
theorem ggX6_note_X6_isPerson : GoodIn wsX6_note wsX6_isPerson := goodIn_r _ [8, 1, 9, 10, 11, 7, 12, 39, 40, 41, 42, 43, 44, 45, 46, 47, 48, 49, 50, 51, 52, 53, 54, 55, 56, 57, 58, 59, 60, 61, 62, 63, 64, 65] (by decide +kernel) (by decide +kernel)
set_option maxRecDepth 20000 in
theorem gX6_note_X6_isPerson : GoodIn wsX6_note (wsV RX6 83 RX6 yX6_isPerson wsX6_isPerson) := goodIn_app (goodIn_of _ (by decide +kernel)) ggX6_note_X6_isPerson
set_option maxRecDepth 20000 in
theorem ggX6_note_X6_upTo : GoodIn wsX6_note wsX6_upTo := goodIn_r _ [12] (by decide +kernel) (by decide +kernel)
set_option maxRecDepth 20000 in
theorem gX6_note_X6_upTo : GoodIn wsX6_note (va_wsS RX6 68 yX6_upTo wsX6_upTo) := goodIn_app (goodIn_of _ (by decide +kernel)) ggX6_note_X6_upTo
set_option maxRecDepth 20000 in
theorem ggX6_note_X6_refusedAsBad : GoodIn wsX6_note wsX6_refusedAsBad := goodIn_r _ [16, 17, 39, 40, 41, 42, 43, 44, 45, 46, 47, 48, 49, 50] (by decide +kernel) (by decide +kernel)
set_option maxRecDepth 20000 in
theorem gX6_note_X6_refusedAsBad : GoodIn wsX6_note (wsV RX6 72 RX6 yX6_refusedAsBad wsX6_refusedAsBad) := goodIn_app (goodIn_of _ (by decide +kernel)) ggX6_note_X6_refusedAsBad
set_option maxRecDepth 20000 in
theorem ggX6_note_X3_isFull : GoodIn wsX6_note wsX3_isFull := goodIn_r _ [22, 23, 24, 66, 67, 68, 69] (by decide +kernel) (by decide +kernel)
set_option maxRecDepth 20000 in
theorem gX6_note_X3_isFull : GoodIn wsX6_note (wsV RX6 201 RX3 yX3_isFull wsX3_isFull) := goodIn_app (goodIn_of _ (by decide +kernel)) ggX6_note_X3_isFull
set_option maxRecDepth 20000 in
theorem ggX6_note_X6_refusedAsFull : GoodIn wsX6_note wsX6_refusedAsFull := goodIn_r _ [28, 17, 39, 40, 41, 42, 43, 44, 45, 46, 47, 48, 49, 50] (by decide +kernel) (by decide +kernel)
set_option maxRecDepth 20000 in
theorem gX6_note_X6_refusedAsFull : GoodIn wsX6_note (wsV RX6 76 RX6 yX6_refusedAsFull wsX6_refusedAsFull) := goodIn_app (goodIn_of _ (by decide +kernel)) ggX6_note_X6_refusedAsFull
set_option maxRecDepth 20000 in
theorem ggX6_note_X3_begin : GoodIn wsX6_note wsX3_begin := goodIn_r _ [32, 23, 24, 66, 67, 68, 69] (by decide +kernel) (by decide +kernel)
set_option maxRecDepth 20000 in
theorem gX6_note_X3_begin : GoodIn wsX6_note (wsV RX6 205 RX3 yX3_begin wsX3_begin) := goodIn_app (goodIn_of _ (by decide +kernel)) ggX6_note_X3_begin
set_option maxRecDepth 20000 in
theorem ggX6_note_X3_put : GoodIn wsX6_note wsX3_put := goodIn_r _ [36, 23, 37, 38, 66, 67, 68, 69] (by decide +kernel) (by decide +kernel)
set_option maxRecDepth 20000 in
theorem gX6_note_X3_put : GoodIn wsX6_note (wsV RX6 208 RX3 yX3_put wsX3_put) := goodIn_app (goodIn_of _ (by decide +kernel)) ggX6_note_X3_put
theorem dX6_note_0 : decode cX6_note 0 = .ok (.aload_n 0, 1) := by decide +kernel
theorem dX6_note_1 : decode cX6_note 1 = .ok (.iload_n 1, 1) := by decide +kernel
theorem dX6_note_2 : decode cX6_note 2 = .ok (.invokevirtual 83, 3) := by decide +kernel
theorem dX6_note_5 : decode cX6_note 5 = .ok (.ifCond .eq 25, 3) := by decide +kernel
theorem dX6_note_8 : decode cX6_note 8 = .ok (.iload_n 2, 1) := by decide +kernel
theorem dX6_note_9 : decode cX6_note 9 = .ok (.bipush 10, 2) := by decide +kernel
theorem dX6_note_11 : decode cX6_note 11 = .ok (.invokestatic 68, 3) := by decide +kernel
theorem dX6_note_14 : decode cX6_note 14 = .ok (.ifCond .eq 16, 3) := by decide +kernel
theorem dX6_note_17 : decode cX6_note 17 = .ok (.iload_n 3, 1) := by decide +kernel
theorem dX6_note_18 : decode cX6_note 18 = .ok (.bipush 10, 2) := by decide +kernel
theorem dX6_note_20 : decode cX6_note 20 = .ok (.invokestatic 68, 3) := by decide +kernel
theorem dX6_note_23 : decode cX6_note 23 = .ok (.ifCond .eq 7, 3) := by decide +kernel
theorem dX6_note_26 : decode cX6_note 26 = .ok (.iconst 1, 1) := by decide +kernel
theorem dX6_note_27 : decode cX6_note 27 = .ok (.goto 4, 3) := by decide +kernel
theorem dX6_note_30 : decode cX6_note 30 = .ok (.iconst 0, 1) := by decide +kernel
theorem dX6_note_31 : decode cX6_note 31 = .ok (.istore 7, 2) := by decide +kernel
theorem dX6_note_33 : decode cX6_note 33 = .ok (.iload 7, 2) := by decide +kernel
theorem dX6_note_35 : decode cX6_note 35 = .ok (.ifCond .eq 32, 3) := by decide +kernel
theorem dX6_note_38 : decode cX6_note 38 = .ok (.iload 4, 2) := by decide +kernel
theorem dX6_note_40 : decode cX6_note 40 = .ok (.iconst 4, 1) := by decide +kernel
theorem dX6_note_41 : decode cX6_note 41 = .ok (.invokestatic 68, 3) := by decide +kernel
theorem dX6_note_44 : decode cX6_note 44 = .ok (.ifCond .eq 23, 3) := by decide +kernel
theorem dX6_note_47 : decode cX6_note 47 = .ok (.iload 5, 2) := by decide +kernel
theorem dX6_note_49 : decode cX6_note 49 = .ok (.bipush 100, 2) := by decide +kernel
theorem dX6_note_51 : decode cX6_note 51 = .ok (.invokestatic 68, 3) := by decide +kernel
theorem dX6_note_54 : decode cX6_note 54 = .ok (.ifCond .eq 13, 3) := by decide +kernel
theorem dX6_note_57 : decode cX6_note 57 = .ok (.iload 6, 2) := by decide +kernel
theorem dX6_note_59 : decode cX6_note 59 = .ok (.bipush 31, 2) := by decide +kernel
theorem dX6_note_61 : decode cX6_note 61 = .ok (.invokestatic 68, 3) := by decide +kernel
theorem dX6_note_64 : decode cX6_note 64 = .ok (.ifCond .ne 8, 3) := by decide +kernel
theorem dX6_note_67 : decode cX6_note 67 = .ok (.aload_n 0, 1) := by decide +kernel
theorem dX6_note_68 : decode cX6_note 68 = .ok (.invokevirtual 72, 3) := by decide +kernel
theorem dX6_note_71 : decode cX6_note 71 = .ok (.ireturn, 1) := by decide +kernel
theorem dX6_note_72 : decode cX6_note 72 = .ok (.aload_n 0, 1) := by decide +kernel
theorem dX6_note_73 : decode cX6_note 73 = .ok (.getfield 12, 3) := by decide +kernel
theorem dX6_note_76 : decode cX6_note 76 = .ok (.getfield 198, 3) := by decide +kernel
theorem dX6_note_79 : decode cX6_note 79 = .ok (.invokevirtual 201, 3) := by decide +kernel
theorem dX6_note_82 : decode cX6_note 82 = .ok (.ifCond .eq 8, 3) := by decide +kernel
theorem dX6_note_85 : decode cX6_note 85 = .ok (.aload_n 0, 1) := by decide +kernel
theorem dX6_note_86 : decode cX6_note 86 = .ok (.invokevirtual 76, 3) := by decide +kernel
theorem dX6_note_89 : decode cX6_note 89 = .ok (.ireturn, 1) := by decide +kernel
theorem dX6_note_90 : decode cX6_note 90 = .ok (.aload_n 0, 1) := by decide +kernel
theorem dX6_note_91 : decode cX6_note 91 = .ok (.getfield 12, 3) := by decide +kernel
theorem dX6_note_94 : decode cX6_note 94 = .ok (.getfield 198, 3) := by decide +kernel
theorem dX6_note_97 : decode cX6_note 97 = .ok (.invokevirtual 205, 3) := by decide +kernel
theorem dX6_note_100 : decode cX6_note 100 = .ok (.aload_n 0, 1) := by decide +kernel
theorem dX6_note_101 : decode cX6_note 101 = .ok (.getfield 12, 3) := by decide +kernel
theorem dX6_note_104 : decode cX6_note 104 = .ok (.getfield 198, 3) := by decide +kernel
theorem dX6_note_107 : decode cX6_note 107 = .ok (.iconst 0, 1) := by decide +kernel
theorem dX6_note_108 : decode cX6_note 108 = .ok (.iload_n 1, 1) := by decide +kernel
theorem dX6_note_109 : decode cX6_note 109 = .ok (.invokevirtual 208, 3) := by decide +kernel
theorem dX6_note_112 : decode cX6_note 112 = .ok (.aload_n 0, 1) := by decide +kernel
theorem dX6_note_113 : decode cX6_note 113 = .ok (.getfield 12, 3) := by decide +kernel
theorem dX6_note_116 : decode cX6_note 116 = .ok (.getfield 198, 3) := by decide +kernel
theorem dX6_note_119 : decode cX6_note 119 = .ok (.iconst 1, 1) := by decide +kernel
theorem dX6_note_120 : decode cX6_note 120 = .ok (.iload_n 2, 1) := by decide +kernel
theorem dX6_note_121 : decode cX6_note 121 = .ok (.invokevirtual 208, 3) := by decide +kernel
theorem dX6_note_124 : decode cX6_note 124 = .ok (.aload_n 0, 1) := by decide +kernel
theorem dX6_note_125 : decode cX6_note 125 = .ok (.getfield 12, 3) := by decide +kernel
theorem dX6_note_128 : decode cX6_note 128 = .ok (.getfield 198, 3) := by decide +kernel
theorem dX6_note_131 : decode cX6_note 131 = .ok (.iconst 2, 1) := by decide +kernel
theorem dX6_note_132 : decode cX6_note 132 = .ok (.iload_n 3, 1) := by decide +kernel
theorem dX6_note_133 : decode cX6_note 133 = .ok (.invokevirtual 208, 3) := by decide +kernel
theorem dX6_note_136 : decode cX6_note 136 = .ok (.aload_n 0, 1) := by decide +kernel
theorem dX6_note_137 : decode cX6_note 137 = .ok (.getfield 12, 3) := by decide +kernel
theorem dX6_note_140 : decode cX6_note 140 = .ok (.getfield 198, 3) := by decide +kernel
theorem dX6_note_143 : decode cX6_note 143 = .ok (.iconst 3, 1) := by decide +kernel
theorem dX6_note_144 : decode cX6_note 144 = .ok (.iload 4, 2) := by decide +kernel
theorem dX6_note_146 : decode cX6_note 146 = .ok (.invokevirtual 208, 3) := by decide +kernel
theorem dX6_note_149 : decode cX6_note 149 = .ok (.aload_n 0, 1) := by decide +kernel
theorem dX6_note_150 : decode cX6_note 150 = .ok (.getfield 12, 3) := by decide +kernel
theorem dX6_note_153 : decode cX6_note 153 = .ok (.getfield 198, 3) := by decide +kernel
theorem dX6_note_156 : decode cX6_note 156 = .ok (.iconst 4, 1) := by decide +kernel
theorem dX6_note_157 : decode cX6_note 157 = .ok (.iload 5, 2) := by decide +kernel
theorem dX6_note_159 : decode cX6_note 159 = .ok (.invokevirtual 208, 3) := by decide +kernel
theorem dX6_note_162 : decode cX6_note 162 = .ok (.aload_n 0, 1) := by decide +kernel
theorem dX6_note_163 : decode cX6_note 163 = .ok (.getfield 12, 3) := by decide +kernel
theorem dX6_note_166 : decode cX6_note 166 = .ok (.getfield 198, 3) := by decide +kernel
theorem dX6_note_169 : decode cX6_note 169 = .ok (.iconst 5, 1) := by decide +kernel
theorem dX6_note_170 : decode cX6_note 170 = .ok (.iload 6, 2) := by decide +kernel
theorem dX6_note_172 : decode cX6_note 172 = .ok (.invokevirtual 208, 3) := by decide +kernel
theorem dX6_note_175 : decode cX6_note 175 = .ok (.aload_n 0, 1) := by decide +kernel
theorem dX6_note_176 : decode cX6_note 176 = .ok (.getfield 12, 3) := by decide +kernel
theorem dX6_note_179 : decode cX6_note 179 = .ok (.getfield 198, 3) := by decide +kernel
theorem dX6_note_182 : decode cX6_note 182 = .ok (.getfield 150, 3) := by decide +kernel
theorem dX6_note_185 : decode cX6_note 185 = .ok (.ireturn, 1) := by decide +kernel
set_option maxRecDepth 20000 in
theorem ggX6_came_X6_isThing : GoodIn wsX6_came wsX6_isThing := goodIn_r _ [8, 1, 9, 10, 11, 7, 12, 44, 45, 46, 47, 48, 49, 50, 51, 52, 53, 54, 55, 56, 57, 58, 59, 60, 61, 62, 63, 64, 65, 66, 67, 68, 69, 70] (by decide +kernel) (by decide +kernel)
set_option maxRecDepth 20000 in
theorem gX6_came_X6_isThing : GoodIn wsX6_came (wsV RX6 109 RX6 yX6_isThing wsX6_isThing) := goodIn_app (goodIn_of _ (by decide +kernel)) ggX6_came_X6_isThing
set_option maxRecDepth 20000 in
theorem ggX6_came_X6_isPerson : GoodIn wsX6_came wsX6_isPerson := goodIn_r _ [16, 1, 17, 10, 11, 7, 12, 44, 45, 46, 47, 48, 49, 50, 51, 52, 53, 54, 55, 56, 57, 58, 59, 60, 61, 62, 63, 64, 65, 66, 67, 68, 69, 70] (by decide +kernel) (by decide +kernel)
set_option maxRecDepth 20000 in
theorem gX6_came_X6_isPerson : GoodIn wsX6_came (wsV RX6 83 RX6 yX6_isPerson wsX6_isPerson) := goodIn_app (goodIn_of _ (by decide +kernel)) ggX6_came_X6_isPerson
set_option maxRecDepth 20000 in
theorem ggX6_came_X6_upTo : GoodIn wsX6_came wsX6_upTo := goodIn_r _ [12] (by decide +kernel) (by decide +kernel)
set_option maxRecDepth 20000 in
theorem gX6_came_X6_upTo : GoodIn wsX6_came (va_wsS RX6 68 yX6_upTo wsX6_upTo) := goodIn_app (goodIn_of _ (by decide +kernel)) ggX6_came_X6_upTo
set_option maxRecDepth 20000 in
theorem ggX6_came_X6_refusedAsBad : GoodIn wsX6_came wsX6_refusedAsBad := goodIn_r _ [21, 22, 44, 45, 46, 47, 48, 49, 50, 51, 52, 53, 54, 55] (by decide +kernel) (by decide +kernel)
set_option maxRecDepth 20000 in
theorem gX6_came_X6_refusedAsBad : GoodIn wsX6_came (wsV RX6 72 RX6 yX6_refusedAsBad wsX6_refusedAsBad) := goodIn_app (goodIn_of _ (by decide +kernel)) ggX6_came_X6_refusedAsBad
set_option maxRecDepth 20000 in
theorem ggX6_came_X3_isFull : GoodIn wsX6_came wsX3_isFull := goodIn_r _ [27, 28, 29, 71, 72, 73, 74] (by decide +kernel) (by decide +kernel)
set_option maxRecDepth 20000 in
theorem gX6_came_X3_isFull : GoodIn wsX6_came (wsV RX6 201 RX3 yX3_isFull wsX3_isFull) := goodIn_app (goodIn_of _ (by decide +kernel)) ggX6_came_X3_isFull
set_option maxRecDepth 20000 in
theorem ggX6_came_X6_refusedAsFull : GoodIn wsX6_came wsX6_refusedAsFull := goodIn_r _ [33, 22, 44, 45, 46, 47, 48, 49, 50, 51, 52, 53, 54, 55] (by decide +kernel) (by decide +kernel)
set_option maxRecDepth 20000 in
theorem gX6_came_X6_refusedAsFull : GoodIn wsX6_came (wsV RX6 76 RX6 yX6_refusedAsFull wsX6_refusedAsFull) := goodIn_app (goodIn_of _ (by decide +kernel)) ggX6_came_X6_refusedAsFull
set_option maxRecDepth 20000 in
theorem ggX6_came_X3_begin : GoodIn wsX6_came wsX3_begin := goodIn_r _ [37, 28, 29, 71, 72, 73, 74] (by decide +kernel) (by decide +kernel)
set_option maxRecDepth 20000 in
theorem gX6_came_X3_begin : GoodIn wsX6_came (wsV RX6 205 RX3 yX3_begin wsX3_begin) := goodIn_app (goodIn_of _ (by decide +kernel)) ggX6_came_X3_begin
set_option maxRecDepth 20000 in
theorem ggX6_came_X3_put : GoodIn wsX6_came wsX3_put := goodIn_r _ [41, 28, 42, 43, 71, 72, 73, 74] (by decide +kernel) (by decide +kernel)
set_option maxRecDepth 20000 in
theorem gX6_came_X3_put : GoodIn wsX6_came (wsV RX6 208 RX3 yX3_put wsX3_put) := goodIn_app (goodIn_of _ (by decide +kernel)) ggX6_came_X3_put
theorem dX6_came_0 : decode cX6_came 0 = .ok (.aload_n 0, 1) := by decide +kernel
theorem dX6_came_1 : decode cX6_came 1 = .ok (.iload_n 1, 1) := by decide +kernel
theorem dX6_came_2 : decode cX6_came 2 = .ok (.invokevirtual 109, 3) := by decide +kernel
theorem dX6_came_5 : decode cX6_came 5 = .ok (.ifCond .eq 24, 3) := by decide +kernel
theorem dX6_came_8 : decode cX6_came 8 = .ok (.aload_n 0, 1) := by decide +kernel
theorem dX6_came_9 : decode cX6_came 9 = .ok (.iload_n 2, 1) := by decide +kernel
theorem dX6_came_10 : decode cX6_came 10 = .ok (.invokevirtual 83, 3) := by decide +kernel
theorem dX6_came_13 : decode cX6_came 13 = .ok (.ifCond .eq 16, 3) := by decide +kernel
theorem dX6_came_16 : decode cX6_came 16 = .ok (.iload_n 3, 1) := by decide +kernel
theorem dX6_came_17 : decode cX6_came 17 = .ok (.bipush 100, 2) := by decide +kernel
theorem dX6_came_19 : decode cX6_came 19 = .ok (.invokestatic 68, 3) := by decide +kernel
theorem dX6_came_22 : decode cX6_came 22 = .ok (.ifCond .eq 7, 3) := by decide +kernel
theorem dX6_came_25 : decode cX6_came 25 = .ok (.iconst 1, 1) := by decide +kernel
theorem dX6_came_26 : decode cX6_came 26 = .ok (.goto 4, 3) := by decide +kernel
theorem dX6_came_29 : decode cX6_came 29 = .ok (.iconst 0, 1) := by decide +kernel
theorem dX6_came_30 : decode cX6_came 30 = .ok (.istore 5, 2) := by decide +kernel
theorem dX6_came_32 : decode cX6_came 32 = .ok (.iload 5, 2) := by decide +kernel
theorem dX6_came_34 : decode cX6_came 34 = .ok (.ifCond .eq 24, 3) := by decide +kernel
theorem dX6_came_37 : decode cX6_came 37 = .ok (.iload_n 2, 1) := by decide +kernel
theorem dX6_came_38 : decode cX6_came 38 = .ok (.iload 4, 2) := by decide +kernel
theorem dX6_came_40 : decode cX6_came 40 = .ok (.if_icmp .eq 18, 3) := by decide +kernel
theorem dX6_came_43 : decode cX6_came 43 = .ok (.iload 4, 2) := by decide +kernel
theorem dX6_came_45 : decode cX6_came 45 = .ok (.iconst (-1), 1) := by decide +kernel
theorem dX6_came_46 : decode cX6_came 46 = .ok (.if_icmp .eq 17, 3) := by decide +kernel
theorem dX6_came_49 : decode cX6_came 49 = .ok (.aload_n 0, 1) := by decide +kernel
theorem dX6_came_50 : decode cX6_came 50 = .ok (.iload 4, 2) := by decide +kernel
theorem dX6_came_52 : decode cX6_came 52 = .ok (.invokevirtual 83, 3) := by decide +kernel
theorem dX6_came_55 : decode cX6_came 55 = .ok (.ifCond .ne 8, 3) := by decide +kernel
theorem dX6_came_58 : decode cX6_came 58 = .ok (.aload_n 0, 1) := by decide +kernel
theorem dX6_came_59 : decode cX6_came 59 = .ok (.invokevirtual 72, 3) := by decide +kernel
theorem dX6_came_62 : decode cX6_came 62 = .ok (.ireturn, 1) := by decide +kernel
theorem dX6_came_63 : decode cX6_came 63 = .ok (.aload_n 0, 1) := by decide +kernel
theorem dX6_came_64 : decode cX6_came 64 = .ok (.getfield 12, 3) := by decide +kernel
theorem dX6_came_67 : decode cX6_came 67 = .ok (.getfield 211, 3) := by decide +kernel
theorem dX6_came_70 : decode cX6_came 70 = .ok (.invokevirtual 201, 3) := by decide +kernel
theorem dX6_came_73 : decode cX6_came 73 = .ok (.ifCond .eq 8, 3) := by decide +kernel
theorem dX6_came_76 : decode cX6_came 76 = .ok (.aload_n 0, 1) := by decide +kernel
theorem dX6_came_77 : decode cX6_came 77 = .ok (.invokevirtual 76, 3) := by decide +kernel
theorem dX6_came_80 : decode cX6_came 80 = .ok (.ireturn, 1) := by decide +kernel
theorem dX6_came_81 : decode cX6_came 81 = .ok (.aload_n 0, 1) := by decide +kernel
theorem dX6_came_82 : decode cX6_came 82 = .ok (.getfield 12, 3) := by decide +kernel
theorem dX6_came_85 : decode cX6_came 85 = .ok (.getfield 211, 3) := by decide +kernel
theorem dX6_came_88 : decode cX6_came 88 = .ok (.invokevirtual 205, 3) := by decide +kernel
theorem dX6_came_91 : decode cX6_came 91 = .ok (.aload_n 0, 1) := by decide +kernel
theorem dX6_came_92 : decode cX6_came 92 = .ok (.getfield 12, 3) := by decide +kernel
theorem dX6_came_95 : decode cX6_came 95 = .ok (.getfield 211, 3) := by decide +kernel
theorem dX6_came_98 : decode cX6_came 98 = .ok (.iconst 0, 1) := by decide +kernel
theorem dX6_came_99 : decode cX6_came 99 = .ok (.iload_n 1, 1) := by decide +kernel
theorem dX6_came_100 : decode cX6_came 100 = .ok (.invokevirtual 208, 3) := by decide +kernel
theorem dX6_came_103 : decode cX6_came 103 = .ok (.aload_n 0, 1) := by decide +kernel
theorem dX6_came_104 : decode cX6_came 104 = .ok (.getfield 12, 3) := by decide +kernel
theorem dX6_came_107 : decode cX6_came 107 = .ok (.getfield 211, 3) := by decide +kernel
theorem dX6_came_110 : decode cX6_came 110 = .ok (.iconst 1, 1) := by decide +kernel
theorem dX6_came_111 : decode cX6_came 111 = .ok (.iload_n 2, 1) := by decide +kernel
theorem dX6_came_112 : decode cX6_came 112 = .ok (.invokevirtual 208, 3) := by decide +kernel
theorem dX6_came_115 : decode cX6_came 115 = .ok (.aload_n 0, 1) := by decide +kernel
theorem dX6_came_116 : decode cX6_came 116 = .ok (.getfield 12, 3) := by decide +kernel
theorem dX6_came_119 : decode cX6_came 119 = .ok (.getfield 211, 3) := by decide +kernel
theorem dX6_came_122 : decode cX6_came 122 = .ok (.iconst 2, 1) := by decide +kernel
theorem dX6_came_123 : decode cX6_came 123 = .ok (.iload_n 3, 1) := by decide +kernel
theorem dX6_came_124 : decode cX6_came 124 = .ok (.invokevirtual 208, 3) := by decide +kernel
theorem dX6_came_127 : decode cX6_came 127 = .ok (.aload_n 0, 1) := by decide +kernel
theorem dX6_came_128 : decode cX6_came 128 = .ok (.getfield 12, 3) := by decide +kernel
theorem dX6_came_131 : decode cX6_came 131 = .ok (.getfield 211, 3) := by decide +kernel
theorem dX6_came_134 : decode cX6_came 134 = .ok (.iconst 3, 1) := by decide +kernel
theorem dX6_came_135 : decode cX6_came 135 = .ok (.iload 4, 2) := by decide +kernel
theorem dX6_came_137 : decode cX6_came 137 = .ok (.invokevirtual 208, 3) := by decide +kernel
theorem dX6_came_140 : decode cX6_came 140 = .ok (.aload_n 0, 1) := by decide +kernel
theorem dX6_came_141 : decode cX6_came 141 = .ok (.getfield 12, 3) := by decide +kernel
theorem dX6_came_144 : decode cX6_came 144 = .ok (.getfield 211, 3) := by decide +kernel
theorem dX6_came_147 : decode cX6_came 147 = .ok (.getfield 150, 3) := by decide +kernel
theorem dX6_came_150 : decode cX6_came 150 = .ok (.ireturn, 1) := by decide +kernel
set_option maxRecDepth 20000 in
theorem ggX6_forget_X6_upTo : GoodIn wsX6_forget wsX6_upTo := goodIn_r _ [8] (by decide +kernel) (by decide +kernel)
set_option maxRecDepth 20000 in
theorem gX6_forget_X6_upTo : GoodIn wsX6_forget (va_wsS RX6 68 yX6_upTo wsX6_upTo) := goodIn_app (goodIn_of _ (by decide +kernel)) ggX6_forget_X6_upTo
set_option maxRecDepth 20000 in
theorem ggX6_forget_X6_refusedAsBad : GoodIn wsX6_forget wsX6_refusedAsBad := goodIn_r _ [12, 13, 14, 15, 16, 17, 18, 19, 20, 21, 22, 23, 24, 25] (by decide +kernel) (by decide +kernel)
set_option maxRecDepth 20000 in
theorem gX6_forget_X6_refusedAsBad : GoodIn wsX6_forget (wsV RX6 72 RX6 yX6_refusedAsBad wsX6_refusedAsBad) := goodIn_app (goodIn_of _ (by decide +kernel)) ggX6_forget_X6_refusedAsBad
theorem dX6_forget_0 : decode cX6_forget 0 = .ok (.iload_n 1, 1) := by decide +kernel
theorem dX6_forget_1 : decode cX6_forget 1 = .ok (.iconst 2, 1) := by decide +kernel
theorem dX6_forget_2 : decode cX6_forget 2 = .ok (.invokestatic 68, 3) := by decide +kernel
theorem dX6_forget_5 : decode cX6_forget 5 = .ok (.ifCond .ne 8, 3) := by decide +kernel
theorem dX6_forget_8 : decode cX6_forget 8 = .ok (.aload_n 0, 1) := by decide +kernel
theorem dX6_forget_9 : decode cX6_forget 9 = .ok (.invokevirtual 72, 3) := by decide +kernel
theorem dX6_forget_12 : decode cX6_forget 12 = .ok (.ireturn, 1) := by decide +kernel
theorem dX6_forget_13 : decode cX6_forget 13 = .ok (.iload_n 1, 1) := by decide +kernel
theorem dX6_forget_14 : decode cX6_forget 14 = .ok (.ifCond .ne 13, 3) := by decide +kernel
theorem dX6_forget_17 : decode cX6_forget 17 = .ok (.aload_n 0, 1) := by decide +kernel
theorem dX6_forget_18 : decode cX6_forget 18 = .ok (.getfield 12, 3) := by decide +kernel
theorem dX6_forget_21 : decode cX6_forget 21 = .ok (.getfield 198, 3) := by decide +kernel
theorem dX6_forget_24 : decode cX6_forget 24 = .ok (.goto 10, 3) := by decide +kernel
theorem dX6_forget_27 : decode cX6_forget 27 = .ok (.aload_n 0, 1) := by decide +kernel
theorem dX6_forget_28 : decode cX6_forget 28 = .ok (.getfield 12, 3) := by decide +kernel
theorem dX6_forget_31 : decode cX6_forget 31 = .ok (.getfield 211, 3) := by decide +kernel
theorem dX6_forget_34 : decode cX6_forget 34 = .ok (.astore_n 2, 1) := by decide +kernel
theorem dX6_forget_35 : decode cX6_forget 35 = .ok (.aload_n 2, 1) := by decide +kernel
theorem dX6_forget_36 : decode cX6_forget 36 = .ok (.getfield 150, 3) := by decide +kernel
theorem dX6_forget_39 : decode cX6_forget 39 = .ok (.istore_n 3, 1) := by decide +kernel
theorem dX6_forget_40 : decode cX6_forget 40 = .ok (.aload_n 2, 1) := by decide +kernel
theorem dX6_forget_41 : decode cX6_forget 41 = .ok (.iconst 0, 1) := by decide +kernel
theorem dX6_forget_42 : decode cX6_forget 42 = .ok (.putfield 150, 3) := by decide +kernel
theorem dX6_forget_45 : decode cX6_forget 45 = .ok (.iload_n 3, 1) := by decide +kernel
theorem dX6_forget_46 : decode cX6_forget 46 = .ok (.ireturn, 1) := by decide +kernel
set_option maxRecDepth 20000 in
theorem ggX6_is_X6_isPerson : GoodIn wsX6_is wsX6_isPerson := goodIn_r _ [6, 1, 7, 8, 9, 5, 10, 38, 39, 40, 41, 42, 43, 44, 45, 46, 47, 48, 49, 50, 51, 52, 53, 54, 55, 56, 57, 58, 59, 60, 61, 62, 63, 64] (by decide +kernel) (by decide +kernel)
set_option maxRecDepth 20000 in
theorem gX6_is_X6_isPerson : GoodIn wsX6_is (wsV RX6 83 RX6 yX6_isPerson wsX6_isPerson) := goodIn_app (goodIn_of _ (by decide +kernel)) ggX6_is_X6_isPerson
set_option maxRecDepth 20000 in
theorem ggX6_is_X6_refusedAsBad : GoodIn wsX6_is wsX6_refusedAsBad := goodIn_r _ [14, 15, 38, 39, 40, 41, 42, 43, 44, 45, 46, 47, 48, 49] (by decide +kernel) (by decide +kernel)
set_option maxRecDepth 20000 in
theorem gX6_is_X6_refusedAsBad : GoodIn wsX6_is (wsV RX6 72 RX6 yX6_refusedAsBad wsX6_refusedAsBad) := goodIn_app (goodIn_of _ (by decide +kernel)) ggX6_is_X6_refusedAsBad
set_option maxRecDepth 20000 in
theorem ggX6_is_X5_kindsByNotes : GoodIn wsX6_is wsX5_kindsByNotes := goodIn_r _ [20, 21, 22, 23, 19, 24, 25, 26, 27, 28, 29, 30, 31, 32, 33, 34, 35, 36, 37, 50, 51, 52, 53, 54, 55, 56, 57, 58, 59, 60, 61, 62, 63, 64, 65, 66, 67, 68] (by decide +kernel) (by decide +kernel)
set_option maxRecDepth 20000 in
theorem gX6_is_X5_kindsByNotes : GoodIn wsX6_is (wsV RX6 214 RX5 yX5_kindsByNotes wsX5_kindsByNotes) := goodIn_app (goodIn_of _ (by decide +kernel)) ggX6_is_X5_kindsByNotes
theorem dX6_is_0 : decode cX6_is 0 = .ok (.aload_n 0, 1) := by decide +kernel
theorem dX6_is_1 : decode cX6_is 1 = .ok (.iload_n 1, 1) := by decide +kernel
theorem dX6_is_2 : decode cX6_is 2 = .ok (.invokevirtual 83, 3) := by decide +kernel
theorem dX6_is_5 : decode cX6_is 5 = .ok (.ifCond .ne 8, 3) := by decide +kernel
theorem dX6_is_8 : decode cX6_is 8 = .ok (.aload_n 0, 1) := by decide +kernel
theorem dX6_is_9 : decode cX6_is 9 = .ok (.invokevirtual 72, 3) := by decide +kernel
theorem dX6_is_12 : decode cX6_is 12 = .ok (.ireturn, 1) := by decide +kernel
theorem dX6_is_13 : decode cX6_is 13 = .ok (.aload_n 0, 1) := by decide +kernel
theorem dX6_is_14 : decode cX6_is 14 = .ok (.getfield 12, 3) := by decide +kernel
theorem dX6_is_17 : decode cX6_is 17 = .ok (.iload_n 1, 1) := by decide +kernel
theorem dX6_is_18 : decode cX6_is 18 = .ok (.invokevirtual 214, 3) := by decide +kernel
theorem dX6_is_21 : decode cX6_is 21 = .ok (.ireturn, 1) := by decide +kernel
set_option maxRecDepth 20000 in
theorem ggX6_watch_X6_isPerson : GoodIn wsX6_watch wsX6_isPerson := goodIn_r _ [9, 1, 10, 11, 12, 8, 13, 45, 46, 47, 48, 49, 50, 51, 52, 53, 54, 55, 56, 57, 58, 59, 60, 61, 62, 63, 64, 65, 66, 67, 68, 69, 70, 71] (by decide +kernel) (by decide +kernel)
set_option maxRecDepth 20000 in
theorem gX6_watch_X6_isPerson : GoodIn wsX6_watch (wsV RX6 83 RX6 yX6_isPerson wsX6_isPerson) := goodIn_app (goodIn_of _ (by decide +kernel)) ggX6_watch_X6_isPerson
set_option maxRecDepth 20000 in
theorem ggX6_watch_X6_refusedAsBad : GoodIn wsX6_watch wsX6_refusedAsBad := goodIn_r _ [17, 18, 45, 46, 47, 48, 49, 50, 51, 52, 53, 54, 55, 56] (by decide +kernel) (by decide +kernel)
set_option maxRecDepth 20000 in
theorem gX6_watch_X6_refusedAsBad : GoodIn wsX6_watch (wsV RX6 72 RX6 yX6_refusedAsBad wsX6_refusedAsBad) := goodIn_app (goodIn_of _ (by decide +kernel)) ggX6_watch_X6_refusedAsBad
set_option maxRecDepth 20000 in
theorem ggX6_watch_X5_kindsByNotes : GoodIn wsX6_watch wsX5_kindsByNotes := goodIn_r _ [23, 24, 25, 26, 22, 27, 28, 29, 30, 31, 32, 33, 34, 35, 36, 37, 38, 39, 40, 57, 58, 59, 60, 61, 62, 63, 64, 65, 66, 67, 68, 69, 70, 71, 72, 73, 74, 75] (by decide +kernel) (by decide +kernel)
set_option maxRecDepth 20000 in
theorem gX6_watch_X5_kindsByNotes : GoodIn wsX6_watch (wsV RX6 214 RX5 yX5_kindsByNotes wsX5_kindsByNotes) := goodIn_app (goodIn_of _ (by decide +kernel)) ggX6_watch_X5_kindsByNotes
set_option maxRecDepth 20000 in
theorem ggX6_watch_X1_shown : GoodIn wsX6_watch wsX1_shown := goodIn_r _ [40] (by decide +kernel) (by decide +kernel)
set_option maxRecDepth 20000 in
theorem gX6_watch_X1_shown : GoodIn wsX6_watch (va_wsS RX6 217 yX1_shown wsX1_shown) := goodIn_app (goodIn_of _ (by decide +kernel)) ggX6_watch_X1_shown
set_option maxRecDepth 20000 in
theorem ggX6_watch_X6_mostAlike : GoodIn wsX6_watch wsX6_mostAlike := goodIn_r _ [44] (by decide +kernel) (by decide +kernel)
set_option maxRecDepth 20000 in
theorem gX6_watch_X6_mostAlike : GoodIn wsX6_watch (va_wsS RX6 222 yX6_mostAlike wsX6_mostAlike) := goodIn_app (goodIn_of _ (by decide +kernel)) ggX6_watch_X6_mostAlike
theorem dX6_watch_0 : decode cX6_watch 0 = .ok (.aload_n 0, 1) := by decide +kernel
theorem dX6_watch_1 : decode cX6_watch 1 = .ok (.iload_n 1, 1) := by decide +kernel
theorem dX6_watch_2 : decode cX6_watch 2 = .ok (.invokevirtual 83, 3) := by decide +kernel
theorem dX6_watch_5 : decode cX6_watch 5 = .ok (.ifCond .ne 8, 3) := by decide +kernel
theorem dX6_watch_8 : decode cX6_watch 8 = .ok (.aload_n 0, 1) := by decide +kernel
theorem dX6_watch_9 : decode cX6_watch 9 = .ok (.invokevirtual 72, 3) := by decide +kernel
theorem dX6_watch_12 : decode cX6_watch 12 = .ok (.ireturn, 1) := by decide +kernel
theorem dX6_watch_13 : decode cX6_watch 13 = .ok (.aload_n 0, 1) := by decide +kernel
theorem dX6_watch_14 : decode cX6_watch 14 = .ok (.getfield 12, 3) := by decide +kernel
theorem dX6_watch_17 : decode cX6_watch 17 = .ok (.iload_n 1, 1) := by decide +kernel
theorem dX6_watch_18 : decode cX6_watch 18 = .ok (.invokevirtual 214, 3) := by decide +kernel
theorem dX6_watch_21 : decode cX6_watch 21 = .ok (.istore_n 2, 1) := by decide +kernel
theorem dX6_watch_22 : decode cX6_watch 22 = .ok (.iconst (-1), 1) := by decide +kernel
theorem dX6_watch_23 : decode cX6_watch 23 = .ok (.istore_n 3, 1) := by decide +kernel
theorem dX6_watch_24 : decode cX6_watch 24 = .ok (.bipush 7, 2) := by decide +kernel
theorem dX6_watch_26 : decode cX6_watch 26 = .ok (.istore 4, 2) := by decide +kernel
theorem dX6_watch_28 : decode cX6_watch 28 = .ok (.iconst 0, 1) := by decide +kernel
theorem dX6_watch_29 : decode cX6_watch 29 = .ok (.istore 5, 2) := by decide +kernel
theorem dX6_watch_31 : decode cX6_watch 31 = .ok (.iload 5, 2) := by decide +kernel
theorem dX6_watch_33 : decode cX6_watch 33 = .ok (.bipush 40, 2) := by decide +kernel
theorem dX6_watch_35 : decode cX6_watch 35 = .ok (.if_icmp .ge 102, 3) := by decide +kernel
theorem dX6_watch_38 : decode cX6_watch 38 = .ok (.iload_n 2, 1) := by decide +kernel
theorem dX6_watch_39 : decode cX6_watch 39 = .ok (.ifCond .eq 98, 3) := by decide +kernel
theorem dX6_watch_42 : decode cX6_watch 42 = .ok (.iload 5, 2) := by decide +kernel
theorem dX6_watch_44 : decode cX6_watch 44 = .ok (.bipush 10, 2) := by decide +kernel
theorem dX6_watch_46 : decode cX6_watch 46 = .ok (.idiv, 1) := by decide +kernel
theorem dX6_watch_47 : decode cX6_watch 47 = .ok (.istore 6, 2) := by decide +kernel
theorem dX6_watch_49 : decode cX6_watch 49 = .ok (.iconst 0, 1) := by decide +kernel
theorem dX6_watch_50 : decode cX6_watch 50 = .ok (.istore 7, 2) := by decide +kernel
theorem dX6_watch_52 : decode cX6_watch 52 = .ok (.iload 7, 2) := by decide +kernel
theorem dX6_watch_54 : decode cX6_watch 54 = .ok (.bipush 6, 2) := by decide +kernel
theorem dX6_watch_56 : decode cX6_watch 56 = .ok (.if_icmp .ge 51, 3) := by decide +kernel
theorem dX6_watch_59 : decode cX6_watch 59 = .ok (.aload_n 0, 1) := by decide +kernel
theorem dX6_watch_60 : decode cX6_watch 60 = .ok (.getfield 45, 3) := by decide +kernel
theorem dX6_watch_63 : decode cX6_watch 63 = .ok (.iload 7, 2) := by decide +kernel
theorem dX6_watch_65 : decode cX6_watch 65 = .ok (.iload 7, 2) := by decide +kernel
theorem dX6_watch_67 : decode cX6_watch 67 = .ok (.aload_n 0, 1) := by decide +kernel
theorem dX6_watch_68 : decode cX6_watch 68 = .ok (.getfield 12, 3) := by decide +kernel
theorem dX6_watch_71 : decode cX6_watch 71 = .ok (.getfield 167, 3) := by decide +kernel
theorem dX6_watch_74 : decode cX6_watch 74 = .ok (.iconst 4, 1) := by decide +kernel
theorem dX6_watch_75 : decode cX6_watch 75 = .ok (.iload_n 1, 1) := by decide +kernel
theorem dX6_watch_76 : decode cX6_watch 76 = .ok (.imul, 1) := by decide +kernel
theorem dX6_watch_77 : decode cX6_watch 77 = .ok (.iload 6, 2) := by decide +kernel
theorem dX6_watch_79 : decode cX6_watch 79 = .ok (.iadd, 1) := by decide +kernel
theorem dX6_watch_80 : decode cX6_watch 80 = .ok (.iaload, 1) := by decide +kernel
theorem dX6_watch_81 : decode cX6_watch 81 = .ok (.aload_n 0, 1) := by decide +kernel
theorem dX6_watch_82 : decode cX6_watch 82 = .ok (.getfield 12, 3) := by decide +kernel
theorem dX6_watch_85 : decode cX6_watch 85 = .ok (.getfield 134, 3) := by decide +kernel
theorem dX6_watch_88 : decode cX6_watch 88 = .ok (.iload_n 1, 1) := by decide +kernel
theorem dX6_watch_89 : decode cX6_watch 89 = .ok (.iaload, 1) := by decide +kernel
theorem dX6_watch_90 : decode cX6_watch 90 = .ok (.iload 6, 2) := by decide +kernel
theorem dX6_watch_92 : decode cX6_watch 92 = .ok (.iload 5, 2) := by decide +kernel
theorem dX6_watch_94 : decode cX6_watch 94 = .ok (.bipush 10, 2) := by decide +kernel
theorem dX6_watch_96 : decode cX6_watch 96 = .ok (.irem, 1) := by decide +kernel
theorem dX6_watch_97 : decode cX6_watch 97 = .ok (.invokestatic 217, 3) := by decide +kernel
theorem dX6_watch_100 : decode cX6_watch 100 = .ok (.iastore, 1) := by decide +kernel
theorem dX6_watch_101 : decode cX6_watch 101 = .ok (.iinc 7 1, 3) := by decide +kernel
theorem dX6_watch_104 : decode cX6_watch 104 = .ok (.goto (-52), 3) := by decide +kernel
theorem dX6_watch_107 : decode cX6_watch 107 = .ok (.aload_n 0, 1) := by decide +kernel
theorem dX6_watch_108 : decode cX6_watch 108 = .ok (.getfield 45, 3) := by decide +kernel
theorem dX6_watch_111 : decode cX6_watch 111 = .ok (.iload_n 2, 1) := by decide +kernel
theorem dX6_watch_112 : decode cX6_watch 112 = .ok (.invokestatic 222, 3) := by decide +kernel
theorem dX6_watch_115 : decode cX6_watch 115 = .ok (.istore 7, 2) := by decide +kernel
theorem dX6_watch_117 : decode cX6_watch 117 = .ok (.iload 7, 2) := by decide +kernel
theorem dX6_watch_119 : decode cX6_watch 119 = .ok (.iload 4, 2) := by decide +kernel
theorem dX6_watch_121 : decode cX6_watch 121 = .ok (.if_icmp .ge 10, 3) := by decide +kernel
theorem dX6_watch_124 : decode cX6_watch 124 = .ok (.iload 7, 2) := by decide +kernel
theorem dX6_watch_126 : decode cX6_watch 126 = .ok (.istore 4, 2) := by decide +kernel
theorem dX6_watch_128 : decode cX6_watch 128 = .ok (.iload 5, 2) := by decide +kernel
theorem dX6_watch_130 : decode cX6_watch 130 = .ok (.istore_n 3, 1) := by decide +kernel
theorem dX6_watch_131 : decode cX6_watch 131 = .ok (.iinc 5 1, 3) := by decide +kernel
theorem dX6_watch_134 : decode cX6_watch 134 = .ok (.goto (-103), 3) := by decide +kernel
theorem dX6_watch_137 : decode cX6_watch 137 = .ok (.iload_n 3, 1) := by decide +kernel
theorem dX6_watch_138 : decode cX6_watch 138 = .ok (.ireturn, 1) := by decide +kernel
set_option maxRecDepth 20000 in
theorem ggX6_kinds_X6_isThing : GoodIn wsX6_kinds wsX6_isThing := goodIn_r _ [6, 1, 7, 8, 9, 5, 10, 63, 64, 65, 66, 67, 68, 69, 70, 71, 72, 73, 74, 75, 76, 77, 78, 79, 80, 81, 82, 83, 84, 85, 86, 87, 88, 89] (by decide +kernel) (by decide +kernel)
set_option maxRecDepth 20000 in
theorem gX6_kinds_X6_isThing : GoodIn wsX6_kinds (wsV RX6 109 RX6 yX6_isThing wsX6_isThing) := goodIn_app (goodIn_of _ (by decide +kernel)) ggX6_kinds_X6_isThing
set_option maxRecDepth 20000 in
theorem ggX6_kinds_X6_refusedAsBad : GoodIn wsX6_kinds wsX6_refusedAsBad := goodIn_r _ [14, 15, 63, 64, 65, 66, 67, 68, 69, 70, 71, 72, 73, 74] (by decide +kernel) (by decide +kernel)
set_option maxRecDepth 20000 in
theorem gX6_kinds_X6_refusedAsBad : GoodIn wsX6_kinds (wsV RX6 72 RX6 yX6_refusedAsBad wsX6_refusedAsBad) := goodIn_app (goodIn_of _ (by decide +kernel)) ggX6_kinds_X6_refusedAsBad
set_option maxRecDepth 20000 in
theorem ggX6_kinds_X5_kindsByComings : GoodIn wsX6_kinds wsX5_kindsByComings := goodIn_r _ [20, 21, 22, 23, 19, 24, 25, 26, 27, 28, 29, 30, 31, 32, 33, 34, 35, 36, 37, 38, 39, 40, 41, 42, 43, 44, 45, 46, 47, 48, 49, 50, 51, 52, 53, 54, 55, 56, 57, 58, 59, 60, 61, 62, 75, 76, 77, 78, 79, 80, 81, 82, 83, 84, 85, 86, 87, 88, 89, 90, 91, 92, 93] (by decide +kernel) (by decide +kernel)
set_option maxRecDepth 20000 in
theorem gX6_kinds_X5_kindsByComings : GoodIn wsX6_kinds (wsV RX6 226 RX5 yX5_kindsByComings wsX5_kindsByComings) := goodIn_app (goodIn_of _ (by decide +kernel)) ggX6_kinds_X5_kindsByComings
theorem dX6_kinds_0 : decode cX6_kinds 0 = .ok (.aload_n 0, 1) := by decide +kernel
theorem dX6_kinds_1 : decode cX6_kinds 1 = .ok (.iload_n 1, 1) := by decide +kernel
theorem dX6_kinds_2 : decode cX6_kinds 2 = .ok (.invokevirtual 109, 3) := by decide +kernel
theorem dX6_kinds_5 : decode cX6_kinds 5 = .ok (.ifCond .ne 8, 3) := by decide +kernel
theorem dX6_kinds_8 : decode cX6_kinds 8 = .ok (.aload_n 0, 1) := by decide +kernel
theorem dX6_kinds_9 : decode cX6_kinds 9 = .ok (.invokevirtual 72, 3) := by decide +kernel
theorem dX6_kinds_12 : decode cX6_kinds 12 = .ok (.ireturn, 1) := by decide +kernel
theorem dX6_kinds_13 : decode cX6_kinds 13 = .ok (.aload_n 0, 1) := by decide +kernel
theorem dX6_kinds_14 : decode cX6_kinds 14 = .ok (.getfield 12, 3) := by decide +kernel
theorem dX6_kinds_17 : decode cX6_kinds 17 = .ok (.iload_n 1, 1) := by decide +kernel
theorem dX6_kinds_18 : decode cX6_kinds 18 = .ok (.invokevirtual 226, 3) := by decide +kernel
theorem dX6_kinds_21 : decode cX6_kinds 21 = .ok (.ireturn, 1) := by decide +kernel
set_option maxRecDepth 20000 in
theorem ggX6_by_X6_isThing : GoodIn wsX6_by wsX6_isThing := goodIn_r _ [10, 1, 11, 12, 13, 9, 14, 71, 72, 73, 74, 75, 76, 77, 78, 79, 80, 81, 82, 83, 84, 85, 86, 87, 88, 89, 90, 91, 92, 93, 94, 95, 96, 97] (by decide +kernel) (by decide +kernel)
set_option maxRecDepth 20000 in
theorem gX6_by_X6_isThing : GoodIn wsX6_by (wsV RX6 109 RX6 yX6_isThing wsX6_isThing) := goodIn_app (goodIn_of _ (by decide +kernel)) ggX6_by_X6_isThing
set_option maxRecDepth 20000 in
theorem ggX6_by_X6_refusedAsBad : GoodIn wsX6_by wsX6_refusedAsBad := goodIn_r _ [18, 19, 71, 72, 73, 74, 75, 76, 77, 78, 79, 80, 81, 82] (by decide +kernel) (by decide +kernel)
set_option maxRecDepth 20000 in
theorem gX6_by_X6_refusedAsBad : GoodIn wsX6_by (wsV RX6 72 RX6 yX6_refusedAsBad wsX6_refusedAsBad) := goodIn_app (goodIn_of _ (by decide +kernel)) ggX6_by_X6_refusedAsBad
set_option maxRecDepth 20000 in
theorem ggX6_by_X5_kindsByComings : GoodIn wsX6_by wsX5_kindsByComings := goodIn_r _ [24, 25, 26, 27, 23, 28, 29, 30, 31, 32, 33, 34, 35, 36, 37, 38, 39, 40, 41, 42, 43, 44, 45, 46, 47, 48, 49, 50, 51, 52, 53, 54, 55, 56, 57, 58, 59, 60, 61, 62, 63, 64, 65, 66, 83, 84, 85, 86, 87, 88, 89, 90, 91, 92, 93, 94, 95, 96, 97, 98, 99, 100, 101] (by decide +kernel) (by decide +kernel)
set_option maxRecDepth 20000 in
theorem gX6_by_X5_kindsByComings : GoodIn wsX6_by (wsV RX6 226 RX5 yX5_kindsByComings wsX5_kindsByComings) := goodIn_app (goodIn_of _ (by decide +kernel)) ggX6_by_X5_kindsByComings
set_option maxRecDepth 20000 in
theorem ggX6_by_X5_goesTo : GoodIn wsX6_by wsX5_goesTo := goodIn_r _ [42, 43, 44, 45, 46, 23, 47, 48, 49, 50, 51, 52, 53, 54, 55, 56, 57, 58, 59, 60, 61, 62, 63, 64, 65, 66, 83, 84, 85, 86, 87, 88, 89, 90, 91, 92, 93, 94, 95, 96, 97] (by decide +kernel) (by decide +kernel)
set_option maxRecDepth 20000 in
theorem gX6_by_X5_goesTo : GoodIn wsX6_by (wsV RX6 229 RX5 yX5_goesTo wsX5_goesTo) := goodIn_app (goodIn_of _ (by decide +kernel)) ggX6_by_X5_goesTo
set_option maxRecDepth 20000 in
theorem ggX6_by_X6_mostAlike : GoodIn wsX6_by wsX6_mostAlike := goodIn_r _ [70] (by decide +kernel) (by decide +kernel)
set_option maxRecDepth 20000 in
theorem gX6_by_X6_mostAlike : GoodIn wsX6_by (va_wsS RX6 222 yX6_mostAlike wsX6_mostAlike) := goodIn_app (goodIn_of _ (by decide +kernel)) ggX6_by_X6_mostAlike
theorem dX6_by_0 : decode cX6_by 0 = .ok (.aload_n 0, 1) := by decide +kernel
theorem dX6_by_1 : decode cX6_by 1 = .ok (.iload_n 1, 1) := by decide +kernel
theorem dX6_by_2 : decode cX6_by 2 = .ok (.invokevirtual 109, 3) := by decide +kernel
theorem dX6_by_5 : decode cX6_by 5 = .ok (.ifCond .ne 8, 3) := by decide +kernel
theorem dX6_by_8 : decode cX6_by 8 = .ok (.aload_n 0, 1) := by decide +kernel
theorem dX6_by_9 : decode cX6_by 9 = .ok (.invokevirtual 72, 3) := by decide +kernel
theorem dX6_by_12 : decode cX6_by 12 = .ok (.ireturn, 1) := by decide +kernel
theorem dX6_by_13 : decode cX6_by 13 = .ok (.aload_n 0, 1) := by decide +kernel
theorem dX6_by_14 : decode cX6_by 14 = .ok (.getfield 12, 3) := by decide +kernel
theorem dX6_by_17 : decode cX6_by 17 = .ok (.iload_n 1, 1) := by decide +kernel
theorem dX6_by_18 : decode cX6_by 18 = .ok (.invokevirtual 226, 3) := by decide +kernel
theorem dX6_by_21 : decode cX6_by 21 = .ok (.istore_n 2, 1) := by decide +kernel
theorem dX6_by_22 : decode cX6_by 22 = .ok (.iconst (-1), 1) := by decide +kernel
theorem dX6_by_23 : decode cX6_by 23 = .ok (.istore_n 3, 1) := by decide +kernel
theorem dX6_by_24 : decode cX6_by 24 = .ok (.bipush 7, 2) := by decide +kernel
theorem dX6_by_26 : decode cX6_by 26 = .ok (.istore 4, 2) := by decide +kernel
theorem dX6_by_28 : decode cX6_by 28 = .ok (.iconst 0, 1) := by decide +kernel
theorem dX6_by_29 : decode cX6_by 29 = .ok (.istore 5, 2) := by decide +kernel
theorem dX6_by_31 : decode cX6_by 31 = .ok (.iload 5, 2) := by decide +kernel
theorem dX6_by_33 : decode cX6_by 33 = .ok (.aload_n 0, 1) := by decide +kernel
theorem dX6_by_34 : decode cX6_by 34 = .ok (.getfield 12, 3) := by decide +kernel
theorem dX6_by_37 : decode cX6_by 37 = .ok (.getfield 61, 3) := by decide +kernel
theorem dX6_by_40 : decode cX6_by 40 = .ok (.if_icmp .ge 87, 3) := by decide +kernel
theorem dX6_by_43 : decode cX6_by 43 = .ok (.iload_n 2, 1) := by decide +kernel
theorem dX6_by_44 : decode cX6_by 44 = .ok (.ifCond .eq 83, 3) := by decide +kernel
theorem dX6_by_47 : decode cX6_by 47 = .ok (.iconst 0, 1) := by decide +kernel
theorem dX6_by_48 : decode cX6_by 48 = .ok (.istore 6, 2) := by decide +kernel
theorem dX6_by_50 : decode cX6_by 50 = .ok (.iload 6, 2) := by decide +kernel
theorem dX6_by_52 : decode cX6_by 52 = .ok (.bipush 6, 2) := by decide +kernel
theorem dX6_by_54 : decode cX6_by 54 = .ok (.if_icmp .ge 43, 3) := by decide +kernel
theorem dX6_by_57 : decode cX6_by 57 = .ok (.aload_n 0, 1) := by decide +kernel
theorem dX6_by_58 : decode cX6_by 58 = .ok (.getfield 45, 3) := by decide +kernel
theorem dX6_by_61 : decode cX6_by 61 = .ok (.iload 6, 2) := by decide +kernel
theorem dX6_by_63 : decode cX6_by 63 = .ok (.aload_n 0, 1) := by decide +kernel
theorem dX6_by_64 : decode cX6_by 64 = .ok (.getfield 12, 3) := by decide +kernel
theorem dX6_by_67 : decode cX6_by 67 = .ok (.iload 6, 2) := by decide +kernel
theorem dX6_by_69 : decode cX6_by 69 = .ok (.aload_n 0, 1) := by decide +kernel
theorem dX6_by_70 : decode cX6_by 70 = .ok (.getfield 12, 3) := by decide +kernel
theorem dX6_by_73 : decode cX6_by 73 = .ok (.getfield 173, 3) := by decide +kernel
theorem dX6_by_76 : decode cX6_by 76 = .ok (.iload_n 1, 1) := by decide +kernel
theorem dX6_by_77 : decode cX6_by 77 = .ok (.iaload, 1) := by decide +kernel
theorem dX6_by_78 : decode cX6_by 78 = .ok (.iload 5, 2) := by decide +kernel
theorem dX6_by_80 : decode cX6_by 80 = .ok (.aload_n 0, 1) := by decide +kernel
theorem dX6_by_81 : decode cX6_by 81 = .ok (.getfield 12, 3) := by decide +kernel
theorem dX6_by_84 : decode cX6_by 84 = .ok (.getfield 137, 3) := by decide +kernel
theorem dX6_by_87 : decode cX6_by 87 = .ok (.invokevirtual 229, 3) := by decide +kernel
theorem dX6_by_90 : decode cX6_by 90 = .ok (.iastore, 1) := by decide +kernel
theorem dX6_by_91 : decode cX6_by 91 = .ok (.iinc 6 1, 3) := by decide +kernel
theorem dX6_by_94 : decode cX6_by 94 = .ok (.goto (-44), 3) := by decide +kernel
theorem dX6_by_97 : decode cX6_by 97 = .ok (.aload_n 0, 1) := by decide +kernel
theorem dX6_by_98 : decode cX6_by 98 = .ok (.getfield 45, 3) := by decide +kernel
theorem dX6_by_101 : decode cX6_by 101 = .ok (.iload_n 2, 1) := by decide +kernel
theorem dX6_by_102 : decode cX6_by 102 = .ok (.invokestatic 222, 3) := by decide +kernel
theorem dX6_by_105 : decode cX6_by 105 = .ok (.istore 6, 2) := by decide +kernel
theorem dX6_by_107 : decode cX6_by 107 = .ok (.iload 6, 2) := by decide +kernel
theorem dX6_by_109 : decode cX6_by 109 = .ok (.iload 4, 2) := by decide +kernel
theorem dX6_by_111 : decode cX6_by 111 = .ok (.if_icmp .ge 10, 3) := by decide +kernel
theorem dX6_by_114 : decode cX6_by 114 = .ok (.iload 6, 2) := by decide +kernel
theorem dX6_by_116 : decode cX6_by 116 = .ok (.istore 4, 2) := by decide +kernel
theorem dX6_by_118 : decode cX6_by 118 = .ok (.iload 5, 2) := by decide +kernel
theorem dX6_by_120 : decode cX6_by 120 = .ok (.istore_n 3, 1) := by decide +kernel
theorem dX6_by_121 : decode cX6_by 121 = .ok (.iinc 5 1, 3) := by decide +kernel
theorem dX6_by_124 : decode cX6_by 124 = .ok (.goto (-93), 3) := by decide +kernel
theorem dX6_by_127 : decode cX6_by 127 = .ok (.iload_n 3, 1) := by decide +kernel
theorem dX6_by_128 : decode cX6_by 128 = .ok (.ireturn, 1) := by decide +kernel
set_option maxRecDepth 20000 in
theorem ggX6_coats_X6_isThing : GoodIn wsX6_coats wsX6_isThing := goodIn_r _ [5, 6, 7, 8, 9, 4, 10, 100, 101, 102, 103, 104, 105, 106, 107, 108, 109, 110, 111, 112, 113, 114, 115, 116, 117, 118, 119, 120, 121, 122, 123, 124, 125, 126] (by decide +kernel) (by decide +kernel)
set_option maxRecDepth 20000 in
theorem gX6_coats_X6_isThing : GoodIn wsX6_coats (wsV RX6 109 RX6 yX6_isThing wsX6_isThing) := goodIn_app (goodIn_of _ (by decide +kernel)) ggX6_coats_X6_isThing
set_option maxRecDepth 20000 in
theorem ggX6_coats_X6_isPerson : GoodIn wsX6_coats wsX6_isPerson := goodIn_r _ [14, 6, 15, 8, 9, 4, 10, 100, 101, 102, 103, 104, 105, 106, 107, 108, 109, 110, 111, 112, 113, 114, 115, 116, 117, 118, 119, 120, 121, 122, 123, 124, 125, 126] (by decide +kernel) (by decide +kernel)
set_option maxRecDepth 20000 in
theorem gX6_coats_X6_isPerson : GoodIn wsX6_coats (wsV RX6 83 RX6 yX6_isPerson wsX6_isPerson) := goodIn_app (goodIn_of _ (by decide +kernel)) ggX6_coats_X6_isPerson
set_option maxRecDepth 20000 in
theorem ggX6_coats_X6_refusedAsBad : GoodIn wsX6_coats wsX6_refusedAsBad := goodIn_r _ [19, 20, 100, 101, 102, 103, 104, 105, 106, 107, 108, 109, 110, 111] (by decide +kernel) (by decide +kernel)
set_option maxRecDepth 20000 in
theorem gX6_coats_X6_refusedAsBad : GoodIn wsX6_coats (wsV RX6 72 RX6 yX6_refusedAsBad wsX6_refusedAsBad) := goodIn_app (goodIn_of _ (by decide +kernel)) ggX6_coats_X6_refusedAsBad
set_option maxRecDepth 20000 in
theorem ggX6_coats_X6_seeWhoGetsIt : GoodIn wsX6_coats wsX6_seeWhoGetsIt := goodIn_r _ [24, 25, 6, 26, 27, 28, 29, 30, 31, 32, 33, 34, 35, 36, 37, 38, 39, 40, 41, 42, 43, 44, 45, 46, 47, 48, 49, 4, 50, 51, 52, 53, 54, 55, 56, 57, 58, 59, 60, 61, 62, 63, 64, 65, 66, 67, 68, 69, 70, 71, 72, 73, 74, 75, 76, 77, 78, 79, 80, 81, 82, 83, 84, 85, 86, 87, 88, 89, 90, 91, 100, 101, 102, 103, 104, 105, 106, 107, 108, 109, 110, 111, 112, 113, 114, 115, 116, 117, 118, 119, 120, 121, 122, 123, 124, 125, 126, 127, 128, 129, 130] (by decide +kernel) (by decide +kernel)
set_option maxRecDepth 20000 in
theorem gX6_coats_X6_seeWhoGetsIt : GoodIn wsX6_coats (wsV RX6 233 RX6 yX6_seeWhoGetsIt wsX6_seeWhoGetsIt) := goodIn_app (goodIn_of _ (by decide +kernel)) ggX6_coats_X6_seeWhoGetsIt
set_option maxRecDepth 20000 in
theorem ggX6_coats_X6_rests : GoodIn wsX6_coats wsX6_rests := goodIn_r _ [95, 96, 97, 98, 4, 99, 27, 100, 101, 102, 103, 104, 105, 106, 107, 108, 109, 110, 111] (by decide +kernel) (by decide +kernel)
set_option maxRecDepth 20000 in
theorem gX6_coats_X6_rests : GoodIn wsX6_coats (wsV RX6 236 RX6 yX6_rests wsX6_rests) := goodIn_app (goodIn_of _ (by decide +kernel)) ggX6_coats_X6_rests
theorem dX6_coats_0 : decode cX6_coats 0 = .ok (.aload_n 0, 1) := by decide +kernel
theorem dX6_coats_1 : decode cX6_coats 1 = .ok (.iload_n 1, 1) := by decide +kernel
theorem dX6_coats_2 : decode cX6_coats 2 = .ok (.invokevirtual 109, 3) := by decide +kernel
theorem dX6_coats_5 : decode cX6_coats 5 = .ok (.ifCond .eq 30, 3) := by decide +kernel
theorem dX6_coats_8 : decode cX6_coats 8 = .ok (.aload_n 0, 1) := by decide +kernel
theorem dX6_coats_9 : decode cX6_coats 9 = .ok (.iload_n 2, 1) := by decide +kernel
theorem dX6_coats_10 : decode cX6_coats 10 = .ok (.invokevirtual 83, 3) := by decide +kernel
theorem dX6_coats_13 : decode cX6_coats 13 = .ok (.ifCond .eq 22, 3) := by decide +kernel
theorem dX6_coats_16 : decode cX6_coats 16 = .ok (.aload_n 0, 1) := by decide +kernel
theorem dX6_coats_17 : decode cX6_coats 17 = .ok (.iload_n 3, 1) := by decide +kernel
theorem dX6_coats_18 : decode cX6_coats 18 = .ok (.invokevirtual 83, 3) := by decide +kernel
theorem dX6_coats_21 : decode cX6_coats 21 = .ok (.ifCond .eq 14, 3) := by decide +kernel
theorem dX6_coats_24 : decode cX6_coats 24 = .ok (.iload_n 2, 1) := by decide +kernel
theorem dX6_coats_25 : decode cX6_coats 25 = .ok (.iload_n 3, 1) := by decide +kernel
theorem dX6_coats_26 : decode cX6_coats 26 = .ok (.if_icmp .eq 9, 3) := by decide +kernel
theorem dX6_coats_29 : decode cX6_coats 29 = .ok (.iload 4, 2) := by decide +kernel
theorem dX6_coats_31 : decode cX6_coats 31 = .ok (.iconst (-1), 1) := by decide +kernel
theorem dX6_coats_32 : decode cX6_coats 32 = .ok (.if_icmp .ge 11, 3) := by decide +kernel
theorem dX6_coats_35 : decode cX6_coats 35 = .ok (.aload_n 0, 1) := by decide +kernel
theorem dX6_coats_36 : decode cX6_coats 36 = .ok (.invokevirtual 72, 3) := by decide +kernel
theorem dX6_coats_39 : decode cX6_coats 39 = .ok (.pop, 1) := by decide +kernel
theorem dX6_coats_40 : decode cX6_coats 40 = .ok (.bipush (-10), 2) := by decide +kernel
theorem dX6_coats_42 : decode cX6_coats 42 = .ok (.ireturn, 1) := by decide +kernel
theorem dX6_coats_43 : decode cX6_coats 43 = .ok (.aload_n 0, 1) := by decide +kernel
theorem dX6_coats_44 : decode cX6_coats 44 = .ok (.iload_n 1, 1) := by decide +kernel
theorem dX6_coats_45 : decode cX6_coats 45 = .ok (.iload_n 2, 1) := by decide +kernel
theorem dX6_coats_46 : decode cX6_coats 46 = .ok (.iload_n 3, 1) := by decide +kernel
theorem dX6_coats_47 : decode cX6_coats 47 = .ok (.invokevirtual 233, 3) := by decide +kernel
theorem dX6_coats_50 : decode cX6_coats 50 = .ok (.iconst 0, 1) := by decide +kernel
theorem dX6_coats_51 : decode cX6_coats 51 = .ok (.istore 5, 2) := by decide +kernel
theorem dX6_coats_53 : decode cX6_coats 53 = .ok (.iconst 0, 1) := by decide +kernel
theorem dX6_coats_54 : decode cX6_coats 54 = .ok (.istore 6, 2) := by decide +kernel
theorem dX6_coats_56 : decode cX6_coats 56 = .ok (.iload 6, 2) := by decide +kernel
theorem dX6_coats_58 : decode cX6_coats 58 = .ok (.bipush 36, 2) := by decide +kernel
theorem dX6_coats_60 : decode cX6_coats 60 = .ok (.if_icmp .ge 36, 3) := by decide +kernel
theorem dX6_coats_63 : decode cX6_coats 63 = .ok (.aload_n 0, 1) := by decide +kernel
theorem dX6_coats_64 : decode cX6_coats 64 = .ok (.iload 6, 2) := by decide +kernel
theorem dX6_coats_66 : decode cX6_coats 66 = .ok (.iload_n 2, 1) := by decide +kernel
theorem dX6_coats_67 : decode cX6_coats 67 = .ok (.iload_n 3, 1) := by decide +kernel
theorem dX6_coats_68 : decode cX6_coats 68 = .ok (.invokevirtual 236, 3) := by decide +kernel
theorem dX6_coats_71 : decode cX6_coats 71 = .ok (.ifCond .ne 6, 3) := by decide +kernel
theorem dX6_coats_74 : decode cX6_coats 74 = .ok (.goto 16, 3) := by decide +kernel
theorem dX6_coats_77 : decode cX6_coats 77 = .ok (.iload 5, 2) := by decide +kernel
theorem dX6_coats_79 : decode cX6_coats 79 = .ok (.iload 4, 2) := by decide +kernel
theorem dX6_coats_81 : decode cX6_coats 81 = .ok (.if_icmp .ne 6, 3) := by decide +kernel
theorem dX6_coats_84 : decode cX6_coats 84 = .ok (.iload 6, 2) := by decide +kernel
theorem dX6_coats_86 : decode cX6_coats 86 = .ok (.ireturn, 1) := by decide +kernel
theorem dX6_coats_87 : decode cX6_coats 87 = .ok (.iinc 5 1, 3) := by decide +kernel
theorem dX6_coats_90 : decode cX6_coats 90 = .ok (.iinc 6 1, 3) := by decide +kernel
theorem dX6_coats_93 : decode cX6_coats 93 = .ok (.goto (-37), 3) := by decide +kernel
theorem dX6_coats_96 : decode cX6_coats 96 = .ok (.iload 4, 2) := by decide +kernel
theorem dX6_coats_98 : decode cX6_coats 98 = .ok (.iconst (-1), 1) := by decide +kernel
theorem dX6_coats_99 : decode cX6_coats 99 = .ok (.if_icmp .ne 8, 3) := by decide +kernel
theorem dX6_coats_102 : decode cX6_coats 102 = .ok (.iload 5, 2) := by decide +kernel
theorem dX6_coats_104 : decode cX6_coats 104 = .ok (.goto 5, 3) := by decide +kernel
theorem dX6_coats_107 : decode cX6_coats 107 = .ok (.bipush (-5), 2) := by decide +kernel
theorem dX6_coats_109 : decode cX6_coats 109 = .ok (.ireturn, 1) := by decide +kernel
set_option maxRecDepth 20000 in
theorem ggX6_odds_X6_isThing : GoodIn wsX6_odds wsX6_isThing := goodIn_r _ [10, 2, 11, 12, 13, 9, 14, 92, 93, 94, 95, 96, 97, 98, 99, 100, 101, 102, 103, 104, 105, 106, 107, 108, 109, 110, 111, 112, 113, 114, 115, 116, 117, 118] (by decide +kernel) (by decide +kernel)
set_option maxRecDepth 20000 in
theorem gX6_odds_X6_isThing : GoodIn wsX6_odds (wsV RX6 109 RX6 yX6_isThing wsX6_isThing) := goodIn_app (goodIn_of _ (by decide +kernel)) ggX6_odds_X6_isThing
set_option maxRecDepth 20000 in
theorem ggX6_odds_X6_isPerson : GoodIn wsX6_odds wsX6_isPerson := goodIn_r _ [18, 2, 19, 12, 13, 9, 14, 92, 93, 94, 95, 96, 97, 98, 99, 100, 101, 102, 103, 104, 105, 106, 107, 108, 109, 110, 111, 112, 113, 114, 115, 116, 117, 118] (by decide +kernel) (by decide +kernel)
set_option maxRecDepth 20000 in
theorem gX6_odds_X6_isPerson : GoodIn wsX6_odds (wsV RX6 83 RX6 yX6_isPerson wsX6_isPerson) := goodIn_app (goodIn_of _ (by decide +kernel)) ggX6_odds_X6_isPerson
set_option maxRecDepth 20000 in
theorem ggX6_odds_X6_upTo : GoodIn wsX6_odds wsX6_upTo := goodIn_r _ [14] (by decide +kernel) (by decide +kernel)
set_option maxRecDepth 20000 in
theorem gX6_odds_X6_upTo : GoodIn wsX6_odds (va_wsS RX6 68 yX6_upTo wsX6_upTo) := goodIn_app (goodIn_of _ (by decide +kernel)) ggX6_odds_X6_upTo
set_option maxRecDepth 20000 in
theorem ggX6_odds_X6_refusedAsBad : GoodIn wsX6_odds wsX6_refusedAsBad := goodIn_r _ [23, 24, 92, 93, 94, 95, 96, 97, 98, 99, 100, 101, 102, 103] (by decide +kernel) (by decide +kernel)
set_option maxRecDepth 20000 in
theorem gX6_odds_X6_refusedAsBad : GoodIn wsX6_odds (wsV RX6 72 RX6 yX6_refusedAsBad wsX6_refusedAsBad) := goodIn_app (goodIn_of _ (by decide +kernel)) ggX6_odds_X6_refusedAsBad
set_option maxRecDepth 20000 in
theorem ggX6_odds_X0_chanceOfTens : GoodIn wsX6_odds wsX0_chanceOfTens := goodIn_r _ [29, 30, 31, 32, 33, 34, 28, 35, 36, 37, 38, 39, 40, 41, 42, 43, 44, 45, 46, 47, 48, 49, 50, 51, 52, 53, 54, 55, 56, 57, 58, 59, 60, 61, 62, 63, 64, 65, 66, 67, 68, 69, 70, 71, 72, 73, 74, 75, 76, 77, 78, 79, 80, 81, 82, 83, 84, 85, 86, 87, 88, 104, 105, 106, 107, 108, 109, 110, 111, 112, 113, 114, 115, 116, 117, 118, 119, 120, 121, 122, 123] (by decide +kernel) (by decide +kernel)
set_option maxRecDepth 20000 in
theorem gX6_odds_X0_chanceOfTens : GoodIn wsX6_odds (wsV RX6 240 RX0 yX0_chanceOfTens wsX0_chanceOfTens) := goodIn_app (goodIn_of _ (by decide +kernel)) ggX6_odds_X0_chanceOfTens
set_option maxRecDepth 20000 in
theorem ggX6_odds_X6_commonDivisor : GoodIn wsX6_odds wsX6_commonDivisor := goodIn_r _ [91] (by decide +kernel) (by decide +kernel)
set_option maxRecDepth 20000 in
theorem gX6_odds_X6_commonDivisor : GoodIn wsX6_odds (va_wsS RX6 246 yX6_commonDivisor wsX6_commonDivisor) := goodIn_app (goodIn_of _ (by decide +kernel)) ggX6_odds_X6_commonDivisor
theorem dX6_odds_0 : decode cX6_odds 0 = .ok (.aload_n 0, 1) := by decide +kernel
theorem dX6_odds_1 : decode cX6_odds 1 = .ok (.iload_n 1, 1) := by decide +kernel
theorem dX6_odds_2 : decode cX6_odds 2 = .ok (.invokevirtual 109, 3) := by decide +kernel
theorem dX6_odds_5 : decode cX6_odds 5 = .ok (.ifCond .eq 30, 3) := by decide +kernel
theorem dX6_odds_8 : decode cX6_odds 8 = .ok (.aload_n 0, 1) := by decide +kernel
theorem dX6_odds_9 : decode cX6_odds 9 = .ok (.iload_n 2, 1) := by decide +kernel
theorem dX6_odds_10 : decode cX6_odds 10 = .ok (.invokevirtual 83, 3) := by decide +kernel
theorem dX6_odds_13 : decode cX6_odds 13 = .ok (.ifCond .eq 22, 3) := by decide +kernel
theorem dX6_odds_16 : decode cX6_odds 16 = .ok (.iload_n 3, 1) := by decide +kernel
theorem dX6_odds_17 : decode cX6_odds 17 = .ok (.bipush 8, 2) := by decide +kernel
theorem dX6_odds_19 : decode cX6_odds 19 = .ok (.invokestatic 68, 3) := by decide +kernel
theorem dX6_odds_22 : decode cX6_odds 22 = .ok (.ifCond .eq 13, 3) := by decide +kernel
theorem dX6_odds_25 : decode cX6_odds 25 = .ok (.iload 4, 2) := by decide +kernel
theorem dX6_odds_27 : decode cX6_odds 27 = .ok (.bipush 11, 2) := by decide +kernel
theorem dX6_odds_29 : decode cX6_odds 29 = .ok (.invokestatic 68, 3) := by decide +kernel
theorem dX6_odds_32 : decode cX6_odds 32 = .ok (.ifCond .ne 8, 3) := by decide +kernel
theorem dX6_odds_35 : decode cX6_odds 35 = .ok (.aload_n 0, 1) := by decide +kernel
theorem dX6_odds_36 : decode cX6_odds 36 = .ok (.invokevirtual 72, 3) := by decide +kernel
theorem dX6_odds_39 : decode cX6_odds 39 = .ok (.ireturn, 1) := by decide +kernel
theorem dX6_odds_40 : decode cX6_odds 40 = .ok (.aload_n 0, 1) := by decide +kernel
theorem dX6_odds_41 : decode cX6_odds 41 = .ok (.getfield 37, 3) := by decide +kernel
theorem dX6_odds_44 : decode cX6_odds 44 = .ok (.aload_n 0, 1) := by decide +kernel
theorem dX6_odds_45 : decode cX6_odds 45 = .ok (.getfield 12, 3) := by decide +kernel
theorem dX6_odds_48 : decode cX6_odds 48 = .ok (.iload_n 1, 1) := by decide +kernel
theorem dX6_odds_49 : decode cX6_odds 49 = .ok (.iload_n 2, 1) := by decide +kernel
theorem dX6_odds_50 : decode cX6_odds 50 = .ok (.iload_n 3, 1) := by decide +kernel
theorem dX6_odds_51 : decode cX6_odds 51 = .ok (.iload 4, 2) := by decide +kernel
theorem dX6_odds_53 : decode cX6_odds 53 = .ok (.invokevirtual 240, 3) := by decide +kernel
theorem dX6_odds_56 : decode cX6_odds 56 = .ok (.lstore 5, 2) := by decide +kernel
theorem dX6_odds_58 : decode cX6_odds 58 = .ok (.lconst 1, 1) := by decide +kernel
theorem dX6_odds_59 : decode cX6_odds 59 = .ok (.lstore 7, 2) := by decide +kernel
theorem dX6_odds_61 : decode cX6_odds 61 = .ok (.iconst 0, 1) := by decide +kernel
theorem dX6_odds_62 : decode cX6_odds 62 = .ok (.istore 9, 2) := by decide +kernel
theorem dX6_odds_64 : decode cX6_odds 64 = .ok (.iload 9, 2) := by decide +kernel
theorem dX6_odds_66 : decode cX6_odds 66 = .ok (.iload_n 3, 1) := by decide +kernel
theorem dX6_odds_67 : decode cX6_odds 67 = .ok (.if_icmp .ge 17, 3) := by decide +kernel
theorem dX6_odds_70 : decode cX6_odds 70 = .ok (.lload 7, 2) := by decide +kernel
theorem dX6_odds_72 : decode cX6_odds 72 = .ok (.ldc2_w 244, 3) := by decide +kernel
theorem dX6_odds_75 : decode cX6_odds 75 = .ok (.lmul, 1) := by decide +kernel
theorem dX6_odds_76 : decode cX6_odds 76 = .ok (.lstore 7, 2) := by decide +kernel
theorem dX6_odds_78 : decode cX6_odds 78 = .ok (.iinc 9 1, 3) := by decide +kernel
theorem dX6_odds_81 : decode cX6_odds 81 = .ok (.goto (-17), 3) := by decide +kernel
theorem dX6_odds_84 : decode cX6_odds 84 = .ok (.lload 7, 2) := by decide +kernel
theorem dX6_odds_86 : decode cX6_odds 86 = .ok (.lload 5, 2) := by decide +kernel
theorem dX6_odds_88 : decode cX6_odds 88 = .ok (.invokestatic 246, 3) := by decide +kernel
theorem dX6_odds_91 : decode cX6_odds 91 = .ok (.lstore 9, 2) := by decide +kernel
theorem dX6_odds_93 : decode cX6_odds 93 = .ok (.aload_n 0, 1) := by decide +kernel
theorem dX6_odds_94 : decode cX6_odds 94 = .ok (.lload 5, 2) := by decide +kernel
theorem dX6_odds_96 : decode cX6_odds 96 = .ok (.lload 9, 2) := by decide +kernel
theorem dX6_odds_98 : decode cX6_odds 98 = .ok (.ldiv, 1) := by decide +kernel
theorem dX6_odds_99 : decode cX6_odds 99 = .ok (.putfield 54, 3) := by decide +kernel
theorem dX6_odds_102 : decode cX6_odds 102 = .ok (.aload_n 0, 1) := by decide +kernel
theorem dX6_odds_103 : decode cX6_odds 103 = .ok (.lload 7, 2) := by decide +kernel
theorem dX6_odds_105 : decode cX6_odds 105 = .ok (.lload 9, 2) := by decide +kernel
theorem dX6_odds_107 : decode cX6_odds 107 = .ok (.ldiv, 1) := by decide +kernel
theorem dX6_odds_108 : decode cX6_odds 108 = .ok (.putfield 58, 3) := by decide +kernel
theorem dX6_odds_111 : decode cX6_odds 111 = .ok (.iconst 1, 1) := by decide +kernel
theorem dX6_odds_112 : decode cX6_odds 112 = .ok (.ireturn, 1) := by decide +kernel
set_option maxRecDepth 20000 in
theorem ggX6_years_X6_upTo : GoodIn wsX6_years wsX6_upTo := goodIn_r _ [14] (by decide +kernel) (by decide +kernel)
set_option maxRecDepth 20000 in
theorem gX6_years_X6_upTo : GoodIn wsX6_years (va_wsS RX6 68 yX6_upTo wsX6_upTo) := goodIn_app (goodIn_of _ (by decide +kernel)) ggX6_years_X6_upTo
set_option maxRecDepth 20000 in
theorem ggX6_years_X6_refusedAsBad : GoodIn wsX6_years wsX6_refusedAsBad := goodIn_r _ [18, 19, 87, 88, 89, 90, 91, 92, 93, 94, 95, 96, 97, 98] (by decide +kernel) (by decide +kernel)
set_option maxRecDepth 20000 in
theorem gX6_years_X6_refusedAsBad : GoodIn wsX6_years (wsV RX6 72 RX6 yX6_refusedAsBad wsX6_refusedAsBad) := goodIn_app (goodIn_of _ (by decide +kernel)) ggX6_years_X6_refusedAsBad
set_option maxRecDepth 20000 in
theorem ggX6_years_X5_copyOf : GoodIn wsX6_years wsX5_copyOf := goodIn_r _ [24, 25, 26, 27, 28, 29, 30, 31, 32, 33, 34, 35, 36, 37, 38, 39, 40, 13, 41, 42, 43, 44, 45, 46, 47, 48, 49, 50, 51, 52, 53, 54, 55, 56, 99, 100, 101, 102, 103, 104, 105, 106, 107, 108, 109, 110, 111, 112, 113, 114, 115, 116, 117] (by decide +kernel) (by decide +kernel)
set_option maxRecDepth 20000 in
theorem gX6_years_X5_copyOf : GoodIn wsX6_years (wsV RX6 105 RX5 yX5_copyOf wsX5_copyOf) := goodIn_app (goodIn_of _ (by decide +kernel)) ggX6_years_X5_copyOf
set_option maxRecDepth 20000 in
theorem ggX6_years_X5_dayGoesBy : GoodIn wsX6_years wsX5_dayGoesBy := goodIn_r _ [60, 38, 33, 29, 30, 32, 39, 61, 62, 63, 23, 64, 37, 65, 66, 67, 68, 25, 28, 27, 26, 69, 70, 44, 71, 72, 73, 74, 75, 76, 77, 78, 79, 80, 81, 82, 99, 100, 101, 102, 103, 104, 105, 106, 107, 108, 109, 110, 111, 112, 113] (by decide +kernel) (by decide +kernel)
set_option maxRecDepth 20000 in
theorem gX6_years_X5_dayGoesBy : GoodIn wsX6_years (wsV RX6 140 RX5 yX5_dayGoesBy wsX5_dayGoesBy) := goodIn_app (goodIn_of _ (by decide +kernel)) ggX6_years_X5_dayGoesBy
set_option maxRecDepth 20000 in
theorem ggX6_years_X5_howManyAtHome : GoodIn wsX6_years wsX5_howManyAtHome := goodIn_r _ [86, 38, 33, 32, 31, 99, 100, 101, 102, 103, 104, 105, 106, 107, 108, 109, 110, 111, 112, 113] (by decide +kernel) (by decide +kernel)
set_option maxRecDepth 20000 in
theorem gX6_years_X5_howManyAtHome : GoodIn wsX6_years (wsV RX6 261 RX5 yX5_howManyAtHome wsX5_howManyAtHome) := goodIn_app (goodIn_of _ (by decide +kernel)) ggX6_years_X5_howManyAtHome
theorem dX6_years_0 : decode cX6_years 0 = .ok (.iload_n 1, 1) := by decide +kernel
theorem dX6_years_1 : decode cX6_years 1 = .ok (.ldc 250, 2) := by decide +kernel
theorem dX6_years_3 : decode cX6_years 3 = .ok (.invokestatic 68, 3) := by decide +kernel
theorem dX6_years_6 : decode cX6_years 6 = .ok (.ifCond .eq 12, 3) := by decide +kernel
theorem dX6_years_9 : decode cX6_years 9 = .ok (.iload_n 2, 1) := by decide +kernel
theorem dX6_years_10 : decode cX6_years 10 = .ok (.bipush 61, 2) := by decide +kernel
theorem dX6_years_12 : decode cX6_years 12 = .ok (.invokestatic 68, 3) := by decide +kernel
theorem dX6_years_15 : decode cX6_years 15 = .ok (.ifCond .ne 8, 3) := by decide +kernel
theorem dX6_years_18 : decode cX6_years 18 = .ok (.aload_n 0, 1) := by decide +kernel
theorem dX6_years_19 : decode cX6_years 19 = .ok (.invokevirtual 72, 3) := by decide +kernel
theorem dX6_years_22 : decode cX6_years 22 = .ok (.ireturn, 1) := by decide +kernel
theorem dX6_years_23 : decode cX6_years 23 = .ok (.aload_n 0, 1) := by decide +kernel
theorem dX6_years_24 : decode cX6_years 24 = .ok (.getfield 16, 3) := by decide +kernel
theorem dX6_years_27 : decode cX6_years 27 = .ok (.aload_n 0, 1) := by decide +kernel
theorem dX6_years_28 : decode cX6_years 28 = .ok (.getfield 12, 3) := by decide +kernel
theorem dX6_years_31 : decode cX6_years 31 = .ok (.invokevirtual 105, 3) := by decide +kernel
theorem dX6_years_34 : decode cX6_years 34 = .ok (.iload_n 1, 1) := by decide +kernel
theorem dX6_years_35 : decode cX6_years 35 = .ok (.i2l, 1) := by decide +kernel
theorem dX6_years_36 : decode cX6_years 36 = .ok (.lstore_n 3, 1) := by decide +kernel
theorem dX6_years_37 : decode cX6_years 37 = .ok (.iconst 0, 1) := by decide +kernel
theorem dX6_years_38 : decode cX6_years 38 = .ok (.istore 5, 2) := by decide +kernel
theorem dX6_years_40 : decode cX6_years 40 = .ok (.iload 5, 2) := by decide +kernel
theorem dX6_years_42 : decode cX6_years 42 = .ok (.iload_n 2, 1) := by decide +kernel
theorem dX6_years_43 : decode cX6_years 43 = .ok (.if_icmp .ge 78, 3) := by decide +kernel
theorem dX6_years_46 : decode cX6_years 46 = .ok (.lload_n 3, 1) := by decide +kernel
theorem dX6_years_47 : decode cX6_years 47 = .ok (.ldc2_w 251, 3) := by decide +kernel
theorem dX6_years_50 : decode cX6_years 50 = .ok (.lmul, 1) := by decide +kernel
theorem dX6_years_51 : decode cX6_years 51 = .ok (.ldc2_w 253, 3) := by decide +kernel
theorem dX6_years_54 : decode cX6_years 54 = .ok (.ladd, 1) := by decide +kernel
theorem dX6_years_55 : decode cX6_years 55 = .ok (.ldc2_w 255, 3) := by decide +kernel
theorem dX6_years_58 : decode cX6_years 58 = .ok (.lrem, 1) := by decide +kernel
theorem dX6_years_59 : decode cX6_years 59 = .ok (.lstore_n 3, 1) := by decide +kernel
theorem dX6_years_60 : decode cX6_years 60 = .ok (.lload_n 3, 1) := by decide +kernel
theorem dX6_years_61 : decode cX6_years 61 = .ok (.ldc2_w 257, 3) := by decide +kernel
theorem dX6_years_64 : decode cX6_years 64 = .ok (.ldiv, 1) := by decide +kernel
theorem dX6_years_65 : decode cX6_years 65 = .ok (.ldc2_w 259, 3) := by decide +kernel
theorem dX6_years_68 : decode cX6_years 68 = .ok (.lrem, 1) := by decide +kernel
theorem dX6_years_69 : decode cX6_years 69 = .ok (.l2i, 1) := by decide +kernel
theorem dX6_years_70 : decode cX6_years 70 = .ok (.istore 6, 2) := by decide +kernel
theorem dX6_years_72 : decode cX6_years 72 = .ok (.iload 6, 2) := by decide +kernel
theorem dX6_years_74 : decode cX6_years 74 = .ok (.aload_n 0, 1) := by decide +kernel
theorem dX6_years_75 : decode cX6_years 75 = .ok (.getfield 16, 3) := by decide +kernel
theorem dX6_years_78 : decode cX6_years 78 = .ok (.getfield 87, 3) := by decide +kernel
theorem dX6_years_81 : decode cX6_years 81 = .ok (.if_icmp .ge 27, 3) := by decide +kernel
theorem dX6_years_84 : decode cX6_years 84 = .ok (.aload_n 0, 1) := by decide +kernel
theorem dX6_years_85 : decode cX6_years 85 = .ok (.getfield 16, 3) := by decide +kernel
theorem dX6_years_88 : decode cX6_years 88 = .ok (.getfield 112, 3) := by decide +kernel
theorem dX6_years_91 : decode cX6_years 91 = .ok (.iload 6, 2) := by decide +kernel
theorem dX6_years_93 : decode cX6_years 93 = .ok (.iaload, 1) := by decide +kernel
theorem dX6_years_94 : decode cX6_years 94 = .ok (.ifCond .ne 14, 3) := by decide +kernel
theorem dX6_years_97 : decode cX6_years 97 = .ok (.aload_n 0, 1) := by decide +kernel
theorem dX6_years_98 : decode cX6_years 98 = .ok (.getfield 16, 3) := by decide +kernel
theorem dX6_years_101 : decode cX6_years 101 = .ok (.getfield 112, 3) := by decide +kernel
theorem dX6_years_104 : decode cX6_years 104 = .ok (.iload 6, 2) := by decide +kernel
theorem dX6_years_106 : decode cX6_years 106 = .ok (.iconst 1, 1) := by decide +kernel
theorem dX6_years_107 : decode cX6_years 107 = .ok (.iastore, 1) := by decide +kernel
theorem dX6_years_108 : decode cX6_years 108 = .ok (.aload_n 0, 1) := by decide +kernel
theorem dX6_years_109 : decode cX6_years 109 = .ok (.getfield 16, 3) := by decide +kernel
theorem dX6_years_112 : decode cX6_years 112 = .ok (.invokevirtual 140, 3) := by decide +kernel
theorem dX6_years_115 : decode cX6_years 115 = .ok (.iinc 5 1, 3) := by decide +kernel
theorem dX6_years_118 : decode cX6_years 118 = .ok (.goto (-78), 3) := by decide +kernel
theorem dX6_years_121 : decode cX6_years 121 = .ok (.aload_n 0, 1) := by decide +kernel
theorem dX6_years_122 : decode cX6_years 122 = .ok (.getfield 16, 3) := by decide +kernel
theorem dX6_years_125 : decode cX6_years 125 = .ok (.invokevirtual 261, 3) := by decide +kernel
theorem dX6_years_128 : decode cX6_years 128 = .ok (.ireturn, 1) := by decide +kernel
set_option maxRecDepth 20000 in
theorem ggX6_part_X6_upTo : GoodIn wsX6_part wsX6_upTo := goodIn_r _ [6] (by decide +kernel) (by decide +kernel)
set_option maxRecDepth 20000 in
theorem gX6_part_X6_upTo : GoodIn wsX6_part (va_wsS RX6 68 yX6_upTo wsX6_upTo) := goodIn_app (goodIn_of _ (by decide +kernel)) ggX6_part_X6_upTo
set_option maxRecDepth 20000 in
theorem ggX6_part_X6_refusedAsBad : GoodIn wsX6_part wsX6_refusedAsBad := goodIn_r _ [10, 11, 12, 13, 14, 15, 16, 17, 18, 19, 20, 21, 22, 23] (by decide +kernel) (by decide +kernel)
set_option maxRecDepth 20000 in
theorem gX6_part_X6_refusedAsBad : GoodIn wsX6_part (wsV RX6 72 RX6 yX6_refusedAsBad wsX6_refusedAsBad) := goodIn_app (goodIn_of _ (by decide +kernel)) ggX6_part_X6_refusedAsBad
theorem dX6_part_0 : decode cX6_part 0 = .ok (.iload_n 1, 1) := by decide +kernel
theorem dX6_part_1 : decode cX6_part 1 = .ok (.iconst 2, 1) := by decide +kernel
theorem dX6_part_2 : decode cX6_part 2 = .ok (.invokestatic 68, 3) := by decide +kernel
theorem dX6_part_5 : decode cX6_part 5 = .ok (.ifCond .ne 9, 3) := by decide +kernel
theorem dX6_part_8 : decode cX6_part 8 = .ok (.aload_n 0, 1) := by decide +kernel
theorem dX6_part_9 : decode cX6_part 9 = .ok (.invokevirtual 72, 3) := by decide +kernel
theorem dX6_part_12 : decode cX6_part 12 = .ok (.i2l, 1) := by decide +kernel
theorem dX6_part_13 : decode cX6_part 13 = .ok (.lreturn, 1) := by decide +kernel
theorem dX6_part_14 : decode cX6_part 14 = .ok (.iload_n 1, 1) := by decide +kernel
theorem dX6_part_15 : decode cX6_part 15 = .ok (.ifCond .ne 10, 3) := by decide +kernel
theorem dX6_part_18 : decode cX6_part 18 = .ok (.aload_n 0, 1) := by decide +kernel
theorem dX6_part_19 : decode cX6_part 19 = .ok (.getfield 54, 3) := by decide +kernel
theorem dX6_part_22 : decode cX6_part 22 = .ok (.goto 7, 3) := by decide +kernel
theorem dX6_part_25 : decode cX6_part 25 = .ok (.aload_n 0, 1) := by decide +kernel
theorem dX6_part_26 : decode cX6_part 26 = .ok (.getfield 58, 3) := by decide +kernel
theorem dX6_part_29 : decode cX6_part 29 = .ok (.lreturn, 1) := by decide +kernel
set_option maxRecDepth 20000 in
theorem ggX6_image_X6_upTo : GoodIn wsX6_image wsX6_upTo := goodIn_r _ [7] (by decide +kernel) (by decide +kernel)
set_option maxRecDepth 20000 in
theorem gX6_image_X6_upTo : GoodIn wsX6_image (va_wsS RX6 68 yX6_upTo wsX6_upTo) := goodIn_app (goodIn_of _ (by decide +kernel)) ggX6_image_X6_upTo
set_option maxRecDepth 20000 in
theorem ggX6_image_X6_refusedAsBad : GoodIn wsX6_image wsX6_refusedAsBad := goodIn_r _ [11, 12, 50, 51, 52, 53, 54, 55, 56, 57, 58, 59, 60, 61] (by decide +kernel) (by decide +kernel)
set_option maxRecDepth 20000 in
theorem gX6_image_X6_refusedAsBad : GoodIn wsX6_image (wsV RX6 72 RX6 yX6_refusedAsBad wsX6_refusedAsBad) := goodIn_app (goodIn_of _ (by decide +kernel)) ggX6_image_X6_refusedAsBad
set_option maxRecDepth 20000 in
theorem ggX6_image_X5_copyOf : GoodIn wsX6_image wsX5_copyOf := goodIn_r _ [17, 18, 19, 20, 21, 22, 23, 24, 25, 26, 27, 28, 29, 30, 31, 32, 33, 6, 34, 35, 36, 37, 38, 39, 40, 41, 42, 43, 44, 45, 46, 47, 48, 49, 62, 63, 64, 65, 66, 67, 68, 69, 70, 71, 72, 73, 74, 75, 76, 77, 78, 79, 80] (by decide +kernel) (by decide +kernel)
set_option maxRecDepth 20000 in
theorem gX6_image_X5_copyOf : GoodIn wsX6_image (wsV RX6 105 RX5 yX5_copyOf wsX5_copyOf) := goodIn_app (goodIn_of _ (by decide +kernel)) ggX6_image_X5_copyOf
theorem dX6_image_0 : decode cX6_image 0 = .ok (.iload_n 1, 1) := by decide +kernel
theorem dX6_image_1 : decode cX6_image 1 = .ok (.iconst 2, 1) := by decide +kernel
theorem dX6_image_2 : decode cX6_image 2 = .ok (.invokestatic 68, 3) := by decide +kernel
theorem dX6_image_5 : decode cX6_image 5 = .ok (.ifCond .ne 8, 3) := by decide +kernel
theorem dX6_image_8 : decode cX6_image 8 = .ok (.aload_n 0, 1) := by decide +kernel
theorem dX6_image_9 : decode cX6_image 9 = .ok (.invokevirtual 72, 3) := by decide +kernel
theorem dX6_image_12 : decode cX6_image 12 = .ok (.ireturn, 1) := by decide +kernel
theorem dX6_image_13 : decode cX6_image 13 = .ok (.aload_n 0, 1) := by decide +kernel
theorem dX6_image_14 : decode cX6_image 14 = .ok (.getfield 19, 3) := by decide +kernel
theorem dX6_image_17 : decode cX6_image 17 = .ok (.iload_n 1, 1) := by decide +kernel
theorem dX6_image_18 : decode cX6_image 18 = .ok (.aaload, 1) := by decide +kernel
theorem dX6_image_19 : decode cX6_image 19 = .ok (.aload_n 0, 1) := by decide +kernel
theorem dX6_image_20 : decode cX6_image 20 = .ok (.getfield 12, 3) := by decide +kernel
theorem dX6_image_23 : decode cX6_image 23 = .ok (.invokevirtual 105, 3) := by decide +kernel
theorem dX6_image_26 : decode cX6_image 26 = .ok (.aload_n 0, 1) := by decide +kernel
theorem dX6_image_27 : decode cX6_image 27 = .ok (.getfield 23, 3) := by decide +kernel
theorem dX6_image_30 : decode cX6_image 30 = .ok (.iload_n 1, 1) := by decide +kernel
theorem dX6_image_31 : decode cX6_image 31 = .ok (.iconst 1, 1) := by decide +kernel
theorem dX6_image_32 : decode cX6_image 32 = .ok (.bastore, 1) := by decide +kernel
theorem dX6_image_33 : decode cX6_image 33 = .ok (.iconst 1, 1) := by decide +kernel
theorem dX6_image_34 : decode cX6_image 34 = .ok (.ireturn, 1) := by decide +kernel
set_option maxRecDepth 20000 in
theorem ggX6_from_X6_upTo : GoodIn wsX6_from wsX6_upTo := goodIn_r _ [7] (by decide +kernel) (by decide +kernel)
set_option maxRecDepth 20000 in
theorem gX6_from_X6_upTo : GoodIn wsX6_from (va_wsS RX6 68 yX6_upTo wsX6_upTo) := goodIn_app (goodIn_of _ (by decide +kernel)) ggX6_from_X6_upTo
set_option maxRecDepth 20000 in
theorem ggX6_from_X6_refusedAsBad : GoodIn wsX6_from wsX6_refusedAsBad := goodIn_r _ [11, 12, 54, 55, 56, 57, 58, 59, 60, 61, 62, 63, 64, 65] (by decide +kernel) (by decide +kernel)
set_option maxRecDepth 20000 in
theorem gX6_from_X6_refusedAsBad : GoodIn wsX6_from (wsV RX6 72 RX6 yX6_refusedAsBad wsX6_refusedAsBad) := goodIn_app (goodIn_of _ (by decide +kernel)) ggX6_from_X6_refusedAsBad
set_option maxRecDepth 20000 in
theorem ggX6_from_X6_refusedAsNo : GoodIn wsX6_from wsX6_refusedAsNo := goodIn_r _ [16, 12, 54, 55, 56, 57, 58, 59, 60, 61, 62, 63, 64, 65] (by decide +kernel) (by decide +kernel)
set_option maxRecDepth 20000 in
theorem gX6_from_X6_refusedAsNo : GoodIn wsX6_from (wsV RX6 115 RX6 yX6_refusedAsNo wsX6_refusedAsNo) := goodIn_app (goodIn_of _ (by decide +kernel)) ggX6_from_X6_refusedAsNo
set_option maxRecDepth 20000 in
theorem ggX6_from_X5_copyOf : GoodIn wsX6_from wsX5_copyOf := goodIn_r _ [21, 22, 23, 24, 25, 26, 27, 28, 29, 30, 31, 32, 33, 34, 35, 36, 37, 6, 38, 39, 40, 41, 42, 43, 44, 45, 46, 47, 48, 49, 50, 51, 52, 53, 66, 67, 68, 69, 70, 71, 72, 73, 74, 75, 76, 77, 78, 79, 80, 81, 82, 83, 84] (by decide +kernel) (by decide +kernel)
set_option maxRecDepth 20000 in
theorem gX6_from_X5_copyOf : GoodIn wsX6_from (wsV RX6 105 RX5 yX5_copyOf wsX5_copyOf) := goodIn_app (goodIn_of _ (by decide +kernel)) ggX6_from_X5_copyOf
theorem dX6_from_0 : decode cX6_from 0 = .ok (.iload_n 1, 1) := by decide +kernel
theorem dX6_from_1 : decode cX6_from 1 = .ok (.iconst 2, 1) := by decide +kernel
theorem dX6_from_2 : decode cX6_from 2 = .ok (.invokestatic 68, 3) := by decide +kernel
theorem dX6_from_5 : decode cX6_from 5 = .ok (.ifCond .ne 8, 3) := by decide +kernel
theorem dX6_from_8 : decode cX6_from 8 = .ok (.aload_n 0, 1) := by decide +kernel
theorem dX6_from_9 : decode cX6_from 9 = .ok (.invokevirtual 72, 3) := by decide +kernel
theorem dX6_from_12 : decode cX6_from 12 = .ok (.ireturn, 1) := by decide +kernel
theorem dX6_from_13 : decode cX6_from 13 = .ok (.aload_n 0, 1) := by decide +kernel
theorem dX6_from_14 : decode cX6_from 14 = .ok (.getfield 23, 3) := by decide +kernel
theorem dX6_from_17 : decode cX6_from 17 = .ok (.iload_n 1, 1) := by decide +kernel
theorem dX6_from_18 : decode cX6_from 18 = .ok (.baload, 1) := by decide +kernel
theorem dX6_from_19 : decode cX6_from 19 = .ok (.ifCond .ne 8, 3) := by decide +kernel
theorem dX6_from_22 : decode cX6_from 22 = .ok (.aload_n 0, 1) := by decide +kernel
theorem dX6_from_23 : decode cX6_from 23 = .ok (.invokevirtual 115, 3) := by decide +kernel
theorem dX6_from_26 : decode cX6_from 26 = .ok (.ireturn, 1) := by decide +kernel
theorem dX6_from_27 : decode cX6_from 27 = .ok (.aload_n 0, 1) := by decide +kernel
theorem dX6_from_28 : decode cX6_from 28 = .ok (.getfield 12, 3) := by decide +kernel
theorem dX6_from_31 : decode cX6_from 31 = .ok (.aload_n 0, 1) := by decide +kernel
theorem dX6_from_32 : decode cX6_from 32 = .ok (.getfield 19, 3) := by decide +kernel
theorem dX6_from_35 : decode cX6_from 35 = .ok (.iload_n 1, 1) := by decide +kernel
theorem dX6_from_36 : decode cX6_from 36 = .ok (.aaload, 1) := by decide +kernel
theorem dX6_from_37 : decode cX6_from 37 = .ok (.invokevirtual 105, 3) := by decide +kernel
theorem dX6_from_40 : decode cX6_from 40 = .ok (.iconst 1, 1) := by decide +kernel
theorem dX6_from_41 : decode cX6_from 41 = .ok (.ireturn, 1) := by decide +kernel
set_option maxRecDepth 20000 in
theorem ggX6_status_X6_upTo : GoodIn wsX6_status wsX6_upTo := goodIn_r _ [5] (by decide +kernel) (by decide +kernel)
set_option maxRecDepth 20000 in
theorem gX6_status_X6_upTo : GoodIn wsX6_status (va_wsS RX6 68 yX6_upTo wsX6_upTo) := goodIn_app (goodIn_of _ (by decide +kernel)) ggX6_status_X6_upTo
set_option maxRecDepth 20000 in
theorem ggX6_status_X6_refusedAsBad : GoodIn wsX6_status wsX6_refusedAsBad := goodIn_r _ [9, 1, 10, 11, 12, 13, 14, 15, 16, 17, 18, 19, 20, 21] (by decide +kernel) (by decide +kernel)
set_option maxRecDepth 20000 in
theorem gX6_status_X6_refusedAsBad : GoodIn wsX6_status (wsV RX6 72 RX6 yX6_refusedAsBad wsX6_refusedAsBad) := goodIn_app (goodIn_of _ (by decide +kernel)) ggX6_status_X6_refusedAsBad
theorem dX6_status_0 : decode cX6_status 0 = .ok (.iload_n 1, 1) := by decide +kernel
theorem dX6_status_1 : decode cX6_status 1 = .ok (.iconst 3, 1) := by decide +kernel
theorem dX6_status_2 : decode cX6_status 2 = .ok (.invokestatic 68, 3) := by decide +kernel
theorem dX6_status_5 : decode cX6_status 5 = .ok (.ifCond .ne 10, 3) := by decide +kernel
theorem dX6_status_8 : decode cX6_status 8 = .ok (.aload_n 0, 1) := by decide +kernel
theorem dX6_status_9 : decode cX6_status 9 = .ok (.invokevirtual 72, 3) := by decide +kernel
theorem dX6_status_12 : decode cX6_status 12 = .ok (.pop, 1) := by decide +kernel
theorem dX6_status_13 : decode cX6_status 13 = .ok (.iconst (-1), 1) := by decide +kernel
theorem dX6_status_14 : decode cX6_status 14 = .ok (.ireturn, 1) := by decide +kernel
theorem dX6_status_15 : decode cX6_status 15 = .ok (.aload_n 0, 1) := by decide +kernel
theorem dX6_status_16 : decode cX6_status 16 = .ok (.getfield 41, 3) := by decide +kernel
theorem dX6_status_19 : decode cX6_status 19 = .ok (.iload_n 1, 1) := by decide +kernel
theorem dX6_status_20 : decode cX6_status 20 = .ok (.iaload, 1) := by decide +kernel
theorem dX6_status_21 : decode cX6_status 21 = .ok (.ireturn, 1) := by decide +kernel
set_option maxRecDepth 20000 in
theorem ggX6_count_X6_upTo : GoodIn wsX6_count wsX6_upTo := goodIn_r _ [4] (by decide +kernel) (by decide +kernel)
set_option maxRecDepth 20000 in
theorem gX6_count_X6_upTo : GoodIn wsX6_count (va_wsS RX6 68 yX6_upTo wsX6_upTo) := goodIn_app (goodIn_of _ (by decide +kernel)) ggX6_count_X6_upTo
set_option maxRecDepth 20000 in
theorem ggX6_count_X6_refusedAsBad : GoodIn wsX6_count wsX6_refusedAsBad := goodIn_r _ [8, 9, 37, 38, 39, 40, 41, 42, 43, 44, 45, 46, 47, 48] (by decide +kernel) (by decide +kernel)
set_option maxRecDepth 20000 in
theorem gX6_count_X6_refusedAsBad : GoodIn wsX6_count (wsV RX6 72 RX6 yX6_refusedAsBad wsX6_refusedAsBad) := goodIn_app (goodIn_of _ (by decide +kernel)) ggX6_count_X6_refusedAsBad
set_option maxRecDepth 20000 in
theorem ggX6_count_X6_howMany : GoodIn wsX6_count wsX6_howMany := goodIn_r _ [13, 14, 15, 16, 17, 18, 19, 20, 21, 22, 23, 24, 25, 26, 27, 28, 29, 30, 31, 32, 33, 34, 35, 36, 37, 38, 39, 40, 41, 42, 43, 44, 45, 46, 47, 48, 49, 50, 51, 52, 53, 54, 55, 56, 57, 58, 59, 60, 61, 62, 63, 64, 65, 66, 67, 68, 69, 70, 71, 72, 73] (by decide +kernel) (by decide +kernel)
set_option maxRecDepth 20000 in
theorem gX6_count_X6_howMany : GoodIn wsX6_count (wsV RX6 264 RX6 yX6_howMany wsX6_howMany) := goodIn_app (goodIn_of _ (by decide +kernel)) ggX6_count_X6_howMany
theorem dX6_count_0 : decode cX6_count 0 = .ok (.iload_n 1, 1) := by decide +kernel
theorem dX6_count_1 : decode cX6_count 1 = .ok (.bipush 9, 2) := by decide +kernel
theorem dX6_count_3 : decode cX6_count 3 = .ok (.invokestatic 68, 3) := by decide +kernel
theorem dX6_count_6 : decode cX6_count 6 = .ok (.ifCond .ne 8, 3) := by decide +kernel
theorem dX6_count_9 : decode cX6_count 9 = .ok (.aload_n 0, 1) := by decide +kernel
theorem dX6_count_10 : decode cX6_count 10 = .ok (.invokevirtual 72, 3) := by decide +kernel
theorem dX6_count_13 : decode cX6_count 13 = .ok (.ireturn, 1) := by decide +kernel
theorem dX6_count_14 : decode cX6_count 14 = .ok (.aload_n 0, 1) := by decide +kernel
theorem dX6_count_15 : decode cX6_count 15 = .ok (.iload_n 1, 1) := by decide +kernel
theorem dX6_count_16 : decode cX6_count 16 = .ok (.invokevirtual 264, 3) := by decide +kernel
theorem dX6_count_19 : decode cX6_count 19 = .ok (.ireturn, 1) := by decide +kernel
set_option maxRecDepth 20000 in
theorem ggX6_digest_X6_howMany : GoodIn wsX6_digest wsX6_howMany := goodIn_r _ [12, 3, 13, 14, 15, 4, 16, 5, 17, 18, 19, 20, 21, 22, 23, 24, 25, 26, 27, 28, 29, 30, 31, 32, 58, 59, 60, 61, 62, 63, 64, 65, 66, 67, 68, 69, 70, 71, 72, 73, 74, 75, 76, 77, 78, 79, 80, 81, 82, 83, 84, 85, 86, 87, 88, 89, 90, 91, 92, 93, 94] (by decide +kernel) (by decide +kernel)
set_option maxRecDepth 20000 in
theorem gX6_digest_X6_howMany : GoodIn wsX6_digest (wsV RX6 264 RX6 yX6_howMany wsX6_howMany) := goodIn_app (goodIn_of _ (by decide +kernel)) ggX6_digest_X6_howMany
set_option maxRecDepth 20000 in
theorem ggX6_digest_X5_mixPeople : GoodIn wsX6_digest wsX5_mixPeople := goodIn_r _ [36, 37, 38, 39, 40, 41, 42, 70, 71, 72, 73, 74, 75, 76, 77, 78, 79, 80, 81, 82, 83, 84] (by decide +kernel) (by decide +kernel)
set_option maxRecDepth 20000 in
theorem gX6_digest_X5_mixPeople : GoodIn wsX6_digest (wsV RX6 271 RX5 yX5_mixPeople wsX5_mixPeople) := goodIn_app (goodIn_of _ (by decide +kernel)) ggX6_digest_X5_mixPeople
set_option maxRecDepth 20000 in
theorem ggX6_digest_X5_mixThings : GoodIn wsX6_digest wsX5_mixThings := goodIn_r _ [46, 25, 38, 47, 48, 32, 31, 26, 70, 71, 72, 73, 74, 75, 76, 77, 78, 79, 80, 81, 82, 83, 84] (by decide +kernel) (by decide +kernel)
set_option maxRecDepth 20000 in
theorem gX6_digest_X5_mixThings : GoodIn wsX6_digest (wsV RX6 275 RX5 yX5_mixThings wsX5_mixThings) := goodIn_app (goodIn_of _ (by decide +kernel)) ggX6_digest_X5_mixThings
set_option maxRecDepth 20000 in
theorem ggX6_digest_X3_mix : GoodIn wsX6_digest wsX3_mix := goodIn_r _ [53, 54, 55, 56, 57, 85, 86, 87, 88] (by decide +kernel) (by decide +kernel)
set_option maxRecDepth 20000 in
theorem gX6_digest_X3_mix : GoodIn wsX6_digest (wsV RX6 278 RX3 yX3_mix wsX3_mix) := goodIn_app (goodIn_of _ (by decide +kernel)) ggX6_digest_X3_mix
theorem dX6_digest_0 : decode cX6_digest 0 = .ok (.ldc2_w 267, 3) := by decide +kernel
theorem dX6_digest_3 : decode cX6_digest 3 = .ok (.lstore_n 1, 1) := by decide +kernel
theorem dX6_digest_4 : decode cX6_digest 4 = .ok (.iconst 0, 1) := by decide +kernel
theorem dX6_digest_5 : decode cX6_digest 5 = .ok (.istore_n 3, 1) := by decide +kernel
theorem dX6_digest_6 : decode cX6_digest 6 = .ok (.iload_n 3, 1) := by decide +kernel
theorem dX6_digest_7 : decode cX6_digest 7 = .ok (.bipush 9, 2) := by decide +kernel
theorem dX6_digest_9 : decode cX6_digest 9 = .ok (.if_icmp .ge 22, 3) := by decide +kernel
theorem dX6_digest_12 : decode cX6_digest 12 = .ok (.ldc2_w 269, 3) := by decide +kernel
theorem dX6_digest_15 : decode cX6_digest 15 = .ok (.lload_n 1, 1) := by decide +kernel
theorem dX6_digest_16 : decode cX6_digest 16 = .ok (.lmul, 1) := by decide +kernel
theorem dX6_digest_17 : decode cX6_digest 17 = .ok (.aload_n 0, 1) := by decide +kernel
theorem dX6_digest_18 : decode cX6_digest 18 = .ok (.iload_n 3, 1) := by decide +kernel
theorem dX6_digest_19 : decode cX6_digest 19 = .ok (.invokevirtual 264, 3) := by decide +kernel
theorem dX6_digest_22 : decode cX6_digest 22 = .ok (.i2l, 1) := by decide +kernel
theorem dX6_digest_23 : decode cX6_digest 23 = .ok (.ladd, 1) := by decide +kernel
theorem dX6_digest_24 : decode cX6_digest 24 = .ok (.lstore_n 1, 1) := by decide +kernel
theorem dX6_digest_25 : decode cX6_digest 25 = .ok (.iinc 3 1, 3) := by decide +kernel
theorem dX6_digest_28 : decode cX6_digest 28 = .ok (.goto (-22), 3) := by decide +kernel
theorem dX6_digest_31 : decode cX6_digest 31 = .ok (.aload_n 0, 1) := by decide +kernel
theorem dX6_digest_32 : decode cX6_digest 32 = .ok (.getfield 12, 3) := by decide +kernel
theorem dX6_digest_35 : decode cX6_digest 35 = .ok (.lload_n 1, 1) := by decide +kernel
theorem dX6_digest_36 : decode cX6_digest 36 = .ok (.invokevirtual 271, 3) := by decide +kernel
theorem dX6_digest_39 : decode cX6_digest 39 = .ok (.lstore_n 1, 1) := by decide +kernel
theorem dX6_digest_40 : decode cX6_digest 40 = .ok (.aload_n 0, 1) := by decide +kernel
theorem dX6_digest_41 : decode cX6_digest 41 = .ok (.getfield 12, 3) := by decide +kernel
theorem dX6_digest_44 : decode cX6_digest 44 = .ok (.lload_n 1, 1) := by decide +kernel
theorem dX6_digest_45 : decode cX6_digest 45 = .ok (.invokevirtual 275, 3) := by decide +kernel
theorem dX6_digest_48 : decode cX6_digest 48 = .ok (.lstore_n 1, 1) := by decide +kernel
theorem dX6_digest_49 : decode cX6_digest 49 = .ok (.aload_n 0, 1) := by decide +kernel
theorem dX6_digest_50 : decode cX6_digest 50 = .ok (.getfield 12, 3) := by decide +kernel
theorem dX6_digest_53 : decode cX6_digest 53 = .ok (.getfield 198, 3) := by decide +kernel
theorem dX6_digest_56 : decode cX6_digest 56 = .ok (.lload_n 1, 1) := by decide +kernel
theorem dX6_digest_57 : decode cX6_digest 57 = .ok (.invokevirtual 278, 3) := by decide +kernel
theorem dX6_digest_60 : decode cX6_digest 60 = .ok (.lstore_n 1, 1) := by decide +kernel
theorem dX6_digest_61 : decode cX6_digest 61 = .ok (.aload_n 0, 1) := by decide +kernel
theorem dX6_digest_62 : decode cX6_digest 62 = .ok (.getfield 12, 3) := by decide +kernel
theorem dX6_digest_65 : decode cX6_digest 65 = .ok (.getfield 211, 3) := by decide +kernel
theorem dX6_digest_68 : decode cX6_digest 68 = .ok (.lload_n 1, 1) := by decide +kernel
theorem dX6_digest_69 : decode cX6_digest 69 = .ok (.invokevirtual 278, 3) := by decide +kernel
theorem dX6_digest_72 : decode cX6_digest 72 = .ok (.lstore_n 1, 1) := by decide +kernel
theorem dX6_digest_73 : decode cX6_digest 73 = .ok (.ldc2_w 269, 3) := by decide +kernel
theorem dX6_digest_76 : decode cX6_digest 76 = .ok (.lload_n 1, 1) := by decide +kernel
theorem dX6_digest_77 : decode cX6_digest 77 = .ok (.lmul, 1) := by decide +kernel
theorem dX6_digest_78 : decode cX6_digest 78 = .ok (.aload_n 0, 1) := by decide +kernel
theorem dX6_digest_79 : decode cX6_digest 79 = .ok (.getfield 54, 3) := by decide +kernel
theorem dX6_digest_82 : decode cX6_digest 82 = .ok (.ladd, 1) := by decide +kernel
theorem dX6_digest_83 : decode cX6_digest 83 = .ok (.lstore_n 1, 1) := by decide +kernel
theorem dX6_digest_84 : decode cX6_digest 84 = .ok (.ldc2_w 269, 3) := by decide +kernel
theorem dX6_digest_87 : decode cX6_digest 87 = .ok (.lload_n 1, 1) := by decide +kernel
theorem dX6_digest_88 : decode cX6_digest 88 = .ok (.lmul, 1) := by decide +kernel
theorem dX6_digest_89 : decode cX6_digest 89 = .ok (.aload_n 0, 1) := by decide +kernel
theorem dX6_digest_90 : decode cX6_digest 90 = .ok (.getfield 58, 3) := by decide +kernel
theorem dX6_digest_93 : decode cX6_digest 93 = .ok (.ladd, 1) := by decide +kernel
theorem dX6_digest_94 : decode cX6_digest 94 = .ok (.lreturn, 1) := by decide +kernel
theorem dX6_refusedAsBad_0 : decode cX6_refusedAsBad 0 = .ok (.aload_n 0, 1) := by decide +kernel
theorem dX6_refusedAsBad_1 : decode cX6_refusedAsBad 1 = .ok (.getfield 41, 3) := by decide +kernel
theorem dX6_refusedAsBad_4 : decode cX6_refusedAsBad 4 = .ok (.iconst 0, 1) := by decide +kernel
theorem dX6_refusedAsBad_5 : decode cX6_refusedAsBad 5 = .ok (.dup2, 1) := by decide +kernel
theorem dX6_refusedAsBad_6 : decode cX6_refusedAsBad 6 = .ok (.iaload, 1) := by decide +kernel
theorem dX6_refusedAsBad_7 : decode cX6_refusedAsBad 7 = .ok (.iconst 1, 1) := by decide +kernel
theorem dX6_refusedAsBad_8 : decode cX6_refusedAsBad 8 = .ok (.iadd, 1) := by decide +kernel
theorem dX6_refusedAsBad_9 : decode cX6_refusedAsBad 9 = .ok (.iastore, 1) := by decide +kernel
theorem dX6_refusedAsBad_10 : decode cX6_refusedAsBad 10 = .ok (.bipush (-2), 2) := by decide +kernel
theorem dX6_refusedAsBad_12 : decode cX6_refusedAsBad 12 = .ok (.ireturn, 1) := by decide +kernel
theorem dX6_refusedAsNo_0 : decode cX6_refusedAsNo 0 = .ok (.aload_n 0, 1) := by decide +kernel
theorem dX6_refusedAsNo_1 : decode cX6_refusedAsNo 1 = .ok (.getfield 41, 3) := by decide +kernel
theorem dX6_refusedAsNo_4 : decode cX6_refusedAsNo 4 = .ok (.iconst 1, 1) := by decide +kernel
theorem dX6_refusedAsNo_5 : decode cX6_refusedAsNo 5 = .ok (.dup2, 1) := by decide +kernel
theorem dX6_refusedAsNo_6 : decode cX6_refusedAsNo 6 = .ok (.iaload, 1) := by decide +kernel
theorem dX6_refusedAsNo_7 : decode cX6_refusedAsNo 7 = .ok (.iconst 1, 1) := by decide +kernel
theorem dX6_refusedAsNo_8 : decode cX6_refusedAsNo 8 = .ok (.iadd, 1) := by decide +kernel
theorem dX6_refusedAsNo_9 : decode cX6_refusedAsNo 9 = .ok (.iastore, 1) := by decide +kernel
theorem dX6_refusedAsNo_10 : decode cX6_refusedAsNo 10 = .ok (.bipush (-3), 2) := by decide +kernel
theorem dX6_refusedAsNo_12 : decode cX6_refusedAsNo 12 = .ok (.ireturn, 1) := by decide +kernel
theorem dX6_refusedAsFull_0 : decode cX6_refusedAsFull 0 = .ok (.aload_n 0, 1) := by decide +kernel
theorem dX6_refusedAsFull_1 : decode cX6_refusedAsFull 1 = .ok (.getfield 41, 3) := by decide +kernel
theorem dX6_refusedAsFull_4 : decode cX6_refusedAsFull 4 = .ok (.iconst 2, 1) := by decide +kernel
theorem dX6_refusedAsFull_5 : decode cX6_refusedAsFull 5 = .ok (.dup2, 1) := by decide +kernel
theorem dX6_refusedAsFull_6 : decode cX6_refusedAsFull 6 = .ok (.iaload, 1) := by decide +kernel
theorem dX6_refusedAsFull_7 : decode cX6_refusedAsFull 7 = .ok (.iconst 1, 1) := by decide +kernel
theorem dX6_refusedAsFull_8 : decode cX6_refusedAsFull 8 = .ok (.iadd, 1) := by decide +kernel
theorem dX6_refusedAsFull_9 : decode cX6_refusedAsFull 9 = .ok (.iastore, 1) := by decide +kernel
theorem dX6_refusedAsFull_10 : decode cX6_refusedAsFull 10 = .ok (.bipush (-4), 2) := by decide +kernel
theorem dX6_refusedAsFull_12 : decode cX6_refusedAsFull 12 = .ok (.ireturn, 1) := by decide +kernel
theorem dX6_upTo_0 : decode cX6_upTo 0 = .ok (.iload_n 0, 1) := by decide +kernel
theorem dX6_upTo_1 : decode cX6_upTo 1 = .ok (.ifCond .lt 12, 3) := by decide +kernel
theorem dX6_upTo_4 : decode cX6_upTo 4 = .ok (.iload_n 0, 1) := by decide +kernel
theorem dX6_upTo_5 : decode cX6_upTo 5 = .ok (.iload_n 1, 1) := by decide +kernel
theorem dX6_upTo_6 : decode cX6_upTo 6 = .ok (.if_icmp .ge 7, 3) := by decide +kernel
theorem dX6_upTo_9 : decode cX6_upTo 9 = .ok (.iconst 1, 1) := by decide +kernel
theorem dX6_upTo_10 : decode cX6_upTo 10 = .ok (.goto 4, 3) := by decide +kernel
theorem dX6_upTo_13 : decode cX6_upTo 13 = .ok (.iconst 0, 1) := by decide +kernel
theorem dX6_upTo_14 : decode cX6_upTo 14 = .ok (.ireturn, 1) := by decide +kernel
set_option maxRecDepth 20000 in
theorem ggX6_isPerson_X6_upTo : GoodIn wsX6_isPerson wsX6_upTo := goodIn_r _ [6] (by decide +kernel) (by decide +kernel)
set_option maxRecDepth 20000 in
theorem gX6_isPerson_X6_upTo : GoodIn wsX6_isPerson (va_wsS RX6 68 yX6_upTo wsX6_upTo) := goodIn_app (goodIn_of _ (by decide +kernel)) ggX6_isPerson_X6_upTo
theorem dX6_isPerson_0 : decode cX6_isPerson 0 = .ok (.iload_n 1, 1) := by decide +kernel
theorem dX6_isPerson_1 : decode cX6_isPerson 1 = .ok (.aload_n 0, 1) := by decide +kernel
theorem dX6_isPerson_2 : decode cX6_isPerson 2 = .ok (.getfield 12, 3) := by decide +kernel
theorem dX6_isPerson_5 : decode cX6_isPerson 5 = .ok (.getfield 61, 3) := by decide +kernel
theorem dX6_isPerson_8 : decode cX6_isPerson 8 = .ok (.invokestatic 68, 3) := by decide +kernel
theorem dX6_isPerson_11 : decode cX6_isPerson 11 = .ok (.ireturn, 1) := by decide +kernel
set_option maxRecDepth 20000 in
theorem ggX6_isThing_X6_upTo : GoodIn wsX6_isThing wsX6_upTo := goodIn_r _ [6] (by decide +kernel) (by decide +kernel)
set_option maxRecDepth 20000 in
theorem gX6_isThing_X6_upTo : GoodIn wsX6_isThing (va_wsS RX6 68 yX6_upTo wsX6_upTo) := goodIn_app (goodIn_of _ (by decide +kernel)) ggX6_isThing_X6_upTo
theorem dX6_isThing_0 : decode cX6_isThing 0 = .ok (.iload_n 1, 1) := by decide +kernel
theorem dX6_isThing_1 : decode cX6_isThing 1 = .ok (.aload_n 0, 1) := by decide +kernel
theorem dX6_isThing_2 : decode cX6_isThing 2 = .ok (.getfield 12, 3) := by decide +kernel
theorem dX6_isThing_5 : decode cX6_isThing 5 = .ok (.getfield 87, 3) := by decide +kernel
theorem dX6_isThing_8 : decode cX6_isThing 8 = .ok (.invokestatic 68, 3) := by decide +kernel
theorem dX6_isThing_11 : decode cX6_isThing 11 = .ok (.ireturn, 1) := by decide +kernel
set_option maxRecDepth 20000 in
theorem ggX6_howMany_X5_howManyLie : GoodIn wsX6_howMany wsX5_howManyLie := goodIn_r _ [15, 16, 17, 36, 37, 38, 39, 40, 41, 42, 43, 44, 45, 46, 47, 48, 49, 50] (by decide +kernel) (by decide +kernel)
set_option maxRecDepth 20000 in
theorem gX6_howMany_X5_howManyLie : GoodIn wsX6_howMany (wsV RX6 143 RX5 yX5_howManyLie wsX5_howManyLie) := goodIn_app (goodIn_of _ (by decide +kernel)) ggX6_howMany_X5_howManyLie
set_option maxRecDepth 20000 in
theorem ggX6_howMany_X5_howManyAtHome : GoodIn wsX6_howMany wsX5_howManyAtHome := goodIn_r _ [21, 16, 17, 22, 23, 36, 37, 38, 39, 40, 41, 42, 43, 44, 45, 46, 47, 48, 49, 50] (by decide +kernel) (by decide +kernel)
set_option maxRecDepth 20000 in
theorem gX6_howMany_X5_howManyAtHome : GoodIn wsX6_howMany (wsV RX6 261 RX5 yX5_howManyAtHome wsX5_howManyAtHome) := goodIn_app (goodIn_of _ (by decide +kernel)) ggX6_howMany_X5_howManyAtHome
theorem dX6_howMany_0 : decode cX6_howMany 0 = .ok (.iload_n 1, 1) := by decide +kernel
theorem dX6_howMany_1 : decode cX6_howMany 1 = .ok (.tableswitch 130 0 7 #[47, 55, 63, 71, 89, 97, 108, 119], 47) := by decide +kernel
theorem dX6_howMany_48 : decode cX6_howMany 48 = .ok (.aload_n 0, 1) := by decide +kernel
theorem dX6_howMany_49 : decode cX6_howMany 49 = .ok (.getfield 12, 3) := by decide +kernel
theorem dX6_howMany_52 : decode cX6_howMany 52 = .ok (.getfield 61, 3) := by decide +kernel
theorem dX6_howMany_55 : decode cX6_howMany 55 = .ok (.ireturn, 1) := by decide +kernel
theorem dX6_howMany_56 : decode cX6_howMany 56 = .ok (.aload_n 0, 1) := by decide +kernel
theorem dX6_howMany_57 : decode cX6_howMany 57 = .ok (.getfield 12, 3) := by decide +kernel
theorem dX6_howMany_60 : decode cX6_howMany 60 = .ok (.getfield 87, 3) := by decide +kernel
theorem dX6_howMany_63 : decode cX6_howMany 63 = .ok (.ireturn, 1) := by decide +kernel
theorem dX6_howMany_64 : decode cX6_howMany 64 = .ok (.aload_n 0, 1) := by decide +kernel
theorem dX6_howMany_65 : decode cX6_howMany 65 = .ok (.getfield 12, 3) := by decide +kernel
theorem dX6_howMany_68 : decode cX6_howMany 68 = .ok (.getfield 137, 3) := by decide +kernel
theorem dX6_howMany_71 : decode cX6_howMany 71 = .ok (.ireturn, 1) := by decide +kernel
theorem dX6_howMany_72 : decode cX6_howMany 72 = .ok (.aload_n 0, 1) := by decide +kernel
theorem dX6_howMany_73 : decode cX6_howMany 73 = .ok (.getfield 12, 3) := by decide +kernel
theorem dX6_howMany_76 : decode cX6_howMany 76 = .ok (.iconst 1, 1) := by decide +kernel
theorem dX6_howMany_77 : decode cX6_howMany 77 = .ok (.invokevirtual 143, 3) := by decide +kernel
theorem dX6_howMany_80 : decode cX6_howMany 80 = .ok (.aload_n 0, 1) := by decide +kernel
theorem dX6_howMany_81 : decode cX6_howMany 81 = .ok (.getfield 12, 3) := by decide +kernel
theorem dX6_howMany_84 : decode cX6_howMany 84 = .ok (.iconst 2, 1) := by decide +kernel
theorem dX6_howMany_85 : decode cX6_howMany 85 = .ok (.invokevirtual 143, 3) := by decide +kernel
theorem dX6_howMany_88 : decode cX6_howMany 88 = .ok (.iadd, 1) := by decide +kernel
theorem dX6_howMany_89 : decode cX6_howMany 89 = .ok (.ireturn, 1) := by decide +kernel
theorem dX6_howMany_90 : decode cX6_howMany 90 = .ok (.aload_n 0, 1) := by decide +kernel
theorem dX6_howMany_91 : decode cX6_howMany 91 = .ok (.getfield 12, 3) := by decide +kernel
theorem dX6_howMany_94 : decode cX6_howMany 94 = .ok (.invokevirtual 261, 3) := by decide +kernel
theorem dX6_howMany_97 : decode cX6_howMany 97 = .ok (.ireturn, 1) := by decide +kernel
theorem dX6_howMany_98 : decode cX6_howMany 98 = .ok (.aload_n 0, 1) := by decide +kernel
theorem dX6_howMany_99 : decode cX6_howMany 99 = .ok (.getfield 12, 3) := by decide +kernel
theorem dX6_howMany_102 : decode cX6_howMany 102 = .ok (.getfield 198, 3) := by decide +kernel
theorem dX6_howMany_105 : decode cX6_howMany 105 = .ok (.getfield 150, 3) := by decide +kernel
theorem dX6_howMany_108 : decode cX6_howMany 108 = .ok (.ireturn, 1) := by decide +kernel
theorem dX6_howMany_109 : decode cX6_howMany 109 = .ok (.aload_n 0, 1) := by decide +kernel
theorem dX6_howMany_110 : decode cX6_howMany 110 = .ok (.getfield 12, 3) := by decide +kernel
theorem dX6_howMany_113 : decode cX6_howMany 113 = .ok (.getfield 211, 3) := by decide +kernel
theorem dX6_howMany_116 : decode cX6_howMany 116 = .ok (.getfield 150, 3) := by decide +kernel
theorem dX6_howMany_119 : decode cX6_howMany 119 = .ok (.ireturn, 1) := by decide +kernel
theorem dX6_howMany_120 : decode cX6_howMany 120 = .ok (.aload_n 0, 1) := by decide +kernel
theorem dX6_howMany_121 : decode cX6_howMany 121 = .ok (.getfield 12, 3) := by decide +kernel
theorem dX6_howMany_124 : decode cX6_howMany 124 = .ok (.getfield 146, 3) := by decide +kernel
theorem dX6_howMany_127 : decode cX6_howMany 127 = .ok (.getfield 150, 3) := by decide +kernel
theorem dX6_howMany_130 : decode cX6_howMany 130 = .ok (.ireturn, 1) := by decide +kernel
theorem dX6_howMany_131 : decode cX6_howMany 131 = .ok (.aload_n 0, 1) := by decide +kernel
theorem dX6_howMany_132 : decode cX6_howMany 132 = .ok (.getfield 30, 3) := by decide +kernel
theorem dX6_howMany_135 : decode cX6_howMany 135 = .ok (.getfield 94, 3) := by decide +kernel
theorem dX6_howMany_138 : decode cX6_howMany 138 = .ok (.ireturn, 1) := by decide +kernel
theorem dX6_placeIn_0 : decode cX6_placeIn 0 = .ok (.iconst 0, 1) := by decide +kernel
theorem dX6_placeIn_1 : decode cX6_placeIn 1 = .ok (.istore_n 3, 1) := by decide +kernel
theorem dX6_placeIn_2 : decode cX6_placeIn 2 = .ok (.iload_n 3, 1) := by decide +kernel
theorem dX6_placeIn_3 : decode cX6_placeIn 3 = .ok (.iload_n 1, 1) := by decide +kernel
theorem dX6_placeIn_4 : decode cX6_placeIn 4 = .ok (.if_icmp .ge 24, 3) := by decide +kernel
theorem dX6_placeIn_7 : decode cX6_placeIn 7 = .ok (.iload_n 3, 1) := by decide +kernel
theorem dX6_placeIn_8 : decode cX6_placeIn 8 = .ok (.aload_n 0, 1) := by decide +kernel
theorem dX6_placeIn_9 : decode cX6_placeIn 9 = .ok (.arraylength, 1) := by decide +kernel
theorem dX6_placeIn_10 : decode cX6_placeIn 10 = .ok (.if_icmp .ge 18, 3) := by decide +kernel
theorem dX6_placeIn_13 : decode cX6_placeIn 13 = .ok (.aload_n 0, 1) := by decide +kernel
theorem dX6_placeIn_14 : decode cX6_placeIn 14 = .ok (.iload_n 3, 1) := by decide +kernel
theorem dX6_placeIn_15 : decode cX6_placeIn 15 = .ok (.iaload, 1) := by decide +kernel
theorem dX6_placeIn_16 : decode cX6_placeIn 16 = .ok (.iload_n 2, 1) := by decide +kernel
theorem dX6_placeIn_17 : decode cX6_placeIn 17 = .ok (.if_icmp .ne 5, 3) := by decide +kernel
theorem dX6_placeIn_20 : decode cX6_placeIn 20 = .ok (.iload_n 3, 1) := by decide +kernel
theorem dX6_placeIn_21 : decode cX6_placeIn 21 = .ok (.ireturn, 1) := by decide +kernel
theorem dX6_placeIn_22 : decode cX6_placeIn 22 = .ok (.iinc 3 1, 3) := by decide +kernel
theorem dX6_placeIn_25 : decode cX6_placeIn 25 = .ok (.goto (-23), 3) := by decide +kernel
theorem dX6_placeIn_28 : decode cX6_placeIn 28 = .ok (.iconst (-1), 1) := by decide +kernel
theorem dX6_placeIn_29 : decode cX6_placeIn 29 = .ok (.ireturn, 1) := by decide +kernel
theorem dX6_mostAlike_0 : decode cX6_mostAlike 0 = .ok (.iconst 0, 1) := by decide +kernel
theorem dX6_mostAlike_1 : decode cX6_mostAlike 1 = .ok (.istore_n 2, 1) := by decide +kernel
theorem dX6_mostAlike_2 : decode cX6_mostAlike 2 = .ok (.iconst 0, 1) := by decide +kernel
theorem dX6_mostAlike_3 : decode cX6_mostAlike 3 = .ok (.istore_n 3, 1) := by decide +kernel
theorem dX6_mostAlike_4 : decode cX6_mostAlike 4 = .ok (.iload_n 3, 1) := by decide +kernel
theorem dX6_mostAlike_5 : decode cX6_mostAlike 5 = .ok (.aload_n 0, 1) := by decide +kernel
theorem dX6_mostAlike_6 : decode cX6_mostAlike 6 = .ok (.arraylength, 1) := by decide +kernel
theorem dX6_mostAlike_7 : decode cX6_mostAlike 7 = .ok (.if_icmp .ge 69, 3) := by decide +kernel
theorem dX6_mostAlike_10 : decode cX6_mostAlike 10 = .ok (.iconst 0, 1) := by decide +kernel
theorem dX6_mostAlike_11 : decode cX6_mostAlike 11 = .ok (.istore 4, 2) := by decide +kernel
theorem dX6_mostAlike_13 : decode cX6_mostAlike 13 = .ok (.iconst 0, 1) := by decide +kernel
theorem dX6_mostAlike_14 : decode cX6_mostAlike 14 = .ok (.istore 5, 2) := by decide +kernel
theorem dX6_mostAlike_16 : decode cX6_mostAlike 16 = .ok (.iload 5, 2) := by decide +kernel
theorem dX6_mostAlike_18 : decode cX6_mostAlike 18 = .ok (.aload_n 0, 1) := by decide +kernel
theorem dX6_mostAlike_19 : decode cX6_mostAlike 19 = .ok (.arraylength, 1) := by decide +kernel
theorem dX6_mostAlike_20 : decode cX6_mostAlike 20 = .ok (.if_icmp .ge 32, 3) := by decide +kernel
theorem dX6_mostAlike_23 : decode cX6_mostAlike 23 = .ok (.iload_n 1, 1) := by decide +kernel
theorem dX6_mostAlike_24 : decode cX6_mostAlike 24 = .ok (.iload 5, 2) := by decide +kernel
theorem dX6_mostAlike_26 : decode cX6_mostAlike 26 = .ok (.ishr, 1) := by decide +kernel
theorem dX6_mostAlike_27 : decode cX6_mostAlike 27 = .ok (.iconst 1, 1) := by decide +kernel
theorem dX6_mostAlike_28 : decode cX6_mostAlike 28 = .ok (.iand, 1) := by decide +kernel
theorem dX6_mostAlike_29 : decode cX6_mostAlike 29 = .ok (.iconst 1, 1) := by decide +kernel
theorem dX6_mostAlike_30 : decode cX6_mostAlike 30 = .ok (.if_icmp .ne 16, 3) := by decide +kernel
theorem dX6_mostAlike_33 : decode cX6_mostAlike 33 = .ok (.aload_n 0, 1) := by decide +kernel
theorem dX6_mostAlike_34 : decode cX6_mostAlike 34 = .ok (.iload 5, 2) := by decide +kernel
theorem dX6_mostAlike_36 : decode cX6_mostAlike 36 = .ok (.iaload, 1) := by decide +kernel
theorem dX6_mostAlike_37 : decode cX6_mostAlike 37 = .ok (.aload_n 0, 1) := by decide +kernel
theorem dX6_mostAlike_38 : decode cX6_mostAlike 38 = .ok (.iload_n 3, 1) := by decide +kernel
theorem dX6_mostAlike_39 : decode cX6_mostAlike 39 = .ok (.iaload, 1) := by decide +kernel
theorem dX6_mostAlike_40 : decode cX6_mostAlike 40 = .ok (.if_icmp .ne 6, 3) := by decide +kernel
theorem dX6_mostAlike_43 : decode cX6_mostAlike 43 = .ok (.iinc 4 1, 3) := by decide +kernel
theorem dX6_mostAlike_46 : decode cX6_mostAlike 46 = .ok (.iinc 5 1, 3) := by decide +kernel
theorem dX6_mostAlike_49 : decode cX6_mostAlike 49 = .ok (.goto (-33), 3) := by decide +kernel
theorem dX6_mostAlike_52 : decode cX6_mostAlike 52 = .ok (.iload_n 1, 1) := by decide +kernel
theorem dX6_mostAlike_53 : decode cX6_mostAlike 53 = .ok (.iload_n 3, 1) := by decide +kernel
theorem dX6_mostAlike_54 : decode cX6_mostAlike 54 = .ok (.ishr, 1) := by decide +kernel
theorem dX6_mostAlike_55 : decode cX6_mostAlike 55 = .ok (.iconst 1, 1) := by decide +kernel
theorem dX6_mostAlike_56 : decode cX6_mostAlike 56 = .ok (.iand, 1) := by decide +kernel
theorem dX6_mostAlike_57 : decode cX6_mostAlike 57 = .ok (.iconst 1, 1) := by decide +kernel
theorem dX6_mostAlike_58 : decode cX6_mostAlike 58 = .ok (.if_icmp .ne 12, 3) := by decide +kernel
theorem dX6_mostAlike_61 : decode cX6_mostAlike 61 = .ok (.iload 4, 2) := by decide +kernel
theorem dX6_mostAlike_63 : decode cX6_mostAlike 63 = .ok (.iload_n 2, 1) := by decide +kernel
theorem dX6_mostAlike_64 : decode cX6_mostAlike 64 = .ok (.if_icmp .le 6, 3) := by decide +kernel
theorem dX6_mostAlike_67 : decode cX6_mostAlike 67 = .ok (.iload 4, 2) := by decide +kernel
theorem dX6_mostAlike_69 : decode cX6_mostAlike 69 = .ok (.istore_n 2, 1) := by decide +kernel
theorem dX6_mostAlike_70 : decode cX6_mostAlike 70 = .ok (.iinc 3 1, 3) := by decide +kernel
theorem dX6_mostAlike_73 : decode cX6_mostAlike 73 = .ok (.goto (-69), 3) := by decide +kernel
theorem dX6_mostAlike_76 : decode cX6_mostAlike 76 = .ok (.iload_n 2, 1) := by decide +kernel
theorem dX6_mostAlike_77 : decode cX6_mostAlike 77 = .ok (.ireturn, 1) := by decide +kernel
set_option maxRecDepth 20000 in
theorem ggX6_sortAsked_X5_isAway : GoodIn wsX6_sortAsked wsX5_isAway := goodIn_r _ [8, 9, 10, 11, 48, 49, 50, 51, 52, 53, 54, 55, 56, 57, 58, 59, 60, 61, 62] (by decide +kernel) (by decide +kernel)
set_option maxRecDepth 20000 in
theorem gX6_sortAsked_X5_isAway : GoodIn wsX6_sortAsked (wsV RX6 124 RX5 yX5_isAway wsX5_isAway) := goodIn_app (goodIn_of _ (by decide +kernel)) ggX6_sortAsked_X5_isAway
set_option maxRecDepth 20000 in
theorem ggX6_sortAsked_X5_askedFor : GoodIn wsX6_sortAsked wsX5_askedFor := goodIn_r _ [15, 16, 10, 17, 18, 19, 20, 21, 7, 22, 23, 24, 25, 26, 27, 28, 29, 30, 31, 32, 33, 34, 35, 48, 49, 50, 51, 52, 53, 54, 55, 56, 57, 58, 59, 60, 61, 62] (by decide +kernel) (by decide +kernel)
set_option maxRecDepth 20000 in
theorem gX6_sortAsked_X5_askedFor : GoodIn wsX6_sortAsked (wsV RX6 127 RX5 yX5_askedFor wsX5_askedFor) := goodIn_app (goodIn_of _ (by decide +kernel)) ggX6_sortAsked_X5_askedFor
theorem dX6_sortAsked_0 : decode cX6_sortAsked 0 = .ok (.iconst 0, 1) := by decide +kernel
theorem dX6_sortAsked_1 : decode cX6_sortAsked 1 = .ok (.istore_n 1, 1) := by decide +kernel
theorem dX6_sortAsked_2 : decode cX6_sortAsked 2 = .ok (.iconst 0, 1) := by decide +kernel
theorem dX6_sortAsked_3 : decode cX6_sortAsked 3 = .ok (.istore_n 2, 1) := by decide +kernel
theorem dX6_sortAsked_4 : decode cX6_sortAsked 4 = .ok (.iload_n 2, 1) := by decide +kernel
theorem dX6_sortAsked_5 : decode cX6_sortAsked 5 = .ok (.aload_n 0, 1) := by decide +kernel
theorem dX6_sortAsked_6 : decode cX6_sortAsked 6 = .ok (.getfield 12, 3) := by decide +kernel
theorem dX6_sortAsked_9 : decode cX6_sortAsked 9 = .ok (.getfield 87, 3) := by decide +kernel
theorem dX6_sortAsked_12 : decode cX6_sortAsked 12 = .ok (.if_icmp .ge 86, 3) := by decide +kernel
theorem dX6_sortAsked_15 : decode cX6_sortAsked 15 = .ok (.aload_n 0, 1) := by decide +kernel
theorem dX6_sortAsked_16 : decode cX6_sortAsked 16 = .ok (.getfield 12, 3) := by decide +kernel
theorem dX6_sortAsked_19 : decode cX6_sortAsked 19 = .ok (.iload_n 2, 1) := by decide +kernel
theorem dX6_sortAsked_20 : decode cX6_sortAsked 20 = .ok (.invokevirtual 124, 3) := by decide +kernel
theorem dX6_sortAsked_23 : decode cX6_sortAsked 23 = .ok (.ifCond .ne 6, 3) := by decide +kernel
theorem dX6_sortAsked_26 : decode cX6_sortAsked 26 = .ok (.goto 66, 3) := by decide +kernel
theorem dX6_sortAsked_29 : decode cX6_sortAsked 29 = .ok (.aload_n 0, 1) := by decide +kernel
theorem dX6_sortAsked_30 : decode cX6_sortAsked 30 = .ok (.getfield 12, 3) := by decide +kernel
theorem dX6_sortAsked_33 : decode cX6_sortAsked 33 = .ok (.iload_n 2, 1) := by decide +kernel
theorem dX6_sortAsked_34 : decode cX6_sortAsked 34 = .ok (.invokevirtual 127, 3) := by decide +kernel
theorem dX6_sortAsked_37 : decode cX6_sortAsked 37 = .ok (.istore_n 3, 1) := by decide +kernel
theorem dX6_sortAsked_38 : decode cX6_sortAsked 38 = .ok (.iload_n 1, 1) := by decide +kernel
theorem dX6_sortAsked_39 : decode cX6_sortAsked 39 = .ok (.istore 4, 2) := by decide +kernel
theorem dX6_sortAsked_41 : decode cX6_sortAsked 41 = .ok (.iload 4, 2) := by decide +kernel
theorem dX6_sortAsked_43 : decode cX6_sortAsked 43 = .ok (.ifCond .le 38, 3) := by decide +kernel
theorem dX6_sortAsked_46 : decode cX6_sortAsked 46 = .ok (.aload_n 0, 1) := by decide +kernel
theorem dX6_sortAsked_47 : decode cX6_sortAsked 47 = .ok (.getfield 48, 3) := by decide +kernel
theorem dX6_sortAsked_50 : decode cX6_sortAsked 50 = .ok (.iload 4, 2) := by decide +kernel
theorem dX6_sortAsked_52 : decode cX6_sortAsked 52 = .ok (.iconst 1, 1) := by decide +kernel
theorem dX6_sortAsked_53 : decode cX6_sortAsked 53 = .ok (.isub, 1) := by decide +kernel
theorem dX6_sortAsked_54 : decode cX6_sortAsked 54 = .ok (.iaload, 1) := by decide +kernel
theorem dX6_sortAsked_55 : decode cX6_sortAsked 55 = .ok (.iload_n 3, 1) := by decide +kernel
theorem dX6_sortAsked_56 : decode cX6_sortAsked 56 = .ok (.if_icmp .le 25, 3) := by decide +kernel
theorem dX6_sortAsked_59 : decode cX6_sortAsked 59 = .ok (.aload_n 0, 1) := by decide +kernel
theorem dX6_sortAsked_60 : decode cX6_sortAsked 60 = .ok (.getfield 48, 3) := by decide +kernel
theorem dX6_sortAsked_63 : decode cX6_sortAsked 63 = .ok (.iload 4, 2) := by decide +kernel
theorem dX6_sortAsked_65 : decode cX6_sortAsked 65 = .ok (.aload_n 0, 1) := by decide +kernel
theorem dX6_sortAsked_66 : decode cX6_sortAsked 66 = .ok (.getfield 48, 3) := by decide +kernel
theorem dX6_sortAsked_69 : decode cX6_sortAsked 69 = .ok (.iload 4, 2) := by decide +kernel
theorem dX6_sortAsked_71 : decode cX6_sortAsked 71 = .ok (.iconst 1, 1) := by decide +kernel
theorem dX6_sortAsked_72 : decode cX6_sortAsked 72 = .ok (.isub, 1) := by decide +kernel
theorem dX6_sortAsked_73 : decode cX6_sortAsked 73 = .ok (.iaload, 1) := by decide +kernel
theorem dX6_sortAsked_74 : decode cX6_sortAsked 74 = .ok (.iastore, 1) := by decide +kernel
theorem dX6_sortAsked_75 : decode cX6_sortAsked 75 = .ok (.iinc 4 (-1), 3) := by decide +kernel
theorem dX6_sortAsked_78 : decode cX6_sortAsked 78 = .ok (.goto (-37), 3) := by decide +kernel
theorem dX6_sortAsked_81 : decode cX6_sortAsked 81 = .ok (.aload_n 0, 1) := by decide +kernel
theorem dX6_sortAsked_82 : decode cX6_sortAsked 82 = .ok (.getfield 48, 3) := by decide +kernel
theorem dX6_sortAsked_85 : decode cX6_sortAsked 85 = .ok (.iload 4, 2) := by decide +kernel
theorem dX6_sortAsked_87 : decode cX6_sortAsked 87 = .ok (.iload_n 3, 1) := by decide +kernel
theorem dX6_sortAsked_88 : decode cX6_sortAsked 88 = .ok (.iastore, 1) := by decide +kernel
theorem dX6_sortAsked_89 : decode cX6_sortAsked 89 = .ok (.iinc 1 1, 3) := by decide +kernel
theorem dX6_sortAsked_92 : decode cX6_sortAsked 92 = .ok (.iinc 2 1, 3) := by decide +kernel
theorem dX6_sortAsked_95 : decode cX6_sortAsked 95 = .ok (.goto (-91), 3) := by decide +kernel
theorem dX6_sortAsked_98 : decode cX6_sortAsked 98 = .ok (.iload_n 1, 1) := by decide +kernel
theorem dX6_sortAsked_99 : decode cX6_sortAsked 99 = .ok (.ireturn, 1) := by decide +kernel
set_option maxRecDepth 20000 in
theorem ggX6_seeWhoGetsIt_X5_copyOf : GoodIn wsX6_seeWhoGetsIt wsX5_copyOf := goodIn_r _ [10, 11, 12, 13, 14, 15, 16, 17, 18, 19, 20, 21, 22, 23, 24, 25, 26, 27, 28, 29, 30, 31, 32, 33, 34, 35, 36, 37, 38, 39, 40, 41, 42, 43, 82, 83, 84, 85, 86, 87, 88, 89, 90, 91, 92, 93, 94, 95, 96, 97, 98, 99, 100] (by decide +kernel) (by decide +kernel)
set_option maxRecDepth 20000 in
theorem gX6_seeWhoGetsIt_X5_copyOf : GoodIn wsX6_seeWhoGetsIt (wsV RX6 105 RX5 yX5_copyOf wsX5_copyOf) := goodIn_app (goodIn_of _ (by decide +kernel)) ggX6_seeWhoGetsIt_X5_copyOf
set_option maxRecDepth 20000 in
theorem ggX6_seeWhoGetsIt_X5_nextOf : GoodIn wsX6_seeWhoGetsIt wsX5_nextOf := goodIn_r _ [47, 15, 16, 25, 48, 49, 50, 9, 51, 23, 52, 53, 54, 55, 11, 14, 13, 12, 56, 57, 31, 58, 59, 60, 61, 62, 63, 64, 65, 66, 67, 68, 69, 82, 83, 84, 85, 86, 87, 88, 89, 90, 91, 92, 93, 94, 95, 96] (by decide +kernel) (by decide +kernel)
set_option maxRecDepth 20000 in
theorem gX6_seeWhoGetsIt_X5_nextOf : GoodIn wsX6_seeWhoGetsIt (wsV RX6 180 RX5 yX5_nextOf wsX5_nextOf) := goodIn_app (goodIn_of _ (by decide +kernel)) ggX6_seeWhoGetsIt_X5_nextOf
theorem dX6_seeWhoGetsIt_0 : decode cX6_seeWhoGetsIt 0 = .ok (.aload_n 0, 1) := by decide +kernel
theorem dX6_seeWhoGetsIt_1 : decode cX6_seeWhoGetsIt 1 = .ok (.getfield 16, 3) := by decide +kernel
theorem dX6_seeWhoGetsIt_4 : decode cX6_seeWhoGetsIt 4 = .ok (.aload_n 0, 1) := by decide +kernel
theorem dX6_seeWhoGetsIt_5 : decode cX6_seeWhoGetsIt 5 = .ok (.getfield 12, 3) := by decide +kernel
theorem dX6_seeWhoGetsIt_8 : decode cX6_seeWhoGetsIt 8 = .ok (.invokevirtual 105, 3) := by decide +kernel
theorem dX6_seeWhoGetsIt_11 : decode cX6_seeWhoGetsIt 11 = .ok (.iconst 0, 1) := by decide +kernel
theorem dX6_seeWhoGetsIt_12 : decode cX6_seeWhoGetsIt 12 = .ok (.istore 4, 2) := by decide +kernel
theorem dX6_seeWhoGetsIt_14 : decode cX6_seeWhoGetsIt 14 = .ok (.iload 4, 2) := by decide +kernel
theorem dX6_seeWhoGetsIt_16 : decode cX6_seeWhoGetsIt 16 = .ok (.bipush 36, 2) := by decide +kernel
theorem dX6_seeWhoGetsIt_18 : decode cX6_seeWhoGetsIt 18 = .ok (.if_icmp .ge 61, 3) := by decide +kernel
theorem dX6_seeWhoGetsIt_21 : decode cX6_seeWhoGetsIt 21 = .ok (.aload_n 0, 1) := by decide +kernel
theorem dX6_seeWhoGetsIt_22 : decode cX6_seeWhoGetsIt 22 = .ok (.getfield 16, 3) := by decide +kernel
theorem dX6_seeWhoGetsIt_25 : decode cX6_seeWhoGetsIt 25 = .ok (.getfield 134, 3) := by decide +kernel
theorem dX6_seeWhoGetsIt_28 : decode cX6_seeWhoGetsIt 28 = .ok (.iload_n 2, 1) := by decide +kernel
theorem dX6_seeWhoGetsIt_29 : decode cX6_seeWhoGetsIt 29 = .ok (.iload 4, 2) := by decide +kernel
theorem dX6_seeWhoGetsIt_31 : decode cX6_seeWhoGetsIt 31 = .ok (.bipush 6, 2) := by decide +kernel
theorem dX6_seeWhoGetsIt_33 : decode cX6_seeWhoGetsIt 33 = .ok (.idiv, 1) := by decide +kernel
theorem dX6_seeWhoGetsIt_34 : decode cX6_seeWhoGetsIt 34 = .ok (.iastore, 1) := by decide +kernel
theorem dX6_seeWhoGetsIt_35 : decode cX6_seeWhoGetsIt 35 = .ok (.aload_n 0, 1) := by decide +kernel
theorem dX6_seeWhoGetsIt_36 : decode cX6_seeWhoGetsIt 36 = .ok (.getfield 16, 3) := by decide +kernel
theorem dX6_seeWhoGetsIt_39 : decode cX6_seeWhoGetsIt 39 = .ok (.getfield 134, 3) := by decide +kernel
theorem dX6_seeWhoGetsIt_42 : decode cX6_seeWhoGetsIt 42 = .ok (.iload_n 3, 1) := by decide +kernel
theorem dX6_seeWhoGetsIt_43 : decode cX6_seeWhoGetsIt 43 = .ok (.iload 4, 2) := by decide +kernel
theorem dX6_seeWhoGetsIt_45 : decode cX6_seeWhoGetsIt 45 = .ok (.bipush 6, 2) := by decide +kernel
theorem dX6_seeWhoGetsIt_47 : decode cX6_seeWhoGetsIt 47 = .ok (.irem, 1) := by decide +kernel
theorem dX6_seeWhoGetsIt_48 : decode cX6_seeWhoGetsIt 48 = .ok (.iastore, 1) := by decide +kernel
theorem dX6_seeWhoGetsIt_49 : decode cX6_seeWhoGetsIt 49 = .ok (.aload_n 0, 1) := by decide +kernel
theorem dX6_seeWhoGetsIt_50 : decode cX6_seeWhoGetsIt 50 = .ok (.getfield 51, 3) := by decide +kernel
theorem dX6_seeWhoGetsIt_53 : decode cX6_seeWhoGetsIt 53 = .ok (.iload 4, 2) := by decide +kernel
theorem dX6_seeWhoGetsIt_55 : decode cX6_seeWhoGetsIt 55 = .ok (.aload_n 0, 1) := by decide +kernel
theorem dX6_seeWhoGetsIt_56 : decode cX6_seeWhoGetsIt 56 = .ok (.getfield 16, 3) := by decide +kernel
theorem dX6_seeWhoGetsIt_59 : decode cX6_seeWhoGetsIt 59 = .ok (.iload_n 1, 1) := by decide +kernel
theorem dX6_seeWhoGetsIt_60 : decode cX6_seeWhoGetsIt 60 = .ok (.aload_n 0, 1) := by decide +kernel
theorem dX6_seeWhoGetsIt_61 : decode cX6_seeWhoGetsIt 61 = .ok (.getfield 16, 3) := by decide +kernel
theorem dX6_seeWhoGetsIt_64 : decode cX6_seeWhoGetsIt 64 = .ok (.getfield 121, 3) := by decide +kernel
theorem dX6_seeWhoGetsIt_67 : decode cX6_seeWhoGetsIt 67 = .ok (.iload_n 1, 1) := by decide +kernel
theorem dX6_seeWhoGetsIt_68 : decode cX6_seeWhoGetsIt 68 = .ok (.iaload, 1) := by decide +kernel
theorem dX6_seeWhoGetsIt_69 : decode cX6_seeWhoGetsIt 69 = .ok (.invokevirtual 180, 3) := by decide +kernel
theorem dX6_seeWhoGetsIt_72 : decode cX6_seeWhoGetsIt 72 = .ok (.iastore, 1) := by decide +kernel
theorem dX6_seeWhoGetsIt_73 : decode cX6_seeWhoGetsIt 73 = .ok (.iinc 4 1, 3) := by decide +kernel
theorem dX6_seeWhoGetsIt_76 : decode cX6_seeWhoGetsIt 76 = .ok (.goto (-62), 3) := by decide +kernel
theorem dX6_seeWhoGetsIt_79 : decode cX6_seeWhoGetsIt 79 = .ok (.return_, 1) := by decide +kernel
set_option maxRecDepth 20000 in
theorem ggX6_rests_X6_pay : GoodIn wsX6_rests wsX6_pay := goodIn_r _ [5, 6, 7, 8, 9, 10, 11, 12, 13, 14, 15, 16, 17, 18] (by decide +kernel) (by decide +kernel)
set_option maxRecDepth 20000 in
theorem gX6_rests_X6_pay : GoodIn wsX6_rests (wsV RX6 281 RX6 yX6_pay wsX6_pay) := goodIn_app (goodIn_of _ (by decide +kernel)) ggX6_rests_X6_pay
theorem dX6_rests_0 : decode cX6_rests 0 = .ok (.iload_n 1, 1) := by decide +kernel
theorem dX6_rests_1 : decode cX6_rests 1 = .ok (.bipush 6, 2) := by decide +kernel
theorem dX6_rests_3 : decode cX6_rests 3 = .ok (.idiv, 1) := by decide +kernel
theorem dX6_rests_4 : decode cX6_rests 4 = .ok (.istore 4, 2) := by decide +kernel
theorem dX6_rests_6 : decode cX6_rests 6 = .ok (.iload_n 1, 1) := by decide +kernel
theorem dX6_rests_7 : decode cX6_rests 7 = .ok (.bipush 6, 2) := by decide +kernel
theorem dX6_rests_9 : decode cX6_rests 9 = .ok (.irem, 1) := by decide +kernel
theorem dX6_rests_10 : decode cX6_rests 10 = .ok (.istore 5, 2) := by decide +kernel
theorem dX6_rests_12 : decode cX6_rests 12 = .ok (.aload_n 0, 1) := by decide +kernel
theorem dX6_rests_13 : decode cX6_rests 13 = .ok (.iload_n 1, 1) := by decide +kernel
theorem dX6_rests_14 : decode cX6_rests 14 = .ok (.iload_n 2, 1) := by decide +kernel
theorem dX6_rests_15 : decode cX6_rests 15 = .ok (.iload 4, 2) := by decide +kernel
theorem dX6_rests_17 : decode cX6_rests 17 = .ok (.invokevirtual 281, 3) := by decide +kernel
theorem dX6_rests_20 : decode cX6_rests 20 = .ok (.istore 6, 2) := by decide +kernel
theorem dX6_rests_22 : decode cX6_rests 22 = .ok (.aload_n 0, 1) := by decide +kernel
theorem dX6_rests_23 : decode cX6_rests 23 = .ok (.iload_n 1, 1) := by decide +kernel
theorem dX6_rests_24 : decode cX6_rests 24 = .ok (.iload_n 3, 1) := by decide +kernel
theorem dX6_rests_25 : decode cX6_rests 25 = .ok (.iload 5, 2) := by decide +kernel
theorem dX6_rests_27 : decode cX6_rests 27 = .ok (.invokevirtual 281, 3) := by decide +kernel
theorem dX6_rests_30 : decode cX6_rests 30 = .ok (.istore 7, 2) := by decide +kernel
theorem dX6_rests_32 : decode cX6_rests 32 = .ok (.iconst 0, 1) := by decide +kernel
theorem dX6_rests_33 : decode cX6_rests 33 = .ok (.istore 8, 2) := by decide +kernel
theorem dX6_rests_35 : decode cX6_rests 35 = .ok (.iload 8, 2) := by decide +kernel
theorem dX6_rests_37 : decode cX6_rests 37 = .ok (.bipush 6, 2) := by decide +kernel
theorem dX6_rests_39 : decode cX6_rests 39 = .ok (.if_icmp .ge 53, 3) := by decide +kernel
theorem dX6_rests_42 : decode cX6_rests 42 = .ok (.aload_n 0, 1) := by decide +kernel
theorem dX6_rests_43 : decode cX6_rests 43 = .ok (.bipush 6, 2) := by decide +kernel
theorem dX6_rests_45 : decode cX6_rests 45 = .ok (.iload 8, 2) := by decide +kernel
theorem dX6_rests_47 : decode cX6_rests 47 = .ok (.imul, 1) := by decide +kernel
theorem dX6_rests_48 : decode cX6_rests 48 = .ok (.iload 5, 2) := by decide +kernel
theorem dX6_rests_50 : decode cX6_rests 50 = .ok (.iadd, 1) := by decide +kernel
theorem dX6_rests_51 : decode cX6_rests 51 = .ok (.iload_n 2, 1) := by decide +kernel
theorem dX6_rests_52 : decode cX6_rests 52 = .ok (.iload 8, 2) := by decide +kernel
theorem dX6_rests_54 : decode cX6_rests 54 = .ok (.invokevirtual 281, 3) := by decide +kernel
theorem dX6_rests_57 : decode cX6_rests 57 = .ok (.iload 6, 2) := by decide +kernel
theorem dX6_rests_59 : decode cX6_rests 59 = .ok (.if_icmp .le 5, 3) := by decide +kernel
theorem dX6_rests_62 : decode cX6_rests 62 = .ok (.iconst 0, 1) := by decide +kernel
theorem dX6_rests_63 : decode cX6_rests 63 = .ok (.ireturn, 1) := by decide +kernel
theorem dX6_rests_64 : decode cX6_rests 64 = .ok (.aload_n 0, 1) := by decide +kernel
theorem dX6_rests_65 : decode cX6_rests 65 = .ok (.bipush 6, 2) := by decide +kernel
theorem dX6_rests_67 : decode cX6_rests 67 = .ok (.iload 4, 2) := by decide +kernel
theorem dX6_rests_69 : decode cX6_rests 69 = .ok (.imul, 1) := by decide +kernel
theorem dX6_rests_70 : decode cX6_rests 70 = .ok (.iload 8, 2) := by decide +kernel
theorem dX6_rests_72 : decode cX6_rests 72 = .ok (.iadd, 1) := by decide +kernel
theorem dX6_rests_73 : decode cX6_rests 73 = .ok (.iload_n 3, 1) := by decide +kernel
theorem dX6_rests_74 : decode cX6_rests 74 = .ok (.iload 8, 2) := by decide +kernel
theorem dX6_rests_76 : decode cX6_rests 76 = .ok (.invokevirtual 281, 3) := by decide +kernel
theorem dX6_rests_79 : decode cX6_rests 79 = .ok (.iload 7, 2) := by decide +kernel
theorem dX6_rests_81 : decode cX6_rests 81 = .ok (.if_icmp .le 5, 3) := by decide +kernel
theorem dX6_rests_84 : decode cX6_rests 84 = .ok (.iconst 0, 1) := by decide +kernel
theorem dX6_rests_85 : decode cX6_rests 85 = .ok (.ireturn, 1) := by decide +kernel
theorem dX6_rests_86 : decode cX6_rests 86 = .ok (.iinc 8 1, 3) := by decide +kernel
theorem dX6_rests_89 : decode cX6_rests 89 = .ok (.goto (-54), 3) := by decide +kernel
theorem dX6_rests_92 : decode cX6_rests 92 = .ok (.iconst 1, 1) := by decide +kernel
theorem dX6_rests_93 : decode cX6_rests 93 = .ok (.ireturn, 1) := by decide +kernel
theorem dX6_pay_0 : decode cX6_pay 0 = .ok (.aload_n 0, 1) := by decide +kernel
theorem dX6_pay_1 : decode cX6_pay 1 = .ok (.getfield 51, 3) := by decide +kernel
theorem dX6_pay_4 : decode cX6_pay 4 = .ok (.iload_n 1, 1) := by decide +kernel
theorem dX6_pay_5 : decode cX6_pay 5 = .ok (.iaload, 1) := by decide +kernel
theorem dX6_pay_6 : decode cX6_pay 6 = .ok (.iload_n 2, 1) := by decide +kernel
theorem dX6_pay_7 : decode cX6_pay 7 = .ok (.if_icmp .ne 11, 3) := by decide +kernel
theorem dX6_pay_10 : decode cX6_pay 10 = .ok (.iload_n 3, 1) := by decide +kernel
theorem dX6_pay_11 : decode cX6_pay 11 = .ok (.ineg, 1) := by decide +kernel
theorem dX6_pay_12 : decode cX6_pay 12 = .ok (.bipush 6, 2) := by decide +kernel
theorem dX6_pay_14 : decode cX6_pay 14 = .ok (.isub, 1) := by decide +kernel
theorem dX6_pay_15 : decode cX6_pay 15 = .ok (.goto 5, 3) := by decide +kernel
theorem dX6_pay_18 : decode cX6_pay 18 = .ok (.iload_n 3, 1) := by decide +kernel
theorem dX6_pay_19 : decode cX6_pay 19 = .ok (.ineg, 1) := by decide +kernel
theorem dX6_pay_20 : decode cX6_pay 20 = .ok (.ireturn, 1) := by decide +kernel
theorem dX6_commonDivisor_0 : decode cX6_commonDivisor 0 = .ok (.lload_n 0, 1) := by decide +kernel
theorem dX6_commonDivisor_1 : decode cX6_commonDivisor 1 = .ok (.lstore 4, 2) := by decide +kernel
theorem dX6_commonDivisor_3 : decode cX6_commonDivisor 3 = .ok (.lload_n 2, 1) := by decide +kernel
theorem dX6_commonDivisor_4 : decode cX6_commonDivisor 4 = .ok (.lstore 6, 2) := by decide +kernel
theorem dX6_commonDivisor_6 : decode cX6_commonDivisor 6 = .ok (.iconst 0, 1) := by decide +kernel
theorem dX6_commonDivisor_7 : decode cX6_commonDivisor 7 = .ok (.istore 8, 2) := by decide +kernel
theorem dX6_commonDivisor_9 : decode cX6_commonDivisor 9 = .ok (.iload 8, 2) := by decide +kernel
theorem dX6_commonDivisor_11 : decode cX6_commonDivisor 11 = .ok (.sipush 200, 3) := by decide +kernel
theorem dX6_commonDivisor_14 : decode cX6_commonDivisor 14 = .ok (.if_icmp .ge 31, 3) := by decide +kernel
theorem dX6_commonDivisor_17 : decode cX6_commonDivisor 17 = .ok (.lload 6, 2) := by decide +kernel
theorem dX6_commonDivisor_19 : decode cX6_commonDivisor 19 = .ok (.lconst 0, 1) := by decide +kernel
theorem dX6_commonDivisor_20 : decode cX6_commonDivisor 20 = .ok (.lcmp, 1) := by decide +kernel
theorem dX6_commonDivisor_21 : decode cX6_commonDivisor 21 = .ok (.ifCond .eq 24, 3) := by decide +kernel
theorem dX6_commonDivisor_24 : decode cX6_commonDivisor 24 = .ok (.lload 4, 2) := by decide +kernel
theorem dX6_commonDivisor_26 : decode cX6_commonDivisor 26 = .ok (.lload 6, 2) := by decide +kernel
theorem dX6_commonDivisor_28 : decode cX6_commonDivisor 28 = .ok (.lrem, 1) := by decide +kernel
theorem dX6_commonDivisor_29 : decode cX6_commonDivisor 29 = .ok (.lstore 9, 2) := by decide +kernel
theorem dX6_commonDivisor_31 : decode cX6_commonDivisor 31 = .ok (.lload 6, 2) := by decide +kernel
theorem dX6_commonDivisor_33 : decode cX6_commonDivisor 33 = .ok (.lstore 4, 2) := by decide +kernel
theorem dX6_commonDivisor_35 : decode cX6_commonDivisor 35 = .ok (.lload 9, 2) := by decide +kernel
theorem dX6_commonDivisor_37 : decode cX6_commonDivisor 37 = .ok (.lstore 6, 2) := by decide +kernel
theorem dX6_commonDivisor_39 : decode cX6_commonDivisor 39 = .ok (.iinc 8 1, 3) := by decide +kernel
theorem dX6_commonDivisor_42 : decode cX6_commonDivisor 42 = .ok (.goto (-33), 3) := by decide +kernel
theorem dX6_commonDivisor_45 : decode cX6_commonDivisor 45 = .ok (.lload 4, 2) := by decide +kernel
theorem dX6_commonDivisor_47 : decode cX6_commonDivisor 47 = .ok (.lconst 1, 1) := by decide +kernel
theorem dX6_commonDivisor_48 : decode cX6_commonDivisor 48 = .ok (.lcmp, 1) := by decide +kernel
theorem dX6_commonDivisor_49 : decode cX6_commonDivisor 49 = .ok (.ifCond .ge 7, 3) := by decide +kernel
theorem dX6_commonDivisor_52 : decode cX6_commonDivisor 52 = .ok (.lconst 1, 1) := by decide +kernel
theorem dX6_commonDivisor_53 : decode cX6_commonDivisor 53 = .ok (.goto 5, 3) := by decide +kernel
theorem dX6_commonDivisor_56 : decode cX6_commonDivisor 56 = .ok (.lload 4, 2) := by decide +kernel
theorem dX6_commonDivisor_58 : decode cX6_commonDivisor 58 = .ok (.lreturn, 1) := by decide +kernel
