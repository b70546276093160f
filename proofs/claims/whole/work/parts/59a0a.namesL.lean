set_option maxRecDepth 20000 in
theorem wsLm_16 : ∀ w ∈ wsL_law_r16, w ∈ lw_tbl := lw_memr _ [463, 465, 466, 467, 468, 469, 470, 472, 471, 80, 473, 474, 475, 476, 1161, 1162, 1163, 1164, 815, 817, 1165, 1167, 54, 1168] (by decide +kernel)
set_option maxRecDepth 20000 in
theorem wsLm_17 : ∀ w ∈ wsL_law_r17, w ∈ lw_tbl := lw_memr _ [816, 818, 1169, 1170, 1171, 1172, 1173, 1174, 1175, 1176, 1177, 1178, 1179, 1181, 55, 1182, 1183, 1185, 56, 1186, 1187, 1189, 57, 1190] (by decide +kernel)
set_option maxRecDepth 20000 in
theorem wsLm_18 : ∀ w ∈ wsL_law_r18, w ∈ lw_tbl := lw_memr _ [1191, 1193, 58, 1194, 1195, 1197, 59, 1198, 1199, 1201, 60, 1202, 1203, 1205, 61, 1206, 1207, 1209, 62, 1210, 1211, 1213, 63, 1214] (by decide +kernel)
set_option maxRecDepth 20000 in
theorem wsLm_19 : ∀ w ∈ wsL_law_r19, w ∈ lw_tbl := lw_memr _ [970, 972, 37, 973, 943, 945, 34, 946, 974, 976, 38, 977, 978, 979, 981, 39, 982, 983, 984, 985, 951, 953, 36, 954] (by decide +kernel)
set_option maxRecDepth 20000 in
theorem wsLm_20 : ∀ w ∈ wsL_law_r20, w ∈ lw_tbl := lw_memr _ [955, 956, 957, 986, 987, 988, 479, 480, 481, 482, 140, 136, 483, 485, 13, 486, 487, 489, 14, 490, 491, 492, 493, 494] (by decide +kernel)
set_option maxRecDepth 20000 in
theorem wsLm_21 : ∀ w ∈ wsL_law_r21, w ∈ lw_tbl := lw_memr _ [495, 496, 497, 498, 499, 500, 501, 502, 503, 504, 505, 506, 507, 508, 509, 510, 511, 923, 924, 925, 926, 927, 929, 31] (by decide +kernel)
set_option maxRecDepth 20000 in
theorem wsLm_22 : ∀ w ∈ wsL_law_r22, w ∈ lw_tbl := lw_memr _ [930, 931, 933, 32, 934, 935, 937, 33, 938, 512, 513, 514, 515, 133, 516, 517, 518, 519, 520, 521, 522, 523, 524, 525] (by decide +kernel)
set_option maxRecDepth 20000 in
theorem wsLm_23 : ∀ w ∈ wsL_law_r23, w ∈ lw_tbl := lw_memr _ [526, 527, 528, 529, 530, 531, 532, 533, 939, 940, 941, 942, 947, 949, 35, 950, 958, 959, 960, 534, 535, 536, 537, 123] (by decide +kernel)
set_option maxRecDepth 20000 in
theorem wsLm_24 : ∀ w ∈ wsL_law_r24, w ∈ lw_tbl := lw_memr _ [961, 962, 963, 964, 538, 539, 540, 541, 156, 542, 543, 544, 545, 546, 965, 966, 967, 968, 969, 989, 991, 40, 992, 547] (by decide +kernel)
set_option maxRecDepth 20000 in
theorem wsLm_25 : ∀ w ∈ wsL_law_r25, w ∈ lw_tbl := lw_memr _ [548, 549, 550, 146, 106, 551, 552, 553, 554, 555, 556, 557, 558, 993, 994, 995, 996, 559, 560, 561, 562, 118, 120, 125] (by decide +kernel)
set_option maxRecDepth 20000 in
theorem wsLm_26 : ∀ w ∈ wsL_law_r26, w ∈ lw_tbl := lw_memr _ [563, 564, 565, 566, 997, 998, 999, 1000, 1001, 1002, 1004, 41, 1005, 567, 568, 569, 570, 128, 131, 1006, 1007, 1008, 1009, 1010] (by decide +kernel)
set_option maxRecDepth 20000 in
theorem wsLm_27 : ∀ w ∈ wsL_law_r27, w ∈ lw_tbl := lw_memr _ [571, 572, 573, 574, 575, 1011, 1012, 1013, 1014, 576, 577, 578, 579, 580, 581, 582, 583, 1015, 1016, 1017, 1018, 1019, 1021, 42] (by decide +kernel)
set_option maxRecDepth 20000 in
theorem wsLm_28 : ∀ w ∈ wsL_law_r28, w ∈ lw_tbl := lw_memr _ [1022, 584, 585, 586, 587, 1023, 1024, 1025, 1026, 1027, 588, 589, 590, 591, 592, 593, 594, 1028, 1029, 1030, 1031, 595, 596, 597] (by decide +kernel)
set_option maxRecDepth 20000 in
theorem wsLm_29 : ∀ w ∈ wsL_law_r29, w ∈ lw_tbl := lw_memr _ [598, 228, 599, 600, 601, 602, 603, 227, 155, 604, 606, 15, 607, 138, 135, 608, 609, 610, 611, 613, 16, 614, 150, 127] (by decide +kernel)
set_option maxRecDepth 20000 in
theorem wsLm_30 : ∀ w ∈ wsL_law_r30, w ∈ lw_tbl := lw_memr _ [130, 616, 617, 618, 615, 619, 621, 17, 622, 623, 1032, 1033, 1034, 1035, 1036, 1038, 43, 1039, 1040, 1042, 44, 1043, 1044, 1046] (by decide +kernel)
