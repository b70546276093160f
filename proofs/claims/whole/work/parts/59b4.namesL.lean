set_option maxRecDepth 20000 in
theorem ggL_law_X6_coats : GoodIn wsL_law wsX6_coats := goodIn_r _ [864, 468, 469, 470, 2, 471, 15, 169, 126, 127, 128, 170, 171, 172, 173, 105, 129, 130, 131, 132, 29, 865, 866, 867, 868, 16, 551, 32, 467, 357, 358, 359, 14, 360, 38, 39, 40, 41, 42, 43, 44, 45, 46, 50, 51, 52, 110, 111, 112, 361, 362, 363, 364, 344, 365, 366, 367, 368, 369, 370, 371, 372, 49, 373, 60, 59, 637, 638, 639, 640, 334, 335, 336, 337, 338, 339, 340, 341, 342, 343, 345, 346, 347, 348, 349, 350, 351, 352, 353, 354, 355, 356, 869, 870, 871, 872, 873, 874, 875, 876, 1028, 1029, 1030, 1031, 1032, 1033, 1034, 1035, 1036, 1037, 1038, 1039, 1065, 1066, 1067, 1068, 1069, 1070, 1071, 1072, 1073, 1074, 1075, 1076, 1077, 1078, 1079, 1091, 1092, 1093, 1094] (by decide +kernel) (by decide +kernel)
set_option maxRecDepth 20000 in
theorem gL_law_X6_coats : GoodIn wsL_law (wsV RL 135 RX6 yX6_coats wsX6_coats) := goodIn_app (goodIn_of _ (by decide +kernel)) ggL_law_X6_coats
set_option maxRecDepth 20000 in
theorem ggL_law_X7_coats : GoodIn wsL_law wsX7_coats := goodIn_r _ [880, 501, 502, 503, 5, 504, 190, 191, 192, 193, 79, 147, 148, 149, 186, 187, 188, 189, 118, 119, 120, 121, 154, 155, 156, 157, 82, 881, 882, 883, 884, 84, 90, 91, 436, 437, 438, 439, 645, 646, 647, 648, 440, 441, 442, 443, 444, 445, 446, 447, 448, 449, 450, 451, 452, 453, 454, 455, 456, 457, 458, 459, 460, 461, 885, 886, 887, 888, 1040, 1041, 1042, 1043, 1044, 1045, 1046, 1047, 1048, 1049, 1050, 1051, 1052, 1053, 1054, 1055, 1056, 1057, 1058, 1059, 1060, 1061, 1062, 1063, 1064] (by decide +kernel) (by decide +kernel)
set_option maxRecDepth 20000 in
theorem gL_law_X7_coats : GoodIn wsL_law (wsV RL 138 RX7 yX7_coats wsX7_coats) := goodIn_app (goodIn_of _ (by decide +kernel)) ggL_law_X7_coats
set_option maxRecDepth 20000 in
theorem ggL_law_X6_odds : GoodIn wsL_law wsX6_odds := goodIn_r _ [892, 27, 15, 893, 33, 34, 468, 469, 470, 2, 471, 169, 126, 127, 128, 170, 171, 172, 173, 105, 129, 130, 131, 132, 29, 894, 895, 896, 26, 897, 680, 71, 681, 682, 683, 684, 72, 685, 686, 687, 688, 689, 898, 899, 900, 901, 73, 74, 694, 695, 696, 902, 700, 335, 336, 14, 337, 110, 338, 339, 340, 341, 38, 41, 40, 39, 342, 343, 344, 345, 346, 347, 348, 349, 350, 351, 352, 353, 354, 355, 356, 701, 702, 703, 704, 705, 367, 368, 369, 903, 904, 905, 1028, 1029, 1030, 1031, 1032, 1033, 1034, 1035, 1036, 1037, 1038, 1039, 1065, 1066, 1067, 1068, 1069, 1070, 1071, 1072, 1073, 1074, 1075, 1076, 1077, 1078, 1079, 1086, 1087, 1088, 1089, 1090] (by decide +kernel) (by decide +kernel)
set_option maxRecDepth 20000 in
theorem gL_law_X6_odds : GoodIn wsL_law (wsV RL 139 RX6 yX6_odds wsX6_odds) := goodIn_app (goodIn_of _ (by decide +kernel)) ggL_law_X6_odds
set_option maxRecDepth 20000 in
theorem ggL_law_X7_odds : GoodIn wsL_law wsX7_odds := goodIn_r _ [909, 608, 910, 79, 92, 501, 502, 503, 5, 504, 190, 191, 192, 193, 147, 148, 149, 186, 187, 188, 189, 118, 119, 120, 121, 154, 155, 156, 157, 82, 436, 437, 438, 439, 84, 911, 912, 913, 914, 93, 440, 441, 442, 443, 444, 445, 446, 447, 448, 449, 450, 451, 452, 453, 454, 455, 456, 457, 458, 459, 460, 461, 915, 916, 917, 918, 919, 83, 1040, 1041, 1042, 1043, 1044, 1045, 1046, 1047, 1048, 1049, 1050, 1051, 1052, 1053, 1054, 1055, 1056, 1057, 1058, 1059, 1060, 1061, 1062, 1063, 1064] (by decide +kernel) (by decide +kernel)
set_option maxRecDepth 20000 in
theorem gL_law_X7_odds : GoodIn wsL_law (wsV RL 142 RX7 yX7_odds wsX7_odds) := goodIn_app (goodIn_of _ (by decide +kernel)) ggL_law_X7_odds
set_option maxRecDepth 20000 in
theorem ggL_law_X6_years : GoodIn wsL_law wsX6_years := goodIn_r _ [923, 924, 16, 15, 925, 926, 927, 928, 929, 169, 466, 126, 127, 2, 128, 129, 130, 131, 132, 29, 357, 358, 359, 14, 360, 38, 39, 40, 41, 42, 43, 44, 45, 46, 50, 51, 52, 110, 111, 112, 361, 362, 363, 364, 344, 365, 366, 367, 368, 369, 370, 371, 372, 49, 373, 60, 59, 561, 331, 332, 333, 334, 335, 336, 337, 338, 339, 340, 341, 342, 343, 345, 346, 347, 348, 349, 350, 351, 352, 353, 354, 355, 356, 930, 931, 932, 933, 1028, 1029, 1030, 1031, 1032, 1033, 1034, 1035, 1036, 1037, 1038, 1039, 1065, 1066, 1067, 1068, 1069, 1070, 1071, 1072, 1073, 1074, 1075, 1076, 1077, 1078, 1079, 1091, 1092, 1093, 1094] (by decide +kernel) (by decide +kernel)
set_option maxRecDepth 20000 in
theorem gL_law_X6_years : GoodIn wsL_law (wsV RL 143 RX6 yX6_years wsX6_years) := goodIn_app (goodIn_of _ (by decide +kernel)) ggL_law_X6_years
set_option maxRecDepth 20000 in
theorem ggL_law_X7_years : GoodIn wsL_law wsX7_years := goodIn_r _ [937, 938, 939, 94, 79, 940, 941, 942, 943, 145, 147, 148, 5, 149, 154, 155, 156, 157, 82, 501, 502, 503, 504, 190, 191, 192, 193, 432, 433, 434, 435, 436, 437, 438, 439, 84, 440, 441, 442, 443, 444, 445, 446, 447, 448, 449, 450, 451, 452, 453, 454, 455, 456, 457, 458, 459, 460, 461, 944, 945, 946, 947, 1040, 1041, 1042, 1043, 1044, 1045, 1046, 1047, 1048, 1049, 1050, 1051, 1052, 1053, 1054, 1055, 1056, 1057, 1058, 1059, 1060, 1061, 1062, 1063, 1064] (by decide +kernel) (by decide +kernel)
set_option maxRecDepth 20000 in
theorem gL_law_X7_years : GoodIn wsL_law (wsV RL 146 RX7 yX7_years wsX7_years) := goodIn_app (goodIn_of _ (by decide +kernel)) ggL_law_X7_years
set_option maxRecDepth 20000 in
theorem ggL_law_X6_part : GoodIn wsL_law wsX6_part := goodIn_r _ [951, 33, 34, 126, 127, 2, 128, 129, 130, 131, 132, 29, 1028, 1029, 1030, 1031, 1032, 1033, 1034, 1035, 1036, 1037, 1038, 1039] (by decide +kernel) (by decide +kernel)
set_option maxRecDepth 20000 in
theorem gL_law_X6_part : GoodIn wsL_law (wsV RL 147 RX6 yX6_part wsX6_part) := goodIn_app (goodIn_of _ (by decide +kernel)) ggL_law_X6_part
set_option maxRecDepth 20000 in
theorem ggL_law_X7_part : GoodIn wsL_law wsX7_part := goodIn_r _ [955, 919, 83, 154, 155, 156, 5, 157, 82, 1040, 1041, 1042, 1043, 1044, 1045, 1046, 1047, 1048, 1049, 1050, 1051, 1052, 1053, 1054, 1055, 1056, 1057, 1058, 1059, 1060, 1061, 1062, 1063, 1064] (by decide +kernel) (by decide +kernel)
set_option maxRecDepth 20000 in
theorem gL_law_X7_part : GoodIn wsL_law (wsV RL 151 RX7 yX7_part wsX7_part) := goodIn_app (goodIn_of _ (by decide +kernel)) ggL_law_X7_part
set_option maxRecDepth 20000 in
theorem ggL_law_X6_image : GoodIn wsL_law wsX6_image := goodIn_r _ [959, 17, 15, 19, 126, 127, 2, 128, 129, 130, 131, 132, 29, 357, 358, 359, 14, 360, 38, 39, 40, 41, 42, 43, 44, 45, 46, 50, 51, 52, 110, 111, 112, 361, 362, 363, 364, 344, 365, 366, 367, 368, 369, 370, 371, 372, 49, 373, 60, 59, 1028, 1029, 1030, 1031, 1032, 1033, 1034, 1035, 1036, 1037, 1038, 1039, 1065, 1066, 1067, 1068, 1069, 1070, 1071, 1072, 1073, 1074, 1075, 1076, 1077, 1078, 1079, 1091, 1092, 1093, 1094] (by decide +kernel) (by decide +kernel)
set_option maxRecDepth 20000 in
theorem gL_law_X6_image : GoodIn wsL_law (wsV RL 152 RX6 yX6_image wsX6_image) := goodIn_app (goodIn_of _ (by decide +kernel)) ggL_law_X6_image
set_option maxRecDepth 20000 in
theorem ggL_law_X7_image : GoodIn wsL_law wsX7_image := goodIn_r _ [963, 80, 79, 81, 147, 148, 5, 149, 154, 155, 156, 157, 82, 1040, 1041, 1042, 1043, 1044, 1045, 1046, 1047, 1048, 1049, 1050, 1051, 1052, 1053, 1054, 1055, 1056, 1057, 1058, 1059, 1060, 1061, 1062, 1063, 1064] (by decide +kernel) (by decide +kernel)
set_option maxRecDepth 20000 in
theorem gL_law_X7_image : GoodIn wsL_law (wsV RL 155 RX7 yX7_image wsX7_image) := goodIn_app (goodIn_of _ (by decide +kernel)) ggL_law_X7_image
set_option maxRecDepth 20000 in
theorem ggL_law_X6_from : GoodIn wsL_law wsX6_from := goodIn_r _ [967, 19, 15, 17, 126, 127, 2, 128, 129, 130, 131, 132, 29, 472, 473, 474, 475, 357, 358, 359, 14, 360, 38, 39, 40, 41, 42, 43, 44, 45, 46, 50, 51, 52, 110, 111, 112, 361, 362, 363, 364, 344, 365, 366, 367, 368, 369, 370, 371, 372, 49, 373, 60, 59, 1028, 1029, 1030, 1031, 1032, 1033, 1034, 1035, 1036, 1037, 1038, 1039, 1065, 1066, 1067, 1068, 1069, 1070, 1071, 1072, 1073, 1074, 1075, 1076, 1077, 1078, 1079, 1091, 1092, 1093, 1094] (by decide +kernel) (by decide +kernel)
set_option maxRecDepth 20000 in
theorem gL_law_X6_from : GoodIn wsL_law (wsV RL 156 RX6 yX6_from wsX6_from) := goodIn_app (goodIn_of _ (by decide +kernel)) ggL_law_X6_from
set_option maxRecDepth 20000 in
theorem ggL_law_X7_from : GoodIn wsL_law wsX7_from := goodIn_r _ [971, 81, 79, 80, 147, 148, 5, 149, 154, 155, 156, 157, 82, 505, 506, 507, 508, 1040, 1041, 1042, 1043, 1044, 1045, 1046, 1047, 1048, 1049, 1050, 1051, 1052, 1053, 1054, 1055, 1056, 1057, 1058, 1059, 1060, 1061, 1062, 1063, 1064] (by decide +kernel) (by decide +kernel)
set_option maxRecDepth 20000 in
theorem gL_law_X7_from : GoodIn wsL_law (wsV RL 159 RX7 yX7_from wsX7_from) := goodIn_app (goodIn_of _ (by decide +kernel)) ggL_law_X7_from
set_option maxRecDepth 20000 in
theorem ggL_law_X6_status : GoodIn wsL_law wsX6_status := goodIn_r _ [975, 29, 126, 127, 2, 128, 129, 130, 131, 132, 1028, 1029, 1030, 1031, 1032, 1033, 1034, 1035, 1036, 1037, 1038, 1039] (by decide +kernel) (by decide +kernel)
set_option maxRecDepth 20000 in
theorem gL_law_X6_status : GoodIn wsL_law (wsV RL 160 RX6 yX6_status wsX6_status) := goodIn_app (goodIn_of _ (by decide +kernel)) ggL_law_X6_status
set_option maxRecDepth 20000 in
theorem ggL_law_X7_status : GoodIn wsL_law wsX7_status := goodIn_r _ [979, 980, 82, 147, 148, 5, 149, 154, 155, 156, 157, 1040, 1041, 1042, 1043, 1044, 1045, 1046, 1047, 1048, 1049, 1050, 1051, 1052, 1053, 1054, 1055, 1056, 1057, 1058, 1059, 1060, 1061, 1062, 1063, 1064] (by decide +kernel) (by decide +kernel)
set_option maxRecDepth 20000 in
theorem gL_law_X7_status : GoodIn wsL_law (wsV RL 163 RX7 yX7_status wsX7_status) := goodIn_app (goodIn_of _ (by decide +kernel)) ggL_law_X7_status
set_option maxRecDepth 20000 in
theorem ggL_law_X6_count : GoodIn wsL_law wsX6_count := goodIn_r _ [984, 126, 127, 2, 128, 129, 130, 131, 132, 29, 985, 986, 987, 988, 15, 105, 169, 560, 773, 580, 786, 579, 23, 201, 562, 563, 564, 14, 565, 111, 46, 930, 931, 932, 933, 45, 44, 1028, 1029, 1030, 1031, 1032, 1033, 1034, 1035, 1036, 1037, 1038, 1039, 1065, 1066, 1067, 1068, 1069, 1070, 1071, 1072, 1073, 1074, 1075, 1076, 1077, 1078, 1079, 1091, 1092, 1093, 1094, 1080, 1081, 1082, 1083, 1084, 1085] (by decide +kernel) (by decide +kernel)
set_option maxRecDepth 20000 in
theorem gL_law_X6_count : GoodIn wsL_law (wsV RL 164 RX6 yX6_count wsX6_count) := goodIn_app (goodIn_of _ (by decide +kernel)) ggL_law_X6_count
set_option maxRecDepth 20000 in
theorem ggL_law_X7_count : GoodIn wsL_law wsX7_count := goodIn_r _ [992, 993, 147, 148, 5, 149, 994, 995, 996, 997, 79, 212, 118, 119, 120, 121, 190, 191, 192, 193, 571, 572, 573, 574, 944, 945, 946, 947, 154, 155, 156, 157, 82, 1040, 1041, 1042, 1043, 1044, 1045, 1046, 1047, 1048, 1049, 1050, 1051, 1052, 1053, 1054, 1055, 1056, 1057, 1058, 1059, 1060, 1061, 1062, 1063, 1064] (by decide +kernel) (by decide +kernel)
set_option maxRecDepth 20000 in
theorem gL_law_X7_count : GoodIn wsL_law (wsV RL 167 RX7 yX7_count wsX7_count) := goodIn_app (goodIn_of _ (by decide +kernel)) ggL_law_X7_count
set_option maxRecDepth 20000 in
theorem ggL_law_X6_digest : GoodIn wsL_law wsX6_digest := goodIn_r _ [1001, 1002, 1003, 15, 773, 786, 33, 34, 985, 986, 987, 2, 988, 105, 169, 560, 580, 579, 23, 201, 562, 563, 564, 14, 565, 111, 46, 930, 931, 932, 933, 45, 44, 1004, 1005, 1006, 1007, 110, 1008, 38, 39, 40, 41, 1009, 1010, 1011, 1012, 42, 43, 1013, 1014, 1015, 49, 1016, 60, 57, 59, 1017, 1028, 1029, 1030, 1031, 1032, 1033, 1034, 1035, 1036, 1037, 1038, 1039, 1065, 1066, 1067, 1068, 1069, 1070, 1071, 1072, 1073, 1074, 1075, 1076, 1077, 1078, 1079, 1091, 1092, 1093, 1094, 1080, 1081, 1082, 1083, 1084, 1085] (by decide +kernel) (by decide +kernel)
set_option maxRecDepth 20000 in
theorem gL_law_X6_digest : GoodIn wsL_law (wsV RL 168 RX6 yX6_digest wsX6_digest) := goodIn_app (goodIn_of _ (by decide +kernel)) ggL_law_X6_digest
set_option maxRecDepth 20000 in
theorem ggL_law_X7_digest : GoodIn wsL_law wsX7_digest := goodIn_r _ [1021, 1022, 1023, 79, 919, 83, 994, 995, 996, 5, 997, 212, 118, 119, 120, 121, 190, 191, 192, 193, 571, 572, 573, 574, 944, 945, 946, 947, 1024, 1025, 1026, 1027, 1040, 1041, 1042, 1043, 1044, 1045, 1046, 1047, 1048, 1049, 1050, 1051, 1052, 1053, 1054, 1055, 1056, 1057, 1058, 1059, 1060, 1061, 1062, 1063, 1064] (by decide +kernel) (by decide +kernel)
set_option maxRecDepth 20000 in
theorem gL_law_X7_digest : GoodIn wsL_law (wsV RL 172 RX7 yX7_digest wsX7_digest) := goodIn_app (goodIn_of _ (by decide +kernel)) ggL_law_X7_digest
