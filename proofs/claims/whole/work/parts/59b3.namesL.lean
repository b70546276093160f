set_option maxRecDepth 20000 in
theorem ggL_law_X6_costs : GoodIn wsL_law wsX6_costs := goodIn_r _ [733, 15, 169, 518, 519, 520, 14, 521, 46, 45, 44, 522, 523, 524, 525, 38, 43, 112, 526, 527, 528, 529, 41, 40, 346, 347, 348, 349, 530, 531, 532, 533, 534, 344, 535, 1028, 1029, 1030, 1031, 1032, 1033, 1034, 1035, 1036, 1037, 1038, 1039, 1065, 1066, 1067, 1068, 1069, 1070, 1071, 1072, 1073, 1074, 1075, 1076, 1077, 1078, 1079] (by decide +kernel) (by decide +kernel)
set_option maxRecDepth 20000 in
theorem gL_law_X6_costs : GoodIn wsL_law (wsV RL 94 RX6 yX6_costs wsX6_costs) := goodIn_app (goodIn_of _ (by decide +kernel)) ggL_law_X6_costs
set_option maxRecDepth 20000 in
theorem ggL_law_X7_costs : GoodIn wsL_law wsX7_costs := goodIn_r _ [737, 88, 738, 739, 740, 5, 741, 79, 436, 437, 438, 439, 84, 190, 191, 192, 193, 540, 541, 542, 543, 452, 453, 454, 455, 456, 457, 458, 544, 545, 546, 1040, 1041, 1042, 1043, 1044, 1045, 1046, 1047, 1048, 1049, 1050, 1051, 1052, 1053, 1054, 1055, 1056, 1057, 1058, 1059, 1060, 1061, 1062, 1063, 1064] (by decide +kernel) (by decide +kernel)
set_option maxRecDepth 20000 in
theorem gL_law_X7_costs : GoodIn wsL_law (wsV RL 97 RX7 yX7_costs wsX7_costs) := goodIn_app (goodIn_of _ (by decide +kernel)) ggL_law_X7_costs
set_option maxRecDepth 20000 in
theorem ggL_law_X6_few : GoodIn wsL_law wsX6_few := goodIn_r _ [745, 31, 126, 127, 2, 128, 129, 130, 131, 132, 29, 746, 747, 748, 749, 15, 169, 518, 519, 520, 14, 521, 46, 45, 44, 522, 523, 524, 525, 38, 43, 112, 526, 527, 528, 529, 41, 40, 346, 347, 348, 349, 530, 531, 532, 533, 534, 344, 535, 1028, 1029, 1030, 1031, 1032, 1033, 1034, 1035, 1036, 1037, 1038, 1039, 1065, 1066, 1067, 1068, 1069, 1070, 1071, 1072, 1073, 1074, 1075, 1076, 1077, 1078, 1079] (by decide +kernel) (by decide +kernel)
set_option maxRecDepth 20000 in
theorem gL_law_X6_few : GoodIn wsL_law (wsV RL 98 RX6 yX6_few wsX6_few) := goodIn_app (goodIn_of _ (by decide +kernel)) ggL_law_X6_few
set_option maxRecDepth 20000 in
theorem ggL_law_X7_few : GoodIn wsL_law wsX7_few := goodIn_r _ [753, 754, 88, 147, 148, 5, 149, 154, 155, 156, 157, 82, 738, 739, 740, 741, 79, 436, 437, 438, 439, 84, 190, 191, 192, 193, 540, 541, 542, 543, 452, 453, 454, 455, 456, 457, 458, 544, 545, 546, 755, 756, 757, 758, 759, 760, 1040, 1041, 1042, 1043, 1044, 1045, 1046, 1047, 1048, 1049, 1050, 1051, 1052, 1053, 1054, 1055, 1056, 1057, 1058, 1059, 1060, 1061, 1062, 1063, 1064] (by decide +kernel) (by decide +kernel)
set_option maxRecDepth 20000 in
theorem gL_law_X7_few : GoodIn wsL_law (wsV RL 101 RX7 yX7_few wsX7_few) := goodIn_app (goodIn_of _ (by decide +kernel)) ggL_law_X7_few
set_option maxRecDepth 20000 in
theorem ggL_law_X6_loser : GoodIn wsL_law wsX6_loser := goodIn_r _ [764, 15, 105, 468, 469, 470, 2, 471, 169, 126, 127, 128, 170, 171, 172, 173, 129, 130, 131, 132, 29, 637, 638, 639, 14, 640, 42, 43, 112, 334, 335, 336, 337, 110, 338, 339, 340, 341, 38, 41, 40, 39, 342, 343, 344, 345, 346, 347, 348, 349, 350, 351, 352, 353, 354, 355, 356, 1028, 1029, 1030, 1031, 1032, 1033, 1034, 1035, 1036, 1037, 1038, 1039, 1065, 1066, 1067, 1068, 1069, 1070, 1071, 1072, 1073, 1074, 1075, 1076, 1077, 1078, 1079] (by decide +kernel) (by decide +kernel)
set_option maxRecDepth 20000 in
theorem gL_law_X6_loser : GoodIn wsL_law (wsV RL 102 RX6 yX6_loser wsX6_loser) := goodIn_app (goodIn_of _ (by decide +kernel)) ggL_law_X6_loser
set_option maxRecDepth 20000 in
theorem ggL_law_X7_loser : GoodIn wsL_law wsX7_loser := goodIn_r _ [768, 79, 501, 502, 503, 5, 504, 190, 191, 192, 193, 147, 148, 149, 186, 187, 188, 189, 118, 119, 120, 121, 154, 155, 156, 157, 82, 436, 437, 438, 439, 84, 645, 646, 647, 648, 440, 441, 442, 443, 444, 445, 446, 447, 448, 449, 450, 451, 452, 453, 454, 455, 456, 457, 458, 459, 460, 461, 1040, 1041, 1042, 1043, 1044, 1045, 1046, 1047, 1048, 1049, 1050, 1051, 1052, 1053, 1054, 1055, 1056, 1057, 1058, 1059, 1060, 1061, 1062, 1063, 1064] (by decide +kernel) (by decide +kernel)
set_option maxRecDepth 20000 in
theorem gL_law_X7_loser : GoodIn wsL_law (wsV RL 105 RX7 yX7_loser wsX7_loser) := goodIn_app (goodIn_of _ (by decide +kernel)) ggL_law_X7_loser
set_option maxRecDepth 20000 in
theorem ggL_law_X6_note : GoodIn wsL_law wsX6_note := goodIn_r _ [772, 15, 773, 580, 170, 171, 172, 2, 173, 105, 126, 127, 128, 129, 130, 131, 132, 29, 774, 481, 482, 49, 483, 60, 58, 133, 134, 135, 136, 775, 490, 491, 492, 776, 494, 495, 496, 57, 59, 1028, 1029, 1030, 1031, 1032, 1033, 1034, 1035, 1036, 1037, 1038, 1039, 1065, 1066, 1067, 1068, 1069, 1070, 1071, 1072, 1073, 1074, 1075, 1076, 1077, 1078, 1079, 1091, 1092, 1093, 1094] (by decide +kernel) (by decide +kernel)
set_option maxRecDepth 20000 in
theorem gL_law_X6_note : GoodIn wsL_law (wsV RL 106 RX6 yX6_note wsX6_note) := goodIn_app (goodIn_of _ (by decide +kernel)) ggL_law_X6_note
set_option maxRecDepth 20000 in
theorem ggL_law_X7_note : GoodIn wsL_law wsX7_note := goodIn_r _ [780, 570, 781, 79, 186, 187, 188, 5, 189, 118, 119, 120, 121, 147, 148, 149, 150, 151, 152, 153, 182, 183, 184, 185, 154, 155, 156, 157, 82, 158, 159, 160, 161, 1040, 1041, 1042, 1043, 1044, 1045, 1046, 1047, 1048, 1049, 1050, 1051, 1052, 1053, 1054, 1055, 1056, 1057, 1058, 1059, 1060, 1061, 1062, 1063, 1064] (by decide +kernel) (by decide +kernel)
set_option maxRecDepth 20000 in
theorem gL_law_X7_note : GoodIn wsL_law (wsV RL 109 RX7 yX7_note wsX7_note) := goodIn_app (goodIn_of _ (by decide +kernel)) ggL_law_X7_note
set_option maxRecDepth 20000 in
theorem ggL_law_X6_came : GoodIn wsL_law wsX6_came := goodIn_r _ [785, 15, 786, 580, 468, 469, 470, 2, 471, 169, 126, 127, 128, 170, 171, 172, 173, 105, 129, 130, 131, 132, 29, 774, 481, 482, 49, 483, 60, 58, 133, 134, 135, 136, 775, 490, 491, 492, 776, 494, 495, 496, 57, 59, 1028, 1029, 1030, 1031, 1032, 1033, 1034, 1035, 1036, 1037, 1038, 1039, 1065, 1066, 1067, 1068, 1069, 1070, 1071, 1072, 1073, 1074, 1075, 1076, 1077, 1078, 1079, 1091, 1092, 1093, 1094] (by decide +kernel) (by decide +kernel)
set_option maxRecDepth 20000 in
theorem gL_law_X6_came : GoodIn wsL_law (wsV RL 110 RX6 yX6_came wsX6_came) := goodIn_app (goodIn_of _ (by decide +kernel)) ggL_law_X6_came
set_option maxRecDepth 20000 in
theorem ggL_law_X7_came : GoodIn wsL_law wsX7_came := goodIn_r _ [790, 570, 791, 79, 501, 502, 503, 5, 504, 190, 191, 192, 193, 147, 148, 149, 186, 187, 188, 189, 118, 119, 120, 121, 154, 155, 156, 157, 82, 158, 159, 160, 161, 1040, 1041, 1042, 1043, 1044, 1045, 1046, 1047, 1048, 1049, 1050, 1051, 1052, 1053, 1054, 1055, 1056, 1057, 1058, 1059, 1060, 1061, 1062, 1063, 1064] (by decide +kernel) (by decide +kernel)
set_option maxRecDepth 20000 in
theorem gL_law_X7_came : GoodIn wsL_law (wsV RL 114 RX7 yX7_came wsX7_came) := goodIn_app (goodIn_of _ (by decide +kernel)) ggL_law_X7_came
set_option maxRecDepth 20000 in
theorem ggL_law_X6_forget : GoodIn wsL_law wsX6_forget := goodIn_r _ [795, 15, 773, 786, 580, 126, 127, 2, 128, 129, 130, 131, 132, 29, 1028, 1029, 1030, 1031, 1032, 1033, 1034, 1035, 1036, 1037, 1038, 1039, 1065, 1066, 1067, 1068, 1069, 1070, 1071, 1072, 1073, 1074, 1075, 1076, 1077, 1078, 1079, 1091, 1092, 1093, 1094] (by decide +kernel) (by decide +kernel)
set_option maxRecDepth 20000 in
theorem gL_law_X6_forget : GoodIn wsL_law (wsV RL 115 RX6 yX6_forget wsX6_forget) := goodIn_app (goodIn_of _ (by decide +kernel)) ggL_law_X6_forget
set_option maxRecDepth 20000 in
theorem ggL_law_X7_forget : GoodIn wsL_law wsX7_forget := goodIn_r _ [799, 79, 147, 148, 5, 149, 154, 155, 156, 157, 82, 1040, 1041, 1042, 1043, 1044, 1045, 1046, 1047, 1048, 1049, 1050, 1051, 1052, 1053, 1054, 1055, 1056, 1057, 1058, 1059, 1060, 1061, 1062, 1063, 1064] (by decide +kernel) (by decide +kernel)
set_option maxRecDepth 20000 in
theorem gL_law_X7_forget : GoodIn wsL_law (wsV RL 118 RX7 yX7_forget wsX7_forget) := goodIn_app (goodIn_of _ (by decide +kernel)) ggL_law_X7_forget
set_option maxRecDepth 20000 in
theorem ggL_law_X6_is : GoodIn wsL_law wsX6_is := goodIn_r _ [803, 15, 170, 171, 172, 2, 173, 105, 126, 127, 128, 129, 130, 131, 132, 29, 804, 805, 806, 14, 807, 808, 809, 810, 811, 50, 113, 585, 586, 587, 49, 588, 57, 59, 346, 347, 348, 349, 1028, 1029, 1030, 1031, 1032, 1033, 1034, 1035, 1036, 1037, 1038, 1039, 1065, 1066, 1067, 1068, 1069, 1070, 1071, 1072, 1073, 1074, 1075, 1076, 1077, 1078, 1079, 1091, 1092, 1093, 1094] (by decide +kernel) (by decide +kernel)
set_option maxRecDepth 20000 in
theorem gL_law_X6_is : GoodIn wsL_law (wsV RL 119 RX6 yX6_is wsX6_is) := goodIn_app (goodIn_of _ (by decide +kernel)) ggL_law_X6_is
set_option maxRecDepth 20000 in
theorem ggL_law_X7_is : GoodIn wsL_law wsX7_is := goodIn_r _ [815, 186, 187, 188, 5, 189, 118, 119, 120, 121, 79, 147, 148, 149, 816, 817, 818, 819, 456, 457, 458, 154, 155, 156, 157, 82, 1040, 1041, 1042, 1043, 1044, 1045, 1046, 1047, 1048, 1049, 1050, 1051, 1052, 1053, 1054, 1055, 1056, 1057, 1058, 1059, 1060, 1061, 1062, 1063, 1064] (by decide +kernel) (by decide +kernel)
set_option maxRecDepth 20000 in
theorem gL_law_X7_is : GoodIn wsL_law (wsV RL 122 RX7 yX7_is wsX7_is) := goodIn_app (goodIn_of _ (by decide +kernel)) ggL_law_X7_is
set_option maxRecDepth 20000 in
theorem ggL_law_X6_watch : GoodIn wsL_law wsX6_watch := goodIn_r _ [823, 15, 30, 599, 551, 170, 171, 172, 2, 173, 105, 126, 127, 128, 129, 130, 131, 132, 29, 804, 805, 806, 14, 807, 808, 809, 810, 811, 50, 113, 585, 586, 587, 49, 588, 57, 59, 346, 347, 348, 349, 824, 825, 826, 827, 1028, 1029, 1030, 1031, 1032, 1033, 1034, 1035, 1036, 1037, 1038, 1039, 1065, 1066, 1067, 1068, 1069, 1070, 1071, 1072, 1073, 1074, 1075, 1076, 1077, 1078, 1079, 1091, 1092, 1093, 1094] (by decide +kernel) (by decide +kernel)
set_option maxRecDepth 20000 in
theorem gL_law_X6_watch : GoodIn wsL_law (wsV RL 123 RX6 yX6_watch wsX6_watch) := goodIn_app (goodIn_of _ (by decide +kernel)) ggL_law_X6_watch
set_option maxRecDepth 20000 in
theorem ggL_law_X7_watch : GoodIn wsL_law wsX7_watch := goodIn_r _ [831, 444, 79, 186, 187, 188, 5, 189, 118, 119, 120, 121, 147, 148, 149, 154, 155, 156, 157, 82, 816, 817, 818, 819, 456, 457, 458, 755, 756, 757, 1040, 1041, 1042, 1043, 1044, 1045, 1046, 1047, 1048, 1049, 1050, 1051, 1052, 1053, 1054, 1055, 1056, 1057, 1058, 1059, 1060, 1061, 1062, 1063, 1064] (by decide +kernel) (by decide +kernel)
set_option maxRecDepth 20000 in
theorem gL_law_X7_watch : GoodIn wsL_law (wsV RL 126 RX7 yX7_watch wsX7_watch) := goodIn_app (goodIn_of _ (by decide +kernel)) ggL_law_X7_watch
set_option maxRecDepth 20000 in
theorem ggL_law_X6_kinds : GoodIn wsL_law wsX6_kinds := goodIn_r _ [835, 15, 468, 469, 470, 2, 471, 169, 126, 127, 128, 129, 130, 131, 132, 29, 836, 837, 838, 14, 839, 840, 841, 842, 843, 51, 113, 43, 585, 586, 587, 49, 588, 57, 59, 334, 335, 336, 337, 110, 338, 339, 340, 341, 38, 41, 40, 39, 342, 343, 344, 345, 346, 347, 348, 349, 350, 351, 352, 353, 354, 355, 356, 1028, 1029, 1030, 1031, 1032, 1033, 1034, 1035, 1036, 1037, 1038, 1039, 1065, 1066, 1067, 1068, 1069, 1070, 1071, 1072, 1073, 1074, 1075, 1076, 1077, 1078, 1079, 1091, 1092, 1093, 1094] (by decide +kernel) (by decide +kernel)
set_option maxRecDepth 20000 in
theorem gL_law_X6_kinds : GoodIn wsL_law (wsV RL 127 RX6 yX6_kinds wsX6_kinds) := goodIn_app (goodIn_of _ (by decide +kernel)) ggL_law_X6_kinds
set_option maxRecDepth 20000 in
theorem ggL_law_X7_kinds : GoodIn wsL_law wsX7_kinds := goodIn_r _ [847, 501, 502, 503, 5, 504, 190, 191, 192, 193, 79, 147, 148, 149, 848, 849, 850, 851, 436, 437, 438, 439, 84, 440, 441, 442, 443, 444, 445, 446, 447, 448, 449, 450, 451, 452, 453, 454, 455, 456, 457, 458, 459, 460, 461, 154, 155, 156, 157, 82, 1040, 1041, 1042, 1043, 1044, 1045, 1046, 1047, 1048, 1049, 1050, 1051, 1052, 1053, 1054, 1055, 1056, 1057, 1058, 1059, 1060, 1061, 1062, 1063, 1064] (by decide +kernel) (by decide +kernel)
set_option maxRecDepth 20000 in
theorem gL_law_X7_kinds : GoodIn wsL_law (wsV RL 130 RX7 yX7_kinds wsX7_kinds) := goodIn_app (goodIn_of _ (by decide +kernel)) ggL_law_X7_kinds
set_option maxRecDepth 20000 in
theorem ggL_law_X6_by : GoodIn wsL_law wsX6_by := goodIn_r _ [855, 15, 105, 30, 618, 560, 468, 469, 470, 2, 471, 169, 126, 127, 128, 129, 130, 131, 132, 29, 836, 837, 838, 14, 839, 840, 841, 842, 843, 51, 113, 43, 585, 586, 587, 49, 588, 57, 59, 334, 335, 336, 337, 110, 338, 339, 340, 341, 38, 41, 40, 39, 342, 343, 344, 345, 346, 347, 348, 349, 350, 351, 352, 353, 354, 355, 356, 856, 825, 826, 827, 1028, 1029, 1030, 1031, 1032, 1033, 1034, 1035, 1036, 1037, 1038, 1039, 1065, 1066, 1067, 1068, 1069, 1070, 1071, 1072, 1073, 1074, 1075, 1076, 1077, 1078, 1079, 1091, 1092, 1093, 1094] (by decide +kernel) (by decide +kernel)
set_option maxRecDepth 20000 in
theorem gL_law_X6_by : GoodIn wsL_law (wsV RL 131 RX6 yX6_by wsX6_by) := goodIn_app (goodIn_of _ (by decide +kernel)) ggL_law_X6_by
set_option maxRecDepth 20000 in
theorem ggL_law_X7_by : GoodIn wsL_law wsX7_by := goodIn_r _ [860, 444, 89, 79, 501, 502, 503, 5, 504, 190, 191, 192, 193, 147, 148, 149, 154, 155, 156, 157, 82, 848, 849, 850, 851, 436, 437, 438, 439, 84, 440, 441, 442, 443, 445, 446, 447, 448, 449, 450, 451, 452, 453, 454, 455, 456, 457, 458, 459, 460, 461, 118, 119, 120, 121, 755, 756, 757, 1040, 1041, 1042, 1043, 1044, 1045, 1046, 1047, 1048, 1049, 1050, 1051, 1052, 1053, 1054, 1055, 1056, 1057, 1058, 1059, 1060, 1061, 1062, 1063, 1064] (by decide +kernel) (by decide +kernel)
set_option maxRecDepth 20000 in
theorem gL_law_X7_by : GoodIn wsL_law (wsV RL 134 RX7 yX7_by wsX7_by) := goodIn_app (goodIn_of _ (by decide +kernel)) ggL_law_X7_by
