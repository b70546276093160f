set_option maxRecDepth 20000 in
theorem ggL_law_X6_day : GoodIn wsL_law wsX6_day := goodIn_r _ [559, 15, 560, 129, 130, 131, 2, 132, 29, 476, 477, 478, 14, 479, 52, 112, 40, 45, 46, 480, 481, 482, 49, 483, 60, 58, 484, 485, 486, 487, 59, 57, 488, 367, 368, 369, 489, 490, 491, 492, 493, 494, 495, 496, 561, 331, 332, 333, 111, 42, 43, 334, 335, 336, 337, 110, 338, 339, 340, 341, 38, 41, 39, 342, 343, 344, 345, 346, 347, 348, 349, 350, 351, 352, 353, 354, 355, 356, 562, 563, 564, 565, 1028, 1029, 1030, 1031, 1032, 1033, 1034, 1035, 1036, 1037, 1038, 1039, 1065, 1066, 1067, 1068, 1069, 1070, 1071, 1072, 1073, 1074, 1075, 1076, 1077, 1078, 1079, 1091, 1092, 1093, 1094] (by decide +kernel) (by decide +kernel)
set_option maxRecDepth 20000 in
theorem gL_law_X6_day : GoodIn wsL_law (wsV RL 54 RX6 yX6_day wsX6_day) := goodIn_app (goodIn_of _ (by decide +kernel)) ggL_law_X6_day
set_option maxRecDepth 20000 in
theorem ggL_law_X7_day : GoodIn wsL_law wsX7_day := goodIn_r _ [569, 570, 79, 147, 148, 5, 149, 154, 155, 156, 157, 82, 509, 510, 511, 512, 432, 433, 434, 435, 436, 437, 438, 439, 84, 440, 441, 442, 443, 444, 445, 446, 447, 448, 449, 450, 451, 452, 453, 454, 455, 456, 457, 458, 459, 460, 461, 571, 572, 573, 574, 1040, 1041, 1042, 1043, 1044, 1045, 1046, 1047, 1048, 1049, 1050, 1051, 1052, 1053, 1054, 1055, 1056, 1057, 1058, 1059, 1060, 1061, 1062, 1063, 1064] (by decide +kernel) (by decide +kernel)
set_option maxRecDepth 20000 in
theorem gL_law_X7_day : GoodIn wsL_law (wsV RL 57 RX7 yX7_day wsX7_day) := goodIn_app (goodIn_of _ (by decide +kernel)) ggL_law_X7_day
set_option maxRecDepth 20000 in
theorem ggL_law_X6_undo : GoodIn wsL_law wsX6_undo := goodIn_r _ [578, 15, 579, 580, 560, 472, 473, 474, 2, 475, 29, 581, 582, 583, 14, 584, 52, 113, 112, 40, 45, 46, 585, 586, 587, 49, 588, 57, 59, 1028, 1029, 1030, 1031, 1032, 1033, 1034, 1035, 1036, 1037, 1038, 1039, 1065, 1066, 1067, 1068, 1069, 1070, 1071, 1072, 1073, 1074, 1075, 1076, 1077, 1078, 1079, 1091, 1092, 1093, 1094] (by decide +kernel) (by decide +kernel)
set_option maxRecDepth 20000 in
theorem gL_law_X6_undo : GoodIn wsL_law (wsV RL 58 RX6 yX6_undo wsX6_undo) := goodIn_app (goodIn_of _ (by decide +kernel)) ggL_law_X6_undo
set_option maxRecDepth 20000 in
theorem ggL_law_X7_undo : GoodIn wsL_law wsX7_undo := goodIn_r _ [592, 79, 505, 506, 507, 5, 508, 82, 1040, 1041, 1042, 1043, 1044, 1045, 1046, 1047, 1048, 1049, 1050, 1051, 1052, 1053, 1054, 1055, 1056, 1057, 1058, 1059, 1060, 1061, 1062, 1063, 1064] (by decide +kernel) (by decide +kernel)
set_option maxRecDepth 20000 in
theorem gL_law_X7_undo : GoodIn wsL_law (wsV RL 61 RX7 yX7_undo wsX7_undo) := goodIn_app (goodIn_of _ (by decide +kernel)) ggL_law_X7_undo
set_option maxRecDepth 20000 in
theorem ggL_law_X6_of : GoodIn wsL_law wsX6_of := goodIn_r _ [596, 15, 597, 598, 551, 599, 170, 171, 172, 2, 173, 105, 126, 127, 128, 129, 130, 131, 132, 29, 600, 601, 602, 14, 603, 111, 46, 45, 1028, 1029, 1030, 1031, 1032, 1033, 1034, 1035, 1036, 1037, 1038, 1039, 1065, 1066, 1067, 1068, 1069, 1070, 1071, 1072, 1073, 1074, 1075, 1076, 1077, 1078, 1079] (by decide +kernel) (by decide +kernel)
set_option maxRecDepth 20000 in
theorem gL_law_X6_of : GoodIn wsL_law (wsV RL 62 RX6 yX6_of wsX6_of) := goodIn_app (goodIn_of _ (by decide +kernel)) ggL_law_X6_of
set_option maxRecDepth 20000 in
theorem ggL_law_X7_of : GoodIn wsL_law wsX7_of := goodIn_r _ [607, 608, 79, 186, 187, 188, 5, 189, 118, 119, 120, 121, 147, 148, 149, 154, 155, 156, 157, 82, 609, 610, 611, 612, 190, 191, 192, 193, 1040, 1041, 1042, 1043, 1044, 1045, 1046, 1047, 1048, 1049, 1050, 1051, 1052, 1053, 1054, 1055, 1056, 1057, 1058, 1059, 1060, 1061, 1062, 1063, 1064] (by decide +kernel) (by decide +kernel)
set_option maxRecDepth 20000 in
theorem gL_law_X7_of : GoodIn wsL_law (wsV RL 65 RX7 yX7_of wsX7_of) := goodIn_app (goodIn_of _ (by decide +kernel)) ggL_law_X7_of
set_option maxRecDepth 20000 in
theorem ggL_law_X6_about : GoodIn wsL_law wsX6_about := goodIn_r _ [616, 15, 617, 618, 517, 467, 466, 468, 469, 470, 2, 471, 169, 126, 127, 128, 129, 130, 131, 132, 29, 1028, 1029, 1030, 1031, 1032, 1033, 1034, 1035, 1036, 1037, 1038, 1039, 1065, 1066, 1067, 1068, 1069, 1070, 1071, 1072, 1073, 1074, 1075, 1076, 1077, 1078, 1079] (by decide +kernel) (by decide +kernel)
set_option maxRecDepth 20000 in
theorem gL_law_X6_about : GoodIn wsL_law (wsV RL 66 RX6 yX6_about wsX6_about) := goodIn_app (goodIn_of _ (by decide +kernel)) ggL_law_X6_about
set_option maxRecDepth 20000 in
theorem ggL_law_X7_about : GoodIn wsL_law wsX7_about := goodIn_r _ [622, 623, 79, 501, 502, 503, 5, 504, 190, 191, 192, 193, 147, 148, 149, 154, 155, 156, 157, 82, 1040, 1041, 1042, 1043, 1044, 1045, 1046, 1047, 1048, 1049, 1050, 1051, 1052, 1053, 1054, 1055, 1056, 1057, 1058, 1059, 1060, 1061, 1062, 1063, 1064] (by decide +kernel) (by decide +kernel)
set_option maxRecDepth 20000 in
theorem gL_law_X7_about : GoodIn wsL_law (wsV RL 69 RX7 yX7_about wsX7_about) := goodIn_app (goodIn_of _ (by decide +kernel)) ggL_law_X7_about
set_option maxRecDepth 20000 in
theorem ggL_law_X6_shows : GoodIn wsL_law wsX6_shows := goodIn_r _ [627, 15, 560, 170, 171, 172, 2, 173, 105, 126, 127, 128, 129, 130, 131, 132, 29, 628, 527, 528, 14, 529, 38, 41, 40, 346, 347, 348, 349, 1028, 1029, 1030, 1031, 1032, 1033, 1034, 1035, 1036, 1037, 1038, 1039, 1065, 1066, 1067, 1068, 1069, 1070, 1071, 1072, 1073, 1074, 1075, 1076, 1077, 1078, 1079] (by decide +kernel) (by decide +kernel)
set_option maxRecDepth 20000 in
theorem gL_law_X6_shows : GoodIn wsL_law (wsV RL 70 RX6 yX6_shows wsX6_shows) := goodIn_app (goodIn_of _ (by decide +kernel)) ggL_law_X6_shows
set_option maxRecDepth 20000 in
theorem ggL_law_X7_shows : GoodIn wsL_law wsX7_shows := goodIn_r _ [632, 79, 186, 187, 188, 5, 189, 118, 119, 120, 121, 147, 148, 149, 182, 183, 184, 185, 154, 155, 156, 157, 82, 436, 437, 438, 439, 84, 452, 453, 454, 455, 456, 457, 458, 1040, 1041, 1042, 1043, 1044, 1045, 1046, 1047, 1048, 1049, 1050, 1051, 1052, 1053, 1054, 1055, 1056, 1057, 1058, 1059, 1060, 1061, 1062, 1063, 1064] (by decide +kernel) (by decide +kernel)
set_option maxRecDepth 20000 in
theorem gL_law_X7_shows : GoodIn wsL_law (wsV RL 73 RX7 yX7_shows wsX7_shows) := goodIn_app (goodIn_of _ (by decide +kernel)) ggL_law_X7_shows
set_option maxRecDepth 20000 in
theorem ggL_law_X6_comes : GoodIn wsL_law wsX6_comes := goodIn_r _ [636, 15, 467, 468, 469, 470, 2, 471, 169, 126, 127, 128, 129, 130, 131, 132, 29, 637, 638, 639, 14, 640, 42, 43, 112, 334, 335, 336, 337, 110, 338, 339, 340, 341, 38, 41, 40, 39, 342, 343, 344, 345, 346, 347, 348, 349, 350, 351, 352, 353, 354, 355, 356, 1028, 1029, 1030, 1031, 1032, 1033, 1034, 1035, 1036, 1037, 1038, 1039, 1065, 1066, 1067, 1068, 1069, 1070, 1071, 1072, 1073, 1074, 1075, 1076, 1077, 1078, 1079] (by decide +kernel) (by decide +kernel)
set_option maxRecDepth 20000 in
theorem gL_law_X6_comes : GoodIn wsL_law (wsV RL 74 RX6 yX6_comes wsX6_comes) := goodIn_app (goodIn_of _ (by decide +kernel)) ggL_law_X6_comes
set_option maxRecDepth 20000 in
theorem ggL_law_X7_comes : GoodIn wsL_law wsX7_comes := goodIn_r _ [644, 79, 501, 502, 503, 5, 504, 190, 191, 192, 193, 147, 148, 149, 154, 155, 156, 157, 82, 436, 437, 438, 439, 84, 645, 646, 647, 648, 440, 441, 442, 443, 444, 445, 446, 447, 448, 449, 450, 451, 452, 453, 454, 455, 456, 457, 458, 459, 460, 461, 1040, 1041, 1042, 1043, 1044, 1045, 1046, 1047, 1048, 1049, 1050, 1051, 1052, 1053, 1054, 1055, 1056, 1057, 1058, 1059, 1060, 1061, 1062, 1063, 1064] (by decide +kernel) (by decide +kernel)
set_option maxRecDepth 20000 in
theorem gL_law_X7_comes : GoodIn wsL_law (wsV RL 77 RX7 yX7_comes wsX7_comes) := goodIn_app (goodIn_of _ (by decide +kernel)) ggL_law_X7_comes
set_option maxRecDepth 20000 in
theorem ggL_law_X6_chain : GoodIn wsL_law wsX6_chain := goodIn_r _ [652, 15, 467, 468, 469, 470, 2, 471, 169, 126, 127, 128, 129, 130, 131, 132, 29, 637, 638, 639, 14, 640, 42, 43, 112, 334, 335, 336, 337, 110, 338, 339, 340, 341, 38, 41, 40, 39, 342, 343, 344, 345, 346, 347, 348, 349, 350, 351, 352, 353, 354, 355, 356, 1028, 1029, 1030, 1031, 1032, 1033, 1034, 1035, 1036, 1037, 1038, 1039, 1065, 1066, 1067, 1068, 1069, 1070, 1071, 1072, 1073, 1074, 1075, 1076, 1077, 1078, 1079] (by decide +kernel) (by decide +kernel)
set_option maxRecDepth 20000 in
theorem gL_law_X6_chain : GoodIn wsL_law (wsV RL 78 RX6 yX6_chain wsX6_chain) := goodIn_app (goodIn_of _ (by decide +kernel)) ggL_law_X6_chain
set_option maxRecDepth 20000 in
theorem ggL_law_X7_chain : GoodIn wsL_law wsX7_chain := goodIn_r _ [656, 657, 79, 501, 502, 503, 5, 504, 190, 191, 192, 193, 147, 148, 149, 154, 155, 156, 157, 82, 436, 437, 438, 439, 84, 645, 646, 647, 648, 440, 441, 442, 443, 444, 445, 446, 447, 448, 449, 450, 451, 452, 453, 454, 455, 456, 457, 458, 459, 460, 461, 1040, 1041, 1042, 1043, 1044, 1045, 1046, 1047, 1048, 1049, 1050, 1051, 1052, 1053, 1054, 1055, 1056, 1057, 1058, 1059, 1060, 1061, 1062, 1063, 1064] (by decide +kernel) (by decide +kernel)
set_option maxRecDepth 20000 in
theorem gL_law_X7_chain : GoodIn wsL_law (wsV RL 81 RX7 yX7_chain wsX7_chain) := goodIn_app (goodIn_of _ (by decide +kernel)) ggL_law_X7_chain
set_option maxRecDepth 20000 in
theorem ggL_law_X6_ring : GoodIn wsL_law wsX6_ring := goodIn_r _ [661, 15, 467, 31, 468, 469, 470, 2, 471, 169, 126, 127, 128, 129, 130, 131, 132, 29, 637, 638, 639, 14, 640, 42, 43, 112, 334, 335, 336, 337, 110, 338, 339, 340, 341, 38, 41, 40, 39, 342, 343, 344, 345, 346, 347, 348, 349, 350, 351, 352, 353, 354, 355, 356, 662, 663, 664, 1028, 1029, 1030, 1031, 1032, 1033, 1034, 1035, 1036, 1037, 1038, 1039, 1065, 1066, 1067, 1068, 1069, 1070, 1071, 1072, 1073, 1074, 1075, 1076, 1077, 1078, 1079] (by decide +kernel) (by decide +kernel)
set_option maxRecDepth 20000 in
theorem gL_law_X6_ring : GoodIn wsL_law (wsV RL 82 RX6 yX6_ring wsX6_ring) := goodIn_app (goodIn_of _ (by decide +kernel)) ggL_law_X6_ring
set_option maxRecDepth 20000 in
theorem ggL_law_X7_ring : GoodIn wsL_law wsX7_ring := goodIn_r _ [668, 79, 85, 501, 502, 503, 5, 504, 190, 191, 192, 193, 147, 148, 149, 154, 155, 156, 157, 82, 436, 437, 438, 439, 84, 118, 119, 120, 121, 645, 646, 647, 648, 440, 441, 442, 443, 444, 445, 446, 447, 448, 449, 450, 451, 452, 453, 454, 455, 456, 457, 458, 459, 460, 461, 1040, 1041, 1042, 1043, 1044, 1045, 1046, 1047, 1048, 1049, 1050, 1051, 1052, 1053, 1054, 1055, 1056, 1057, 1058, 1059, 1060, 1061, 1062, 1063, 1064] (by decide +kernel) (by decide +kernel)
set_option maxRecDepth 20000 in
theorem gL_law_X7_ring : GoodIn wsL_law (wsV RL 85 RX7 yX7_ring wsX7_ring) := goodIn_app (goodIn_of _ (by decide +kernel)) ggL_law_X7_ring
set_option maxRecDepth 20000 in
theorem ggL_law_X6_send : GoodIn wsL_law wsX6_send := goodIn_r _ [672, 27, 15, 673, 468, 469, 470, 2, 471, 169, 126, 127, 128, 170, 171, 172, 173, 105, 129, 130, 131, 132, 29, 674, 675, 676, 26, 677, 678, 71, 679, 680, 681, 682, 683, 684, 72, 685, 686, 687, 688, 689, 690, 691, 692, 693, 73, 74, 694, 695, 696, 697, 698, 344, 699, 700, 335, 336, 14, 337, 110, 338, 339, 340, 341, 38, 41, 40, 39, 342, 343, 345, 346, 347, 348, 349, 350, 351, 352, 353, 354, 355, 356, 701, 702, 703, 704, 705, 367, 368, 369, 1028, 1029, 1030, 1031, 1032, 1033, 1034, 1035, 1036, 1037, 1038, 1039, 1086, 1087, 1088, 1089, 1090, 1065, 1066, 1067, 1068, 1069, 1070, 1071, 1072, 1073, 1074, 1075, 1076, 1077, 1078, 1079] (by decide +kernel) (by decide +kernel)
set_option maxRecDepth 20000 in
theorem gL_law_X6_send : GoodIn wsL_law (wsV RL 86 RX6 yX6_send wsX6_send) := goodIn_app (goodIn_of _ (by decide +kernel)) ggL_law_X6_send
set_option maxRecDepth 20000 in
theorem ggL_law_X7_send : GoodIn wsL_law wsX7_send := goodIn_r _ [709, 79, 86, 444, 501, 502, 503, 5, 504, 190, 191, 192, 193, 147, 148, 149, 186, 187, 188, 189, 118, 119, 120, 121, 154, 155, 156, 157, 82, 436, 437, 438, 439, 84, 710, 711, 712, 713, 714, 715, 716, 717, 87, 440, 441, 442, 443, 445, 446, 447, 448, 449, 450, 451, 452, 453, 454, 455, 456, 457, 458, 459, 460, 461, 718, 719, 720, 721, 1040, 1041, 1042, 1043, 1044, 1045, 1046, 1047, 1048, 1049, 1050, 1051, 1052, 1053, 1054, 1055, 1056, 1057, 1058, 1059, 1060, 1061, 1062, 1063, 1064] (by decide +kernel) (by decide +kernel)
set_option maxRecDepth 20000 in
theorem gL_law_X7_send : GoodIn wsL_law (wsV RL 89 RX7 yX7_send wsX7_send) := goodIn_app (goodIn_of _ (by decide +kernel)) ggL_law_X7_send
set_option maxRecDepth 20000 in
theorem ggL_law_X6_wears : GoodIn wsL_law wsX6_wears := goodIn_r _ [725, 15, 467, 16, 551, 170, 171, 172, 2, 173, 105, 126, 127, 128, 468, 469, 470, 471, 169, 129, 130, 131, 132, 29, 357, 358, 359, 14, 360, 38, 39, 40, 41, 42, 43, 44, 45, 46, 50, 51, 52, 110, 111, 112, 361, 362, 363, 364, 344, 365, 366, 367, 368, 369, 370, 371, 372, 49, 373, 60, 59, 637, 638, 639, 640, 334, 335, 336, 337, 338, 339, 340, 341, 342, 343, 345, 346, 347, 348, 349, 350, 351, 352, 353, 354, 355, 356, 1028, 1029, 1030, 1031, 1032, 1033, 1034, 1035, 1036, 1037, 1038, 1039, 1065, 1066, 1067, 1068, 1069, 1070, 1071, 1072, 1073, 1074, 1075, 1076, 1077, 1078, 1079, 1091, 1092, 1093, 1094] (by decide +kernel) (by decide +kernel)
set_option maxRecDepth 20000 in
theorem gL_law_X6_wears : GoodIn wsL_law (wsV RL 90 RX6 yX6_wears wsX6_wears) := goodIn_app (goodIn_of _ (by decide +kernel)) ggL_law_X6_wears
set_option maxRecDepth 20000 in
theorem ggL_law_X7_wears : GoodIn wsL_law wsX7_wears := goodIn_r _ [729, 79, 84, 186, 187, 188, 5, 189, 118, 119, 120, 121, 147, 148, 149, 501, 502, 503, 504, 190, 191, 192, 193, 154, 155, 156, 157, 82, 436, 437, 438, 439, 645, 646, 647, 648, 440, 441, 442, 443, 444, 445, 446, 447, 448, 449, 450, 451, 452, 453, 454, 455, 456, 457, 458, 459, 460, 461, 1040, 1041, 1042, 1043, 1044, 1045, 1046, 1047, 1048, 1049, 1050, 1051, 1052, 1053, 1054, 1055, 1056, 1057, 1058, 1059, 1060, 1061, 1062, 1063, 1064] (by decide +kernel) (by decide +kernel)
set_option maxRecDepth 20000 in
theorem gL_law_X7_wears : GoodIn wsL_law (wsV RL 93 RX7 yX7_wears wsX7_wears) := goodIn_app (goodIn_of _ (by decide +kernel)) ggL_law_X7_wears
