set_option maxRecDepth 20000 in
theorem wsLm_31 : ∀ w ∈ wsL_law_r31, w ∈ lw_tbl := lw_memr _ [45, 1047, 624, 625, 626, 627, 1048, 1049, 1050, 1051, 628, 629, 630, 631, 1052, 1053, 1054, 1055, 1056, 1058, 46, 1059, 632, 633] (by decide +kernel)
set_option maxRecDepth 20000 in
theorem wsLm_32 : ∀ w ∈ wsL_law_r32, w ∈ lw_tbl := lw_memr _ [634, 635, 636, 638, 18, 639, 1060, 1061, 1062, 1063, 1064, 1065, 1066, 1067, 1068, 1069, 1070, 640, 641, 642, 643, 1071, 1072, 1073] (by decide +kernel)
set_option maxRecDepth 20000 in
theorem wsLm_33 : ∀ w ∈ wsL_law_r33, w ∈ lw_tbl := lw_memr _ [1074, 644, 645, 646, 647, 142, 648, 649, 650, 1075, 1076, 1077, 1078, 1079, 651, 652, 653, 654, 144, 1080, 1081, 1082, 1083, 1084] (by decide +kernel)
set_option maxRecDepth 20000 in
theorem wsLm_34 : ∀ w ∈ wsL_law_r34, w ∈ lw_tbl := lw_memr _ [655, 656, 657, 658, 1085, 1086, 1087, 1088, 659, 660, 661, 662, 663, 664, 665, 666, 667, 669, 19, 670, 1089, 1090, 1091, 1092] (by decide +kernel)
set_option maxRecDepth 20000 in
theorem wsLm_35 : ∀ w ∈ wsL_law_r35, w ∈ lw_tbl := lw_memr _ [1093, 1095, 47, 1096, 671, 672, 673, 674, 675, 676, 677, 678, 1097, 1098, 1099, 1100, 679, 680, 681, 682, 683, 684, 685, 686] (by decide +kernel)
set_option maxRecDepth 20000 in
theorem wsLm_36 : ∀ w ∈ wsL_law_r36, w ∈ lw_tbl := lw_memr _ [687, 689, 20, 690, 1101, 1102, 1103, 1104, 1105, 1107, 48, 1108, 691, 692, 693, 694, 695, 1109, 1110, 1111, 1112, 696, 697, 698] (by decide +kernel)
set_option maxRecDepth 20000 in
theorem wsLm_37 : ∀ w ∈ wsL_law_r37, w ∈ lw_tbl := lw_memr _ [699, 700, 702, 21, 703, 704, 706, 22, 707, 708, 710, 23, 711, 1113, 1114, 1115, 1116, 1117, 1119, 49, 1120, 1121, 1123, 50] (by decide +kernel)
set_option maxRecDepth 20000 in
theorem wsLm_38 : ∀ w ∈ wsL_law_r38, w ∈ lw_tbl := lw_memr _ [1124, 712, 713, 714, 715, 725, 716, 717, 718, 719, 720, 722, 24, 723, 724, 726, 727, 728, 1125, 1126, 1127, 1128, 1129, 1130] (by decide +kernel)
set_option maxRecDepth 20000 in
theorem wsLm_39 : ∀ w ∈ wsL_law_r39, w ∈ lw_tbl := lw_memr _ [1132, 51, 1133, 1134, 1136, 52, 1137, 800, 729, 730, 731, 732, 733, 734, 735, 736, 737, 738, 739, 740, 741, 742, 1138, 1139] (by decide +kernel)
set_option maxRecDepth 20000 in
theorem wsLm_40 : ∀ w ∈ wsL_law_r40, w ∈ lw_tbl := lw_memr _ [1140, 1141, 1142, 1143, 1144, 1145, 1146, 1147, 1148, 1150, 53, 1151, 743, 744, 745, 746, 1215, 1216, 1217, 1218, 747, 748, 749, 750] (by decide +kernel)
set_option maxRecDepth 20000 in
theorem wsLm_41 : ∀ w ∈ wsL_law_r41, w ∈ lw_tbl := lw_memr _ [1219, 1220, 1221, 1222, 751, 752, 753, 754, 1223, 1224, 1225, 1226, 755, 756, 757, 758, 1227, 1228, 1229, 1230, 1231, 759, 760, 761] (by decide +kernel)
set_option maxRecDepth 20000 in
theorem wsLm_42 : ∀ w ∈ wsL_law_r42, w ∈ lw_tbl := lw_memr _ [762, 763, 765, 25, 766, 1232, 1233, 1234, 1235, 1236, 1237, 1239, 64, 1240, 767, 768, 769, 770, 771, 772, 773, 774, 775, 776] (by decide +kernel)
set_option maxRecDepth 20000 in
theorem wsLm_43 : ∀ w ∈ wsL_law_r43, w ∈ lw_tbl := lw_memr _ [777, 778, 779, 780, 781, 782, 783, 784, 785, 786, 1241, 1242, 1243, 1244, 1245, 1246, 1247, 1249, 65, 1250] (by decide +kernel)
set_option maxRecDepth 20000 in
theorem wsLm_X6 : ∀ w ∈ wsX60, w ∈ lw_tbl := lw_memr _ [253, 255, 257, 259, 261, 263, 265, 267, 269, 271, 273, 275] (by decide +kernel)
set_option maxRecDepth 20000 in
theorem wsLm_X7 : ∀ w ∈ wsX70, w ∈ lw_tbl := lw_memr _ [821, 823, 825, 827, 829, 831, 833, 835, 837, 839, 841, 843, 845, 847, 849, 851, 853, 855, 857, 859, 861, 863, 865, 867, 869] (by decide +kernel)
set_option maxRecDepth 20000 in
theorem wsLm_X5 : ∀ w ∈ wsX50, w ∈ lw_tbl := lw_memr _ [157, 159, 161, 163, 165, 167, 169, 171, 173, 175, 177, 179, 181, 183, 185] (by decide +kernel)
set_option maxRecDepth 20000 in
theorem wsLm_X2 : ∀ w ∈ wsX20, w ∈ lw_tbl := lw_memr _ [202, 204, 206, 208, 210, 212] (by decide +kernel)
set_option maxRecDepth 20000 in
theorem wsLm_X0 : ∀ w ∈ wsX00, w ∈ lw_tbl := lw_memr _ [229, 231, 233, 235, 237] (by decide +kernel)
set_option maxRecDepth 20000 in
theorem wsLm_X3 : ∀ w ∈ wsX30, w ∈ lw_tbl := lw_memr _ [107, 109, 111, 113] (by decide +kernel)
theorem wsL_law_in : ∀ w ∈ wsL_law, w ∈ lw_tbl := List.forall_mem_append.mpr ⟨(List.forall_mem_append.mpr ⟨(List.forall_mem_append.mpr ⟨(List.forall_mem_append.mpr ⟨(List.forall_mem_append.mpr ⟨(List.forall_mem_append.mpr ⟨(List.forall_mem_append.mpr ⟨(List.forall_mem_append.mpr ⟨wsLm_1, (List.forall_mem_append.mpr ⟨wsLm_2, (List.forall_mem_append.mpr ⟨wsLm_3, (List.forall_mem_append.mpr ⟨wsLm_4, (List.forall_mem_append.mpr ⟨wsLm_5, (List.forall_mem_append.mpr ⟨wsLm_6, (List.forall_mem_append.mpr ⟨wsLm_7, (List.forall_mem_append.mpr ⟨wsLm_8, (List.forall_mem_append.mpr ⟨wsLm_9, (List.forall_mem_append.mpr ⟨wsLm_10, (List.forall_mem_append.mpr ⟨wsLm_11, (List.forall_mem_append.mpr ⟨wsLm_12, (List.forall_mem_append.mpr ⟨wsLm_13, (List.forall_mem_append.mpr ⟨wsLm_14, (List.forall_mem_append.mpr ⟨wsLm_15, (List.forall_mem_append.mpr ⟨wsLm_16, (List.forall_mem_append.mpr ⟨wsLm_17, (List.forall_mem_append.mpr ⟨wsLm_18, (List.forall_mem_append.mpr ⟨wsLm_19, (List.forall_mem_append.mpr ⟨wsLm_20, (List.forall_mem_append.mpr ⟨wsLm_21, (List.forall_mem_append.mpr ⟨wsLm_22, (List.forall_mem_append.mpr ⟨wsLm_23, (List.forall_mem_append.mpr ⟨wsLm_24, (List.forall_mem_append.mpr ⟨wsLm_25, (List.forall_mem_append.mpr ⟨wsLm_26, (List.forall_mem_append.mpr ⟨wsLm_27, (List.forall_mem_append.mpr ⟨wsLm_28, (List.forall_mem_append.mpr ⟨wsLm_29, (List.forall_mem_append.mpr ⟨wsLm_30, (List.forall_mem_append.mpr ⟨wsLm_31, (List.forall_mem_append.mpr ⟨wsLm_32, (List.forall_mem_append.mpr ⟨wsLm_33, (List.forall_mem_append.mpr ⟨wsLm_34, (List.forall_mem_append.mpr ⟨wsLm_35, (List.forall_mem_append.mpr ⟨wsLm_36, (List.forall_mem_append.mpr ⟨wsLm_37, (List.forall_mem_append.mpr ⟨wsLm_38, (List.forall_mem_append.mpr ⟨wsLm_39, (List.forall_mem_append.mpr ⟨wsLm_40, (List.forall_mem_append.mpr ⟨wsLm_41, (List.forall_mem_append.mpr ⟨wsLm_42, wsLm_43⟩)⟩)⟩)⟩)⟩)⟩)⟩)⟩)⟩)⟩)⟩)⟩)⟩)⟩)⟩)⟩)⟩)⟩)⟩)⟩)⟩)⟩)⟩)⟩)⟩)⟩)⟩)⟩)⟩)⟩)⟩)⟩)⟩)⟩)⟩)⟩)⟩)⟩)⟩)⟩)⟩)⟩), wsLm_X6⟩), wsLm_X7⟩), wsLm_X5⟩), wsLm_X2⟩), wsLm_X0⟩), wsLm_X3⟩), fun _ h => absurd h List.not_mem_nil⟩
