set_option maxRecDepth 20000 in
theorem ggL_law_X3_who : GoodIn wsL_law wsX3_who := goodIn_r _ [633, 15, 219, 92, 93, 94, 2, 95, 26, 96, 260, 132, 133, 14, 134, 135, 136, 137, 138, 40, 139, 140, 141, 142, 36, 143, 144, 145, 146, 38, 147, 148, 149, 150, 42, 151, 152, 153, 154, 35, 1087, 1088, 1089, 1090, 1091, 1092, 1093, 1094, 1095, 1120, 1121, 1122, 1123, 1124, 1125, 1126, 1127, 1128, 1129, 1130, 1131, 1132] (by decide +kernel) (by decide +kernel)
set_option maxRecDepth 20000 in
theorem gL_law_X3_who : GoodIn wsL_law (wsV RL 113 RX3 yX3_who wsX3_who) := goodIn_app (goodIn_of _ (by decide +kernel)) ggL_law_X3_who
set_option maxRecDepth 20000 in
theorem ggL_law_X4_who : GoodIn wsL_law wsX4_who := goodIn_r _ [637, 101, 67, 105, 106, 5, 107, 115, 116, 117, 118, 70, 281, 282, 283, 284, 183, 184, 185, 186, 187, 188, 189, 190, 191, 192, 193, 194, 195, 196, 197, 198, 199, 200, 1096, 1097, 1098, 1099, 1100, 1101, 1102, 1103, 1104, 1105, 1106, 1107, 1108, 1109, 1110, 1111, 1112, 1113, 1114, 1115, 1116, 1117, 1118, 1119] (by decide +kernel) (by decide +kernel)
set_option maxRecDepth 20000 in
theorem gL_law_X4_who : GoodIn wsL_law (wsV RL 116 RX4 yX4_who wsX4_who) := goodIn_app (goodIn_of _ (by decide +kernel)) ggL_law_X4_who
set_option maxRecDepth 20000 in
theorem ggL_law_X3_nearest : GoodIn wsL_law wsX3_nearest := goodIn_r _ [641, 16, 15, 252, 316, 317, 318, 2, 319, 256, 257, 258, 259, 219, 92, 93, 94, 95, 26, 96, 466, 467, 468, 14, 469, 35, 394, 395, 396, 397, 36, 37, 38, 39, 40, 41, 42, 43, 44, 359, 266, 267, 268, 269, 270, 271, 272, 172, 173, 166, 174, 131, 132, 133, 134, 135, 136, 137, 138, 139, 140, 141, 142, 143, 144, 145, 146, 147, 148, 149, 150, 151, 152, 153, 154, 567, 568, 569, 570, 571, 572, 573, 1087, 1088, 1089, 1090, 1091, 1092, 1093, 1094, 1095, 1120, 1121, 1122, 1123, 1124, 1125, 1126, 1127, 1128, 1129, 1130, 1131, 1132] (by decide +kernel) (by decide +kernel)
set_option maxRecDepth 20000 in
theorem gL_law_X3_nearest : GoodIn wsL_law (wsV RL 117 RX3 yX3_nearest wsX3_nearest) := goodIn_app (goodIn_of _ (by decide +kernel)) ggL_law_X3_nearest
set_option maxRecDepth 20000 in
theorem ggL_law_X4_nearest : GoodIn wsL_law wsX4_nearest := goodIn_r _ [645, 101, 67, 209, 165, 166, 167, 328, 329, 330, 5, 331, 277, 278, 279, 280, 105, 106, 107, 115, 116, 117, 118, 70, 187, 188, 189, 190, 191, 192, 193, 364, 365, 366, 367, 293, 294, 295, 296, 210, 211, 212, 213, 214, 173, 174, 183, 184, 185, 186, 194, 195, 196, 197, 198, 199, 200, 582, 583, 584, 1096, 1097, 1098, 1099, 1100, 1101, 1102, 1103, 1104, 1105, 1106, 1107, 1108, 1109, 1110, 1111, 1112, 1113, 1114, 1115, 1116, 1117, 1118, 1119] (by decide +kernel) (by decide +kernel)
set_option maxRecDepth 20000 in
theorem gL_law_X4_nearest : GoodIn wsL_law (wsV RL 120 RX4 yX4_nearest wsX4_nearest) := goodIn_app (goodIn_of _ (by decide +kernel)) ggL_law_X4_nearest
set_option maxRecDepth 20000 in
theorem ggL_law_X3_links : GoodIn wsL_law wsX3_links := goodIn_r _ [649, 15, 650, 651, 652, 14, 653, 42, 131, 132, 133, 134, 135, 136, 137, 138, 40, 139, 140, 141, 142, 36, 143, 144, 145, 146, 38, 147, 148, 149, 150, 151, 152, 153, 154, 35, 269, 270, 271, 272, 37, 39, 172, 173, 166, 174, 1087, 1088, 1089, 1090, 1091, 1092, 1093, 1094, 1095, 1120, 1121, 1122, 1123, 1124, 1125, 1126, 1127, 1128, 1129, 1130, 1131, 1132] (by decide +kernel) (by decide +kernel)
set_option maxRecDepth 20000 in
theorem gL_law_X3_links : GoodIn wsL_law (wsV RL 121 RX3 yX3_links wsX3_links) := goodIn_app (goodIn_of _ (by decide +kernel)) ggL_law_X3_links
set_option maxRecDepth 20000 in
theorem ggL_law_X4_links : GoodIn wsL_law wsX4_links := goodIn_r _ [657, 658, 659, 660, 5, 661, 67, 364, 365, 366, 367, 293, 294, 295, 296, 187, 188, 189, 190, 191, 192, 193, 210, 211, 212, 213, 214, 173, 166, 174, 209, 165, 167, 183, 184, 185, 186, 194, 195, 196, 197, 198, 199, 200, 1096, 1097, 1098, 1099, 1100, 1101, 1102, 1103, 1104, 1105, 1106, 1107, 1108, 1109, 1110, 1111, 1112, 1113, 1114, 1115, 1116, 1117, 1118, 1119] (by decide +kernel) (by decide +kernel)
set_option maxRecDepth 20000 in
theorem gL_law_X4_links : GoodIn wsL_law (wsV RL 124 RX4 yX4_links wsX4_links) := goodIn_app (goodIn_of _ (by decide +kernel)) ggL_law_X4_links
set_option maxRecDepth 20000 in
theorem ggL_law_X3_bestSwap : GoodIn wsL_law wsX3_bestSwap := goodIn_r _ [665, 16, 15, 219, 466, 467, 468, 14, 469, 35, 394, 395, 396, 397, 36, 37, 38, 39, 40, 41, 42, 43, 44, 320, 321, 322, 323, 650, 651, 652, 653, 131, 132, 133, 134, 135, 136, 137, 138, 139, 140, 141, 142, 143, 144, 145, 146, 147, 148, 149, 150, 151, 152, 153, 154, 269, 270, 271, 272, 172, 173, 166, 174, 92, 93, 94, 2, 95, 26, 96, 1087, 1088, 1089, 1090, 1091, 1092, 1093, 1094, 1095, 1120, 1121, 1122, 1123, 1124, 1125, 1126, 1127, 1128, 1129, 1130, 1131, 1132] (by decide +kernel) (by decide +kernel)
set_option maxRecDepth 20000 in
theorem gL_law_X3_bestSwap : GoodIn wsL_law (wsV RL 125 RX3 yX3_bestSwap wsX3_bestSwap) := goodIn_app (goodIn_of _ (by decide +kernel)) ggL_law_X3_bestSwap
set_option maxRecDepth 20000 in
theorem ggL_law_X4_bestSwap : GoodIn wsL_law wsX4_bestSwap := goodIn_r _ [669, 67, 209, 165, 166, 167, 332, 333, 334, 5, 335, 191, 192, 193, 187, 188, 189, 190, 111, 112, 113, 114, 658, 659, 660, 661, 364, 365, 366, 367, 293, 294, 295, 296, 210, 211, 212, 213, 214, 173, 174, 183, 184, 185, 186, 194, 195, 196, 197, 198, 199, 200, 494, 495, 496, 497, 498, 115, 116, 117, 118, 70, 101, 1096, 1097, 1098, 1099, 1100, 1101, 1102, 1103, 1104, 1105, 1106, 1107, 1108, 1109, 1110, 1111, 1112, 1113, 1114, 1115, 1116, 1117, 1118, 1119] (by decide +kernel) (by decide +kernel)
set_option maxRecDepth 20000 in
theorem gL_law_X4_bestSwap : GoodIn wsL_law (wsV RL 128 RX4 yX4_bestSwap wsX4_bestSwap) := goodIn_app (goodIn_of _ (by decide +kernel)) ggL_law_X4_bestSwap
set_option maxRecDepth 20000 in
theorem ggL_law_X3_loudFor : GoodIn wsL_law wsX3_loudFor := goodIn_r _ [673, 15, 252, 674, 173, 166, 174, 256, 257, 258, 2, 259, 219, 224, 225, 226, 227, 88, 89, 90, 91, 92, 93, 94, 95, 26, 96, 340, 128, 129, 14, 130, 131, 132, 133, 134, 135, 136, 137, 138, 40, 139, 140, 141, 142, 36, 143, 144, 145, 146, 38, 147, 148, 149, 150, 42, 151, 152, 153, 154, 35, 1087, 1088, 1089, 1090, 1091, 1092, 1093, 1094, 1095, 1120, 1121, 1122, 1123, 1124, 1125, 1126, 1127, 1128, 1129, 1130, 1131, 1132] (by decide +kernel) (by decide +kernel)
set_option maxRecDepth 20000 in
theorem gL_law_X3_loudFor : GoodIn wsL_law (wsV RL 129 RX3 yX3_loudFor wsX3_loudFor) := goodIn_app (goodIn_of _ (by decide +kernel)) ggL_law_X3_loudFor
set_option maxRecDepth 20000 in
theorem ggL_law_X4_loudFor : GoodIn wsL_law wsX4_loudFor := goodIn_r _ [678, 101, 214, 173, 166, 174, 498, 277, 278, 279, 5, 280, 67, 105, 106, 107, 240, 241, 242, 102, 103, 104, 115, 116, 117, 118, 70, 187, 188, 189, 190, 191, 192, 193, 183, 184, 185, 186, 194, 195, 196, 197, 198, 199, 200, 1096, 1097, 1098, 1099, 1100, 1101, 1102, 1103, 1104, 1105, 1106, 1107, 1108, 1109, 1110, 1111, 1112, 1113, 1114, 1115, 1116, 1117, 1118, 1119] (by decide +kernel) (by decide +kernel)
set_option maxRecDepth 20000 in
theorem gL_law_X4_loudFor : GoodIn wsL_law (wsV RL 132 RX4 yX4_loudFor wsX4_loudFor) := goodIn_app (goodIn_of _ (by decide +kernel)) ggL_law_X4_loudFor
set_option maxRecDepth 20000 in
theorem ggL_law_X3_fits : GoodIn wsL_law wsX3_fits := goodIn_r _ [682, 16, 253, 683, 684, 685, 2, 686, 15, 24, 687, 688, 689, 690, 691, 692, 693, 694, 695, 696, 697, 30, 698, 61, 256, 257, 258, 259, 219, 92, 93, 94, 95, 26, 96, 466, 467, 468, 14, 469, 35, 394, 395, 396, 397, 36, 37, 38, 39, 40, 41, 42, 43, 44, 699, 700, 701, 702, 703, 704, 255, 489, 391, 392, 393, 47, 45, 46, 398, 399, 400, 166, 401, 143, 144, 145, 146, 139, 140, 141, 142, 147, 148, 149, 150, 151, 152, 153, 154, 402, 373, 374, 375, 269, 270, 271, 272, 172, 173, 174, 403, 404, 405, 406, 164, 165, 167, 135, 136, 137, 138, 1087, 1088, 1089, 1090, 1091, 1092, 1093, 1094, 1095, 1120, 1121, 1122, 1123, 1124, 1125, 1126, 1127, 1128, 1129, 1130, 1131, 1132, 1139, 1140, 1141] (by decide +kernel) (by decide +kernel)
set_option maxRecDepth 20000 in
theorem gL_law_X3_fits : GoodIn wsL_law (wsV RL 133 RX3 yX3_fits wsX3_fits) := goodIn_app (goodIn_of _ (by decide +kernel)) ggL_law_X3_fits
set_option maxRecDepth 20000 in
theorem ggL_law_X4_fits : GoodIn wsL_law wsX4_fits := goodIn_r _ [708, 101, 709, 710, 711, 5, 712, 79, 713, 714, 715, 716, 105, 106, 107, 277, 278, 279, 280, 67, 115, 116, 117, 118, 70, 717, 718, 719, 720, 187, 188, 189, 190, 191, 192, 193, 721, 722, 723, 724, 69, 80, 81, 478, 479, 480, 421, 422, 423, 424, 425, 426, 427, 428, 71, 429, 400, 166, 401, 209, 165, 167, 183, 184, 185, 186, 194, 195, 196, 197, 198, 199, 200, 289, 290, 291, 292, 293, 294, 295, 296, 210, 211, 212, 213, 214, 173, 174, 1096, 1097, 1098, 1099, 1100, 1101, 1102, 1103, 1104, 1105, 1106, 1107, 1108, 1109, 1110, 1111, 1112, 1113, 1114, 1115, 1116, 1117, 1118, 1119] (by decide +kernel) (by decide +kernel)
set_option maxRecDepth 20000 in
theorem gL_law_X4_fits : GoodIn wsL_law (wsV RL 136 RX4 yX4_fits wsX4_fits) := goodIn_app (goodIn_of _ (by decide +kernel)) ggL_law_X4_fits
set_option maxRecDepth 20000 in
theorem ggL_law_X3_kinds : GoodIn wsL_law wsX3_kinds := goodIn_r _ [728, 16, 251, 683, 684, 685, 2, 686, 15, 24, 687, 688, 689, 690, 691, 692, 693, 694, 695, 696, 697, 30, 698, 61, 256, 257, 258, 259, 219, 92, 93, 94, 95, 26, 96, 466, 467, 468, 14, 469, 35, 394, 395, 396, 397, 36, 37, 38, 39, 40, 41, 42, 43, 44, 699, 700, 701, 702, 703, 704, 255, 489, 391, 392, 393, 47, 45, 46, 398, 399, 400, 166, 401, 143, 144, 145, 146, 139, 140, 141, 142, 147, 148, 149, 150, 151, 152, 153, 154, 402, 373, 374, 375, 269, 270, 271, 272, 172, 173, 174, 403, 404, 405, 406, 164, 165, 167, 135, 136, 137, 138, 1087, 1088, 1089, 1090, 1091, 1092, 1093, 1094, 1095, 1120, 1121, 1122, 1123, 1124, 1125, 1126, 1127, 1128, 1129, 1130, 1131, 1132, 1139, 1140, 1141] (by decide +kernel) (by decide +kernel)
set_option maxRecDepth 20000 in
theorem gL_law_X3_kinds : GoodIn wsL_law (wsV RL 137 RX3 yX3_kinds wsX3_kinds) := goodIn_app (goodIn_of _ (by decide +kernel)) ggL_law_X3_kinds
set_option maxRecDepth 20000 in
theorem ggL_law_X4_kinds : GoodIn wsL_law wsX4_kinds := goodIn_r _ [732, 101, 709, 710, 711, 5, 712, 79, 713, 714, 715, 716, 105, 106, 107, 277, 278, 279, 280, 67, 115, 116, 117, 118, 70, 717, 718, 719, 720, 187, 188, 189, 190, 191, 192, 193, 721, 722, 723, 724, 69, 80, 81, 478, 479, 480, 421, 422, 423, 424, 425, 426, 427, 428, 71, 429, 400, 166, 401, 209, 165, 167, 183, 184, 185, 186, 194, 195, 196, 197, 198, 199, 200, 289, 290, 291, 292, 293, 294, 295, 296, 210, 211, 212, 213, 214, 173, 174, 1096, 1097, 1098, 1099, 1100, 1101, 1102, 1103, 1104, 1105, 1106, 1107, 1108, 1109, 1110, 1111, 1112, 1113, 1114, 1115, 1116, 1117, 1118, 1119] (by decide +kernel) (by decide +kernel)
set_option maxRecDepth 20000 in
theorem gL_law_X4_kinds : GoodIn wsL_law (wsV RL 140 RX4 yX4_kinds wsX4_kinds) := goodIn_app (goodIn_of _ (by decide +kernel)) ggL_law_X4_kinds
set_option maxRecDepth 20000 in
theorem ggL_law_X3_strings : GoodIn wsL_law wsX3_strings := goodIn_r _ [736, 15, 384, 385, 255, 92, 93, 94, 2, 95, 26, 96, 737, 738, 739, 14, 740, 44, 741, 256, 257, 258, 259, 219, 489, 391, 392, 393, 40, 47, 394, 395, 396, 397, 42, 45, 46, 39, 398, 43, 399, 400, 166, 401, 143, 144, 145, 146, 38, 139, 140, 141, 142, 36, 147, 148, 149, 150, 151, 152, 153, 154, 35, 402, 373, 374, 375, 269, 270, 271, 272, 37, 172, 173, 174, 403, 404, 405, 406, 164, 165, 167, 135, 136, 137, 138, 1087, 1088, 1089, 1090, 1091, 1092, 1093, 1094, 1095, 1120, 1121, 1122, 1123, 1124, 1125, 1126, 1127, 1128, 1129, 1130, 1131, 1132] (by decide +kernel) (by decide +kernel)
set_option maxRecDepth 20000 in
theorem gL_law_X3_strings : GoodIn wsL_law (wsV RL 141 RX3 yX3_strings wsX3_strings) := goodIn_app (goodIn_of _ (by decide +kernel)) ggL_law_X3_strings
set_option maxRecDepth 20000 in
theorem ggL_law_X4_strings : GoodIn wsL_law wsX4_strings := goodIn_r _ [745, 101, 67, 415, 416, 105, 106, 5, 107, 115, 116, 117, 118, 70, 746, 747, 748, 749, 750, 277, 278, 279, 280, 191, 192, 193, 421, 422, 423, 424, 425, 426, 427, 428, 71, 429, 400, 166, 401, 209, 165, 167, 183, 184, 185, 186, 187, 188, 189, 190, 194, 195, 196, 197, 198, 199, 200, 289, 290, 291, 292, 293, 294, 295, 296, 210, 211, 212, 213, 214, 173, 174, 1096, 1097, 1098, 1099, 1100, 1101, 1102, 1103, 1104, 1105, 1106, 1107, 1108, 1109, 1110, 1111, 1112, 1113, 1114, 1115, 1116, 1117, 1118, 1119] (by decide +kernel) (by decide +kernel)
set_option maxRecDepth 20000 in
theorem gL_law_X4_strings : GoodIn wsL_law (wsV RL 144 RX4 yX4_strings wsX4_strings) := goodIn_app (goodIn_of _ (by decide +kernel)) ggL_law_X4_strings
set_option maxRecDepth 20000 in
theorem ggL_law_X3_odds : GoodIn wsL_law wsX3_odds := goodIn_r _ [754, 15, 219, 92, 93, 94, 2, 95, 26, 96, 1087, 1088, 1089, 1090, 1091, 1092, 1093, 1094, 1095, 1120, 1121, 1122, 1123, 1124, 1125, 1126, 1127, 1128, 1129, 1130, 1131, 1132] (by decide +kernel) (by decide +kernel)
set_option maxRecDepth 20000 in
theorem gL_law_X3_odds : GoodIn wsL_law (wsV RL 145 RX3 yX3_odds wsX3_odds) := goodIn_app (goodIn_of _ (by decide +kernel)) ggL_law_X3_odds
set_option maxRecDepth 20000 in
theorem ggL_law_X4_odds : GoodIn wsL_law wsX4_odds := goodIn_r _ [758, 101, 67, 105, 106, 5, 107, 115, 116, 117, 118, 70, 1096, 1097, 1098, 1099, 1100, 1101, 1102, 1103, 1104, 1105, 1106, 1107, 1108, 1109, 1110, 1111, 1112, 1113, 1114, 1115, 1116, 1117, 1118, 1119] (by decide +kernel) (by decide +kernel)
set_option maxRecDepth 20000 in
theorem gL_law_X4_odds : GoodIn wsL_law (wsV RL 149 RX4 yX4_odds wsX4_odds) := goodIn_app (goodIn_of _ (by decide +kernel)) ggL_law_X4_odds
set_option maxRecDepth 20000 in
theorem ggL_law_X3_seed : GoodIn wsL_law wsX3_seed := goodIn_r _ [762, 15, 763, 1087, 1088, 1089, 1090, 1091, 1092, 1093, 1094, 1095, 1120, 1121, 1122, 1123, 1124, 1125, 1126, 1127, 1128, 1129, 1130, 1131, 1132] (by decide +kernel) (by decide +kernel)
set_option maxRecDepth 20000 in
theorem gL_law_X3_seed : GoodIn wsL_law (wsV RL 150 RX3 yX3_seed wsX3_seed) := goodIn_app (goodIn_of _ (by decide +kernel)) ggL_law_X3_seed
set_option maxRecDepth 20000 in
theorem ggL_law_X4_seed : GoodIn wsL_law wsX4_seed := goodIn_r _ [767, 111, 112, 113, 5, 114, 67, 1096, 1097, 1098, 1099, 1100, 1101, 1102, 1103, 1104, 1105, 1106, 1107, 1108, 1109, 1110, 1111, 1112, 1113, 1114, 1115, 1116, 1117, 1118, 1119] (by decide +kernel) (by decide +kernel)
set_option maxRecDepth 20000 in
theorem gL_law_X4_seed : GoodIn wsL_law (wsV RL 153 RX4 yX4_seed wsX4_seed) := goodIn_app (goodIn_of _ (by decide +kernel)) ggL_law_X4_seed
set_option maxRecDepth 20000 in
theorem ggL_law_X3_feed : GoodIn wsL_law wsX3_feed := goodIn_r _ [771, 22, 772, 92, 93, 94, 2, 95, 26, 96, 773, 774, 775, 21, 776, 51, 52, 1087, 1088, 1089, 1090, 1091, 1092, 1093, 1094, 1095, 1133, 1134, 1135, 1136, 1137, 1138] (by decide +kernel) (by decide +kernel)
set_option maxRecDepth 20000 in
theorem gL_law_X3_feed : GoodIn wsL_law (wsV RL 154 RX3 yX3_feed wsX3_feed) := goodIn_app (goodIn_of _ (by decide +kernel)) ggL_law_X3_feed
set_option maxRecDepth 20000 in
theorem ggL_law_X4_feed : GoodIn wsL_law wsX4_feed := goodIn_r _ [780, 101, 781, 236, 75, 105, 106, 5, 107, 115, 116, 117, 118, 70, 1096, 1097, 1098, 1099, 1100, 1101, 1102, 1103, 1104, 1105, 1106, 1107, 1108, 1109, 1110, 1111, 1112, 1113, 1114, 1115, 1116, 1117, 1118, 1119] (by decide +kernel) (by decide +kernel)
set_option maxRecDepth 20000 in
theorem gL_law_X4_feed : GoodIn wsL_law (wsV RL 157 RX4 yX4_feed wsX4_feed) := goodIn_app (goodIn_of _ (by decide +kernel)) ggL_law_X4_feed
set_option maxRecDepth 20000 in
theorem ggL_law_X3_wipe : GoodIn wsL_law wsX3_wipe := goodIn_r _ [785, 22, 772, 1087, 1088, 1089, 1090, 1091, 1092, 1093, 1094, 1095, 1133, 1134, 1135, 1136, 1137, 1138] (by decide +kernel) (by decide +kernel)
set_option maxRecDepth 20000 in
theorem gL_law_X3_wipe : GoodIn wsL_law (wsV RL 158 RX3 yX3_wipe wsX3_wipe) := goodIn_app (goodIn_of _ (by decide +kernel)) ggL_law_X3_wipe
set_option maxRecDepth 20000 in
theorem ggL_law_X4_wipe : GoodIn wsL_law wsX4_wipe := goodIn_r _ [789, 781, 1096, 1097, 1098, 1099, 1100, 1101, 1102, 1103, 1104, 1105, 1106, 1107, 1108, 1109, 1110, 1111, 1112, 1113, 1114, 1115, 1116, 1117, 1118, 1119] (by decide +kernel) (by decide +kernel)
set_option maxRecDepth 20000 in
theorem gL_law_X4_wipe : GoodIn wsL_law (wsV RL 161 RX4 yX4_wipe wsX4_wipe) := goodIn_app (goodIn_of _ (by decide +kernel)) ggL_law_X4_wipe
set_option maxRecDepth 20000 in
theorem ggL_law_X3_text : GoodIn wsL_law wsX3_text := goodIn_r _ [793, 16, 15, 22, 772, 466, 467, 468, 14, 469, 35, 394, 395, 396, 397, 36, 37, 38, 39, 40, 41, 42, 43, 44, 794, 795, 796, 21, 797, 55, 53, 54, 798, 799, 800, 801, 51, 56, 802, 400, 166, 401, 803, 804, 805, 806, 52, 807, 808, 809, 810, 811, 812, 813, 814, 815, 816, 817, 818, 819, 820, 821, 822, 823, 824, 825, 826, 827, 828, 829, 830, 831, 832, 833, 834, 835, 836, 837, 838, 839, 840, 841, 842, 843, 844, 845, 846, 847, 848, 849, 850, 851, 852, 853, 854, 855, 856, 857, 858, 859, 860, 861, 862, 863, 864, 865, 866, 867, 868, 869, 870, 871, 872, 873, 874, 875, 876, 877, 878, 879, 880, 881, 882, 883, 884, 885, 886, 887, 888, 889, 890, 891, 892, 893, 894, 229, 230, 231, 895, 896, 897, 898, 1087, 1088, 1089, 1090, 1091, 1092, 1093, 1094, 1095, 1133, 1134, 1135, 1136, 1137, 1138, 1120, 1121, 1122, 1123, 1124, 1125, 1126, 1127, 1128, 1129, 1130, 1131, 1132] (by decide +kernel) (by decide +kernel)
set_option maxRecDepth 20000 in
theorem gL_law_X3_text : GoodIn wsL_law (wsV RL 162 RX3 yX3_text wsX3_text) := goodIn_app (goodIn_of _ (by decide +kernel)) ggL_law_X3_text
set_option maxRecDepth 20000 in
theorem ggL_law_X4_text : GoodIn wsL_law wsX4_text := goodIn_r _ [902, 903, 904, 905, 67, 906, 907, 75, 908, 781, 909, 910, 911, 5, 912, 913, 429, 400, 166, 401, 914, 915, 916, 917, 105, 106, 107, 918, 919, 920, 921, 922, 923, 924, 925, 77, 926, 927, 928, 929, 930, 830, 831, 832, 833, 834, 835, 836, 837, 838, 839, 840, 931, 842, 843, 844, 845, 846, 847, 848, 849, 850, 851, 852, 853, 854, 855, 856, 857, 858, 859, 860, 861, 862, 863, 864, 865, 866, 867, 868, 869, 870, 871, 872, 873, 874, 875, 876, 877, 932, 933, 934, 935, 936, 937, 938, 939, 940, 941, 942, 943, 944, 945, 946, 947, 78, 948, 949, 950, 951, 111, 112, 113, 114, 243, 244, 245, 246, 191, 192, 193, 1096, 1097, 1098, 1099, 1100, 1101, 1102, 1103, 1104, 1105, 1106, 1107, 1108, 1109, 1110, 1111, 1112, 1113, 1114, 1115, 1116, 1117, 1118, 1119] (by decide +kernel) (by decide +kernel)
set_option maxRecDepth 20000 in
theorem gL_law_X4_text : GoodIn wsL_law (wsV RL 165 RX4 yX4_text wsX4_text) := goodIn_app (goodIn_of _ (by decide +kernel)) ggL_law_X4_text
set_option maxRecDepth 20000 in
theorem ggL_law_X3_hold : GoodIn wsL_law wsX3_hold := goodIn_r _ [955, 15, 956, 957, 958, 959, 2, 960, 256, 257, 258, 259, 219, 92, 93, 94, 95, 26, 96, 1087, 1088, 1089, 1090, 1091, 1092, 1093, 1094, 1095, 1120, 1121, 1122, 1123, 1124, 1125, 1126, 1127, 1128, 1129, 1130, 1131, 1132] (by decide +kernel) (by decide +kernel)
set_option maxRecDepth 20000 in
theorem gL_law_X3_hold : GoodIn wsL_law (wsV RL 166 RX3 yX3_hold wsX3_hold) := goodIn_app (goodIn_of _ (by decide +kernel)) ggL_law_X3_hold
set_option maxRecDepth 20000 in
theorem ggL_law_X4_hold : GoodIn wsL_law wsX4_hold := goodIn_r _ [964, 101, 67, 965, 966, 5, 967, 105, 106, 107, 277, 278, 279, 280, 115, 116, 117, 118, 70, 1096, 1097, 1098, 1099, 1100, 1101, 1102, 1103, 1104, 1105, 1106, 1107, 1108, 1109, 1110, 1111, 1112, 1113, 1114, 1115, 1116, 1117, 1118, 1119] (by decide +kernel) (by decide +kernel)
set_option maxRecDepth 20000 in
theorem gL_law_X4_hold : GoodIn wsL_law (wsV RL 169 RX4 yX4_hold wsX4_hold) := goodIn_app (goodIn_of _ (by decide +kernel)) ggL_law_X4_hold
set_option maxRecDepth 20000 in
theorem ggL_law_X3_as : GoodIn wsL_law wsX3_as := goodIn_r _ [971, 15, 956, 957, 958, 959, 2, 960, 220, 221, 222, 223, 92, 93, 94, 95, 26, 96, 256, 257, 258, 259, 219, 972, 140, 141, 14, 142, 36, 1087, 1088, 1089, 1090, 1091, 1092, 1093, 1094, 1095, 1120, 1121, 1122, 1123, 1124, 1125, 1126, 1127, 1128, 1129, 1130, 1131, 1132] (by decide +kernel) (by decide +kernel)
set_option maxRecDepth 20000 in
theorem gL_law_X3_as : GoodIn wsL_law (wsV RL 170 RX3 yX3_as wsX3_as) := goodIn_app (goodIn_of _ (by decide +kernel)) ggL_law_X3_as
set_option maxRecDepth 20000 in
theorem ggL_law_X4_as : GoodIn wsL_law wsX4_as := goodIn_r _ [976, 101, 67, 713, 977, 965, 966, 5, 967, 105, 106, 107, 237, 238, 239, 115, 116, 117, 118, 70, 187, 188, 189, 190, 191, 192, 193, 978, 979, 980, 981, 982, 983, 1096, 1097, 1098, 1099, 1100, 1101, 1102, 1103, 1104, 1105, 1106, 1107, 1108, 1109, 1110, 1111, 1112, 1113, 1114, 1115, 1116, 1117, 1118, 1119] (by decide +kernel) (by decide +kernel)
set_option maxRecDepth 20000 in
theorem gL_law_X4_as : GoodIn wsL_law (wsV RL 173 RX4 yX4_as wsX4_as) := goodIn_app (goodIn_of _ (by decide +kernel)) ggL_law_X4_as
set_option maxRecDepth 20000 in
theorem ggL_law_X3_sheet : GoodIn wsL_law wsX3_sheet := goodIn_r _ [987, 24, 703, 691, 692, 693, 2, 694, 92, 93, 94, 95, 26, 96, 988, 989, 990, 30, 991, 61, 62, 60, 1087, 1088, 1089, 1090, 1091, 1092, 1093, 1094, 1095, 1139, 1140, 1141] (by decide +kernel) (by decide +kernel)
set_option maxRecDepth 20000 in
theorem gL_law_X3_sheet : GoodIn wsL_law (wsV RL 174 RX3 yX3_sheet wsX3_sheet) := goodIn_app (goodIn_of _ (by decide +kernel)) ggL_law_X3_sheet
set_option maxRecDepth 20000 in
theorem ggL_law_X4_sheet : GoodIn wsL_law wsX4_sheet := goodIn_r _ [995, 101, 996, 79, 80, 81, 714, 715, 5, 716, 105, 106, 107, 115, 116, 117, 118, 70, 1096, 1097, 1098, 1099, 1100, 1101, 1102, 1103, 1104, 1105, 1106, 1107, 1108, 1109, 1110, 1111, 1112, 1113, 1114, 1115, 1116, 1117, 1118, 1119] (by decide +kernel) (by decide +kernel)
set_option maxRecDepth 20000 in
theorem gL_law_X4_sheet : GoodIn wsL_law (wsV RL 177 RX4 yX4_sheet wsX4_sheet) := goodIn_app (goodIn_of _ (by decide +kernel)) ggL_law_X4_sheet
set_option maxRecDepth 20000 in
theorem ggL_law_X3_write : GoodIn wsL_law wsX3_write := goodIn_r _ [1000, 24, 703, 687, 688, 689, 2, 690, 691, 692, 693, 694, 695, 696, 697, 30, 698, 61, 92, 93, 94, 95, 26, 96, 1001, 1002, 1003, 1004, 60, 1087, 1088, 1089, 1090, 1091, 1092, 1093, 1094, 1095, 1139, 1140, 1141] (by decide +kernel) (by decide +kernel)
set_option maxRecDepth 20000 in
theorem gL_law_X3_write : GoodIn wsL_law (wsV RL 178 RX3 yX3_write wsX3_write) := goodIn_app (goodIn_of _ (by decide +kernel)) ggL_law_X3_write
set_option maxRecDepth 20000 in
theorem ggL_law_X4_write : GoodIn wsL_law wsX4_write := goodIn_r _ [1008, 101, 79, 713, 80, 81, 714, 715, 5, 716, 105, 106, 107, 115, 116, 117, 118, 70, 1009, 1010, 1011, 1096, 1097, 1098, 1099, 1100, 1101, 1102, 1103, 1104, 1105, 1106, 1107, 1108, 1109, 1110, 1111, 1112, 1113, 1114, 1115, 1116, 1117, 1118, 1119] (by decide +kernel) (by decide +kernel)
set_option maxRecDepth 20000 in
theorem gL_law_X4_write : GoodIn wsL_law (wsV RL 181 RX4 yX4_write wsX4_write) := goodIn_app (goodIn_of _ (by decide +kernel)) ggL_law_X4_write
set_option maxRecDepth 20000 in
theorem ggL_law_X3_copy : GoodIn wsL_law wsX3_copy := goodIn_r _ [1015, 24, 1016, 704, 1017, 395, 396, 397, 691, 692, 693, 2, 694, 92, 93, 94, 95, 26, 96, 695, 696, 697, 30, 698, 61, 1018, 1019, 1020, 1021, 62, 1087, 1088, 1089, 1090, 1091, 1092, 1093, 1094, 1095, 1139, 1140, 1141] (by decide +kernel) (by decide +kernel)
set_option maxRecDepth 20000 in
theorem gL_law_X3_copy : GoodIn wsL_law (wsV RL 182 RX3 yX3_copy wsX3_copy) := goodIn_app (goodIn_of _ (by decide +kernel)) ggL_law_X3_copy
set_option maxRecDepth 20000 in
theorem ggL_law_X4_copy : GoodIn wsL_law wsX4_copy := goodIn_r _ [1025, 101, 79, 713, 977, 80, 82, 81, 714, 715, 5, 716, 105, 106, 107, 115, 116, 117, 118, 70, 1096, 1097, 1098, 1099, 1100, 1101, 1102, 1103, 1104, 1105, 1106, 1107, 1108, 1109, 1110, 1111, 1112, 1113, 1114, 1115, 1116, 1117, 1118, 1119] (by decide +kernel) (by decide +kernel)
set_option maxRecDepth 20000 in
theorem gL_law_X4_copy : GoodIn wsL_law (wsV RL 186 RX4 yX4_copy wsX4_copy) := goodIn_app (goodIn_of _ (by decide +kernel)) ggL_law_X4_copy
set_option maxRecDepth 20000 in
theorem ggL_law_X3_load : GoodIn wsL_law wsX3_load := goodIn_r _ [1029, 24, 703, 704, 15, 87, 687, 688, 689, 2, 690, 691, 692, 693, 694, 695, 696, 697, 30, 698, 61, 92, 93, 94, 95, 26, 96, 1087, 1088, 1089, 1090, 1091, 1092, 1093, 1094, 1095, 1139, 1140, 1141, 1120, 1121, 1122, 1123, 1124, 1125, 1126, 1127, 1128, 1129, 1130, 1131, 1132] (by decide +kernel) (by decide +kernel)
set_option maxRecDepth 20000 in
theorem gL_law_X3_load : GoodIn wsL_law (wsV RL 187 RX3 yX3_load wsX3_load) := goodIn_app (goodIn_of _ (by decide +kernel)) ggL_law_X3_load
set_option maxRecDepth 20000 in
theorem ggL_law_X4_load : GoodIn wsL_law wsX4_load := goodIn_r _ [1033, 80, 81, 67, 709, 710, 711, 5, 712, 101, 79, 713, 714, 715, 716, 105, 106, 107, 115, 116, 117, 118, 70, 102, 103, 104, 108, 109, 110, 1096, 1097, 1098, 1099, 1100, 1101, 1102, 1103, 1104, 1105, 1106, 1107, 1108, 1109, 1110, 1111, 1112, 1113, 1114, 1115, 1116, 1117, 1118, 1119] (by decide +kernel) (by decide +kernel)
set_option maxRecDepth 20000 in
theorem gL_law_X4_load : GoodIn wsL_law (wsV RL 190 RX4 yX4_load wsX4_load) := goodIn_app (goodIn_of _ (by decide +kernel)) ggL_law_X4_load
set_option maxRecDepth 20000 in
theorem ggL_law_X3_judge : GoodIn wsL_law wsX3_judge := goodIn_r _ [1037, 24, 704, 703, 15, 687, 688, 689, 2, 690, 691, 692, 693, 694, 695, 696, 697, 30, 698, 61, 92, 93, 94, 95, 26, 96, 256, 257, 258, 259, 219, 316, 317, 318, 319, 359, 266, 267, 14, 268, 269, 270, 271, 272, 36, 37, 39, 172, 173, 166, 174, 131, 132, 133, 134, 135, 136, 137, 138, 40, 139, 140, 141, 142, 143, 144, 145, 146, 38, 147, 148, 149, 150, 42, 151, 152, 153, 154, 35, 1087, 1088, 1089, 1090, 1091, 1092, 1093, 1094, 1095, 1139, 1140, 1141, 1120, 1121, 1122, 1123, 1124, 1125, 1126, 1127, 1128, 1129, 1130, 1131, 1132] (by decide +kernel) (by decide +kernel)
set_option maxRecDepth 20000 in
theorem gL_law_X3_judge : GoodIn wsL_law (wsV RL 191 RX3 yX3_judge wsX3_judge) := goodIn_app (goodIn_of _ (by decide +kernel)) ggL_law_X3_judge
set_option maxRecDepth 20000 in
theorem ggL_law_X4_judge : GoodIn wsL_law wsX4_judge := goodIn_r _ [1041, 80, 81, 709, 710, 711, 5, 712, 101, 79, 713, 714, 715, 716, 105, 106, 107, 115, 116, 117, 118, 70, 277, 278, 279, 280, 67, 364, 365, 366, 367, 293, 294, 295, 296, 187, 188, 189, 190, 191, 192, 193, 210, 211, 212, 213, 214, 173, 166, 174, 209, 165, 167, 183, 184, 185, 186, 194, 195, 196, 197, 198, 199, 200, 1096, 1097, 1098, 1099, 1100, 1101, 1102, 1103, 1104, 1105, 1106, 1107, 1108, 1109, 1110, 1111, 1112, 1113, 1114, 1115, 1116, 1117, 1118, 1119] (by decide +kernel) (by decide +kernel)
set_option maxRecDepth 20000 in
theorem gL_law_X4_judge : GoodIn wsL_law (wsV RL 194 RX4 yX4_judge wsX4_judge) := goodIn_app (goodIn_of _ (by decide +kernel)) ggL_law_X4_judge
set_option maxRecDepth 20000 in
theorem ggL_law_X3_image : GoodIn wsL_law wsX3_image := goodIn_r _ [1045, 17, 15, 18, 466, 467, 468, 14, 469, 35, 394, 395, 396, 397, 36, 37, 38, 39, 40, 41, 42, 43, 44, 1087, 1088, 1089, 1090, 1091, 1092, 1093, 1094, 1095, 1120, 1121, 1122, 1123, 1124, 1125, 1126, 1127, 1128, 1129, 1130, 1131, 1132] (by decide +kernel) (by decide +kernel)
set_option maxRecDepth 20000 in
theorem gL_law_X3_image : GoodIn wsL_law (wsV RL 195 RX3 yX3_image wsX3_image) := goodIn_app (goodIn_of _ (by decide +kernel)) ggL_law_X3_image
set_option maxRecDepth 20000 in
theorem ggL_law_X4_image : GoodIn wsL_law wsX4_image := goodIn_r _ [1049, 67, 68, 1050, 478, 479, 5, 480, 1096, 1097, 1098, 1099, 1100, 1101, 1102, 1103, 1104, 1105, 1106, 1107, 1108, 1109, 1110, 1111, 1112, 1113, 1114, 1115, 1116, 1117, 1118, 1119] (by decide +kernel) (by decide +kernel)
set_option maxRecDepth 20000 in
theorem gL_law_X4_image : GoodIn wsL_law (wsV RL 198 RX4 yX4_image wsX4_image) := goodIn_app (goodIn_of _ (by decide +kernel)) ggL_law_X4_image
set_option maxRecDepth 20000 in
theorem ggL_law_X3_undo : GoodIn wsL_law wsX3_undo := goodIn_r _ [1054, 18, 15, 17, 384, 92, 93, 94, 2, 95, 26, 96, 466, 467, 468, 14, 469, 35, 394, 395, 396, 397, 36, 37, 38, 39, 40, 41, 42, 43, 44, 1087, 1088, 1089, 1090, 1091, 1092, 1093, 1094, 1095, 1120, 1121, 1122, 1123, 1124, 1125, 1126, 1127, 1128, 1129, 1130, 1131, 1132] (by decide +kernel) (by decide +kernel)
set_option maxRecDepth 20000 in
theorem gL_law_X3_undo : GoodIn wsL_law (wsV RL 199 RX3 yX3_undo wsX3_undo) := goodIn_app (goodIn_of _ (by decide +kernel)) ggL_law_X3_undo
set_option maxRecDepth 20000 in
theorem ggL_law_X4_undo : GoodIn wsL_law wsX4_undo := goodIn_r _ [1058, 1050, 498, 68, 67, 115, 116, 117, 5, 118, 70, 101, 478, 479, 480, 1096, 1097, 1098, 1099, 1100, 1101, 1102, 1103, 1104, 1105, 1106, 1107, 1108, 1109, 1110, 1111, 1112, 1113, 1114, 1115, 1116, 1117, 1118, 1119] (by decide +kernel) (by decide +kernel)
set_option maxRecDepth 20000 in
theorem gL_law_X4_undo : GoodIn wsL_law (wsV RL 202 RX4 yX4_undo wsX4_undo) := goodIn_app (goodIn_of _ (by decide +kernel)) ggL_law_X4_undo
set_option maxRecDepth 20000 in
theorem ggL_law_X3_tear : GoodIn wsL_law wsX3_tear := goodIn_r _ [1062, 18, 1087, 1088, 1089, 1090, 1091, 1092, 1093, 1094, 1095] (by decide +kernel) (by decide +kernel)
set_option maxRecDepth 20000 in
theorem gL_law_X3_tear : GoodIn wsL_law (wsV RL 203 RX3 yX3_tear wsX3_tear) := goodIn_app (goodIn_of _ (by decide +kernel)) ggL_law_X3_tear
set_option maxRecDepth 20000 in
theorem ggL_law_X4_tear : GoodIn wsL_law wsX4_tear := goodIn_r _ [1066, 1050, 1096, 1097, 1098, 1099, 1100, 1101, 1102, 1103, 1104, 1105, 1106, 1107, 1108, 1109, 1110, 1111, 1112, 1113, 1114, 1115, 1116, 1117, 1118, 1119] (by decide +kernel) (by decide +kernel)
set_option maxRecDepth 20000 in
theorem gL_law_X4_tear : GoodIn wsL_law (wsV RL 206 RX4 yX4_tear wsX4_tear) := goodIn_app (goodIn_of _ (by decide +kernel)) ggL_law_X4_tear
set_option maxRecDepth 20000 in
theorem ggL_law_X3_count : GoodIn wsL_law wsX3_count := goodIn_r _ [1070, 15, 384, 219, 22, 772, 763, 438, 439, 440, 14, 441, 42, 40, 567, 568, 569, 570, 571, 572, 573, 442, 443, 444, 445, 39, 407, 408, 409, 410, 1071, 1072, 1073, 1074, 41, 92, 93, 94, 2, 95, 26, 96, 1087, 1088, 1089, 1090, 1091, 1092, 1093, 1094, 1095, 1120, 1121, 1122, 1123, 1124, 1125, 1126, 1127, 1128, 1129, 1130, 1131, 1132, 1133, 1134, 1135, 1136, 1137, 1138] (by decide +kernel) (by decide +kernel)
set_option maxRecDepth 20000 in
theorem gL_law_X3_count : GoodIn wsL_law (wsV RL 207 RX3 yX3_count wsX3_count) := goodIn_app (goodIn_of _ (by decide +kernel)) ggL_law_X3_count
set_option maxRecDepth 20000 in
theorem ggL_law_X4_count : GoodIn wsL_law wsX4_count := goodIn_r _ [1078, 67, 781, 101, 454, 455, 456, 5, 457, 187, 188, 189, 190, 191, 192, 193, 582, 583, 584, 430, 431, 432, 433, 115, 116, 117, 118, 70, 1096, 1097, 1098, 1099, 1100, 1101, 1102, 1103, 1104, 1105, 1106, 1107, 1108, 1109, 1110, 1111, 1112, 1113, 1114, 1115, 1116, 1117, 1118, 1119] (by decide +kernel) (by decide +kernel)
set_option maxRecDepth 20000 in
theorem gL_law_X4_count : GoodIn wsL_law (wsV RL 210 RX4 yX4_count wsX4_count) := goodIn_app (goodIn_of _ (by decide +kernel)) ggL_law_X4_count
set_option maxRecDepth 20000 in
theorem ggL_law_X3_status : GoodIn wsL_law wsX3_status := goodIn_r _ [1082, 26, 92, 93, 94, 2, 95, 96, 1087, 1088, 1089, 1090, 1091, 1092, 1093, 1094, 1095] (by decide +kernel) (by decide +kernel)
set_option maxRecDepth 20000 in
theorem gL_law_X3_status : GoodIn wsL_law (wsV RL 211 RX3 yX3_status wsX3_status) := goodIn_app (goodIn_of _ (by decide +kernel)) ggL_law_X3_status
set_option maxRecDepth 20000 in
theorem ggL_law_X4_status : GoodIn wsL_law wsX4_status := goodIn_r _ [1086, 70, 101, 105, 106, 5, 107, 115, 116, 117, 118, 1096, 1097, 1098, 1099, 1100, 1101, 1102, 1103, 1104, 1105, 1106, 1107, 1108, 1109, 1110, 1111, 1112, 1113, 1114, 1115, 1116, 1117, 1118, 1119] (by decide +kernel) (by decide +kernel)
set_option maxRecDepth 20000 in
theorem gL_law_X4_status : GoodIn wsL_law (wsV RL 214 RX4 yX4_status wsX4_status) := goodIn_app (goodIn_of _ (by decide +kernel)) ggL_law_X4_status
