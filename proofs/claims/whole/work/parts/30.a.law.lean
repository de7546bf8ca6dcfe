set_option maxRecDepth 20000 in
theorem ggL_law_X3_init : GoodIn wsL_law wsX3_init := goodIn_r _ [8, 9, 10, 11, 12, 13, 14, 15, 16, 17, 18, 19, 20, 21, 22, 23, 24, 25, 26, 27, 28, 29, 30, 31, 32, 33, 34, 35, 36, 37, 38, 39, 40, 41, 42, 43, 44, 45, 46, 47, 48, 49, 50, 51, 52, 53, 54, 55, 56, 57, 58, 59, 60, 61, 62, 1120, 1121, 1122, 1123, 1124, 1125, 1126, 1127, 1128, 1129, 1130, 1131, 1132, 1087, 1088, 1089, 1090, 1091, 1092, 1093, 1094, 1095, 1133, 1134, 1135, 1136, 1137, 1138, 1139, 1140, 1141] (by decide +kernel) (by decide +kernel)
set_option maxRecDepth 20000 in
theorem gL_law_X3_init : GoodIn wsL_law (wsX3_init) := ggL_law_X3_init
set_option maxRecDepth 20000 in
theorem ggL_law_X4_init : GoodIn wsL_law wsX4_init := goodIn_r _ [65, 66, 10, 11, 25, 67, 68, 69, 70, 71, 72, 73, 74, 75, 76, 77, 78, 79, 80, 81, 82, 1096, 1097, 1098, 1099, 1100, 1101, 1102, 1103, 1104, 1105, 1106, 1107, 1108, 1109, 1110, 1111, 1112, 1113, 1114, 1115, 1116, 1117, 1118, 1119] (by decide +kernel) (by decide +kernel)
set_option maxRecDepth 20000 in
theorem gL_law_X4_init : GoodIn wsL_law (wsX4_init) := ggL_law_X4_init
set_option maxRecDepth 20000 in
theorem ggL_law_X3_bar : GoodIn wsL_law wsX3_bar := goodIn_r _ [86, 15, 87, 88, 89, 90, 2, 91, 92, 93, 94, 95, 26, 96, 1087, 1088, 1089, 1090, 1091, 1092, 1093, 1094, 1095, 1120, 1121, 1122, 1123, 1124, 1125, 1126, 1127, 1128, 1129, 1130, 1131, 1132] (by decide +kernel) (by decide +kernel)
set_option maxRecDepth 20000 in
theorem gL_law_X3_bar : GoodIn wsL_law (wsV RL 13 RX3 yX3_bar wsX3_bar) := goodIn_app (goodIn_of _ (by decide +kernel)) ggL_law_X3_bar
set_option maxRecDepth 20000 in
theorem ggL_law_X4_bar : GoodIn wsL_law wsX4_bar := goodIn_r _ [100, 101, 102, 103, 5, 104, 105, 106, 107, 108, 109, 110, 111, 112, 113, 114, 67, 115, 116, 117, 118, 70, 1096, 1097, 1098, 1099, 1100, 1101, 1102, 1103, 1104, 1105, 1106, 1107, 1108, 1109, 1110, 1111, 1112, 1113, 1114, 1115, 1116, 1117, 1118, 1119] (by decide +kernel) (by decide +kernel)
set_option maxRecDepth 20000 in
theorem gL_law_X4_bar : GoodIn wsL_law (wsV RL 17 RX4 yX4_bar wsX4_bar) := goodIn_app (goodIn_of _ (by decide +kernel)) ggL_law_X4_bar
set_option maxRecDepth 20000 in
theorem ggL_law_X3_barOf : GoodIn wsL_law wsX3_barOf := goodIn_r _ [122, 15, 87, 88, 89, 90, 2, 91, 92, 93, 94, 95, 26, 96, 123, 124, 125, 14, 126, 42, 127, 128, 129, 130, 131, 132, 133, 134, 135, 136, 137, 138, 40, 139, 140, 141, 142, 36, 143, 144, 145, 146, 38, 147, 148, 149, 150, 151, 152, 153, 154, 35, 155, 156, 157, 158, 159, 160, 161, 162, 163, 164, 165, 166, 167, 168, 169, 170, 171, 39, 37, 172, 173, 174, 1087, 1088, 1089, 1090, 1091, 1092, 1093, 1094, 1095, 1120, 1121, 1122, 1123, 1124, 1125, 1126, 1127, 1128, 1129, 1130, 1131, 1132] (by decide +kernel) (by decide +kernel)
set_option maxRecDepth 20000 in
theorem gL_law_X3_barOf : GoodIn wsL_law (wsV RL 18 RX3 yX3_barOf wsX3_barOf) := goodIn_app (goodIn_of _ (by decide +kernel)) ggL_law_X3_barOf
set_option maxRecDepth 20000 in
theorem ggL_law_X4_barOf : GoodIn wsL_law wsX4_barOf := goodIn_r _ [178, 101, 67, 102, 103, 5, 104, 105, 106, 107, 115, 116, 117, 118, 70, 179, 180, 181, 182, 183, 184, 185, 186, 187, 188, 189, 190, 191, 192, 193, 194, 195, 196, 197, 198, 199, 200, 201, 202, 203, 204, 205, 206, 207, 208, 209, 165, 166, 167, 210, 211, 212, 213, 214, 173, 174, 1096, 1097, 1098, 1099, 1100, 1101, 1102, 1103, 1104, 1105, 1106, 1107, 1108, 1109, 1110, 1111, 1112, 1113, 1114, 1115, 1116, 1117, 1118, 1119] (by decide +kernel) (by decide +kernel)
set_option maxRecDepth 20000 in
theorem gL_law_X4_barOf : GoodIn wsL_law (wsV RL 21 RX4 yX4_barOf wsX4_barOf) := goodIn_app (goodIn_of _ (by decide +kernel)) ggL_law_X4_barOf
set_option maxRecDepth 20000 in
theorem ggL_law_X3_player : GoodIn wsL_law wsX3_player := goodIn_r _ [218, 15, 219, 220, 221, 222, 2, 223, 224, 225, 226, 227, 92, 93, 94, 95, 26, 96, 228, 229, 230, 14, 231, 42, 36, 37, 38, 39, 40, 1087, 1088, 1089, 1090, 1091, 1092, 1093, 1094, 1095, 1120, 1121, 1122, 1123, 1124, 1125, 1126, 1127, 1128, 1129, 1130, 1131, 1132] (by decide +kernel) (by decide +kernel)
set_option maxRecDepth 20000 in
theorem gL_law_X3_player : GoodIn wsL_law (wsV RL 22 RX3 yX3_player wsX3_player) := goodIn_app (goodIn_of _ (by decide +kernel)) ggL_law_X3_player
set_option maxRecDepth 20000 in
theorem ggL_law_X4_player : GoodIn wsL_law wsX4_player := goodIn_r _ [235, 101, 67, 236, 237, 238, 5, 239, 105, 106, 107, 240, 241, 242, 115, 116, 117, 118, 70, 243, 244, 245, 246, 191, 192, 193, 1096, 1097, 1098, 1099, 1100, 1101, 1102, 1103, 1104, 1105, 1106, 1107, 1108, 1109, 1110, 1111, 1112, 1113, 1114, 1115, 1116, 1117, 1118, 1119] (by decide +kernel) (by decide +kernel)
set_option maxRecDepth 20000 in
theorem gL_law_X4_player : GoodIn wsL_law (wsV RL 25 RX4 yX4_player wsX4_player) := goodIn_app (goodIn_of _ (by decide +kernel)) ggL_law_X4_player
set_option maxRecDepth 20000 in
theorem ggL_law_X3_of : GoodIn wsL_law wsX3_of := goodIn_r _ [250, 15, 251, 252, 253, 254, 255, 256, 257, 258, 2, 259, 219, 92, 93, 94, 95, 26, 96, 260, 132, 133, 14, 134, 135, 136, 137, 138, 40, 139, 140, 141, 142, 36, 143, 144, 145, 146, 38, 147, 148, 149, 150, 42, 151, 152, 153, 154, 35, 261, 262, 263, 264, 131, 265, 266, 267, 268, 269, 270, 271, 272, 37, 39, 172, 173, 166, 174, 1087, 1088, 1089, 1090, 1091, 1092, 1093, 1094, 1095, 1120, 1121, 1122, 1123, 1124, 1125, 1126, 1127, 1128, 1129, 1130, 1131, 1132] (by decide +kernel) (by decide +kernel)
set_option maxRecDepth 20000 in
theorem gL_law_X3_of : GoodIn wsL_law (wsV RL 26 RX3 yX3_of wsX3_of) := goodIn_app (goodIn_of _ (by decide +kernel)) ggL_law_X3_of
set_option maxRecDepth 20000 in
theorem ggL_law_X4_of : GoodIn wsL_law wsX4_of := goodIn_r _ [276, 101, 277, 278, 279, 5, 280, 67, 105, 106, 107, 115, 116, 117, 118, 70, 281, 282, 283, 284, 183, 184, 185, 186, 187, 188, 189, 190, 191, 192, 193, 194, 195, 196, 197, 198, 199, 200, 285, 286, 287, 288, 289, 290, 291, 292, 293, 294, 295, 296, 210, 211, 212, 213, 214, 173, 166, 174, 209, 165, 167, 1096, 1097, 1098, 1099, 1100, 1101, 1102, 1103, 1104, 1105, 1106, 1107, 1108, 1109, 1110, 1111, 1112, 1113, 1114, 1115, 1116, 1117, 1118, 1119] (by decide +kernel) (by decide +kernel)
set_option maxRecDepth 20000 in
theorem gL_law_X4_of : GoodIn wsL_law (wsV RL 29 RX4 yX4_of wsX4_of) := goodIn_app (goodIn_of _ (by decide +kernel)) ggL_law_X4_of
set_option maxRecDepth 20000 in
theorem ggL_law_X3_change : GoodIn wsL_law wsX3_change := goodIn_r _ [300, 15, 251, 252, 253, 254, 255, 256, 257, 258, 2, 259, 219, 92, 93, 94, 95, 26, 96, 301, 302, 303, 304, 1087, 1088, 1089, 1090, 1091, 1092, 1093, 1094, 1095, 1120, 1121, 1122, 1123, 1124, 1125, 1126, 1127, 1128, 1129, 1130, 1131, 1132] (by decide +kernel) (by decide +kernel)
set_option maxRecDepth 20000 in
theorem gL_law_X3_change : GoodIn wsL_law (wsV RL 30 RX3 yX3_change wsX3_change) := goodIn_app (goodIn_of _ (by decide +kernel)) ggL_law_X3_change
set_option maxRecDepth 20000 in
theorem ggL_law_X4_change : GoodIn wsL_law wsX4_change := goodIn_r _ [308, 101, 277, 278, 279, 5, 280, 67, 105, 106, 107, 309, 310, 311, 237, 238, 239, 240, 241, 242, 191, 192, 193, 111, 112, 113, 114, 115, 116, 117, 118, 70, 1096, 1097, 1098, 1099, 1100, 1101, 1102, 1103, 1104, 1105, 1106, 1107, 1108, 1109, 1110, 1111, 1112, 1113, 1114, 1115, 1116, 1117, 1118, 1119] (by decide +kernel) (by decide +kernel)
set_option maxRecDepth 20000 in
theorem gL_law_X4_change : GoodIn wsL_law (wsV RL 34 RX4 yX4_change wsX4_change) := goodIn_app (goodIn_of _ (by decide +kernel)) ggL_law_X4_change
set_option maxRecDepth 20000 in
theorem ggL_law_X3_swap : GoodIn wsL_law wsX3_swap := goodIn_r _ [315, 15, 252, 316, 317, 318, 2, 319, 256, 257, 258, 259, 219, 92, 93, 94, 95, 26, 96, 320, 321, 322, 14, 323, 37, 1087, 1088, 1089, 1090, 1091, 1092, 1093, 1094, 1095, 1120, 1121, 1122, 1123, 1124, 1125, 1126, 1127, 1128, 1129, 1130, 1131, 1132] (by decide +kernel) (by decide +kernel)
set_option maxRecDepth 20000 in
theorem gL_law_X3_swap : GoodIn wsL_law (wsV RL 35 RX3 yX3_swap wsX3_swap) := goodIn_app (goodIn_of _ (by decide +kernel)) ggL_law_X3_swap
set_option maxRecDepth 20000 in
theorem ggL_law_X4_swap : GoodIn wsL_law wsX4_swap := goodIn_r _ [327, 101, 328, 329, 330, 5, 331, 277, 278, 279, 280, 67, 105, 106, 107, 332, 333, 334, 335, 191, 192, 193, 187, 188, 189, 190, 111, 112, 113, 114, 115, 116, 117, 118, 70, 1096, 1097, 1098, 1099, 1100, 1101, 1102, 1103, 1104, 1105, 1106, 1107, 1108, 1109, 1110, 1111, 1112, 1113, 1114, 1115, 1116, 1117, 1118, 1119] (by decide +kernel) (by decide +kernel)
set_option maxRecDepth 20000 in
theorem gL_law_X4_swap : GoodIn wsL_law (wsV RL 38 RX4 yX4_swap wsX4_swap) := goodIn_app (goodIn_of _ (by decide +kernel)) ggL_law_X4_swap
set_option maxRecDepth 20000 in
theorem ggL_law_X3_sound : GoodIn wsL_law wsX3_sound := goodIn_r _ [339, 15, 256, 257, 258, 2, 259, 219, 224, 225, 226, 227, 88, 89, 90, 91, 92, 93, 94, 95, 26, 96, 340, 128, 129, 14, 130, 131, 132, 133, 134, 135, 136, 137, 138, 40, 139, 140, 141, 142, 36, 143, 144, 145, 146, 38, 147, 148, 149, 150, 42, 151, 152, 153, 154, 35, 341, 169, 170, 171, 39, 37, 172, 173, 166, 174, 164, 165, 167, 1087, 1088, 1089, 1090, 1091, 1092, 1093, 1094, 1095, 1120, 1121, 1122, 1123, 1124, 1125, 1126, 1127, 1128, 1129, 1130, 1131, 1132] (by decide +kernel) (by decide +kernel)
set_option maxRecDepth 20000 in
theorem gL_law_X3_sound : GoodIn wsL_law (wsV RL 39 RX3 yX3_sound wsX3_sound) := goodIn_app (goodIn_of _ (by decide +kernel)) ggL_law_X3_sound
set_option maxRecDepth 20000 in
theorem ggL_law_X4_sound : GoodIn wsL_law wsX4_sound := goodIn_r _ [345, 101, 277, 278, 279, 5, 280, 67, 105, 106, 107, 240, 241, 242, 102, 103, 104, 210, 211, 212, 213, 214, 173, 166, 174, 209, 165, 167, 183, 184, 185, 186, 187, 188, 189, 190, 191, 192, 193, 194, 195, 196, 197, 198, 199, 200, 115, 116, 117, 118, 70, 1096, 1097, 1098, 1099, 1100, 1101, 1102, 1103, 1104, 1105, 1106, 1107, 1108, 1109, 1110, 1111, 1112, 1113, 1114, 1115, 1116, 1117, 1118, 1119] (by decide +kernel) (by decide +kernel)
set_option maxRecDepth 20000 in
theorem gL_law_X4_sound : GoodIn wsL_law (wsV RL 42 RX4 yX4_sound wsX4_sound) := goodIn_app (goodIn_of _ (by decide +kernel)) ggL_law_X4_sound
set_option maxRecDepth 20000 in
theorem ggL_law_X3_heard : GoodIn wsL_law wsX3_heard := goodIn_r _ [349, 15, 224, 225, 226, 2, 227, 88, 89, 90, 91, 92, 93, 94, 95, 26, 96, 123, 124, 125, 14, 126, 42, 127, 128, 129, 130, 131, 132, 133, 134, 135, 136, 137, 138, 40, 139, 140, 141, 142, 36, 143, 144, 145, 146, 38, 147, 148, 149, 150, 151, 152, 153, 154, 35, 350, 161, 162, 163, 164, 165, 166, 167, 168, 169, 170, 171, 39, 37, 172, 173, 174, 1087, 1088, 1089, 1090, 1091, 1092, 1093, 1094, 1095, 1120, 1121, 1122, 1123, 1124, 1125, 1126, 1127, 1128, 1129, 1130, 1131, 1132] (by decide +kernel) (by decide +kernel)
set_option maxRecDepth 20000 in
theorem gL_law_X3_heard : GoodIn wsL_law (wsV RL 43 RX3 yX3_heard wsX3_heard) := goodIn_app (goodIn_of _ (by decide +kernel)) ggL_law_X3_heard
set_option maxRecDepth 20000 in
theorem ggL_law_X4_heard : GoodIn wsL_law wsX4_heard := goodIn_r _ [354, 101, 240, 241, 5, 242, 105, 106, 107, 102, 103, 104, 201, 202, 203, 204, 67, 205, 206, 207, 208, 209, 165, 166, 167, 194, 195, 196, 210, 211, 212, 213, 214, 173, 174, 183, 184, 185, 186, 187, 188, 189, 190, 191, 192, 193, 197, 198, 199, 200, 115, 116, 117, 118, 70, 1096, 1097, 1098, 1099, 1100, 1101, 1102, 1103, 1104, 1105, 1106, 1107, 1108, 1109, 1110, 1111, 1112, 1113, 1114, 1115, 1116, 1117, 1118, 1119] (by decide +kernel) (by decide +kernel)
set_option maxRecDepth 20000 in
theorem gL_law_X4_heard : GoodIn wsL_law (wsV RL 46 RX4 yX4_heard wsX4_heard) := goodIn_app (goodIn_of _ (by decide +kernel)) ggL_law_X4_heard
set_option maxRecDepth 20000 in
theorem ggL_law_X3_hears : GoodIn wsL_law wsX3_hears := goodIn_r _ [358, 15, 316, 317, 318, 2, 319, 256, 257, 258, 259, 219, 92, 93, 94, 95, 26, 96, 359, 266, 267, 14, 268, 269, 270, 271, 272, 36, 37, 39, 172, 173, 166, 174, 131, 132, 133, 134, 135, 136, 137, 138, 40, 139, 140, 141, 142, 143, 144, 145, 146, 38, 147, 148, 149, 150, 42, 151, 152, 153, 154, 35, 1087, 1088, 1089, 1090, 1091, 1092, 1093, 1094, 1095, 1120, 1121, 1122, 1123, 1124, 1125, 1126, 1127, 1128, 1129, 1130, 1131, 1132] (by decide +kernel) (by decide +kernel)
set_option maxRecDepth 20000 in
theorem gL_law_X3_hears : GoodIn wsL_law (wsV RL 47 RX3 yX3_hears wsX3_hears) := goodIn_app (goodIn_of _ (by decide +kernel)) ggL_law_X3_hears
set_option maxRecDepth 20000 in
theorem ggL_law_X4_hears : GoodIn wsL_law wsX4_hears := goodIn_r _ [363, 101, 328, 329, 330, 5, 331, 277, 278, 279, 280, 67, 105, 106, 107, 364, 365, 366, 367, 293, 294, 295, 296, 187, 188, 189, 190, 191, 192, 193, 210, 211, 212, 213, 214, 173, 166, 174, 209, 165, 167, 183, 184, 185, 186, 194, 195, 196, 197, 198, 199, 200, 115, 116, 117, 118, 70, 1096, 1097, 1098, 1099, 1100, 1101, 1102, 1103, 1104, 1105, 1106, 1107, 1108, 1109, 1110, 1111, 1112, 1113, 1114, 1115, 1116, 1117, 1118, 1119] (by decide +kernel) (by decide +kernel)
set_option maxRecDepth 20000 in
theorem gL_law_X4_hears : GoodIn wsL_law (wsV RL 50 RX4 yX4_hears wsX4_hears) := goodIn_app (goodIn_of _ (by decide +kernel)) ggL_law_X4_hears
set_option maxRecDepth 20000 in
theorem ggL_law_X3_hearing : GoodIn wsL_law wsX3_hearing := goodIn_r _ [371, 15, 256, 257, 258, 2, 259, 219, 88, 89, 90, 91, 92, 93, 94, 95, 26, 96, 372, 373, 374, 14, 375, 42, 269, 270, 271, 272, 36, 37, 39, 172, 173, 166, 174, 123, 124, 125, 126, 127, 128, 129, 130, 131, 132, 133, 134, 135, 136, 137, 138, 40, 139, 140, 141, 142, 143, 144, 145, 146, 38, 147, 148, 149, 150, 151, 152, 153, 154, 35, 1087, 1088, 1089, 1090, 1091, 1092, 1093, 1094, 1095, 1120, 1121, 1122, 1123, 1124, 1125, 1126, 1127, 1128, 1129, 1130, 1131, 1132] (by decide +kernel) (by decide +kernel)
set_option maxRecDepth 20000 in
theorem gL_law_X3_hearing : GoodIn wsL_law (wsV RL 51 RX3 yX3_hearing wsX3_hearing) := goodIn_app (goodIn_of _ (by decide +kernel)) ggL_law_X3_hearing
set_option maxRecDepth 20000 in
theorem ggL_law_X4_hearing : GoodIn wsL_law wsX4_hearing := goodIn_r _ [379, 101, 277, 278, 279, 5, 280, 67, 105, 106, 107, 102, 103, 104, 289, 290, 291, 292, 293, 294, 295, 296, 187, 188, 189, 190, 191, 192, 193, 210, 211, 212, 213, 214, 173, 166, 174, 209, 165, 167, 183, 184, 185, 186, 194, 195, 196, 197, 198, 199, 200, 115, 116, 117, 118, 70, 1096, 1097, 1098, 1099, 1100, 1101, 1102, 1103, 1104, 1105, 1106, 1107, 1108, 1109, 1110, 1111, 1112, 1113, 1114, 1115, 1116, 1117, 1118, 1119] (by decide +kernel) (by decide +kernel)
set_option maxRecDepth 20000 in
theorem gL_law_X4_hearing : GoodIn wsL_law (wsV RL 54 RX4 yX4_hearing wsX4_hearing) := goodIn_app (goodIn_of _ (by decide +kernel)) ggL_law_X4_hearing
set_option maxRecDepth 20000 in
theorem ggL_law_X3_go : GoodIn wsL_law wsX3_go := goodIn_r _ [383, 15, 384, 385, 92, 93, 94, 2, 95, 26, 96, 386, 387, 388, 14, 389, 390, 391, 392, 393, 40, 47, 394, 395, 396, 397, 42, 45, 46, 39, 398, 43, 399, 400, 166, 401, 143, 144, 145, 146, 38, 139, 140, 141, 142, 36, 147, 148, 149, 150, 151, 152, 153, 154, 35, 402, 373, 374, 375, 269, 270, 271, 272, 37, 172, 173, 174, 403, 404, 405, 406, 164, 165, 167, 135, 136, 137, 138, 407, 408, 409, 410, 1087, 1088, 1089, 1090, 1091, 1092, 1093, 1094, 1095, 1120, 1121, 1122, 1123, 1124, 1125, 1126, 1127, 1128, 1129, 1130, 1131, 1132] (by decide +kernel) (by decide +kernel)
set_option maxRecDepth 20000 in
theorem gL_law_X3_go : GoodIn wsL_law (wsV RL 55 RX3 yX3_go wsX3_go) := goodIn_app (goodIn_of _ (by decide +kernel)) ggL_law_X3_go
set_option maxRecDepth 20000 in
theorem ggL_law_X4_go : GoodIn wsL_law wsX4_go := goodIn_r _ [414, 101, 67, 415, 416, 105, 106, 5, 107, 115, 116, 117, 118, 70, 417, 418, 419, 420, 421, 422, 423, 424, 425, 426, 427, 428, 71, 429, 400, 166, 401, 209, 165, 167, 183, 184, 185, 186, 187, 188, 189, 190, 191, 192, 193, 194, 195, 196, 197, 198, 199, 200, 289, 290, 291, 292, 293, 294, 295, 296, 210, 211, 212, 213, 214, 173, 174, 430, 431, 432, 433, 1096, 1097, 1098, 1099, 1100, 1101, 1102, 1103, 1104, 1105, 1106, 1107, 1108, 1109, 1110, 1111, 1112, 1113, 1114, 1115, 1116, 1117, 1118, 1119] (by decide +kernel) (by decide +kernel)
set_option maxRecDepth 20000 in
theorem gL_law_X4_go : GoodIn wsL_law (wsV RL 59 RX4 yX4_go wsX4_go) := goodIn_app (goodIn_of _ (by decide +kernel)) ggL_law_X4_go
set_option maxRecDepth 20000 in
theorem ggL_law_X3_now : GoodIn wsL_law wsX3_now := goodIn_r _ [437, 15, 384, 407, 408, 409, 14, 410, 42, 40, 438, 439, 440, 441, 442, 443, 444, 445, 39, 446, 447, 448, 449, 159, 124, 125, 126, 127, 128, 129, 130, 131, 132, 133, 134, 135, 136, 137, 138, 139, 140, 141, 142, 36, 143, 144, 145, 146, 38, 147, 148, 149, 150, 151, 152, 153, 154, 35, 160, 161, 162, 163, 164, 165, 166, 167, 168, 169, 170, 171, 37, 172, 173, 174, 92, 93, 94, 2, 95, 26, 96, 1087, 1088, 1089, 1090, 1091, 1092, 1093, 1094, 1095, 1120, 1121, 1122, 1123, 1124, 1125, 1126, 1127, 1128, 1129, 1130, 1131, 1132] (by decide +kernel) (by decide +kernel)
set_option maxRecDepth 20000 in
theorem gL_law_X3_now : GoodIn wsL_law (wsV RL 60 RX3 yX3_now wsX3_now) := goodIn_app (goodIn_of _ (by decide +kernel)) ggL_law_X3_now
set_option maxRecDepth 20000 in
theorem ggL_law_X4_now : GoodIn wsL_law wsX4_now := goodIn_r _ [453, 67, 101, 430, 431, 432, 5, 433, 187, 188, 189, 190, 191, 192, 193, 454, 455, 456, 457, 458, 459, 460, 461, 201, 202, 203, 204, 205, 206, 207, 208, 209, 165, 166, 167, 194, 195, 196, 210, 211, 212, 213, 214, 173, 174, 183, 184, 185, 186, 197, 198, 199, 200, 115, 116, 117, 118, 70, 1096, 1097, 1098, 1099, 1100, 1101, 1102, 1103, 1104, 1105, 1106, 1107, 1108, 1109, 1110, 1111, 1112, 1113, 1114, 1115, 1116, 1117, 1118, 1119] (by decide +kernel) (by decide +kernel)
set_option maxRecDepth 20000 in
theorem gL_law_X4_now : GoodIn wsL_law (wsV RL 63 RX4 yX4_now wsX4_now) := goodIn_app (goodIn_of _ (by decide +kernel)) ggL_law_X4_now
set_option maxRecDepth 20000 in
theorem ggL_law_X3_ahead : GoodIn wsL_law wsX3_ahead := goodIn_r _ [465, 16, 15, 255, 256, 257, 258, 2, 259, 219, 92, 93, 94, 95, 26, 96, 466, 467, 468, 14, 469, 35, 394, 395, 396, 397, 36, 37, 38, 39, 40, 41, 42, 43, 44, 386, 387, 388, 389, 390, 391, 392, 393, 47, 45, 46, 398, 399, 400, 166, 401, 143, 144, 145, 146, 139, 140, 141, 142, 147, 148, 149, 150, 151, 152, 153, 154, 402, 373, 374, 375, 269, 270, 271, 272, 172, 173, 174, 403, 404, 405, 406, 164, 165, 167, 135, 136, 137, 138, 1087, 1088, 1089, 1090, 1091, 1092, 1093, 1094, 1095, 1120, 1121, 1122, 1123, 1124, 1125, 1126, 1127, 1128, 1129, 1130, 1131, 1132] (by decide +kernel) (by decide +kernel)
set_option maxRecDepth 20000 in
theorem gL_law_X3_ahead : GoodIn wsL_law (wsV RL 64 RX3 yX3_ahead wsX3_ahead) := goodIn_app (goodIn_of _ (by decide +kernel)) ggL_law_X3_ahead
set_option maxRecDepth 20000 in
theorem ggL_law_X4_ahead : GoodIn wsL_law wsX4_ahead := goodIn_r _ [473, 101, 277, 278, 279, 5, 280, 67, 105, 106, 107, 474, 475, 476, 477, 69, 478, 479, 480, 417, 418, 419, 420, 421, 422, 423, 424, 425, 426, 427, 428, 71, 429, 400, 166, 401, 209, 165, 167, 183, 184, 185, 186, 187, 188, 189, 190, 191, 192, 193, 194, 195, 196, 197, 198, 199, 200, 289, 290, 291, 292, 293, 294, 295, 296, 210, 211, 212, 213, 214, 173, 174, 481, 482, 483, 484, 115, 116, 117, 118, 70, 1096, 1097, 1098, 1099, 1100, 1101, 1102, 1103, 1104, 1105, 1106, 1107, 1108, 1109, 1110, 1111, 1112, 1113, 1114, 1115, 1116, 1117, 1118, 1119] (by decide +kernel) (by decide +kernel)
set_option maxRecDepth 20000 in
theorem gL_law_X4_ahead : GoodIn wsL_law (wsV RL 67 RX4 yX4_ahead wsX4_ahead) := goodIn_app (goodIn_of _ (by decide +kernel)) ggL_law_X4_ahead
set_option maxRecDepth 20000 in
theorem ggL_law_X3_broken : GoodIn wsL_law wsX3_broken := goodIn_r _ [488, 16, 15, 255, 256, 257, 258, 2, 259, 219, 92, 93, 94, 95, 26, 96, 466, 467, 468, 14, 469, 35, 394, 395, 396, 397, 36, 37, 38, 39, 40, 41, 42, 43, 44, 489, 391, 392, 393, 47, 45, 46, 398, 399, 400, 166, 401, 143, 144, 145, 146, 139, 140, 141, 142, 147, 148, 149, 150, 151, 152, 153, 154, 402, 373, 374, 375, 269, 270, 271, 272, 172, 173, 174, 403, 404, 405, 406, 164, 165, 167, 135, 136, 137, 138, 1087, 1088, 1089, 1090, 1091, 1092, 1093, 1094, 1095, 1120, 1121, 1122, 1123, 1124, 1125, 1126, 1127, 1128, 1129, 1130, 1131, 1132] (by decide +kernel) (by decide +kernel)
set_option maxRecDepth 20000 in
theorem gL_law_X3_broken : GoodIn wsL_law (wsV RL 68 RX3 yX3_broken wsX3_broken) := goodIn_app (goodIn_of _ (by decide +kernel)) ggL_law_X3_broken
set_option maxRecDepth 20000 in
theorem ggL_law_X4_broken : GoodIn wsL_law wsX4_broken := goodIn_r _ [493, 101, 67, 69, 277, 278, 279, 5, 280, 105, 106, 107, 115, 116, 117, 118, 70, 478, 479, 480, 187, 188, 189, 190, 191, 192, 193, 421, 422, 423, 424, 425, 426, 427, 428, 71, 429, 400, 166, 401, 209, 165, 167, 183, 184, 185, 186, 194, 195, 196, 197, 198, 199, 200, 289, 290, 291, 292, 293, 294, 295, 296, 210, 211, 212, 213, 214, 173, 174, 481, 482, 483, 484, 494, 495, 496, 497, 498, 1096, 1097, 1098, 1099, 1100, 1101, 1102, 1103, 1104, 1105, 1106, 1107, 1108, 1109, 1110, 1111, 1112, 1113, 1114, 1115, 1116, 1117, 1118, 1119] (by decide +kernel) (by decide +kernel)
set_option maxRecDepth 20000 in
theorem gL_law_X4_broken : GoodIn wsL_law (wsV RL 71 RX4 yX4_broken wsX4_broken) := goodIn_app (goodIn_of _ (by decide +kernel)) ggL_law_X4_broken
set_option maxRecDepth 20000 in
theorem ggL_law_X3_settles : GoodIn wsL_law wsX3_settles := goodIn_r _ [502, 16, 15, 466, 467, 468, 14, 469, 35, 394, 395, 396, 397, 36, 37, 38, 39, 40, 41, 42, 43, 44, 489, 391, 392, 393, 47, 45, 46, 398, 399, 400, 166, 401, 143, 144, 145, 146, 139, 140, 141, 142, 147, 148, 149, 150, 151, 152, 153, 154, 402, 373, 374, 375, 269, 270, 271, 272, 172, 173, 174, 403, 404, 405, 406, 164, 165, 167, 135, 136, 137, 138, 92, 93, 94, 2, 95, 26, 96, 1087, 1088, 1089, 1090, 1091, 1092, 1093, 1094, 1095, 1120, 1121, 1122, 1123, 1124, 1125, 1126, 1127, 1128, 1129, 1130, 1131, 1132] (by decide +kernel) (by decide +kernel)
set_option maxRecDepth 20000 in
theorem gL_law_X3_settles : GoodIn wsL_law (wsV RL 72 RX3 yX3_settles wsX3_settles) := goodIn_app (goodIn_of _ (by decide +kernel)) ggL_law_X3_settles
set_option maxRecDepth 20000 in
theorem ggL_law_X4_settles : GoodIn wsL_law wsX4_settles := goodIn_r _ [506, 67, 69, 478, 479, 5, 480, 507, 508, 509, 510, 73, 187, 188, 189, 190, 191, 192, 193, 421, 422, 423, 424, 425, 426, 427, 428, 71, 429, 400, 166, 401, 209, 165, 167, 183, 184, 185, 186, 194, 195, 196, 197, 198, 199, 200, 289, 290, 291, 292, 293, 294, 295, 296, 210, 211, 212, 213, 214, 173, 174, 481, 482, 483, 484, 494, 495, 496, 497, 498, 115, 116, 117, 118, 70, 101, 1096, 1097, 1098, 1099, 1100, 1101, 1102, 1103, 1104, 1105, 1106, 1107, 1108, 1109, 1110, 1111, 1112, 1113, 1114, 1115, 1116, 1117, 1118, 1119] (by decide +kernel) (by decide +kernel)
set_option maxRecDepth 20000 in
theorem gL_law_X4_settles : GoodIn wsL_law (wsV RL 76 RX4 yX4_settles wsX4_settles) := goodIn_app (goodIn_of _ (by decide +kernel)) ggL_law_X4_settles
set_option maxRecDepth 20000 in
theorem ggL_law_X3_kindFor : GoodIn wsL_law wsX3_kindFor := goodIn_r _ [514, 16, 251, 256, 257, 258, 2, 259, 15, 219, 92, 93, 94, 95, 26, 96, 515, 516, 517, 518, 255, 466, 467, 468, 14, 469, 35, 394, 395, 396, 397, 36, 37, 38, 39, 40, 41, 42, 43, 44, 386, 387, 388, 389, 390, 391, 392, 393, 47, 45, 46, 398, 399, 400, 166, 401, 143, 144, 145, 146, 139, 140, 141, 142, 147, 148, 149, 150, 151, 152, 153, 154, 402, 373, 374, 375, 269, 270, 271, 272, 172, 173, 174, 403, 404, 405, 406, 164, 165, 167, 135, 136, 137, 138, 1087, 1088, 1089, 1090, 1091, 1092, 1093, 1094, 1095, 1120, 1121, 1122, 1123, 1124, 1125, 1126, 1127, 1128, 1129, 1130, 1131, 1132] (by decide +kernel) (by decide +kernel)
set_option maxRecDepth 20000 in
theorem gL_law_X3_kindFor : GoodIn wsL_law (wsV RL 77 RX3 yX3_kindFor wsX3_kindFor) := goodIn_app (goodIn_of _ (by decide +kernel)) ggL_law_X3_kindFor
set_option maxRecDepth 20000 in
theorem ggL_law_X4_kindFor : GoodIn wsL_law wsX4_kindFor := goodIn_r _ [522, 101, 277, 278, 279, 5, 280, 67, 105, 106, 107, 523, 524, 525, 526, 209, 165, 166, 167, 187, 188, 189, 190, 191, 192, 193, 474, 475, 476, 477, 69, 478, 479, 480, 417, 418, 419, 420, 421, 422, 423, 424, 425, 426, 427, 428, 71, 429, 400, 401, 183, 184, 185, 186, 194, 195, 196, 197, 198, 199, 200, 289, 290, 291, 292, 293, 294, 295, 296, 210, 211, 212, 213, 214, 173, 174, 481, 482, 483, 484, 115, 116, 117, 118, 70, 1096, 1097, 1098, 1099, 1100, 1101, 1102, 1103, 1104, 1105, 1106, 1107, 1108, 1109, 1110, 1111, 1112, 1113, 1114, 1115, 1116, 1117, 1118, 1119] (by decide +kernel) (by decide +kernel)
set_option maxRecDepth 20000 in
theorem gL_law_X4_kindFor : GoodIn wsL_law (wsV RL 80 RX4 yX4_kindFor wsX4_kindFor) := goodIn_app (goodIn_of _ (by decide +kernel)) ggL_law_X4_kindFor
set_option maxRecDepth 20000 in
theorem ggL_law_X3_seatFor : GoodIn wsL_law wsX3_seatFor := goodIn_r _ [530, 16, 252, 256, 257, 258, 2, 259, 15, 219, 92, 93, 94, 95, 26, 96, 515, 516, 517, 518, 255, 466, 467, 468, 14, 469, 35, 394, 395, 396, 397, 36, 37, 38, 39, 40, 41, 42, 43, 44, 386, 387, 388, 389, 390, 391, 392, 393, 47, 45, 46, 398, 399, 400, 166, 401, 143, 144, 145, 146, 139, 140, 141, 142, 147, 148, 149, 150, 151, 152, 153, 154, 402, 373, 374, 375, 269, 270, 271, 272, 172, 173, 174, 403, 404, 405, 406, 164, 165, 167, 135, 136, 137, 138, 1087, 1088, 1089, 1090, 1091, 1092, 1093, 1094, 1095, 1120, 1121, 1122, 1123, 1124, 1125, 1126, 1127, 1128, 1129, 1130, 1131, 1132] (by decide +kernel) (by decide +kernel)
set_option maxRecDepth 20000 in
theorem gL_law_X3_seatFor : GoodIn wsL_law (wsV RL 81 RX3 yX3_seatFor wsX3_seatFor) := goodIn_app (goodIn_of _ (by decide +kernel)) ggL_law_X3_seatFor
set_option maxRecDepth 20000 in
theorem ggL_law_X4_seatFor : GoodIn wsL_law wsX4_seatFor := goodIn_r _ [534, 101, 277, 278, 279, 5, 280, 67, 105, 106, 107, 523, 524, 525, 526, 209, 165, 166, 167, 187, 188, 189, 190, 191, 192, 193, 474, 475, 476, 477, 69, 478, 479, 480, 417, 418, 419, 420, 421, 422, 423, 424, 425, 426, 427, 428, 71, 429, 400, 401, 183, 184, 185, 186, 194, 195, 196, 197, 198, 199, 200, 289, 290, 291, 292, 293, 294, 295, 296, 210, 211, 212, 213, 214, 173, 174, 481, 482, 483, 484, 115, 116, 117, 118, 70, 1096, 1097, 1098, 1099, 1100, 1101, 1102, 1103, 1104, 1105, 1106, 1107, 1108, 1109, 1110, 1111, 1112, 1113, 1114, 1115, 1116, 1117, 1118, 1119] (by decide +kernel) (by decide +kernel)
set_option maxRecDepth 20000 in
theorem gL_law_X4_seatFor : GoodIn wsL_law (wsV RL 84 RX4 yX4_seatFor wsX4_seatFor) := goodIn_app (goodIn_of _ (by decide +kernel)) ggL_law_X4_seatFor
set_option maxRecDepth 20000 in
theorem ggL_law_X3_spare : GoodIn wsL_law wsX3_spare := goodIn_r _ [538, 15, 219, 27, 539, 540, 541, 2, 542, 123, 124, 125, 14, 126, 42, 127, 128, 129, 130, 131, 132, 133, 134, 135, 136, 137, 138, 40, 139, 140, 141, 142, 36, 143, 144, 145, 146, 38, 147, 148, 149, 150, 151, 152, 153, 154, 35, 543, 544, 545, 546, 160, 161, 162, 163, 164, 165, 166, 167, 168, 169, 170, 171, 39, 37, 172, 173, 174, 1087, 1088, 1089, 1090, 1091, 1092, 1093, 1094, 1095, 1120, 1121, 1122, 1123, 1124, 1125, 1126, 1127, 1128, 1129, 1130, 1131, 1132] (by decide +kernel) (by decide +kernel)
set_option maxRecDepth 20000 in
theorem gL_law_X3_spare : GoodIn wsL_law (wsV RL 85 RX3 yX3_spare wsX3_spare) := goodIn_app (goodIn_of _ (by decide +kernel)) ggL_law_X3_spare
set_option maxRecDepth 20000 in
theorem ggL_law_X4_spare : GoodIn wsL_law wsX4_spare := goodIn_r _ [550, 67, 551, 552, 553, 5, 554, 72, 201, 202, 203, 204, 205, 206, 207, 208, 209, 165, 166, 167, 194, 195, 196, 210, 211, 212, 213, 214, 173, 174, 183, 184, 185, 186, 187, 188, 189, 190, 191, 192, 193, 197, 198, 199, 200, 555, 556, 557, 558, 1096, 1097, 1098, 1099, 1100, 1101, 1102, 1103, 1104, 1105, 1106, 1107, 1108, 1109, 1110, 1111, 1112, 1113, 1114, 1115, 1116, 1117, 1118, 1119] (by decide +kernel) (by decide +kernel)
set_option maxRecDepth 20000 in
theorem gL_law_X4_spare : GoodIn wsL_law (wsV RL 88 RX4 yX4_spare wsX4_spare) := goodIn_app (goodIn_of _ (by decide +kernel)) ggL_law_X4_spare
set_option maxRecDepth 20000 in
theorem ggL_law_X3_fewest : GoodIn wsL_law wsX3_fewest := goodIn_r _ [562, 27, 28, 15, 219, 539, 540, 541, 2, 542, 123, 124, 125, 14, 126, 42, 127, 128, 129, 130, 131, 132, 133, 134, 135, 136, 137, 138, 40, 139, 140, 141, 142, 36, 143, 144, 145, 146, 38, 147, 148, 149, 150, 151, 152, 153, 154, 35, 543, 544, 545, 546, 160, 161, 162, 163, 164, 165, 166, 167, 168, 169, 170, 171, 39, 37, 172, 173, 174, 563, 564, 565, 566, 567, 568, 569, 570, 571, 572, 573, 574, 575, 576, 577, 1087, 1088, 1089, 1090, 1091, 1092, 1093, 1094, 1095, 1120, 1121, 1122, 1123, 1124, 1125, 1126, 1127, 1128, 1129, 1130, 1131, 1132] (by decide +kernel) (by decide +kernel)
set_option maxRecDepth 20000 in
theorem gL_law_X3_fewest : GoodIn wsL_law (wsV RL 89 RX3 yX3_fewest wsX3_fewest) := goodIn_app (goodIn_of _ (by decide +kernel)) ggL_law_X3_fewest
set_option maxRecDepth 20000 in
theorem ggL_law_X4_fewest : GoodIn wsL_law wsX4_fewest := goodIn_r _ [581, 551, 552, 553, 5, 554, 72, 201, 202, 203, 204, 67, 205, 206, 207, 208, 209, 165, 166, 167, 194, 195, 196, 210, 211, 212, 213, 214, 173, 174, 183, 184, 185, 186, 187, 188, 189, 190, 191, 192, 193, 197, 198, 199, 200, 582, 583, 584, 555, 556, 557, 558, 1096, 1097, 1098, 1099, 1100, 1101, 1102, 1103, 1104, 1105, 1106, 1107, 1108, 1109, 1110, 1111, 1112, 1113, 1114, 1115, 1116, 1117, 1118, 1119] (by decide +kernel) (by decide +kernel)
set_option maxRecDepth 20000 in
theorem gL_law_X4_fewest : GoodIn wsL_law (wsV RL 92 RX4 yX4_fewest wsX4_fewest) := goodIn_app (goodIn_of _ (by decide +kernel)) ggL_law_X4_fewest
set_option maxRecDepth 20000 in
theorem ggL_law_X3_lost : GoodIn wsL_law wsX3_lost := goodIn_r _ [588, 15, 219, 27, 92, 93, 94, 2, 95, 26, 96, 539, 540, 541, 542, 123, 124, 125, 14, 126, 42, 127, 128, 129, 130, 131, 132, 133, 134, 135, 136, 137, 138, 40, 139, 140, 141, 142, 36, 143, 144, 145, 146, 38, 147, 148, 149, 150, 151, 152, 153, 154, 35, 543, 544, 545, 546, 160, 161, 162, 163, 164, 165, 166, 167, 168, 169, 170, 171, 39, 37, 172, 173, 174, 1087, 1088, 1089, 1090, 1091, 1092, 1093, 1094, 1095, 1120, 1121, 1122, 1123, 1124, 1125, 1126, 1127, 1128, 1129, 1130, 1131, 1132] (by decide +kernel) (by decide +kernel)
set_option maxRecDepth 20000 in
theorem gL_law_X3_lost : GoodIn wsL_law (wsV RL 93 RX3 yX3_lost wsX3_lost) := goodIn_app (goodIn_of _ (by decide +kernel)) ggL_law_X3_lost
set_option maxRecDepth 20000 in
theorem ggL_law_X4_lost : GoodIn wsL_law wsX4_lost := goodIn_r _ [592, 101, 201, 202, 203, 5, 204, 67, 105, 106, 107, 115, 116, 117, 118, 70, 551, 552, 553, 554, 72, 205, 206, 207, 208, 209, 165, 166, 167, 194, 195, 196, 210, 211, 212, 213, 214, 173, 174, 183, 184, 185, 186, 187, 188, 189, 190, 191, 192, 193, 197, 198, 199, 200, 555, 556, 557, 558, 1096, 1097, 1098, 1099, 1100, 1101, 1102, 1103, 1104, 1105, 1106, 1107, 1108, 1109, 1110, 1111, 1112, 1113, 1114, 1115, 1116, 1117, 1118, 1119] (by decide +kernel) (by decide +kernel)
set_option maxRecDepth 20000 in
theorem gL_law_X4_lost : GoodIn wsL_law (wsV RL 96 RX4 yX4_lost wsX4_lost) := goodIn_app (goodIn_of _ (by decide +kernel)) ggL_law_X4_lost
set_option maxRecDepth 20000 in
theorem ggL_law_X3_dearest : GoodIn wsL_law wsX3_dearest := goodIn_r _ [596, 15, 219, 27, 92, 93, 94, 2, 95, 26, 96, 539, 540, 541, 542, 123, 124, 125, 14, 126, 42, 127, 128, 129, 130, 131, 132, 133, 134, 135, 136, 137, 138, 40, 139, 140, 141, 142, 36, 143, 144, 145, 146, 38, 147, 148, 149, 150, 151, 152, 153, 154, 35, 543, 544, 545, 546, 160, 161, 162, 163, 164, 165, 166, 167, 168, 169, 170, 171, 39, 37, 172, 173, 174, 1087, 1088, 1089, 1090, 1091, 1092, 1093, 1094, 1095, 1120, 1121, 1122, 1123, 1124, 1125, 1126, 1127, 1128, 1129, 1130, 1131, 1132] (by decide +kernel) (by decide +kernel)
set_option maxRecDepth 20000 in
theorem gL_law_X3_dearest : GoodIn wsL_law (wsV RL 97 RX3 yX3_dearest wsX3_dearest) := goodIn_app (goodIn_of _ (by decide +kernel)) ggL_law_X3_dearest
set_option maxRecDepth 20000 in
theorem ggL_law_X4_dearest : GoodIn wsL_law wsX4_dearest := goodIn_r _ [600, 67, 209, 165, 166, 167, 551, 552, 553, 5, 554, 72, 201, 202, 203, 204, 205, 206, 207, 208, 194, 195, 196, 210, 211, 212, 213, 214, 173, 174, 183, 184, 185, 186, 187, 188, 189, 190, 191, 192, 193, 197, 198, 199, 200, 555, 556, 557, 558, 494, 495, 496, 497, 498, 115, 116, 117, 118, 70, 101, 1096, 1097, 1098, 1099, 1100, 1101, 1102, 1103, 1104, 1105, 1106, 1107, 1108, 1109, 1110, 1111, 1112, 1113, 1114, 1115, 1116, 1117, 1118, 1119] (by decide +kernel) (by decide +kernel)
set_option maxRecDepth 20000 in
theorem gL_law_X4_dearest : GoodIn wsL_law (wsV RL 100 RX4 yX4_dearest wsX4_dearest) := goodIn_app (goodIn_of _ (by decide +kernel)) ggL_law_X4_dearest
set_option maxRecDepth 20000 in
theorem ggL_law_X3_parts : GoodIn wsL_law wsX3_parts := goodIn_r _ [604, 15, 316, 317, 318, 2, 319, 256, 257, 258, 259, 219, 92, 93, 94, 95, 26, 96, 260, 132, 133, 14, 134, 135, 136, 137, 138, 40, 139, 140, 141, 142, 36, 143, 144, 145, 146, 38, 147, 148, 149, 150, 42, 151, 152, 153, 154, 35, 1087, 1088, 1089, 1090, 1091, 1092, 1093, 1094, 1095, 1120, 1121, 1122, 1123, 1124, 1125, 1126, 1127, 1128, 1129, 1130, 1131, 1132] (by decide +kernel) (by decide +kernel)
set_option maxRecDepth 20000 in
theorem gL_law_X3_parts : GoodIn wsL_law (wsV RL 101 RX3 yX3_parts wsX3_parts) := goodIn_app (goodIn_of _ (by decide +kernel)) ggL_law_X3_parts
set_option maxRecDepth 20000 in
theorem ggL_law_X4_parts : GoodIn wsL_law wsX4_parts := goodIn_r _ [608, 101, 328, 329, 330, 5, 331, 277, 278, 279, 280, 67, 105, 106, 107, 281, 282, 283, 284, 183, 184, 185, 186, 187, 188, 189, 190, 191, 192, 193, 194, 195, 196, 197, 198, 199, 200, 115, 116, 117, 118, 70, 1096, 1097, 1098, 1099, 1100, 1101, 1102, 1103, 1104, 1105, 1106, 1107, 1108, 1109, 1110, 1111, 1112, 1113, 1114, 1115, 1116, 1117, 1118, 1119] (by decide +kernel) (by decide +kernel)
set_option maxRecDepth 20000 in
theorem gL_law_X4_parts : GoodIn wsL_law (wsV RL 104 RX4 yX4_parts wsX4_parts) := goodIn_app (goodIn_of _ (by decide +kernel)) ggL_law_X4_parts
set_option maxRecDepth 20000 in
theorem ggL_law_X3_tells : GoodIn wsL_law wsX3_tells := goodIn_r _ [612, 15, 219, 28, 260, 132, 133, 14, 134, 135, 136, 137, 138, 40, 139, 140, 141, 142, 36, 143, 144, 145, 146, 38, 147, 148, 149, 150, 42, 151, 152, 153, 154, 35, 92, 93, 94, 2, 95, 26, 96, 563, 564, 565, 566, 567, 568, 569, 570, 571, 572, 573, 574, 575, 576, 577, 1087, 1088, 1089, 1090, 1091, 1092, 1093, 1094, 1095, 1120, 1121, 1122, 1123, 1124, 1125, 1126, 1127, 1128, 1129, 1130, 1131, 1132] (by decide +kernel) (by decide +kernel)
set_option maxRecDepth 20000 in
theorem gL_law_X3_tells : GoodIn wsL_law (wsV RL 105 RX3 yX3_tells wsX3_tells) := goodIn_app (goodIn_of _ (by decide +kernel)) ggL_law_X3_tells
set_option maxRecDepth 20000 in
theorem ggL_law_X4_tells : GoodIn wsL_law wsX4_tells := goodIn_r _ [616, 67, 74, 281, 282, 283, 5, 284, 183, 184, 185, 186, 187, 188, 189, 190, 191, 192, 193, 194, 195, 196, 197, 198, 199, 200, 582, 583, 584, 617, 618, 619, 620, 494, 495, 496, 497, 498, 115, 116, 117, 118, 70, 101, 1096, 1097, 1098, 1099, 1100, 1101, 1102, 1103, 1104, 1105, 1106, 1107, 1108, 1109, 1110, 1111, 1112, 1113, 1114, 1115, 1116, 1117, 1118, 1119] (by decide +kernel) (by decide +kernel)
set_option maxRecDepth 20000 in
theorem gL_law_X4_tells : GoodIn wsL_law (wsV RL 108 RX4 yX4_tells wsX4_tells) := goodIn_app (goodIn_of _ (by decide +kernel)) ggL_law_X4_tells
set_option maxRecDepth 20000 in
theorem ggL_law_X3_halves : GoodIn wsL_law wsX3_halves := goodIn_r _ [624, 15, 219, 625, 400, 166, 401, 123, 124, 125, 14, 126, 42, 127, 128, 129, 130, 131, 132, 133, 134, 135, 136, 137, 138, 40, 139, 140, 141, 142, 36, 143, 144, 145, 146, 38, 147, 148, 149, 150, 151, 152, 153, 154, 35, 567, 568, 569, 570, 571, 572, 573, 1087, 1088, 1089, 1090, 1091, 1092, 1093, 1094, 1095, 1120, 1121, 1122, 1123, 1124, 1125, 1126, 1127, 1128, 1129, 1130, 1131, 1132] (by decide +kernel) (by decide +kernel)
set_option maxRecDepth 20000 in
theorem gL_law_X3_halves : GoodIn wsL_law (wsV RL 109 RX3 yX3_halves wsX3_halves) := goodIn_app (goodIn_of _ (by decide +kernel)) ggL_law_X3_halves
set_option maxRecDepth 20000 in
theorem ggL_law_X4_halves : GoodIn wsL_law wsX4_halves := goodIn_r _ [629, 67, 429, 400, 166, 401, 209, 165, 167, 179, 180, 181, 5, 182, 183, 184, 185, 186, 187, 188, 189, 190, 191, 192, 193, 194, 195, 196, 197, 198, 199, 200, 582, 583, 584, 1096, 1097, 1098, 1099, 1100, 1101, 1102, 1103, 1104, 1105, 1106, 1107, 1108, 1109, 1110, 1111, 1112, 1113, 1114, 1115, 1116, 1117, 1118, 1119] (by decide +kernel) (by decide +kernel)
set_option maxRecDepth 20000 in
theorem gL_law_X4_halves : GoodIn wsL_law (wsV RL 112 RX4 yX4_halves wsX4_halves) := goodIn_app (goodIn_of _ (by decide +kernel)) ggL_law_X4_halves
