set_option maxRecDepth 20000 in
theorem ggL_law_X8_init : GoodIn wsL_law wsX8_init := goodIn_r _ [9, 10, 11, 12, 13, 14, 15, 16, 17, 18, 19, 20, 21, 22, 23, 24, 25, 26, 27, 28, 29, 30, 31, 32, 33, 34, 35, 36, 37, 38, 39, 40, 41, 42, 43, 44, 45, 46, 47, 48, 49, 50, 51, 52, 53, 54, 55, 56, 57, 58, 59, 60, 61, 62, 63, 64, 65, 66, 67, 68, 69, 70, 71, 72, 73, 74, 75, 76, 77, 78, 79, 80, 81, 82, 83, 84, 85, 86, 87, 88, 89, 90, 91, 92, 93, 94, 95, 96, 97, 98, 99, 100, 101, 102, 103, 104, 105, 106, 107, 108, 109, 1148, 1149, 1150, 1151, 1152, 1153, 1154, 1155, 1156, 1157, 1158, 1159, 1119, 1120, 1121, 1122, 1123, 1124, 1125, 1126, 1127, 1128, 1129, 1130, 1160, 1161, 1162, 1163, 1164, 1165, 1166, 1167, 1168, 1169, 1170, 1171, 1172, 1173, 1174, 1175, 1176, 1177, 1178, 1179, 1180] (by decide +kernel) (by decide +kernel)
set_option maxRecDepth 20000 in
theorem gL_law_X8_init : GoodIn wsL_law (wsX8_init) := ggL_law_X8_init
set_option maxRecDepth 20000 in
theorem ggL_law_X9_init : GoodIn wsL_law wsX9_init := goodIn_r _ [112, 113, 11, 12, 44, 114, 115, 116, 117, 118, 119, 120, 121, 122, 123, 98, 124, 125, 1131, 1132, 1133, 1134, 1135, 1136, 1137, 1138, 1139, 1140, 1141, 1142, 1143, 1144, 1145, 1146, 1147] (by decide +kernel) (by decide +kernel)
set_option maxRecDepth 20000 in
theorem gL_law_X9_init : GoodIn wsL_law (wsX9_init) := ggL_law_X9_init
set_option maxRecDepth 20000 in
theorem ggL_law_X8_bowl : GoodIn wsL_law wsX8_bowl := goodIn_r _ [129, 130, 16, 131, 132, 133, 2, 134, 135, 136, 137, 138, 139, 140, 141, 46, 1119, 1120, 1121, 1122, 1123, 1124, 1125, 1126, 1127, 1128, 1129, 1130, 1148, 1149, 1150, 1151, 1152, 1153, 1154, 1155, 1156, 1157, 1158, 1159] (by decide +kernel) (by decide +kernel)
set_option maxRecDepth 20000 in
theorem gL_law_X8_bowl : GoodIn wsL_law (wsV RL 13 RX8 yX8_bowl wsX8_bowl) := goodIn_app (goodIn_of _ (by decide +kernel)) ggL_law_X8_bowl
set_option maxRecDepth 20000 in
theorem ggL_law_X9_bowl : GoodIn wsL_law wsX9_bowl := goodIn_r _ [145, 146, 147, 5, 148, 149, 150, 151, 152, 153, 154, 155, 114, 156, 157, 158, 159, 118, 160, 1131, 1132, 1133, 1134, 1135, 1136, 1137, 1138, 1139, 1140, 1141, 1142, 1143, 1144, 1145, 1146, 1147] (by decide +kernel) (by decide +kernel)
set_option maxRecDepth 20000 in
theorem gL_law_X9_bowl : GoodIn wsL_law (wsV RL 17 RX9 yX9_bowl wsX9_bowl) := goodIn_app (goodIn_of _ (by decide +kernel)) ggL_law_X9_bowl
set_option maxRecDepth 20000 in
theorem ggL_law_X8_light : GoodIn wsL_law wsX8_light := goodIn_r _ [164, 130, 132, 133, 2, 134, 135, 136, 137, 165, 166, 167, 168, 23, 16, 169, 170, 171, 22, 172, 173, 65, 66, 69, 67, 174, 68, 175, 176, 177, 178, 15, 179, 51, 180, 181, 182, 183, 184, 185, 186, 187, 54, 55, 188, 189, 190, 191, 192, 193, 194, 195, 196, 197, 198, 199, 200, 201, 202, 203, 57, 204, 205, 206, 207, 208, 209, 210, 211, 212, 213, 214, 215, 216, 217, 218, 219, 138, 139, 140, 141, 46, 1119, 1120, 1121, 1122, 1123, 1124, 1125, 1126, 1127, 1128, 1129, 1130, 1148, 1149, 1150, 1151, 1152, 1153, 1154, 1155, 1156, 1157, 1158, 1159, 1160, 1161, 1162, 1163, 1164] (by decide +kernel) (by decide +kernel)
set_option maxRecDepth 20000 in
theorem gL_law_X8_light : GoodIn wsL_law (wsV RL 18 RX8 yX8_light wsX8_light) := goodIn_app (goodIn_of _ (by decide +kernel)) ggL_law_X8_light
set_option maxRecDepth 20000 in
theorem ggL_law_X9_light : GoodIn wsL_law wsX9_light := goodIn_r _ [223, 146, 147, 5, 148, 149, 150, 151, 224, 225, 226, 227, 114, 228, 229, 230, 231, 232, 233, 234, 235, 236, 237, 238, 239, 240, 241, 242, 243, 244, 245, 246, 247, 248, 249, 156, 157, 158, 159, 118, 160, 1131, 1132, 1133, 1134, 1135, 1136, 1137, 1138, 1139, 1140, 1141, 1142, 1143, 1144, 1145, 1146, 1147] (by decide +kernel) (by decide +kernel)
set_option maxRecDepth 20000 in
theorem gL_law_X9_light : GoodIn wsL_law (wsV RL 22 RX9 yX9_light wsX9_light) := goodIn_app (goodIn_of _ (by decide +kernel)) ggL_law_X9_light
set_option maxRecDepth 20000 in
theorem ggL_law_X8_brightest : GoodIn wsL_law wsX8_brightest := goodIn_r _ [253, 45, 254, 255, 256, 2, 257, 23, 16, 169, 170, 171, 22, 172, 173, 65, 66, 69, 67, 174, 68, 175, 176, 177, 178, 15, 179, 51, 180, 181, 182, 183, 184, 185, 186, 187, 54, 55, 188, 189, 190, 191, 192, 193, 194, 195, 196, 197, 198, 199, 200, 201, 202, 203, 57, 204, 205, 206, 207, 208, 209, 210, 211, 212, 213, 214, 215, 216, 217, 218, 219, 1119, 1120, 1121, 1122, 1123, 1124, 1125, 1126, 1127, 1128, 1129, 1130, 1148, 1149, 1150, 1151, 1152, 1153, 1154, 1155, 1156, 1157, 1158, 1159, 1160, 1161, 1162, 1163, 1164] (by decide +kernel) (by decide +kernel)
set_option maxRecDepth 20000 in
theorem gL_law_X8_brightest : GoodIn wsL_law (wsV RL 23 RX8 yX8_brightest wsX8_brightest) := goodIn_app (goodIn_of _ (by decide +kernel)) ggL_law_X8_brightest
set_option maxRecDepth 20000 in
theorem ggL_law_X9_brightest : GoodIn wsL_law wsX9_brightest := goodIn_r _ [261, 224, 225, 226, 5, 227, 114, 228, 229, 230, 231, 232, 233, 234, 235, 236, 237, 238, 239, 240, 241, 242, 243, 244, 245, 246, 247, 248, 249, 1131, 1132, 1133, 1134, 1135, 1136, 1137, 1138, 1139, 1140, 1141, 1142, 1143, 1144, 1145, 1146, 1147] (by decide +kernel) (by decide +kernel)
set_option maxRecDepth 20000 in
theorem gL_law_X9_brightest : GoodIn wsL_law (wsV RL 27 RX9 yX9_brightest wsX9_brightest) := goodIn_app (goodIn_of _ (by decide +kernel)) ggL_law_X9_brightest
set_option maxRecDepth 20000 in
theorem ggL_law_X8_lit : GoodIn wsL_law wsX8_lit := goodIn_r _ [265, 130, 45, 135, 136, 2, 137, 138, 139, 140, 141, 46, 254, 255, 256, 257, 23, 16, 169, 170, 171, 22, 172, 173, 65, 66, 69, 67, 174, 68, 175, 176, 177, 178, 15, 179, 51, 180, 181, 182, 183, 184, 185, 186, 187, 54, 55, 188, 189, 190, 191, 192, 193, 194, 195, 196, 197, 198, 199, 200, 201, 202, 203, 57, 204, 205, 206, 207, 208, 209, 210, 211, 212, 213, 214, 215, 216, 217, 218, 219, 1119, 1120, 1121, 1122, 1123, 1124, 1125, 1126, 1127, 1128, 1129, 1130, 1148, 1149, 1150, 1151, 1152, 1153, 1154, 1155, 1156, 1157, 1158, 1159, 1160, 1161, 1162, 1163, 1164] (by decide +kernel) (by decide +kernel)
set_option maxRecDepth 20000 in
theorem gL_law_X8_lit : GoodIn wsL_law (wsV RL 28 RX8 yX8_lit wsX8_lit) := goodIn_app (goodIn_of _ (by decide +kernel)) ggL_law_X8_lit
set_option maxRecDepth 20000 in
theorem ggL_law_X9_lit : GoodIn wsL_law wsX9_lit := goodIn_r _ [269, 149, 150, 5, 151, 156, 157, 158, 159, 118, 160, 224, 225, 226, 227, 114, 228, 229, 230, 231, 232, 233, 234, 235, 236, 237, 238, 239, 240, 241, 242, 243, 244, 245, 246, 247, 248, 249, 1131, 1132, 1133, 1134, 1135, 1136, 1137, 1138, 1139, 1140, 1141, 1142, 1143, 1144, 1145, 1146, 1147] (by decide +kernel) (by decide +kernel)
set_option maxRecDepth 20000 in
theorem gL_law_X9_lit : GoodIn wsL_law (wsV RL 31 RX9 yX9_lit wsX9_lit) := goodIn_app (goodIn_of _ (by decide +kernel)) ggL_law_X9_lit
set_option maxRecDepth 20000 in
theorem ggL_law_X8_being : GoodIn wsL_law wsX8_being := goodIn_r _ [273, 130, 16, 274, 275, 276, 277, 2, 278, 135, 136, 137, 132, 133, 134, 138, 139, 140, 141, 46, 279, 280, 281, 15, 282, 52, 53, 54, 55, 56, 57, 1119, 1120, 1121, 1122, 1123, 1124, 1125, 1126, 1127, 1128, 1129, 1130, 1148, 1149, 1150, 1151, 1152, 1153, 1154, 1155, 1156, 1157, 1158, 1159] (by decide +kernel) (by decide +kernel)
set_option maxRecDepth 20000 in
theorem gL_law_X8_being : GoodIn wsL_law (wsV RL 32 RX8 yX8_being wsX8_being) := goodIn_app (goodIn_of _ (by decide +kernel)) ggL_law_X8_being
set_option maxRecDepth 20000 in
theorem ggL_law_X9_being : GoodIn wsL_law wsX9_being := goodIn_r _ [286, 114, 287, 288, 5, 289, 149, 150, 151, 146, 147, 148, 156, 157, 158, 159, 118, 160, 290, 291, 292, 293, 294, 295, 296, 297, 1131, 1132, 1133, 1134, 1135, 1136, 1137, 1138, 1139, 1140, 1141, 1142, 1143, 1144, 1145, 1146, 1147] (by decide +kernel) (by decide +kernel)
set_option maxRecDepth 20000 in
theorem gL_law_X9_being : GoodIn wsL_law (wsV RL 35 RX9 yX9_being wsX9_being) := goodIn_app (goodIn_of _ (by decide +kernel)) ggL_law_X9_being
set_option maxRecDepth 20000 in
theorem ggL_law_X8_of : GoodIn wsL_law wsX8_of := goodIn_r _ [301, 16, 130, 302, 303, 304, 305, 306, 307, 308, 309, 15, 310, 52, 138, 139, 140, 2, 141, 46, 135, 136, 137, 311, 312, 313, 314, 23, 315, 169, 170, 171, 22, 172, 173, 65, 66, 69, 67, 174, 68, 175, 176, 177, 178, 179, 51, 180, 181, 182, 183, 184, 185, 186, 187, 54, 55, 188, 189, 190, 191, 192, 193, 194, 195, 196, 197, 198, 199, 200, 201, 202, 203, 57, 204, 205, 206, 207, 208, 316, 217, 218, 219, 1119, 1120, 1121, 1122, 1123, 1124, 1125, 1126, 1127, 1128, 1129, 1130, 1148, 1149, 1150, 1151, 1152, 1153, 1154, 1155, 1156, 1157, 1158, 1159, 1160, 1161, 1162, 1163, 1164] (by decide +kernel) (by decide +kernel)
set_option maxRecDepth 20000 in
theorem gL_law_X8_of : GoodIn wsL_law (wsV RL 36 RX8 yX8_of wsX8_of) := goodIn_app (goodIn_of _ (by decide +kernel)) ggL_law_X8_of
set_option maxRecDepth 20000 in
theorem ggL_law_X9_of : GoodIn wsL_law wsX9_of := goodIn_r _ [320, 321, 322, 323, 5, 324, 114, 149, 150, 151, 156, 157, 158, 159, 118, 160, 232, 233, 234, 235, 236, 237, 238, 239, 240, 241, 242, 243, 244, 245, 246, 247, 248, 249, 1131, 1132, 1133, 1134, 1135, 1136, 1137, 1138, 1139, 1140, 1141, 1142, 1143, 1144, 1145, 1146, 1147] (by decide +kernel) (by decide +kernel)
set_option maxRecDepth 20000 in
theorem gL_law_X9_of : GoodIn wsL_law (wsV RL 39 RX9 yX9_of wsX9_of) := goodIn_app (goodIn_of _ (by decide +kernel)) ggL_law_X9_of
set_option maxRecDepth 20000 in
theorem ggL_law_X8_set : GoodIn wsL_law wsX8_set := goodIn_r _ [328, 16, 130, 307, 308, 309, 15, 310, 52, 135, 136, 2, 137, 329, 330, 331, 332, 138, 139, 140, 141, 46, 333, 334, 335, 336, 303, 304, 305, 306, 1119, 1120, 1121, 1122, 1123, 1124, 1125, 1126, 1127, 1128, 1129, 1130, 1148, 1149, 1150, 1151, 1152, 1153, 1154, 1155, 1156, 1157, 1158, 1159] (by decide +kernel) (by decide +kernel)
set_option maxRecDepth 20000 in
theorem gL_law_X8_set : GoodIn wsL_law (wsV RL 40 RX8 yX8_set wsX8_set) := goodIn_app (goodIn_of _ (by decide +kernel)) ggL_law_X8_set
set_option maxRecDepth 20000 in
theorem ggL_law_X9_set : GoodIn wsL_law wsX9_set := goodIn_r _ [340, 321, 322, 323, 5, 324, 114, 149, 150, 151, 341, 342, 343, 146, 147, 148, 294, 295, 296, 297, 152, 153, 154, 155, 156, 157, 158, 159, 118, 160, 1131, 1132, 1133, 1134, 1135, 1136, 1137, 1138, 1139, 1140, 1141, 1142, 1143, 1144, 1145, 1146, 1147] (by decide +kernel) (by decide +kernel)
set_option maxRecDepth 20000 in
theorem gL_law_X9_set : GoodIn wsL_law (wsV RL 44 RX9 yX9_set wsX9_set) := goodIn_app (goodIn_of _ (by decide +kernel)) ggL_law_X9_set
set_option maxRecDepth 20000 in
theorem ggL_law_X8_turn : GoodIn wsL_law wsX8_turn := goodIn_r _ [347, 16, 130, 302, 307, 308, 309, 15, 310, 52, 276, 277, 2, 278, 135, 136, 137, 138, 139, 140, 141, 46, 1119, 1120, 1121, 1122, 1123, 1124, 1125, 1126, 1127, 1128, 1129, 1130, 1148, 1149, 1150, 1151, 1152, 1153, 1154, 1155, 1156, 1157, 1158, 1159] (by decide +kernel) (by decide +kernel)
set_option maxRecDepth 20000 in
theorem gL_law_X8_turn : GoodIn wsL_law (wsV RL 45 RX8 yX8_turn wsX8_turn) := goodIn_app (goodIn_of _ (by decide +kernel)) ggL_law_X8_turn
set_option maxRecDepth 20000 in
theorem ggL_law_X9_turn : GoodIn wsL_law wsX9_turn := goodIn_r _ [351, 321, 322, 323, 5, 324, 114, 149, 150, 151, 287, 288, 289, 294, 295, 296, 297, 152, 153, 154, 155, 156, 157, 158, 159, 118, 160, 1131, 1132, 1133, 1134, 1135, 1136, 1137, 1138, 1139, 1140, 1141, 1142, 1143, 1144, 1145, 1146, 1147] (by decide +kernel) (by decide +kernel)
set_option maxRecDepth 20000 in
theorem gL_law_X9_turn : GoodIn wsL_law (wsV RL 48 RX9 yX9_turn wsX9_turn) := goodIn_app (goodIn_of _ (by decide +kernel)) ggL_law_X9_turn
set_option maxRecDepth 20000 in
theorem ggL_law_X8_as : GoodIn wsL_law wsX8_as := goodIn_r _ [355, 16, 130, 302, 356, 305, 307, 308, 309, 15, 310, 52, 276, 277, 2, 278, 135, 136, 137, 138, 139, 140, 141, 46, 357, 197, 198, 199, 1119, 1120, 1121, 1122, 1123, 1124, 1125, 1126, 1127, 1128, 1129, 1130, 1148, 1149, 1150, 1151, 1152, 1153, 1154, 1155, 1156, 1157, 1158, 1159] (by decide +kernel) (by decide +kernel)
set_option maxRecDepth 20000 in
theorem gL_law_X8_as : GoodIn wsL_law (wsV RL 49 RX8 yX8_as wsX8_as) := goodIn_app (goodIn_of _ (by decide +kernel)) ggL_law_X8_as
set_option maxRecDepth 20000 in
theorem ggL_law_X9_as : GoodIn wsL_law wsX9_as := goodIn_r _ [361, 321, 322, 323, 5, 324, 114, 149, 150, 151, 287, 288, 289, 156, 157, 158, 159, 118, 160, 236, 237, 238, 239, 362, 363, 364, 1131, 1132, 1133, 1134, 1135, 1136, 1137, 1138, 1139, 1140, 1141, 1142, 1143, 1144, 1145, 1146, 1147] (by decide +kernel) (by decide +kernel)
set_option maxRecDepth 20000 in
theorem gL_law_X9_as : GoodIn wsL_law (wsV RL 52 RX9 yX9_as wsX9_as) := goodIn_app (goodIn_of _ (by decide +kernel)) ggL_law_X9_as
set_option maxRecDepth 20000 in
theorem ggL_law_X8_eat : GoodIn wsL_law wsX8_eat := goodIn_r _ [368, 16, 130, 307, 308, 309, 15, 310, 52, 135, 136, 2, 137, 138, 139, 140, 141, 46, 369, 370, 371, 372, 56, 57, 311, 312, 313, 314, 23, 315, 169, 170, 171, 22, 172, 173, 65, 66, 69, 67, 174, 68, 175, 176, 177, 178, 179, 51, 180, 181, 182, 183, 184, 185, 186, 187, 54, 55, 188, 189, 190, 191, 192, 193, 194, 195, 196, 197, 198, 199, 200, 201, 202, 203, 204, 205, 206, 207, 208, 1119, 1120, 1121, 1122, 1123, 1124, 1125, 1126, 1127, 1128, 1129, 1130, 1148, 1149, 1150, 1151, 1152, 1153, 1154, 1155, 1156, 1157, 1158, 1159, 1160, 1161, 1162, 1163, 1164] (by decide +kernel) (by decide +kernel)
set_option maxRecDepth 20000 in
theorem gL_law_X8_eat : GoodIn wsL_law (wsV RL 53 RX8 yX8_eat wsX8_eat) := goodIn_app (goodIn_of _ (by decide +kernel)) ggL_law_X8_eat
set_option maxRecDepth 20000 in
theorem ggL_law_X9_eat : GoodIn wsL_law wsX9_eat := goodIn_r _ [376, 321, 322, 323, 5, 324, 114, 149, 150, 151, 156, 157, 158, 159, 118, 160, 377, 378, 379, 380, 294, 295, 296, 297, 232, 233, 234, 235, 236, 237, 238, 239, 240, 241, 242, 243, 244, 245, 246, 1131, 1132, 1133, 1134, 1135, 1136, 1137, 1138, 1139, 1140, 1141, 1142, 1143, 1144, 1145, 1146, 1147] (by decide +kernel) (by decide +kernel)
set_option maxRecDepth 20000 in
theorem gL_law_X9_eat : GoodIn wsL_law (wsV RL 56 RX9 yX9_eat wsX9_eat) := goodIn_app (goodIn_of _ (by decide +kernel)) ggL_law_X9_eat
set_option maxRecDepth 20000 in
theorem ggL_law_X8_gives : GoodIn wsL_law wsX8_gives := goodIn_r _ [384, 16, 130, 23, 307, 308, 309, 15, 310, 52, 132, 133, 2, 134, 135, 136, 137, 138, 139, 140, 141, 46, 169, 170, 171, 22, 172, 173, 65, 66, 69, 67, 174, 68, 175, 176, 177, 178, 179, 51, 180, 181, 182, 183, 184, 185, 186, 187, 54, 55, 188, 189, 190, 191, 192, 193, 194, 195, 196, 197, 198, 199, 200, 201, 202, 203, 57, 204, 205, 206, 207, 208, 385, 214, 215, 216, 217, 218, 219, 1119, 1120, 1121, 1122, 1123, 1124, 1125, 1126, 1127, 1128, 1129, 1130, 1148, 1149, 1150, 1151, 1152, 1153, 1154, 1155, 1156, 1157, 1158, 1159, 1160, 1161, 1162, 1163, 1164] (by decide +kernel) (by decide +kernel)
set_option maxRecDepth 20000 in
theorem gL_law_X8_gives : GoodIn wsL_law (wsV RL 57 RX8 yX8_gives wsX8_gives) := goodIn_app (goodIn_of _ (by decide +kernel)) ggL_law_X8_gives
set_option maxRecDepth 20000 in
theorem ggL_law_X9_gives : GoodIn wsL_law wsX9_gives := goodIn_r _ [389, 321, 322, 323, 5, 324, 114, 149, 150, 151, 146, 147, 148, 228, 229, 230, 231, 232, 233, 234, 235, 236, 237, 238, 239, 240, 241, 242, 243, 244, 245, 246, 247, 248, 249, 156, 157, 158, 159, 118, 160, 1131, 1132, 1133, 1134, 1135, 1136, 1137, 1138, 1139, 1140, 1141, 1142, 1143, 1144, 1145, 1146, 1147] (by decide +kernel) (by decide +kernel)
set_option maxRecDepth 20000 in
theorem gL_law_X9_gives : GoodIn wsL_law (wsV RL 60 RX9 yX9_gives wsX9_gives) := goodIn_app (goodIn_of _ (by decide +kernel)) ggL_law_X9_gives
set_option maxRecDepth 20000 in
theorem ggL_law_X8_seen : GoodIn wsL_law wsX8_seen := goodIn_r _ [393, 130, 23, 16, 274, 132, 133, 2, 134, 135, 136, 137, 138, 139, 140, 141, 46, 169, 170, 171, 22, 172, 173, 65, 66, 69, 67, 174, 68, 175, 176, 177, 178, 15, 179, 51, 180, 181, 182, 183, 184, 185, 186, 187, 54, 55, 188, 189, 190, 191, 192, 193, 194, 195, 196, 197, 198, 199, 200, 201, 202, 203, 57, 204, 205, 206, 207, 208, 385, 214, 215, 216, 217, 218, 219, 1119, 1120, 1121, 1122, 1123, 1124, 1125, 1126, 1127, 1128, 1129, 1130, 1148, 1149, 1150, 1151, 1152, 1153, 1154, 1155, 1156, 1157, 1158, 1159, 1160, 1161, 1162, 1163, 1164] (by decide +kernel) (by decide +kernel)
set_option maxRecDepth 20000 in
theorem gL_law_X8_seen : GoodIn wsL_law (wsV RL 61 RX8 yX8_seen wsX8_seen) := goodIn_app (goodIn_of _ (by decide +kernel)) ggL_law_X8_seen
set_option maxRecDepth 20000 in
theorem ggL_law_X9_seen : GoodIn wsL_law wsX9_seen := goodIn_r _ [397, 114, 146, 147, 5, 148, 149, 150, 151, 156, 157, 158, 159, 118, 160, 228, 229, 230, 231, 232, 233, 234, 235, 236, 237, 238, 239, 240, 241, 242, 243, 244, 245, 246, 247, 248, 249, 1131, 1132, 1133, 1134, 1135, 1136, 1137, 1138, 1139, 1140, 1141, 1142, 1143, 1144, 1145, 1146, 1147] (by decide +kernel) (by decide +kernel)
set_option maxRecDepth 20000 in
theorem gL_law_X9_seen : GoodIn wsL_law (wsV RL 64 RX9 yX9_seen wsX9_seen) := goodIn_app (goodIn_of _ (by decide +kernel)) ggL_law_X9_seen
set_option maxRecDepth 20000 in
theorem ggL_law_X8_task : GoodIn wsL_law wsX8_task := goodIn_r _ [401, 130, 16, 402, 275, 132, 133, 2, 134, 135, 136, 137, 138, 139, 140, 141, 46, 403, 404, 405, 15, 406, 58, 59, 60, 61, 1119, 1120, 1121, 1122, 1123, 1124, 1125, 1126, 1127, 1128, 1129, 1130, 1148, 1149, 1150, 1151, 1152, 1153, 1154, 1155, 1156, 1157, 1158, 1159] (by decide +kernel) (by decide +kernel)
set_option maxRecDepth 20000 in
theorem gL_law_X8_task : GoodIn wsL_law (wsV RL 65 RX8 yX8_task wsX8_task) := goodIn_app (goodIn_of _ (by decide +kernel)) ggL_law_X8_task
set_option maxRecDepth 20000 in
theorem ggL_law_X9_task : GoodIn wsL_law wsX9_task := goodIn_r _ [410, 114, 146, 147, 5, 148, 149, 150, 151, 156, 157, 158, 159, 118, 160, 411, 412, 413, 414, 1131, 1132, 1133, 1134, 1135, 1136, 1137, 1138, 1139, 1140, 1141, 1142, 1143, 1144, 1145, 1146, 1147] (by decide +kernel) (by decide +kernel)
set_option maxRecDepth 20000 in
theorem gL_law_X9_task : GoodIn wsL_law (wsV RL 68 RX9 yX9_task wsX9_task) := goodIn_app (goodIn_of _ (by decide +kernel)) ggL_law_X9_task
set_option maxRecDepth 20000 in
theorem ggL_law_X8_taskOf : GoodIn wsL_law wsX8_taskOf := goodIn_r _ [418, 16, 130, 419, 420, 421, 422, 423, 424, 15, 425, 58, 138, 139, 140, 2, 141, 46, 135, 136, 137, 165, 166, 167, 168, 23, 169, 170, 171, 22, 172, 173, 65, 66, 69, 67, 174, 68, 175, 176, 177, 178, 179, 51, 180, 181, 182, 183, 184, 185, 186, 187, 54, 55, 188, 189, 190, 191, 192, 193, 194, 195, 196, 197, 198, 199, 200, 201, 202, 203, 57, 204, 205, 206, 207, 208, 209, 210, 211, 212, 213, 214, 215, 216, 217, 218, 219, 426, 427, 428, 429, 430, 431, 432, 433, 434, 60, 50, 1119, 1120, 1121, 1122, 1123, 1124, 1125, 1126, 1127, 1128, 1129, 1130, 1148, 1149, 1150, 1151, 1152, 1153, 1154, 1155, 1156, 1157, 1158, 1159, 1160, 1161, 1162, 1163, 1164] (by decide +kernel) (by decide +kernel)
set_option maxRecDepth 20000 in
theorem gL_law_X8_taskOf : GoodIn wsL_law (wsV RL 69 RX8 yX8_taskOf wsX8_taskOf) := goodIn_app (goodIn_of _ (by decide +kernel)) ggL_law_X8_taskOf
set_option maxRecDepth 20000 in
theorem ggL_law_X9_taskOf : GoodIn wsL_law wsX9_taskOf := goodIn_r _ [438, 439, 440, 441, 5, 442, 114, 149, 150, 151, 156, 157, 158, 159, 118, 160, 443, 444, 445, 446, 447, 448, 449, 450, 224, 225, 226, 227, 228, 229, 230, 231, 232, 233, 234, 235, 236, 237, 238, 239, 240, 241, 242, 243, 244, 245, 246, 247, 248, 249, 451, 452, 453, 454, 117, 455, 456, 457, 458, 459, 460, 461, 294, 295, 296, 297, 462, 463, 464, 465, 1131, 1132, 1133, 1134, 1135, 1136, 1137, 1138, 1139, 1140, 1141, 1142, 1143, 1144, 1145, 1146, 1147] (by decide +kernel) (by decide +kernel)
set_option maxRecDepth 20000 in
theorem gL_law_X9_taskOf : GoodIn wsL_law (wsV RL 72 RX9 yX9_taskOf wsX9_taskOf) := goodIn_app (goodIn_of _ (by decide +kernel)) ggL_law_X9_taskOf
