set_option maxRecDepth 20000 in
theorem ggL_law_X8_init : GoodIn wsL_law wsX8_init := goodIn_r _ [9, 10, 11, 12, 13, 14, 15, 16, 17, 18, 19, 20, 21, 22, 23, 24, 25, 26, 27, 28, 29, 30, 31, 32, 33, 34, 35, 36, 37, 38, 39, 40, 41, 42, 43, 44, 45, 46, 47, 48, 49, 50, 51, 52, 53, 54, 55, 56, 57, 58, 59, 60, 61, 62, 63, 64, 65, 66, 67, 68, 69, 70, 71, 72, 73, 74, 75, 76, 77, 78, 79, 80, 81, 82, 83, 84, 85, 86, 87, 88, 89, 90, 91, 92, 93, 94, 95, 96, 97, 98, 99, 100, 101, 102, 103, 104, 105, 106, 107, 108, 109, 110, 1147, 1148, 1149, 1150, 1151, 1152, 1153, 1154, 1155, 1156, 1157, 1158, 1118, 1119, 1120, 1121, 1122, 1123, 1124, 1125, 1126, 1127, 1128, 1129, 1159, 1160, 1161, 1162, 1163, 1164, 1165, 1166, 1167, 1168, 1169, 1170, 1171, 1172, 1173, 1174, 1175, 1176, 1177, 1178, 1179, 1180] (by decide +kernel) (by decide +kernel)
set_option maxRecDepth 20000 in
theorem gL_law_X8_init : GoodIn wsL_law (wsX8_init) := ggL_law_X8_init
set_option maxRecDepth 20000 in
theorem ggL_law_X9_init : GoodIn wsL_law wsX9_init := goodIn_r _ [113, 114, 11, 12, 44, 115, 116, 117, 118, 119, 120, 121, 122, 123, 124, 99, 125, 126, 1130, 1131, 1132, 1133, 1134, 1135, 1136, 1137, 1138, 1139, 1140, 1141, 1142, 1143, 1144, 1145, 1146] (by decide +kernel) (by decide +kernel)
set_option maxRecDepth 20000 in
theorem gL_law_X9_init : GoodIn wsL_law (wsX9_init) := ggL_law_X9_init
set_option maxRecDepth 20000 in
theorem ggL_law_X8_bowl : GoodIn wsL_law wsX8_bowl := goodIn_r _ [130, 131, 16, 132, 133, 134, 2, 135, 136, 137, 138, 139, 140, 141, 142, 46, 1118, 1119, 1120, 1121, 1122, 1123, 1124, 1125, 1126, 1127, 1128, 1129, 1147, 1148, 1149, 1150, 1151, 1152, 1153, 1154, 1155, 1156, 1157, 1158] (by decide +kernel) (by decide +kernel)
set_option maxRecDepth 20000 in
theorem gL_law_X8_bowl : GoodIn wsL_law (wsV RL 13 RX8 yX8_bowl wsX8_bowl) := goodIn_app (goodIn_of _ (by decide +kernel)) ggL_law_X8_bowl
set_option maxRecDepth 20000 in
theorem ggL_law_X9_bowl : GoodIn wsL_law wsX9_bowl := goodIn_r _ [146, 147, 148, 5, 149, 150, 151, 152, 153, 154, 155, 156, 115, 157, 158, 159, 160, 119, 161, 1130, 1131, 1132, 1133, 1134, 1135, 1136, 1137, 1138, 1139, 1140, 1141, 1142, 1143, 1144, 1145, 1146] (by decide +kernel) (by decide +kernel)
set_option maxRecDepth 20000 in
theorem gL_law_X9_bowl : GoodIn wsL_law (wsV RL 17 RX9 yX9_bowl wsX9_bowl) := goodIn_app (goodIn_of _ (by decide +kernel)) ggL_law_X9_bowl
set_option maxRecDepth 20000 in
theorem ggL_law_X8_light : GoodIn wsL_law wsX8_light := goodIn_r _ [165, 131, 133, 134, 2, 135, 136, 137, 138, 166, 167, 168, 169, 23, 16, 170, 171, 172, 22, 173, 174, 65, 66, 69, 67, 175, 68, 176, 177, 178, 179, 15, 180, 51, 181, 182, 183, 184, 185, 186, 187, 188, 54, 55, 189, 190, 191, 192, 193, 194, 195, 196, 197, 198, 199, 200, 201, 202, 203, 204, 57, 205, 206, 207, 208, 209, 210, 211, 212, 213, 214, 215, 216, 217, 218, 219, 220, 139, 140, 141, 142, 46, 1118, 1119, 1120, 1121, 1122, 1123, 1124, 1125, 1126, 1127, 1128, 1129, 1147, 1148, 1149, 1150, 1151, 1152, 1153, 1154, 1155, 1156, 1157, 1158, 1159, 1160, 1161, 1162, 1163] (by decide +kernel) (by decide +kernel)
set_option maxRecDepth 20000 in
theorem gL_law_X8_light : GoodIn wsL_law (wsV RL 18 RX8 yX8_light wsX8_light) := goodIn_app (goodIn_of _ (by decide +kernel)) ggL_law_X8_light
set_option maxRecDepth 20000 in
theorem ggL_law_X9_light : GoodIn wsL_law wsX9_light := goodIn_r _ [224, 147, 148, 5, 149, 150, 151, 152, 225, 226, 227, 228, 115, 229, 230, 231, 232, 233, 234, 235, 236, 237, 238, 239, 240, 241, 242, 243, 244, 245, 246, 247, 248, 249, 250, 157, 158, 159, 160, 119, 161, 1130, 1131, 1132, 1133, 1134, 1135, 1136, 1137, 1138, 1139, 1140, 1141, 1142, 1143, 1144, 1145, 1146] (by decide +kernel) (by decide +kernel)
set_option maxRecDepth 20000 in
theorem gL_law_X9_light : GoodIn wsL_law (wsV RL 22 RX9 yX9_light wsX9_light) := goodIn_app (goodIn_of _ (by decide +kernel)) ggL_law_X9_light
set_option maxRecDepth 20000 in
theorem ggL_law_X8_brightest : GoodIn wsL_law wsX8_brightest := goodIn_r _ [254, 45, 255, 256, 257, 2, 258, 23, 16, 170, 171, 172, 22, 173, 174, 65, 66, 69, 67, 175, 68, 176, 177, 178, 179, 15, 180, 51, 181, 182, 183, 184, 185, 186, 187, 188, 54, 55, 189, 190, 191, 192, 193, 194, 195, 196, 197, 198, 199, 200, 201, 202, 203, 204, 57, 205, 206, 207, 208, 209, 210, 211, 212, 213, 214, 215, 216, 217, 218, 219, 220, 1118, 1119, 1120, 1121, 1122, 1123, 1124, 1125, 1126, 1127, 1128, 1129, 1147, 1148, 1149, 1150, 1151, 1152, 1153, 1154, 1155, 1156, 1157, 1158, 1159, 1160, 1161, 1162, 1163] (by decide +kernel) (by decide +kernel)
set_option maxRecDepth 20000 in
theorem gL_law_X8_brightest : GoodIn wsL_law (wsV RL 23 RX8 yX8_brightest wsX8_brightest) := goodIn_app (goodIn_of _ (by decide +kernel)) ggL_law_X8_brightest
set_option maxRecDepth 20000 in
theorem ggL_law_X9_brightest : GoodIn wsL_law wsX9_brightest := goodIn_r _ [262, 225, 226, 227, 5, 228, 115, 229, 230, 231, 232, 233, 234, 235, 236, 237, 238, 239, 240, 241, 242, 243, 244, 245, 246, 247, 248, 249, 250, 1130, 1131, 1132, 1133, 1134, 1135, 1136, 1137, 1138, 1139, 1140, 1141, 1142, 1143, 1144, 1145, 1146] (by decide +kernel) (by decide +kernel)
set_option maxRecDepth 20000 in
theorem gL_law_X9_brightest : GoodIn wsL_law (wsV RL 27 RX9 yX9_brightest wsX9_brightest) := goodIn_app (goodIn_of _ (by decide +kernel)) ggL_law_X9_brightest
set_option maxRecDepth 20000 in
theorem ggL_law_X8_lit : GoodIn wsL_law wsX8_lit := goodIn_r _ [266, 131, 45, 136, 137, 2, 138, 139, 140, 141, 142, 46, 255, 256, 257, 258, 23, 16, 170, 171, 172, 22, 173, 174, 65, 66, 69, 67, 175, 68, 176, 177, 178, 179, 15, 180, 51, 181, 182, 183, 184, 185, 186, 187, 188, 54, 55, 189, 190, 191, 192, 193, 194, 195, 196, 197, 198, 199, 200, 201, 202, 203, 204, 57, 205, 206, 207, 208, 209, 210, 211, 212, 213, 214, 215, 216, 217, 218, 219, 220, 1118, 1119, 1120, 1121, 1122, 1123, 1124, 1125, 1126, 1127, 1128, 1129, 1147, 1148, 1149, 1150, 1151, 1152, 1153, 1154, 1155, 1156, 1157, 1158, 1159, 1160, 1161, 1162, 1163] (by decide +kernel) (by decide +kernel)
set_option maxRecDepth 20000 in
theorem gL_law_X8_lit : GoodIn wsL_law (wsV RL 28 RX8 yX8_lit wsX8_lit) := goodIn_app (goodIn_of _ (by decide +kernel)) ggL_law_X8_lit
set_option maxRecDepth 20000 in
theorem ggL_law_X9_lit : GoodIn wsL_law wsX9_lit := goodIn_r _ [270, 150, 151, 5, 152, 157, 158, 159, 160, 119, 161, 225, 226, 227, 228, 115, 229, 230, 231, 232, 233, 234, 235, 236, 237, 238, 239, 240, 241, 242, 243, 244, 245, 246, 247, 248, 249, 250, 1130, 1131, 1132, 1133, 1134, 1135, 1136, 1137, 1138, 1139, 1140, 1141, 1142, 1143, 1144, 1145, 1146] (by decide +kernel) (by decide +kernel)
set_option maxRecDepth 20000 in
theorem gL_law_X9_lit : GoodIn wsL_law (wsV RL 31 RX9 yX9_lit wsX9_lit) := goodIn_app (goodIn_of _ (by decide +kernel)) ggL_law_X9_lit
set_option maxRecDepth 20000 in
theorem ggL_law_X8_being : GoodIn wsL_law wsX8_being := goodIn_r _ [274, 131, 16, 275, 276, 277, 278, 2, 279, 136, 137, 138, 133, 134, 135, 139, 140, 141, 142, 46, 280, 281, 282, 15, 283, 52, 53, 54, 55, 56, 57, 1118, 1119, 1120, 1121, 1122, 1123, 1124, 1125, 1126, 1127, 1128, 1129, 1147, 1148, 1149, 1150, 1151, 1152, 1153, 1154, 1155, 1156, 1157, 1158] (by decide +kernel) (by decide +kernel)
set_option maxRecDepth 20000 in
theorem gL_law_X8_being : GoodIn wsL_law (wsV RL 32 RX8 yX8_being wsX8_being) := goodIn_app (goodIn_of _ (by decide +kernel)) ggL_law_X8_being
set_option maxRecDepth 20000 in
theorem ggL_law_X9_being : GoodIn wsL_law wsX9_being := goodIn_r _ [287, 115, 288, 289, 5, 290, 150, 151, 152, 147, 148, 149, 157, 158, 159, 160, 119, 161, 291, 292, 293, 294, 295, 296, 297, 298, 1130, 1131, 1132, 1133, 1134, 1135, 1136, 1137, 1138, 1139, 1140, 1141, 1142, 1143, 1144, 1145, 1146] (by decide +kernel) (by decide +kernel)
set_option maxRecDepth 20000 in
theorem gL_law_X9_being : GoodIn wsL_law (wsV RL 35 RX9 yX9_being wsX9_being) := goodIn_app (goodIn_of _ (by decide +kernel)) ggL_law_X9_being
set_option maxRecDepth 20000 in
theorem ggL_law_X8_of : GoodIn wsL_law wsX8_of := goodIn_r _ [302, 16, 131, 303, 304, 305, 306, 307, 308, 309, 310, 15, 311, 52, 139, 140, 141, 2, 142, 46, 136, 137, 138, 312, 313, 314, 315, 23, 316, 170, 171, 172, 22, 173, 174, 65, 66, 69, 67, 175, 68, 176, 177, 178, 179, 180, 51, 181, 182, 183, 184, 185, 186, 187, 188, 54, 55, 189, 190, 191, 192, 193, 194, 195, 196, 197, 198, 199, 200, 201, 202, 203, 204, 57, 205, 206, 207, 208, 209, 317, 218, 219, 220, 1118, 1119, 1120, 1121, 1122, 1123, 1124, 1125, 1126, 1127, 1128, 1129, 1147, 1148, 1149, 1150, 1151, 1152, 1153, 1154, 1155, 1156, 1157, 1158, 1159, 1160, 1161, 1162, 1163] (by decide +kernel) (by decide +kernel)
set_option maxRecDepth 20000 in
theorem gL_law_X8_of : GoodIn wsL_law (wsV RL 36 RX8 yX8_of wsX8_of) := goodIn_app (goodIn_of _ (by decide +kernel)) ggL_law_X8_of
set_option maxRecDepth 20000 in
theorem ggL_law_X9_of : GoodIn wsL_law wsX9_of := goodIn_r _ [321, 322, 323, 324, 5, 325, 115, 150, 151, 152, 157, 158, 159, 160, 119, 161, 233, 234, 235, 236, 237, 238, 239, 240, 241, 242, 243, 244, 245, 246, 247, 248, 249, 250, 1130, 1131, 1132, 1133, 1134, 1135, 1136, 1137, 1138, 1139, 1140, 1141, 1142, 1143, 1144, 1145, 1146] (by decide +kernel) (by decide +kernel)
set_option maxRecDepth 20000 in
theorem gL_law_X9_of : GoodIn wsL_law (wsV RL 39 RX9 yX9_of wsX9_of) := goodIn_app (goodIn_of _ (by decide +kernel)) ggL_law_X9_of
set_option maxRecDepth 20000 in
theorem ggL_law_X8_set : GoodIn wsL_law wsX8_set := goodIn_r _ [329, 16, 131, 308, 309, 310, 15, 311, 52, 136, 137, 2, 138, 330, 331, 332, 333, 139, 140, 141, 142, 46, 334, 335, 336, 337, 304, 305, 306, 307, 1118, 1119, 1120, 1121, 1122, 1123, 1124, 1125, 1126, 1127, 1128, 1129, 1147, 1148, 1149, 1150, 1151, 1152, 1153, 1154, 1155, 1156, 1157, 1158] (by decide +kernel) (by decide +kernel)
set_option maxRecDepth 20000 in
theorem gL_law_X8_set : GoodIn wsL_law (wsV RL 40 RX8 yX8_set wsX8_set) := goodIn_app (goodIn_of _ (by decide +kernel)) ggL_law_X8_set
set_option maxRecDepth 20000 in
theorem ggL_law_X9_set : GoodIn wsL_law wsX9_set := goodIn_r _ [341, 322, 323, 324, 5, 325, 115, 150, 151, 152, 342, 343, 344, 147, 148, 149, 295, 296, 297, 298, 153, 154, 155, 156, 157, 158, 159, 160, 119, 161, 1130, 1131, 1132, 1133, 1134, 1135, 1136, 1137, 1138, 1139, 1140, 1141, 1142, 1143, 1144, 1145, 1146] (by decide +kernel) (by decide +kernel)
set_option maxRecDepth 20000 in
theorem gL_law_X9_set : GoodIn wsL_law (wsV RL 44 RX9 yX9_set wsX9_set) := goodIn_app (goodIn_of _ (by decide +kernel)) ggL_law_X9_set
set_option maxRecDepth 20000 in
theorem ggL_law_X8_turn : GoodIn wsL_law wsX8_turn := goodIn_r _ [348, 16, 131, 303, 308, 309, 310, 15, 311, 52, 277, 278, 2, 279, 136, 137, 138, 139, 140, 141, 142, 46, 1118, 1119, 1120, 1121, 1122, 1123, 1124, 1125, 1126, 1127, 1128, 1129, 1147, 1148, 1149, 1150, 1151, 1152, 1153, 1154, 1155, 1156, 1157, 1158] (by decide +kernel) (by decide +kernel)
set_option maxRecDepth 20000 in
theorem gL_law_X8_turn : GoodIn wsL_law (wsV RL 45 RX8 yX8_turn wsX8_turn) := goodIn_app (goodIn_of _ (by decide +kernel)) ggL_law_X8_turn
set_option maxRecDepth 20000 in
theorem ggL_law_X9_turn : GoodIn wsL_law wsX9_turn := goodIn_r _ [352, 322, 323, 324, 5, 325, 115, 150, 151, 152, 288, 289, 290, 295, 296, 297, 298, 153, 154, 155, 156, 157, 158, 159, 160, 119, 161, 1130, 1131, 1132, 1133, 1134, 1135, 1136, 1137, 1138, 1139, 1140, 1141, 1142, 1143, 1144, 1145, 1146] (by decide +kernel) (by decide +kernel)
set_option maxRecDepth 20000 in
theorem gL_law_X9_turn : GoodIn wsL_law (wsV RL 48 RX9 yX9_turn wsX9_turn) := goodIn_app (goodIn_of _ (by decide +kernel)) ggL_law_X9_turn
set_option maxRecDepth 20000 in
theorem ggL_law_X8_as : GoodIn wsL_law wsX8_as := goodIn_r _ [356, 16, 131, 303, 357, 306, 308, 309, 310, 15, 311, 52, 277, 278, 2, 279, 136, 137, 138, 139, 140, 141, 142, 46, 358, 198, 199, 200, 1118, 1119, 1120, 1121, 1122, 1123, 1124, 1125, 1126, 1127, 1128, 1129, 1147, 1148, 1149, 1150, 1151, 1152, 1153, 1154, 1155, 1156, 1157, 1158] (by decide +kernel) (by decide +kernel)
set_option maxRecDepth 20000 in
theorem gL_law_X8_as : GoodIn wsL_law (wsV RL 49 RX8 yX8_as wsX8_as) := goodIn_app (goodIn_of _ (by decide +kernel)) ggL_law_X8_as
set_option maxRecDepth 20000 in
theorem ggL_law_X9_as : GoodIn wsL_law wsX9_as := goodIn_r _ [362, 322, 323, 324, 5, 325, 115, 150, 151, 152, 288, 289, 290, 157, 158, 159, 160, 119, 161, 237, 238, 239, 240, 363, 364, 365, 1130, 1131, 1132, 1133, 1134, 1135, 1136, 1137, 1138, 1139, 1140, 1141, 1142, 1143, 1144, 1145, 1146] (by decide +kernel) (by decide +kernel)
set_option maxRecDepth 20000 in
theorem gL_law_X9_as : GoodIn wsL_law (wsV RL 52 RX9 yX9_as wsX9_as) := goodIn_app (goodIn_of _ (by decide +kernel)) ggL_law_X9_as
set_option maxRecDepth 20000 in
theorem ggL_law_X8_eat : GoodIn wsL_law wsX8_eat := goodIn_r _ [369, 16, 131, 308, 309, 310, 15, 311, 52, 136, 137, 2, 138, 139, 140, 141, 142, 46, 370, 371, 372, 373, 56, 57, 312, 313, 314, 315, 23, 316, 170, 171, 172, 22, 173, 174, 65, 66, 69, 67, 175, 68, 176, 177, 178, 179, 180, 51, 181, 182, 183, 184, 185, 186, 187, 188, 54, 55, 189, 190, 191, 192, 193, 194, 195, 196, 197, 198, 199, 200, 201, 202, 203, 204, 205, 206, 207, 208, 209, 1118, 1119, 1120, 1121, 1122, 1123, 1124, 1125, 1126, 1127, 1128, 1129, 1147, 1148, 1149, 1150, 1151, 1152, 1153, 1154, 1155, 1156, 1157, 1158, 1159, 1160, 1161, 1162, 1163] (by decide +kernel) (by decide +kernel)
set_option maxRecDepth 20000 in
theorem gL_law_X8_eat : GoodIn wsL_law (wsV RL 53 RX8 yX8_eat wsX8_eat) := goodIn_app (goodIn_of _ (by decide +kernel)) ggL_law_X8_eat
set_option maxRecDepth 20000 in
theorem ggL_law_X9_eat : GoodIn wsL_law wsX9_eat := goodIn_r _ [377, 322, 323, 324, 5, 325, 115, 150, 151, 152, 157, 158, 159, 160, 119, 161, 378, 379, 380, 381, 295, 296, 297, 298, 233, 234, 235, 236, 237, 238, 239, 240, 241, 242, 243, 244, 245, 246, 247, 1130, 1131, 1132, 1133, 1134, 1135, 1136, 1137, 1138, 1139, 1140, 1141, 1142, 1143, 1144, 1145, 1146] (by decide +kernel) (by decide +kernel)
set_option maxRecDepth 20000 in
theorem gL_law_X9_eat : GoodIn wsL_law (wsV RL 56 RX9 yX9_eat wsX9_eat) := goodIn_app (goodIn_of _ (by decide +kernel)) ggL_law_X9_eat
set_option maxRecDepth 20000 in
theorem ggL_law_X8_gives : GoodIn wsL_law wsX8_gives := goodIn_r _ [385, 16, 131, 23, 308, 309, 310, 15, 311, 52, 133, 134, 2, 135, 136, 137, 138, 139, 140, 141, 142, 46, 170, 171, 172, 22, 173, 174, 65, 66, 69, 67, 175, 68, 176, 177, 178, 179, 180, 51, 181, 182, 183, 184, 185, 186, 187, 188, 54, 55, 189, 190, 191, 192, 193, 194, 195, 196, 197, 198, 199, 200, 201, 202, 203, 204, 57, 205, 206, 207, 208, 209, 386, 215, 216, 217, 218, 219, 220, 1118, 1119, 1120, 1121, 1122, 1123, 1124, 1125, 1126, 1127, 1128, 1129, 1147, 1148, 1149, 1150, 1151, 1152, 1153, 1154, 1155, 1156, 1157, 1158, 1159, 1160, 1161, 1162, 1163] (by decide +kernel) (by decide +kernel)
set_option maxRecDepth 20000 in
theorem gL_law_X8_gives : GoodIn wsL_law (wsV RL 57 RX8 yX8_gives wsX8_gives) := goodIn_app (goodIn_of _ (by decide +kernel)) ggL_law_X8_gives
set_option maxRecDepth 20000 in
theorem ggL_law_X9_gives : GoodIn wsL_law wsX9_gives := goodIn_r _ [390, 322, 323, 324, 5, 325, 115, 150, 151, 152, 147, 148, 149, 229, 230, 231, 232, 233, 234, 235, 236, 237, 238, 239, 240, 241, 242, 243, 244, 245, 246, 247, 248, 249, 250, 157, 158, 159, 160, 119, 161, 1130, 1131, 1132, 1133, 1134, 1135, 1136, 1137, 1138, 1139, 1140, 1141, 1142, 1143, 1144, 1145, 1146] (by decide +kernel) (by decide +kernel)
set_option maxRecDepth 20000 in
theorem gL_law_X9_gives : GoodIn wsL_law (wsV RL 60 RX9 yX9_gives wsX9_gives) := goodIn_app (goodIn_of _ (by decide +kernel)) ggL_law_X9_gives
set_option maxRecDepth 20000 in
theorem ggL_law_X8_seen : GoodIn wsL_law wsX8_seen := goodIn_r _ [394, 131, 23, 16, 275, 133, 134, 2, 135, 136, 137, 138, 139, 140, 141, 142, 46, 170, 171, 172, 22, 173, 174, 65, 66, 69, 67, 175, 68, 176, 177, 178, 179, 15, 180, 51, 181, 182, 183, 184, 185, 186, 187, 188, 54, 55, 189, 190, 191, 192, 193, 194, 195, 196, 197, 198, 199, 200, 201, 202, 203, 204, 57, 205, 206, 207, 208, 209, 386, 215, 216, 217, 218, 219, 220, 1118, 1119, 1120, 1121, 1122, 1123, 1124, 1125, 1126, 1127, 1128, 1129, 1147, 1148, 1149, 1150, 1151, 1152, 1153, 1154, 1155, 1156, 1157, 1158, 1159, 1160, 1161, 1162, 1163] (by decide +kernel) (by decide +kernel)
set_option maxRecDepth 20000 in
theorem gL_law_X8_seen : GoodIn wsL_law (wsV RL 61 RX8 yX8_seen wsX8_seen) := goodIn_app (goodIn_of _ (by decide +kernel)) ggL_law_X8_seen
set_option maxRecDepth 20000 in
theorem ggL_law_X9_seen : GoodIn wsL_law wsX9_seen := goodIn_r _ [398, 115, 147, 148, 5, 149, 150, 151, 152, 157, 158, 159, 160, 119, 161, 229, 230, 231, 232, 233, 234, 235, 236, 237, 238, 239, 240, 241, 242, 243, 244, 245, 246, 247, 248, 249, 250, 1130, 1131, 1132, 1133, 1134, 1135, 1136, 1137, 1138, 1139, 1140, 1141, 1142, 1143, 1144, 1145, 1146] (by decide +kernel) (by decide +kernel)
set_option maxRecDepth 20000 in
theorem gL_law_X9_seen : GoodIn wsL_law (wsV RL 64 RX9 yX9_seen wsX9_seen) := goodIn_app (goodIn_of _ (by decide +kernel)) ggL_law_X9_seen
set_option maxRecDepth 20000 in
theorem ggL_law_X8_task : GoodIn wsL_law wsX8_task := goodIn_r _ [402, 131, 16, 403, 276, 133, 134, 2, 135, 136, 137, 138, 139, 140, 141, 142, 46, 404, 405, 406, 15, 407, 58, 59, 60, 61, 1118, 1119, 1120, 1121, 1122, 1123, 1124, 1125, 1126, 1127, 1128, 1129, 1147, 1148, 1149, 1150, 1151, 1152, 1153, 1154, 1155, 1156, 1157, 1158] (by decide +kernel) (by decide +kernel)
set_option maxRecDepth 20000 in
theorem gL_law_X8_task : GoodIn wsL_law (wsV RL 65 RX8 yX8_task wsX8_task) := goodIn_app (goodIn_of _ (by decide +kernel)) ggL_law_X8_task
set_option maxRecDepth 20000 in
theorem ggL_law_X9_task : GoodIn wsL_law wsX9_task := goodIn_r _ [411, 115, 147, 148, 5, 149, 150, 151, 152, 157, 158, 159, 160, 119, 161, 412, 413, 414, 415, 1130, 1131, 1132, 1133, 1134, 1135, 1136, 1137, 1138, 1139, 1140, 1141, 1142, 1143, 1144, 1145, 1146] (by decide +kernel) (by decide +kernel)
set_option maxRecDepth 20000 in
theorem gL_law_X9_task : GoodIn wsL_law (wsV RL 68 RX9 yX9_task wsX9_task) := goodIn_app (goodIn_of _ (by decide +kernel)) ggL_law_X9_task
set_option maxRecDepth 20000 in
theorem ggL_law_X8_taskOf : GoodIn wsL_law wsX8_taskOf := goodIn_r _ [419, 16, 131, 420, 421, 422, 423, 424, 425, 15, 426, 58, 139, 140, 141, 2, 142, 46, 136, 137, 138, 166, 167, 168, 169, 23, 170, 171, 172, 22, 173, 174, 65, 66, 69, 67, 175, 68, 176, 177, 178, 179, 180, 51, 181, 182, 183, 184, 185, 186, 187, 188, 54, 55, 189, 190, 191, 192, 193, 194, 195, 196, 197, 198, 199, 200, 201, 202, 203, 204, 57, 205, 206, 207, 208, 209, 210, 211, 212, 213, 214, 215, 216, 217, 218, 219, 220, 427, 428, 429, 430, 431, 432, 433, 434, 435, 60, 50, 1118, 1119, 1120, 1121, 1122, 1123, 1124, 1125, 1126, 1127, 1128, 1129, 1147, 1148, 1149, 1150, 1151, 1152, 1153, 1154, 1155, 1156, 1157, 1158, 1159, 1160, 1161, 1162, 1163] (by decide +kernel) (by decide +kernel)
set_option maxRecDepth 20000 in
theorem gL_law_X8_taskOf : GoodIn wsL_law (wsV RL 69 RX8 yX8_taskOf wsX8_taskOf) := goodIn_app (goodIn_of _ (by decide +kernel)) ggL_law_X8_taskOf
set_option maxRecDepth 20000 in
theorem ggL_law_X9_taskOf : GoodIn wsL_law wsX9_taskOf := goodIn_r _ [439, 440, 441, 442, 5, 443, 115, 150, 151, 152, 157, 158, 159, 160, 119, 161, 444, 445, 446, 447, 448, 449, 450, 451, 225, 226, 227, 228, 229, 230, 231, 232, 233, 234, 235, 236, 237, 238, 239, 240, 241, 242, 243, 244, 245, 246, 247, 248, 249, 250, 452, 453, 454, 455, 118, 456, 457, 458, 459, 460, 461, 462, 295, 296, 297, 298, 463, 464, 465, 466, 1130, 1131, 1132, 1133, 1134, 1135, 1136, 1137, 1138, 1139, 1140, 1141, 1142, 1143, 1144, 1145, 1146] (by decide +kernel) (by decide +kernel)
set_option maxRecDepth 20000 in
theorem gL_law_X9_taskOf : GoodIn wsL_law (wsV RL 72 RX9 yX9_taskOf wsX9_taskOf) := goodIn_app (goodIn_of _ (by decide +kernel)) ggL_law_X9_taskOf
