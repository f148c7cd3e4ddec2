set_option maxRecDepth 20000 in
theorem ggL_law_X4_init : GoodIn wsL_law wsX4_init := goodIn_r _ [9, 10, 11, 12, 13, 14, 15, 16, 17, 18, 19, 20, 21, 22, 23, 24, 25, 26, 27, 28, 29, 30, 31, 32, 33, 34, 35, 36, 37, 38, 39, 40, 41, 42, 43, 44, 45, 46, 47, 48, 49, 50, 51, 52, 53, 54, 55, 56, 57, 58, 59, 60, 2, 61, 62, 63, 64, 65, 66, 67, 68, 69, 70, 71, 72, 73, 74, 75, 76, 77, 78, 79, 80, 81, 82, 83, 84, 85, 86, 87, 88, 89, 90, 1176, 1177, 1178, 1179, 1180, 1181, 1182, 1183, 1184, 1185, 1186, 1187, 1188, 1189, 1138, 1139, 1140, 1141, 1142, 1143, 1144, 1145, 1146, 1147, 1148, 1149, 1190, 1191, 1192, 1193, 1194, 1195, 1196, 1197, 1198, 1199, 1200, 1201, 1202, 1203, 1204, 1205, 1206, 1207, 1208] (by decide +kernel) (by decide +kernel)
set_option maxRecDepth 20000 in
theorem gL_law_X4_init : GoodIn wsL_law (wsX4_init) := ggL_law_X4_init
set_option maxRecDepth 20000 in
theorem ggL_law_X5_init : GoodIn wsL_law wsX5_init := goodIn_r _ [93, 94, 11, 12, 41, 95, 96, 97, 98, 99, 100, 101, 102, 103, 104, 105, 106, 107, 108, 109, 110, 111, 112, 5, 113, 114, 115, 116, 117, 118, 119, 120, 121, 122, 123, 124, 125, 126, 127, 128, 129, 130, 131, 132, 133, 134, 135, 136, 137, 138, 1150, 1151, 1152, 1153, 1154, 1155, 1156, 1157, 1158, 1159, 1160, 1161, 1162, 1163, 1164, 1165, 1166, 1167, 1168, 1169, 1170, 1171, 1172, 1173, 1174, 1175] (by decide +kernel) (by decide +kernel)
set_option maxRecDepth 20000 in
theorem gL_law_X5_init : GoodIn wsL_law (wsX5_init) := ggL_law_X5_init
set_option maxRecDepth 20000 in
theorem ggL_law_X4_feed : GoodIn wsL_law wsX4_feed := goodIn_r _ [142, 20, 143, 144, 145, 146, 19, 147, 148, 74, 1138, 1139, 1140, 1141, 1142, 1143, 1144, 1145, 1146, 1147, 1148, 1149, 1190, 1191, 1192, 1193, 1194, 1195, 1196, 1197, 1198, 1199] (by decide +kernel) (by decide +kernel)
set_option maxRecDepth 20000 in
theorem gL_law_X4_feed : GoodIn wsL_law (wsV RL 15 RX4 yX4_feed wsX4_feed) := goodIn_app (goodIn_of _ (by decide +kernel)) ggL_law_X4_feed
set_option maxRecDepth 20000 in
theorem ggL_law_X5_feed : GoodIn wsL_law wsX5_feed := goodIn_r _ [152, 153, 102, 154, 1150, 1151, 1152, 1153, 1154, 1155, 1156, 1157, 1158, 1159, 1160, 1161, 1162, 1163, 1164, 1165, 1166, 1167, 1168, 1169, 1170, 1171, 1172, 1173, 1174, 1175] (by decide +kernel) (by decide +kernel)
set_option maxRecDepth 20000 in
theorem gL_law_X5_feed : GoodIn wsL_law (wsV RL 19 RX5 yX5_feed wsX5_feed) := goodIn_app (goodIn_of _ (by decide +kernel)) ggL_law_X5_feed
set_option maxRecDepth 20000 in
theorem ggL_law_X4_end : GoodIn wsL_law wsX4_end := goodIn_r _ [158, 20, 143, 159, 160, 2, 161, 1138, 1139, 1140, 1141, 1142, 1143, 1144, 1145, 1146, 1147, 1148, 1149, 1190, 1191, 1192, 1193, 1194, 1195, 1196, 1197, 1198, 1199] (by decide +kernel) (by decide +kernel)
set_option maxRecDepth 20000 in
theorem gL_law_X4_end : GoodIn wsL_law (wsV RL 20 RX4 yX4_end wsX4_end) := goodIn_app (goodIn_of _ (by decide +kernel)) ggL_law_X4_end
set_option maxRecDepth 20000 in
theorem ggL_law_X5_end : GoodIn wsL_law wsX5_end := goodIn_r _ [165, 153, 166, 167, 5, 168, 1150, 1151, 1152, 1153, 1154, 1155, 1156, 1157, 1158, 1159, 1160, 1161, 1162, 1163, 1164, 1165, 1166, 1167, 1168, 1169, 1170, 1171, 1172, 1173, 1174, 1175] (by decide +kernel) (by decide +kernel)
set_option maxRecDepth 20000 in
theorem gL_law_X5_end : GoodIn wsL_law (wsV RL 24 RX5 yX5_end wsX5_end) := goodIn_app (goodIn_of _ (by decide +kernel)) ggL_law_X5_end
set_option maxRecDepth 20000 in
theorem ggL_law_X4_text : GoodIn wsL_law wsX4_text := goodIn_r _ [172, 20, 143, 173, 34, 174, 16, 175, 36, 176, 177, 178, 19, 179, 76, 180, 181, 182, 183, 184, 185, 186, 148, 187, 51, 52, 15, 53, 42, 54, 55, 56, 57, 58, 59, 60, 2, 61, 62, 63, 64, 65, 66, 67, 68, 69, 188, 189, 190, 191, 192, 193, 194, 195, 196, 74, 197, 198, 199, 200, 201, 202, 203, 204, 205, 206, 207, 208, 209, 210, 211, 212, 213, 214, 215, 216, 217, 218, 219, 220, 221, 222, 223, 224, 225, 226, 227, 228, 229, 230, 231, 232, 233, 234, 235, 236, 237, 238, 239, 240, 241, 242, 243, 244, 245, 246, 247, 248, 249, 250, 251, 252, 253, 254, 255, 256, 257, 258, 259, 260, 261, 262, 263, 264, 265, 266, 267, 268, 269, 270, 271, 272, 273, 274, 275, 276, 277, 278, 279, 280, 281, 282, 283, 160, 161, 284, 285, 286, 287, 288, 289, 290, 291, 292, 293, 294, 295, 296, 297, 47, 298, 299, 300, 301, 43, 44, 46, 302, 303, 304, 305, 306, 307, 308, 309, 310, 311, 312, 45, 313, 314, 315, 316, 317, 318, 319, 320, 321, 322, 323, 324, 325, 326, 327, 328, 329, 330, 331, 332, 333, 334, 335, 336, 337, 338, 339, 340, 341, 342, 343, 344, 345, 346, 347, 348, 349, 350, 351, 352, 353, 354, 355, 356, 357, 358, 359, 360, 48, 49, 1138, 1139, 1140, 1141, 1142, 1143, 1144, 1145, 1146, 1147, 1148, 1149, 1190, 1191, 1192, 1193, 1194, 1195, 1196, 1197, 1198, 1199, 1176, 1177, 1178, 1179, 1180, 1181, 1182, 1183, 1184, 1185, 1186, 1187, 1188, 1189] (by decide +kernel) (by decide +kernel)
set_option maxRecDepth 20000 in
theorem gL_law_X4_text : GoodIn wsL_law (wsV RL 25 RX4 yX4_text wsX4_text) := goodIn_app (goodIn_of _ (by decide +kernel)) ggL_law_X4_text
set_option maxRecDepth 20000 in
theorem ggL_law_X5_text : GoodIn wsL_law wsX5_text := goodIn_r _ [364, 365, 366, 367, 99, 153, 368, 110, 111, 112, 5, 113, 114, 115, 369, 370, 371, 372, 373, 374, 375, 376, 377, 378, 379, 380, 381, 382, 102, 166, 167, 168, 383, 384, 385, 386, 387, 388, 389, 390, 100, 391, 392, 393, 394, 395, 396, 397, 398, 399, 400, 401, 402, 101, 403, 404, 405, 406, 407, 408, 409, 410, 411, 412, 413, 414, 415, 416, 116, 117, 118, 119, 98, 95, 97, 103, 120, 121, 122, 123, 124, 125, 126, 127, 128, 129, 130, 131, 132, 133, 134, 135, 136, 137, 138, 1150, 1151, 1152, 1153, 1154, 1155, 1156, 1157, 1158, 1159, 1160, 1161, 1162, 1163, 1164, 1165, 1166, 1167, 1168, 1169, 1170, 1171, 1172, 1173, 1174, 1175] (by decide +kernel) (by decide +kernel)
set_option maxRecDepth 20000 in
theorem gL_law_X5_text : GoodIn wsL_law (wsV RL 29 RX5 yX5_text wsX5_text) := goodIn_app (goodIn_of _ (by decide +kernel)) ggL_law_X5_text
set_option maxRecDepth 20000 in
theorem ggL_law_X4_fault : GoodIn wsL_law wsX4_fault := goodIn_r _ [420, 34, 1138, 1139, 1140, 1141, 1142, 1143, 1144, 1145, 1146, 1147, 1148, 1149] (by decide +kernel) (by decide +kernel)
set_option maxRecDepth 20000 in
theorem gL_law_X4_fault : GoodIn wsL_law (wsV RL 30 RX4 yX4_fault wsX4_fault) := goodIn_app (goodIn_of _ (by decide +kernel)) ggL_law_X4_fault
set_option maxRecDepth 20000 in
theorem ggL_law_X5_fault : GoodIn wsL_law wsX5_fault := goodIn_r _ [424, 365, 1150, 1151, 1152, 1153, 1154, 1155, 1156, 1157, 1158, 1159, 1160, 1161, 1162, 1163, 1164, 1165, 1166, 1167, 1168, 1169, 1170, 1171, 1172, 1173, 1174, 1175] (by decide +kernel) (by decide +kernel)
set_option maxRecDepth 20000 in
theorem gL_law_X5_fault : GoodIn wsL_law (wsV RL 33 RX5 yX5_fault wsX5_fault) := goodIn_app (goodIn_of _ (by decide +kernel)) ggL_law_X5_fault
set_option maxRecDepth 20000 in
theorem ggL_law_X4_rule : GoodIn wsL_law wsX4_rule := goodIn_r _ [428, 16, 159, 160, 2, 161, 429, 350, 351, 15, 352, 42, 1138, 1139, 1140, 1141, 1142, 1143, 1144, 1145, 1146, 1147, 1148, 1149, 1176, 1177, 1178, 1179, 1180, 1181, 1182, 1183, 1184, 1185, 1186, 1187, 1188, 1189] (by decide +kernel) (by decide +kernel)
set_option maxRecDepth 20000 in
theorem gL_law_X4_rule : GoodIn wsL_law (wsV RL 34 RX4 yX4_rule wsX4_rule) := goodIn_app (goodIn_of _ (by decide +kernel)) ggL_law_X4_rule
set_option maxRecDepth 20000 in
theorem ggL_law_X5_rule : GoodIn wsL_law wsX5_rule := goodIn_r _ [433, 95, 434, 98, 166, 167, 5, 168, 1150, 1151, 1152, 1153, 1154, 1155, 1156, 1157, 1158, 1159, 1160, 1161, 1162, 1163, 1164, 1165, 1166, 1167, 1168, 1169, 1170, 1171, 1172, 1173, 1174, 1175] (by decide +kernel) (by decide +kernel)
set_option maxRecDepth 20000 in
theorem gL_law_X5_rule : GoodIn wsL_law (wsV RL 37 RX5 yX5_rule wsX5_rule) := goodIn_app (goodIn_of _ (by decide +kernel)) ggL_law_X5_rule
set_option maxRecDepth 20000 in
theorem ggL_law_X4_turns : GoodIn wsL_law wsX4_turns := goodIn_r _ [438, 16, 439, 440, 441, 15, 442, 349, 350, 351, 352, 42, 160, 2, 161, 443, 444, 445, 446, 447, 448, 449, 450, 451, 452, 453, 454, 455, 456, 1138, 1139, 1140, 1141, 1142, 1143, 1144, 1145, 1146, 1147, 1148, 1149, 1176, 1177, 1178, 1179, 1180, 1181, 1182, 1183, 1184, 1185, 1186, 1187, 1188, 1189] (by decide +kernel) (by decide +kernel)
set_option maxRecDepth 20000 in
theorem gL_law_X4_turns : GoodIn wsL_law (wsV RL 38 RX4 yX4_turns wsX4_turns) := goodIn_app (goodIn_of _ (by decide +kernel)) ggL_law_X4_turns
set_option maxRecDepth 20000 in
theorem ggL_law_X5_turns : GoodIn wsL_law wsX5_turns := goodIn_r _ [460, 95, 461, 462, 463, 5, 464, 166, 167, 168, 465, 466, 467, 468, 98, 469, 470, 471, 1150, 1151, 1152, 1153, 1154, 1155, 1156, 1157, 1158, 1159, 1160, 1161, 1162, 1163, 1164, 1165, 1166, 1167, 1168, 1169, 1170, 1171, 1172, 1173, 1174, 1175] (by decide +kernel) (by decide +kernel)
set_option maxRecDepth 20000 in
theorem gL_law_X5_turns : GoodIn wsL_law (wsV RL 42 RX5 yX5_turns wsX5_turns) := goodIn_app (goodIn_of _ (by decide +kernel)) ggL_law_X5_turns
set_option maxRecDepth 20000 in
theorem ggL_law_X4_shows : GoodIn wsL_law wsX4_shows := goodIn_r _ [475, 16, 159, 160, 2, 161, 476, 477, 478, 15, 479, 349, 350, 351, 352, 42, 451, 452, 480, 440, 441, 442, 481, 482, 483, 484, 485, 63, 64, 65, 486, 1138, 1139, 1140, 1141, 1142, 1143, 1144, 1145, 1146, 1147, 1148, 1149, 1176, 1177, 1178, 1179, 1180, 1181, 1182, 1183, 1184, 1185, 1186, 1187, 1188, 1189] (by decide +kernel) (by decide +kernel)
set_option maxRecDepth 20000 in
theorem gL_law_X4_shows : GoodIn wsL_law (wsV RL 43 RX4 yX4_shows wsX4_shows) := goodIn_app (goodIn_of _ (by decide +kernel)) ggL_law_X4_shows
set_option maxRecDepth 20000 in
theorem ggL_law_X5_shows : GoodIn wsL_law wsX5_shows := goodIn_r _ [490, 95, 166, 167, 5, 168, 465, 466, 467, 468, 98, 469, 470, 471, 1150, 1151, 1152, 1153, 1154, 1155, 1156, 1157, 1158, 1159, 1160, 1161, 1162, 1163, 1164, 1165, 1166, 1167, 1168, 1169, 1170, 1171, 1172, 1173, 1174, 1175] (by decide +kernel) (by decide +kernel)
set_option maxRecDepth 20000 in
theorem gL_law_X5_shows : GoodIn wsL_law (wsV RL 47 RX5 yX5_shows wsX5_shows) := goodIn_app (goodIn_of _ (by decide +kernel)) ggL_law_X5_shows
set_option maxRecDepth 20000 in
theorem ggL_law_X4_meet : GoodIn wsL_law wsX4_meet := goodIn_r _ [494, 16, 495, 496, 497, 15, 498, 349, 350, 351, 352, 42, 499, 454, 455, 456, 447, 448, 449, 450, 451, 2, 452, 500, 444, 445, 446, 1138, 1139, 1140, 1141, 1142, 1143, 1144, 1145, 1146, 1147, 1148, 1149, 1176, 1177, 1178, 1179, 1180, 1181, 1182, 1183, 1184, 1185, 1186, 1187, 1188, 1189] (by decide +kernel) (by decide +kernel)
set_option maxRecDepth 20000 in
theorem gL_law_X4_meet : GoodIn wsL_law (wsV RL 48 RX4 yX4_meet wsX4_meet) := goodIn_app (goodIn_of _ (by decide +kernel)) ggL_law_X4_meet
set_option maxRecDepth 20000 in
theorem ggL_law_X5_meet : GoodIn wsL_law wsX5_meet := goodIn_r _ [504, 95, 465, 466, 467, 5, 468, 98, 469, 470, 471, 1150, 1151, 1152, 1153, 1154, 1155, 1156, 1157, 1158, 1159, 1160, 1161, 1162, 1163, 1164, 1165, 1166, 1167, 1168, 1169, 1170, 1171, 1172, 1173, 1174, 1175] (by decide +kernel) (by decide +kernel)
set_option maxRecDepth 20000 in
theorem gL_law_X5_meet : GoodIn wsL_law (wsV RL 51 RX5 yX5_meet wsX5_meet) := goodIn_app (goodIn_of _ (by decide +kernel)) ggL_law_X5_meet
set_option maxRecDepth 20000 in
theorem ggL_law_X4_ticks : GoodIn wsL_law wsX4_ticks := goodIn_r _ [508, 16, 439, 440, 441, 15, 442, 349, 350, 351, 352, 42, 160, 2, 161, 509, 510, 511, 512, 513, 514, 64, 515, 516, 517, 518, 519, 520, 521, 522, 523, 447, 448, 449, 450, 451, 452, 524, 525, 526, 527, 485, 63, 65, 528, 529, 1138, 1139, 1140, 1141, 1142, 1143, 1144, 1145, 1146, 1147, 1148, 1149, 1176, 1177, 1178, 1179, 1180, 1181, 1182, 1183, 1184, 1185, 1186, 1187, 1188, 1189] (by decide +kernel) (by decide +kernel)
set_option maxRecDepth 20000 in
theorem gL_law_X4_ticks : GoodIn wsL_law (wsV RL 52 RX4 yX4_ticks wsX4_ticks) := goodIn_app (goodIn_of _ (by decide +kernel)) ggL_law_X4_ticks
set_option maxRecDepth 20000 in
theorem ggL_law_X5_ticks : GoodIn wsL_law wsX5_ticks := goodIn_r _ [533, 534, 461, 462, 463, 5, 464, 95, 166, 167, 168, 535, 536, 537, 538, 98, 539, 540, 541, 542, 543, 544, 545, 465, 466, 467, 468, 469, 470, 471, 546, 547, 548, 549, 550, 551, 552, 1150, 1151, 1152, 1153, 1154, 1155, 1156, 1157, 1158, 1159, 1160, 1161, 1162, 1163, 1164, 1165, 1166, 1167, 1168, 1169, 1170, 1171, 1172, 1173, 1174, 1175] (by decide +kernel) (by decide +kernel)
set_option maxRecDepth 20000 in
theorem gL_law_X5_ticks : GoodIn wsL_law (wsV RL 56 RX5 yX5_ticks wsX5_ticks) := goodIn_app (goodIn_of _ (by decide +kernel)) ggL_law_X5_ticks
set_option maxRecDepth 20000 in
theorem ggL_law_X4_go : GoodIn wsL_law wsX4_go := goodIn_r _ [556, 16, 439, 440, 441, 15, 442, 349, 350, 351, 352, 42, 160, 2, 161, 557, 558, 559, 560, 55, 56, 561, 525, 526, 527, 485, 63, 64, 65, 528, 510, 511, 512, 513, 514, 515, 516, 517, 518, 519, 529, 521, 522, 523, 447, 448, 449, 450, 451, 452, 1138, 1139, 1140, 1141, 1142, 1143, 1144, 1145, 1146, 1147, 1148, 1149, 1176, 1177, 1178, 1179, 1180, 1181, 1182, 1183, 1184, 1185, 1186, 1187, 1188, 1189] (by decide +kernel) (by decide +kernel)
set_option maxRecDepth 20000 in
theorem gL_law_X4_go : GoodIn wsL_law (wsV RL 57 RX4 yX4_go wsX4_go) := goodIn_app (goodIn_of _ (by decide +kernel)) ggL_law_X4_go
set_option maxRecDepth 20000 in
theorem ggL_law_X5_go : GoodIn wsL_law wsX5_go := goodIn_r _ [565, 461, 462, 463, 5, 464, 95, 166, 167, 168, 566, 567, 568, 569, 546, 547, 548, 549, 535, 536, 537, 538, 98, 539, 540, 541, 542, 543, 544, 545, 465, 466, 467, 468, 469, 470, 471, 550, 551, 552, 1150, 1151, 1152, 1153, 1154, 1155, 1156, 1157, 1158, 1159, 1160, 1161, 1162, 1163, 1164, 1165, 1166, 1167, 1168, 1169, 1170, 1171, 1172, 1173, 1174, 1175] (by decide +kernel) (by decide +kernel)
set_option maxRecDepth 20000 in
theorem gL_law_X5_go : GoodIn wsL_law (wsV RL 60 RX5 yX5_go wsX5_go) := goodIn_app (goodIn_of _ (by decide +kernel)) ggL_law_X5_go
set_option maxRecDepth 20000 in
theorem ggL_law_X4_now : GoodIn wsL_law wsX4_now := goodIn_r _ [573, 16, 574, 575, 576, 577, 578, 453, 454, 455, 15, 456, 447, 448, 449, 450, 349, 350, 351, 352, 42, 451, 2, 452, 429, 579, 330, 331, 332, 333, 334, 335, 336, 54, 160, 161, 337, 338, 339, 340, 43, 278, 279, 341, 342, 343, 344, 44, 345, 346, 347, 348, 353, 354, 1138, 1139, 1140, 1141, 1142, 1143, 1144, 1145, 1146, 1147, 1148, 1149, 1176, 1177, 1178, 1179, 1180, 1181, 1182, 1183, 1184, 1185, 1186, 1187, 1188, 1189] (by decide +kernel) (by decide +kernel)
set_option maxRecDepth 20000 in
theorem gL_law_X4_now : GoodIn wsL_law (wsV RL 61 RX4 yX4_now wsX4_now) := goodIn_app (goodIn_of _ (by decide +kernel)) ggL_law_X4_now
set_option maxRecDepth 20000 in
theorem ggL_law_X5_now : GoodIn wsL_law wsX5_now := goodIn_r _ [583, 95, 465, 466, 467, 5, 468, 98, 469, 470, 471, 584, 585, 586, 587, 128, 129, 130, 131, 132, 133, 134, 135, 1150, 1151, 1152, 1153, 1154, 1155, 1156, 1157, 1158, 1159, 1160, 1161, 1162, 1163, 1164, 1165, 1166, 1167, 1168, 1169, 1170, 1171, 1172, 1173, 1174, 1175] (by decide +kernel) (by decide +kernel)
set_option maxRecDepth 20000 in
theorem gL_law_X5_now : GoodIn wsL_law (wsV RL 64 RX5 yX5_now wsX5_now) := goodIn_app (goodIn_of _ (by decide +kernel)) ggL_law_X5_now
set_option maxRecDepth 20000 in
theorem ggL_law_X4_within : GoodIn wsL_law wsX4_within := goodIn_r _ [591, 592, 16, 574, 159, 160, 2, 161, 593, 594, 595, 15, 596, 55, 561, 525, 526, 527, 485, 63, 64, 65, 528, 510, 511, 512, 513, 514, 515, 349, 350, 351, 352, 42, 516, 517, 518, 519, 529, 521, 522, 523, 447, 448, 449, 450, 451, 452, 429, 1138, 1139, 1140, 1141, 1142, 1143, 1144, 1145, 1146, 1147, 1148, 1149, 1176, 1177, 1178, 1179, 1180, 1181, 1182, 1183, 1184, 1185, 1186, 1187, 1188, 1189] (by decide +kernel) (by decide +kernel)
set_option maxRecDepth 20000 in
theorem gL_law_X4_within : GoodIn wsL_law (wsV RL 65 RX4 yX4_within wsX4_within) := goodIn_app (goodIn_of _ (by decide +kernel)) ggL_law_X4_within
set_option maxRecDepth 20000 in
theorem ggL_law_X5_within : GoodIn wsL_law wsX5_within := goodIn_r _ [600, 601, 95, 166, 167, 5, 168, 546, 547, 548, 549, 535, 536, 537, 538, 98, 539, 540, 541, 542, 543, 544, 545, 465, 466, 467, 468, 469, 470, 471, 550, 551, 552, 1150, 1151, 1152, 1153, 1154, 1155, 1156, 1157, 1158, 1159, 1160, 1161, 1162, 1163, 1164, 1165, 1166, 1167, 1168, 1169, 1170, 1171, 1172, 1173, 1174, 1175] (by decide +kernel) (by decide +kernel)
set_option maxRecDepth 20000 in
theorem gL_law_X5_within : GoodIn wsL_law (wsV RL 68 RX5 yX5_within wsX5_within) := goodIn_app (goodIn_of _ (by decide +kernel)) ggL_law_X5_within
set_option maxRecDepth 20000 in
theorem ggL_law_X4_block : GoodIn wsL_law wsX4_block := goodIn_r _ [605, 16, 606, 334, 335, 15, 336, 54, 160, 2, 161, 607, 338, 339, 340, 43, 278, 279, 608, 609, 610, 611, 341, 342, 343, 344, 44, 345, 346, 347, 348, 349, 350, 351, 352, 42, 353, 354, 612, 613, 614, 615, 616, 617, 618, 619, 620, 45, 579, 330, 331, 332, 333, 337, 1138, 1139, 1140, 1141, 1142, 1143, 1144, 1145, 1146, 1147, 1148, 1149, 1176, 1177, 1178, 1179, 1180, 1181, 1182, 1183, 1184, 1185, 1186, 1187, 1188, 1189] (by decide +kernel) (by decide +kernel)
set_option maxRecDepth 20000 in
theorem gL_law_X4_block : GoodIn wsL_law (wsV RL 69 RX4 yX4_block wsX4_block) := goodIn_app (goodIn_of _ (by decide +kernel)) ggL_law_X4_block
set_option maxRecDepth 20000 in
theorem ggL_law_X5_block : GoodIn wsL_law wsX5_block := goodIn_r _ [624, 95, 625, 626, 627, 5, 628, 166, 167, 168, 132, 133, 134, 135, 98, 629, 630, 631, 632, 128, 129, 130, 131, 1150, 1151, 1152, 1153, 1154, 1155, 1156, 1157, 1158, 1159, 1160, 1161, 1162, 1163, 1164, 1165, 1166, 1167, 1168, 1169, 1170, 1171, 1172, 1173, 1174, 1175] (by decide +kernel) (by decide +kernel)
set_option maxRecDepth 20000 in
theorem gL_law_X5_block : GoodIn wsL_law (wsV RL 72 RX5 yX5_block wsX5_block) := goodIn_app (goodIn_of _ (by decide +kernel)) ggL_law_X5_block
set_option maxRecDepth 20000 in
theorem ggL_law_X4_blockAt : GoodIn wsL_law wsX4_blockAt := goodIn_r _ [636, 16, 439, 440, 441, 15, 442, 349, 350, 351, 352, 42, 160, 2, 161, 637, 638, 639, 640, 54, 337, 338, 339, 340, 43, 278, 279, 329, 330, 331, 332, 333, 334, 335, 336, 341, 342, 343, 344, 44, 345, 346, 347, 348, 353, 354, 1138, 1139, 1140, 1141, 1142, 1143, 1144, 1145, 1146, 1147, 1148, 1149, 1176, 1177, 1178, 1179, 1180, 1181, 1182, 1183, 1184, 1185, 1186, 1187, 1188, 1189] (by decide +kernel) (by decide +kernel)
set_option maxRecDepth 20000 in
theorem gL_law_X4_blockAt : GoodIn wsL_law (wsV RL 73 RX4 yX4_blockAt wsX4_blockAt) := goodIn_app (goodIn_of _ (by decide +kernel)) ggL_law_X4_blockAt
set_option maxRecDepth 20000 in
theorem ggL_law_X5_blockAt : GoodIn wsL_law wsX5_blockAt := goodIn_r _ [644, 95, 461, 462, 463, 5, 464, 166, 167, 168, 128, 129, 130, 131, 132, 133, 134, 135, 98, 1150, 1151, 1152, 1153, 1154, 1155, 1156, 1157, 1158, 1159, 1160, 1161, 1162, 1163, 1164, 1165, 1166, 1167, 1168, 1169, 1170, 1171, 1172, 1173, 1174, 1175] (by decide +kernel) (by decide +kernel)
set_option maxRecDepth 20000 in
theorem gL_law_X5_blockAt : GoodIn wsL_law (wsV RL 76 RX5 yX5_blockAt wsX5_blockAt) := goodIn_app (goodIn_of _ (by decide +kernel)) ggL_law_X5_blockAt
set_option maxRecDepth 20000 in
theorem ggL_law_X4_type : GoodIn wsL_law wsX4_type := goodIn_r _ [648, 16, 577, 159, 160, 2, 161, 649, 295, 296, 15, 297, 47, 57, 284, 285, 1138, 1139, 1140, 1141, 1142, 1143, 1144, 1145, 1146, 1147, 1148, 1149, 1176, 1177, 1178, 1179, 1180, 1181, 1182, 1183, 1184, 1185, 1186, 1187, 1188, 1189] (by decide +kernel) (by decide +kernel)
set_option maxRecDepth 20000 in
theorem gL_law_X4_type : GoodIn wsL_law (wsV RL 77 RX4 yX4_type wsX4_type) := goodIn_app (goodIn_of _ (by decide +kernel)) ggL_law_X4_type
set_option maxRecDepth 20000 in
theorem ggL_law_X5_type : GoodIn wsL_law wsX5_type := goodIn_r _ [653, 154, 95, 166, 167, 5, 168, 1150, 1151, 1152, 1153, 1154, 1155, 1156, 1157, 1158, 1159, 1160, 1161, 1162, 1163, 1164, 1165, 1166, 1167, 1168, 1169, 1170, 1171, 1172, 1173, 1174, 1175] (by decide +kernel) (by decide +kernel)
set_option maxRecDepth 20000 in
theorem gL_law_X5_type : GoodIn wsL_law (wsV RL 80 RX5 yX5_type wsX5_type) := goodIn_app (goodIn_of _ (by decide +kernel)) ggL_law_X5_type
set_option maxRecDepth 20000 in
theorem ggL_law_X4_write : GoodIn wsL_law wsX4_write := goodIn_r _ [657, 16, 578, 577, 159, 160, 2, 161, 658, 659, 660, 15, 661, 325, 326, 327, 328, 329, 330, 331, 332, 333, 334, 335, 336, 54, 337, 338, 339, 340, 43, 278, 279, 341, 342, 343, 344, 44, 345, 346, 347, 348, 349, 350, 351, 352, 42, 353, 354, 662, 663, 664, 665, 55, 56, 561, 525, 526, 527, 485, 63, 64, 65, 528, 510, 511, 512, 513, 514, 515, 516, 517, 518, 519, 529, 521, 522, 523, 447, 448, 449, 450, 451, 452, 666, 299, 300, 301, 47, 46, 284, 285, 302, 303, 304, 305, 306, 307, 308, 309, 310, 311, 312, 45, 1138, 1139, 1140, 1141, 1142, 1143, 1144, 1145, 1146, 1147, 1148, 1149, 1176, 1177, 1178, 1179, 1180, 1181, 1182, 1183, 1184, 1185, 1186, 1187, 1188, 1189] (by decide +kernel) (by decide +kernel)
set_option maxRecDepth 20000 in
theorem gL_law_X4_write : GoodIn wsL_law (wsV RL 81 RX4 yX4_write wsX4_write) := goodIn_app (goodIn_of _ (by decide +kernel)) ggL_law_X4_write
set_option maxRecDepth 20000 in
theorem ggL_law_X5_write : GoodIn wsL_law wsX5_write := goodIn_r _ [670, 95, 103, 166, 167, 5, 168, 671, 672, 673, 674, 98, 124, 125, 126, 127, 128, 129, 130, 131, 132, 133, 134, 135, 566, 567, 568, 569, 546, 547, 548, 549, 535, 536, 537, 538, 539, 540, 541, 542, 543, 544, 545, 465, 466, 467, 468, 469, 470, 471, 550, 551, 552, 120, 121, 122, 123, 136, 137, 138, 1150, 1151, 1152, 1153, 1154, 1155, 1156, 1157, 1158, 1159, 1160, 1161, 1162, 1163, 1164, 1165, 1166, 1167, 1168, 1169, 1170, 1171, 1172, 1173, 1174, 1175] (by decide +kernel) (by decide +kernel)
set_option maxRecDepth 20000 in
theorem gL_law_X5_write : GoodIn wsL_law (wsV RL 84 RX5 yX5_write wsX5_write) := goodIn_app (goodIn_of _ (by decide +kernel)) ggL_law_X5_write
set_option maxRecDepth 20000 in
theorem ggL_law_X4_mark : GoodIn wsL_law wsX4_mark := goodIn_r _ [678, 16, 578, 159, 160, 2, 161, 658, 659, 660, 15, 661, 325, 326, 327, 328, 329, 330, 331, 332, 333, 334, 335, 336, 54, 337, 338, 339, 340, 43, 278, 279, 341, 342, 343, 344, 44, 345, 346, 347, 348, 349, 350, 351, 352, 42, 353, 354, 662, 663, 664, 665, 55, 56, 561, 525, 526, 527, 485, 63, 64, 65, 528, 510, 511, 512, 513, 514, 515, 516, 517, 518, 519, 529, 521, 522, 523, 447, 448, 449, 450, 451, 452, 666, 299, 300, 301, 47, 46, 284, 285, 302, 303, 304, 305, 306, 307, 308, 309, 310, 311, 312, 45, 1138, 1139, 1140, 1141, 1142, 1143, 1144, 1145, 1146, 1147, 1148, 1149, 1176, 1177, 1178, 1179, 1180, 1181, 1182, 1183, 1184, 1185, 1186, 1187, 1188, 1189] (by decide +kernel) (by decide +kernel)
set_option maxRecDepth 20000 in
theorem gL_law_X4_mark : GoodIn wsL_law (wsV RL 85 RX4 yX4_mark wsX4_mark) := goodIn_app (goodIn_of _ (by decide +kernel)) ggL_law_X4_mark
set_option maxRecDepth 20000 in
theorem ggL_law_X5_mark : GoodIn wsL_law wsX5_mark := goodIn_r _ [682, 95, 166, 167, 5, 168, 671, 672, 673, 674, 98, 124, 125, 126, 127, 128, 129, 130, 131, 132, 133, 134, 135, 566, 567, 568, 569, 546, 547, 548, 549, 535, 536, 537, 538, 539, 540, 541, 542, 543, 544, 545, 465, 466, 467, 468, 469, 470, 471, 550, 551, 552, 120, 121, 122, 123, 103, 136, 137, 138, 1150, 1151, 1152, 1153, 1154, 1155, 1156, 1157, 1158, 1159, 1160, 1161, 1162, 1163, 1164, 1165, 1166, 1167, 1168, 1169, 1170, 1171, 1172, 1173, 1174, 1175] (by decide +kernel) (by decide +kernel)
set_option maxRecDepth 20000 in
theorem gL_law_X5_mark : GoodIn wsL_law (wsV RL 88 RX5 yX5_mark wsX5_mark) := goodIn_app (goodIn_of _ (by decide +kernel)) ggL_law_X5_mark
set_option maxRecDepth 20000 in
theorem ggL_law_X4_spoil : GoodIn wsL_law wsX4_spoil := goodIn_r _ [686, 16, 687, 688, 689, 15, 690, 333, 334, 335, 336, 54, 160, 2, 161, 691, 614, 615, 616, 341, 342, 343, 344, 44, 278, 279, 159, 692, 693, 694, 695, 696, 618, 619, 620, 45, 309, 310, 311, 312, 284, 285, 1138, 1139, 1140, 1141, 1142, 1143, 1144, 1145, 1146, 1147, 1148, 1149, 1176, 1177, 1178, 1179, 1180, 1181, 1182, 1183, 1184, 1185, 1186, 1187, 1188, 1189] (by decide +kernel) (by decide +kernel)
set_option maxRecDepth 20000 in
theorem gL_law_X4_spoil : GoodIn wsL_law (wsV RL 89 RX4 yX4_spoil wsX4_spoil) := goodIn_app (goodIn_of _ (by decide +kernel)) ggL_law_X4_spoil
set_option maxRecDepth 20000 in
theorem ggL_law_X5_spoil : GoodIn wsL_law wsX5_spoil := goodIn_r _ [700, 95, 701, 702, 703, 5, 704, 625, 626, 627, 628, 166, 167, 168, 705, 706, 707, 434, 629, 630, 631, 632, 1150, 1151, 1152, 1153, 1154, 1155, 1156, 1157, 1158, 1159, 1160, 1161, 1162, 1163, 1164, 1165, 1166, 1167, 1168, 1169, 1170, 1171, 1172, 1173, 1174, 1175] (by decide +kernel) (by decide +kernel)
set_option maxRecDepth 20000 in
theorem gL_law_X5_spoil : GoodIn wsL_law (wsV RL 92 RX5 yX5_spoil wsX5_spoil) := goodIn_app (goodIn_of _ (by decide +kernel)) ggL_law_X5_spoil
set_option maxRecDepth 20000 in
theorem ggL_law_X4_dead : GoodIn wsL_law wsX4_dead := goodIn_r _ [711, 16, 576, 159, 160, 2, 161, 1138, 1139, 1140, 1141, 1142, 1143, 1144, 1145, 1146, 1147, 1148, 1149, 1176, 1177, 1178, 1179, 1180, 1181, 1182, 1183, 1184, 1185, 1186, 1187, 1188, 1189] (by decide +kernel) (by decide +kernel)
set_option maxRecDepth 20000 in
theorem gL_law_X4_dead : GoodIn wsL_law (wsV RL 93 RX4 yX4_dead wsX4_dead) := goodIn_app (goodIn_of _ (by decide +kernel)) ggL_law_X4_dead
set_option maxRecDepth 20000 in
theorem ggL_law_X5_dead : GoodIn wsL_law wsX5_dead := goodIn_r _ [715, 95, 705, 706, 5, 707, 434, 166, 167, 168, 1150, 1151, 1152, 1153, 1154, 1155, 1156, 1157, 1158, 1159, 1160, 1161, 1162, 1163, 1164, 1165, 1166, 1167, 1168, 1169, 1170, 1171, 1172, 1173, 1174, 1175] (by decide +kernel) (by decide +kernel)
set_option maxRecDepth 20000 in
theorem gL_law_X5_dead : GoodIn wsL_law (wsV RL 96 RX5 yX5_dead wsX5_dead) := goodIn_app (goodIn_of _ (by decide +kernel)) ggL_law_X5_dead
set_option maxRecDepth 20000 in
theorem ggL_law_X4_check : GoodIn wsL_law wsX4_check := goodIn_r _ [719, 16, 576, 606, 334, 335, 15, 336, 54, 160, 2, 161, 720, 721, 722, 723, 724, 725, 726, 727, 341, 342, 343, 344, 44, 278, 279, 728, 729, 730, 731, 696, 618, 619, 620, 45, 302, 303, 304, 305, 306, 307, 308, 732, 733, 734, 735, 1138, 1139, 1140, 1141, 1142, 1143, 1144, 1145, 1146, 1147, 1148, 1149, 1176, 1177, 1178, 1179, 1180, 1181, 1182, 1183, 1184, 1185, 1186, 1187, 1188, 1189] (by decide +kernel) (by decide +kernel)
set_option maxRecDepth 20000 in
theorem gL_law_X4_check : GoodIn wsL_law (wsV RL 97 RX4 yX4_check wsX4_check) := goodIn_app (goodIn_of _ (by decide +kernel)) ggL_law_X4_check
set_option maxRecDepth 20000 in
theorem ggL_law_X5_check : GoodIn wsL_law wsX5_check := goodIn_r _ [739, 95, 625, 626, 627, 5, 628, 166, 167, 168, 740, 741, 742, 743, 104, 744, 745, 746, 747, 629, 630, 631, 632, 136, 137, 138, 748, 749, 750, 1150, 1151, 1152, 1153, 1154, 1155, 1156, 1157, 1158, 1159, 1160, 1161, 1162, 1163, 1164, 1165, 1166, 1167, 1168, 1169, 1170, 1171, 1172, 1173, 1174, 1175] (by decide +kernel) (by decide +kernel)
set_option maxRecDepth 20000 in
theorem gL_law_X5_check : GoodIn wsL_law (wsV RL 100 RX5 yX5_check wsX5_check) := goodIn_app (goodIn_of _ (by decide +kernel)) ggL_law_X5_check
set_option maxRecDepth 20000 in
theorem ggL_law_X4_got : GoodIn wsL_law wsX4_got := goodIn_r _ [754, 16, 576, 606, 334, 335, 15, 336, 54, 160, 2, 161, 612, 342, 343, 344, 44, 278, 279, 159, 720, 721, 722, 723, 724, 725, 726, 727, 341, 728, 729, 730, 731, 696, 618, 619, 620, 45, 302, 303, 304, 305, 306, 307, 308, 732, 733, 734, 735, 755, 756, 757, 758, 58, 1138, 1139, 1140, 1141, 1142, 1143, 1144, 1145, 1146, 1147, 1148, 1149, 1176, 1177, 1178, 1179, 1180, 1181, 1182, 1183, 1184, 1185, 1186, 1187, 1188, 1189] (by decide +kernel) (by decide +kernel)
set_option maxRecDepth 20000 in
theorem gL_law_X4_got : GoodIn wsL_law (wsV RL 101 RX4 yX4_got wsX4_got) := goodIn_app (goodIn_of _ (by decide +kernel)) ggL_law_X4_got
set_option maxRecDepth 20000 in
theorem ggL_law_X5_got : GoodIn wsL_law wsX5_got := goodIn_r _ [762, 95, 104, 625, 626, 627, 5, 628, 166, 167, 168, 740, 741, 742, 743, 744, 745, 746, 747, 629, 630, 631, 632, 136, 137, 138, 748, 749, 750, 1150, 1151, 1152, 1153, 1154, 1155, 1156, 1157, 1158, 1159, 1160, 1161, 1162, 1163, 1164, 1165, 1166, 1167, 1168, 1169, 1170, 1171, 1172, 1173, 1174, 1175] (by decide +kernel) (by decide +kernel)
set_option maxRecDepth 20000 in
theorem gL_law_X5_got : GoodIn wsL_law (wsV RL 104 RX5 yX5_got wsX5_got) := goodIn_app (goodIn_of _ (by decide +kernel)) ggL_law_X5_got
set_option maxRecDepth 20000 in
theorem ggL_law_X4_column : GoodIn wsL_law wsX4_column := goodIn_r _ [766, 16, 687, 688, 689, 15, 690, 333, 334, 335, 336, 54, 160, 2, 161, 691, 614, 615, 616, 341, 342, 343, 344, 44, 278, 279, 617, 618, 619, 620, 45, 1138, 1139, 1140, 1141, 1142, 1143, 1144, 1145, 1146, 1147, 1148, 1149, 1176, 1177, 1178, 1179, 1180, 1181, 1182, 1183, 1184, 1185, 1186, 1187, 1188, 1189] (by decide +kernel) (by decide +kernel)
set_option maxRecDepth 20000 in
theorem gL_law_X4_column : GoodIn wsL_law (wsV RL 105 RX4 yX4_column wsX4_column) := goodIn_app (goodIn_of _ (by decide +kernel)) ggL_law_X4_column
set_option maxRecDepth 20000 in
theorem ggL_law_X5_column : GoodIn wsL_law wsX5_column := goodIn_r _ [770, 701, 702, 703, 5, 704, 95, 625, 626, 627, 628, 166, 167, 168, 629, 630, 631, 632, 1150, 1151, 1152, 1153, 1154, 1155, 1156, 1157, 1158, 1159, 1160, 1161, 1162, 1163, 1164, 1165, 1166, 1167, 1168, 1169, 1170, 1171, 1172, 1173, 1174, 1175] (by decide +kernel) (by decide +kernel)
set_option maxRecDepth 20000 in
theorem gL_law_X5_column : GoodIn wsL_law (wsV RL 108 RX5 yX5_column wsX5_column) := goodIn_app (goodIn_of _ (by decide +kernel)) ggL_law_X5_column
set_option maxRecDepth 20000 in
theorem ggL_law_X4_state : GoodIn wsL_law wsX4_state := goodIn_r _ [774, 16, 576, 775, 776, 777, 15, 778, 54, 779, 721, 722, 723, 724, 725, 726, 727, 341, 342, 343, 344, 44, 278, 2, 279, 728, 729, 730, 731, 696, 618, 619, 620, 45, 302, 303, 304, 305, 306, 307, 308, 732, 733, 734, 735, 780, 781, 782, 783, 58, 784, 785, 786, 787, 788, 756, 757, 758, 789, 790, 791, 792, 46, 793, 794, 795, 796, 1138, 1139, 1140, 1141, 1142, 1143, 1144, 1145, 1146, 1147, 1148, 1149, 1176, 1177, 1178, 1179, 1180, 1181, 1182, 1183, 1184, 1185, 1186, 1187, 1188, 1189] (by decide +kernel) (by decide +kernel)
set_option maxRecDepth 20000 in
theorem gL_law_X4_state : GoodIn wsL_law (wsV RL 109 RX4 yX4_state wsX4_state) := goodIn_app (goodIn_of _ (by decide +kernel)) ggL_law_X4_state
set_option maxRecDepth 20000 in
theorem ggL_law_X5_state : GoodIn wsL_law wsX5_state := goodIn_r _ [800, 534, 95, 166, 167, 5, 168, 740, 741, 742, 743, 104, 744, 745, 746, 747, 629, 630, 631, 632, 136, 137, 138, 748, 749, 750, 801, 802, 803, 804, 1150, 1151, 1152, 1153, 1154, 1155, 1156, 1157, 1158, 1159, 1160, 1161, 1162, 1163, 1164, 1165, 1166, 1167, 1168, 1169, 1170, 1171, 1172, 1173, 1174, 1175] (by decide +kernel) (by decide +kernel)
set_option maxRecDepth 20000 in
theorem gL_law_X5_state : GoodIn wsL_law (wsV RL 112 RX5 yX5_state wsX5_state) := goodIn_app (goodIn_of _ (by decide +kernel)) ggL_law_X5_state
set_option maxRecDepth 20000 in
theorem ggL_law_X4_best : GoodIn wsL_law wsX4_best := goodIn_r _ [808, 16, 159, 160, 2, 161, 775, 776, 777, 15, 778, 54, 779, 721, 722, 723, 724, 725, 726, 727, 341, 342, 343, 344, 44, 278, 279, 728, 729, 730, 731, 696, 618, 619, 620, 45, 302, 303, 304, 305, 306, 307, 308, 732, 733, 734, 735, 809, 1138, 1139, 1140, 1141, 1142, 1143, 1144, 1145, 1146, 1147, 1148, 1149, 1176, 1177, 1178, 1179, 1180, 1181, 1182, 1183, 1184, 1185, 1186, 1187, 1188, 1189] (by decide +kernel) (by decide +kernel)
set_option maxRecDepth 20000 in
theorem gL_law_X4_best : GoodIn wsL_law (wsV RL 113 RX4 yX4_best wsX4_best) := goodIn_app (goodIn_of _ (by decide +kernel)) ggL_law_X4_best
set_option maxRecDepth 20000 in
theorem ggL_law_X5_best : GoodIn wsL_law wsX5_best := goodIn_r _ [813, 95, 166, 167, 5, 168, 740, 741, 742, 743, 104, 744, 745, 746, 747, 629, 630, 631, 632, 136, 137, 138, 748, 749, 750, 814, 815, 816, 1150, 1151, 1152, 1153, 1154, 1155, 1156, 1157, 1158, 1159, 1160, 1161, 1162, 1163, 1164, 1165, 1166, 1167, 1168, 1169, 1170, 1171, 1172, 1173, 1174, 1175] (by decide +kernel) (by decide +kernel)
set_option maxRecDepth 20000 in
theorem gL_law_X5_best : GoodIn wsL_law (wsV RL 116 RX5 yX5_best wsX5_best) := goodIn_app (goodIn_of _ (by decide +kernel)) ggL_law_X5_best
set_option maxRecDepth 20000 in
theorem ggL_law_X4_order : GoodIn wsL_law wsX4_order := goodIn_r _ [820, 16, 24, 821, 822, 823, 824, 15, 825, 54, 159, 160, 2, 161, 809, 303, 304, 305, 306, 307, 308, 826, 827, 828, 23, 829, 830, 82, 831, 832, 833, 834, 83, 284, 285, 835, 836, 837, 838, 839, 81, 278, 279, 840, 330, 331, 332, 333, 334, 335, 336, 337, 338, 339, 340, 43, 341, 342, 343, 344, 44, 345, 346, 347, 348, 349, 350, 351, 352, 42, 353, 354, 841, 842, 525, 526, 527, 485, 63, 64, 65, 528, 510, 511, 512, 513, 514, 515, 516, 517, 518, 519, 529, 521, 522, 523, 447, 448, 449, 450, 451, 452, 843, 609, 610, 611, 844, 845, 846, 847, 848, 849, 850, 851, 852, 853, 854, 855, 856, 857, 858, 859, 84, 860, 861, 862, 863, 864, 865, 866, 867, 1138, 1139, 1140, 1141, 1142, 1143, 1144, 1145, 1146, 1147, 1148, 1149, 1200, 1201, 1202, 1203, 1204, 1205, 1176, 1177, 1178, 1179, 1180, 1181, 1182, 1183, 1184, 1185, 1186, 1187, 1188, 1189] (by decide +kernel) (by decide +kernel)
set_option maxRecDepth 20000 in
theorem gL_law_X4_order : GoodIn wsL_law (wsV RL 117 RX4 yX4_order wsX4_order) := goodIn_app (goodIn_of _ (by decide +kernel)) ggL_law_X4_order
set_option maxRecDepth 20000 in
theorem ggL_law_X5_order : GoodIn wsL_law wsX5_order := goodIn_r _ [871, 872, 873, 105, 874, 875, 876, 877, 5, 878, 95, 166, 167, 168, 879, 880, 881, 882, 883, 884, 885, 106, 886, 887, 888, 889, 890, 98, 128, 129, 130, 131, 132, 133, 134, 135, 546, 547, 548, 549, 535, 536, 537, 538, 539, 540, 541, 542, 543, 544, 545, 465, 466, 467, 468, 469, 470, 471, 550, 551, 552, 891, 892, 893, 894, 895, 896, 897, 898, 1150, 1151, 1152, 1153, 1154, 1155, 1156, 1157, 1158, 1159, 1160, 1161, 1162, 1163, 1164, 1165, 1166, 1167, 1168, 1169, 1170, 1171, 1172, 1173, 1174, 1175] (by decide +kernel) (by decide +kernel)
set_option maxRecDepth 20000 in
theorem gL_law_X5_order : GoodIn wsL_law (wsV RL 120 RX5 yX5_order wsX5_order) := goodIn_app (goodIn_of _ (by decide +kernel)) ggL_law_X5_order
set_option maxRecDepth 20000 in
theorem ggL_law_X4_reads : GoodIn wsL_law wsX4_reads := goodIn_r _ [902, 16, 24, 575, 821, 903, 574, 822, 823, 824, 15, 825, 54, 809, 303, 304, 305, 306, 307, 308, 826, 827, 828, 23, 829, 830, 82, 831, 832, 833, 834, 83, 284, 2, 285, 835, 836, 837, 838, 839, 81, 278, 279, 840, 330, 331, 332, 333, 334, 335, 336, 160, 161, 337, 338, 339, 340, 43, 341, 342, 343, 344, 44, 345, 346, 347, 348, 349, 350, 351, 352, 42, 353, 354, 841, 842, 525, 526, 527, 485, 63, 64, 65, 528, 510, 511, 512, 513, 514, 515, 516, 517, 518, 519, 529, 521, 522, 523, 447, 448, 449, 450, 451, 452, 843, 609, 610, 611, 844, 845, 846, 847, 848, 849, 850, 851, 852, 853, 854, 855, 856, 857, 858, 859, 84, 860, 861, 862, 863, 864, 865, 866, 867, 579, 1138, 1139, 1140, 1141, 1142, 1143, 1144, 1145, 1146, 1147, 1148, 1149, 1176, 1177, 1178, 1179, 1180, 1181, 1182, 1183, 1184, 1185, 1186, 1187, 1188, 1189, 1200, 1201, 1202, 1203, 1204, 1205] (by decide +kernel) (by decide +kernel)
set_option maxRecDepth 20000 in
theorem gL_law_X4_reads : GoodIn wsL_law (wsV RL 121 RX4 yX4_reads wsX4_reads) := goodIn_app (goodIn_of _ (by decide +kernel)) ggL_law_X4_reads
set_option maxRecDepth 20000 in
theorem ggL_law_X5_reads : GoodIn wsL_law wsX5_reads := goodIn_r _ [907, 105, 874, 95, 875, 876, 877, 5, 878, 166, 167, 168, 879, 880, 881, 882, 883, 884, 885, 106, 886, 887, 888, 889, 890, 98, 128, 129, 130, 131, 132, 133, 134, 135, 546, 547, 548, 549, 535, 536, 537, 538, 539, 540, 541, 542, 543, 544, 545, 465, 466, 467, 468, 469, 470, 471, 550, 551, 552, 891, 892, 893, 894, 895, 896, 897, 898, 1150, 1151, 1152, 1153, 1154, 1155, 1156, 1157, 1158, 1159, 1160, 1161, 1162, 1163, 1164, 1165, 1166, 1167, 1168, 1169, 1170, 1171, 1172, 1173, 1174, 1175] (by decide +kernel) (by decide +kernel)
set_option maxRecDepth 20000 in
theorem gL_law_X5_reads : GoodIn wsL_law (wsV RL 124 RX5 yX5_reads wsX5_reads) := goodIn_app (goodIn_of _ (by decide +kernel)) ggL_law_X5_reads
set_option maxRecDepth 20000 in
theorem ggL_law_X4_cut : GoodIn wsL_law wsX4_cut := goodIn_r _ [911, 16, 439, 440, 441, 15, 442, 349, 350, 351, 352, 42, 160, 2, 161, 429, 912, 913, 914, 915, 54, 55, 337, 338, 339, 340, 43, 278, 279, 329, 330, 331, 332, 333, 334, 335, 336, 341, 342, 343, 344, 44, 345, 346, 347, 348, 353, 354, 916, 917, 918, 919, 46, 284, 285, 696, 618, 619, 620, 45, 309, 310, 311, 312, 789, 790, 791, 792, 1138, 1139, 1140, 1141, 1142, 1143, 1144, 1145, 1146, 1147, 1148, 1149, 1176, 1177, 1178, 1179, 1180, 1181, 1182, 1183, 1184, 1185, 1186, 1187, 1188, 1189] (by decide +kernel) (by decide +kernel)
set_option maxRecDepth 20000 in
theorem gL_law_X4_cut : GoodIn wsL_law (wsV RL 125 RX4 yX4_cut wsX4_cut) := goodIn_app (goodIn_of _ (by decide +kernel)) ggL_law_X4_cut
set_option maxRecDepth 20000 in
theorem ggL_law_X5_cut : GoodIn wsL_law wsX5_cut := goodIn_r _ [923, 95, 461, 462, 463, 5, 464, 166, 167, 168, 128, 129, 130, 131, 132, 133, 134, 135, 98, 924, 925, 926, 927, 1150, 1151, 1152, 1153, 1154, 1155, 1156, 1157, 1158, 1159, 1160, 1161, 1162, 1163, 1164, 1165, 1166, 1167, 1168, 1169, 1170, 1171, 1172, 1173, 1174, 1175] (by decide +kernel) (by decide +kernel)
set_option maxRecDepth 20000 in
theorem gL_law_X5_cut : GoodIn wsL_law (wsV RL 128 RX5 yX5_cut wsX5_cut) := goodIn_app (goodIn_of _ (by decide +kernel)) ggL_law_X5_cut
set_option maxRecDepth 20000 in
theorem ggL_law_X4_holds : GoodIn wsL_law wsX4_holds := goodIn_r _ [931, 16, 159, 160, 2, 161, 932, 933, 934, 15, 935, 349, 350, 351, 352, 42, 345, 346, 347, 348, 353, 354, 1138, 1139, 1140, 1141, 1142, 1143, 1144, 1145, 1146, 1147, 1148, 1149, 1176, 1177, 1178, 1179, 1180, 1181, 1182, 1183, 1184, 1185, 1186, 1187, 1188, 1189] (by decide +kernel) (by decide +kernel)
set_option maxRecDepth 20000 in
theorem gL_law_X4_holds : GoodIn wsL_law (wsV RL 129 RX4 yX4_holds wsX4_holds) := goodIn_app (goodIn_of _ (by decide +kernel)) ggL_law_X4_holds
set_option maxRecDepth 20000 in
theorem ggL_law_X5_holds : GoodIn wsL_law wsX5_holds := goodIn_r _ [939, 940, 166, 167, 5, 168, 941, 942, 943, 944, 95, 98, 132, 133, 134, 135, 1150, 1151, 1152, 1153, 1154, 1155, 1156, 1157, 1158, 1159, 1160, 1161, 1162, 1163, 1164, 1165, 1166, 1167, 1168, 1169, 1170, 1171, 1172, 1173, 1174, 1175] (by decide +kernel) (by decide +kernel)
set_option maxRecDepth 20000 in
theorem gL_law_X5_holds : GoodIn wsL_law (wsV RL 132 RX5 yX5_holds wsX5_holds) := goodIn_app (goodIn_of _ (by decide +kernel)) ggL_law_X5_holds
set_option maxRecDepth 20000 in
theorem ggL_law_X4_most : GoodIn wsL_law wsX4_most := goodIn_r _ [948, 16, 159, 160, 2, 161, 932, 933, 934, 15, 935, 349, 350, 351, 352, 42, 345, 346, 347, 348, 353, 354, 1138, 1139, 1140, 1141, 1142, 1143, 1144, 1145, 1146, 1147, 1148, 1149, 1176, 1177, 1178, 1179, 1180, 1181, 1182, 1183, 1184, 1185, 1186, 1187, 1188, 1189] (by decide +kernel) (by decide +kernel)
set_option maxRecDepth 20000 in
theorem gL_law_X4_most : GoodIn wsL_law (wsV RL 133 RX4 yX4_most wsX4_most) := goodIn_app (goodIn_of _ (by decide +kernel)) ggL_law_X4_most
set_option maxRecDepth 20000 in
theorem ggL_law_X5_most : GoodIn wsL_law wsX5_most := goodIn_r _ [952, 166, 167, 5, 168, 941, 942, 943, 944, 95, 98, 132, 133, 134, 135, 1150, 1151, 1152, 1153, 1154, 1155, 1156, 1157, 1158, 1159, 1160, 1161, 1162, 1163, 1164, 1165, 1166, 1167, 1168, 1169, 1170, 1171, 1172, 1173, 1174, 1175] (by decide +kernel) (by decide +kernel)
set_option maxRecDepth 20000 in
theorem gL_law_X5_most : GoodIn wsL_law (wsV RL 136 RX5 yX5_most wsX5_most) := goodIn_app (goodIn_of _ (by decide +kernel)) ggL_law_X5_most
set_option maxRecDepth 20000 in
theorem ggL_law_X4_stream : GoodIn wsL_law wsX4_stream := goodIn_r _ [956, 16, 957, 958, 2, 959, 159, 160, 161, 960, 961, 962, 15, 963, 349, 350, 351, 352, 42, 516, 517, 518, 519, 964, 965, 966, 485, 63, 64, 65, 967, 968, 969, 1138, 1139, 1140, 1141, 1142, 1143, 1144, 1145, 1146, 1147, 1148, 1149, 1176, 1177, 1178, 1179, 1180, 1181, 1182, 1183, 1184, 1185, 1186, 1187, 1188, 1189] (by decide +kernel) (by decide +kernel)
set_option maxRecDepth 20000 in
theorem gL_law_X4_stream : GoodIn wsL_law (wsV RL 137 RX4 yX4_stream wsX4_stream) := goodIn_app (goodIn_of _ (by decide +kernel)) ggL_law_X4_stream
set_option maxRecDepth 20000 in
theorem ggL_law_X5_stream : GoodIn wsL_law wsX5_stream := goodIn_r _ [973, 940, 974, 975, 976, 5, 977, 978, 166, 167, 168, 979, 980, 981, 982, 98, 550, 551, 552, 814, 815, 816, 1150, 1151, 1152, 1153, 1154, 1155, 1156, 1157, 1158, 1159, 1160, 1161, 1162, 1163, 1164, 1165, 1166, 1167, 1168, 1169, 1170, 1171, 1172, 1173, 1174, 1175] (by decide +kernel) (by decide +kernel)
set_option maxRecDepth 20000 in
theorem gL_law_X5_stream : GoodIn wsL_law (wsV RL 141 RX5 yX5_stream wsX5_stream) := goodIn_app (goodIn_of _ (by decide +kernel)) ggL_law_X5_stream
set_option maxRecDepth 20000 in
theorem ggL_law_X4_buffer : GoodIn wsL_law wsX4_buffer := goodIn_r _ [986, 16, 957, 958, 2, 959, 159, 160, 161, 960, 961, 962, 15, 963, 349, 350, 351, 352, 42, 516, 517, 518, 519, 964, 965, 966, 485, 63, 64, 65, 967, 968, 969, 1138, 1139, 1140, 1141, 1142, 1143, 1144, 1145, 1146, 1147, 1148, 1149, 1176, 1177, 1178, 1179, 1180, 1181, 1182, 1183, 1184, 1185, 1186, 1187, 1188, 1189] (by decide +kernel) (by decide +kernel)
set_option maxRecDepth 20000 in
theorem gL_law_X4_buffer : GoodIn wsL_law (wsV RL 142 RX4 yX4_buffer wsX4_buffer) := goodIn_app (goodIn_of _ (by decide +kernel)) ggL_law_X4_buffer
set_option maxRecDepth 20000 in
theorem ggL_law_X5_buffer : GoodIn wsL_law wsX5_buffer := goodIn_r _ [990, 975, 976, 5, 977, 940, 978, 166, 167, 168, 979, 980, 981, 982, 974, 98, 550, 551, 552, 814, 815, 816, 1150, 1151, 1152, 1153, 1154, 1155, 1156, 1157, 1158, 1159, 1160, 1161, 1162, 1163, 1164, 1165, 1166, 1167, 1168, 1169, 1170, 1171, 1172, 1173, 1174, 1175] (by decide +kernel) (by decide +kernel)
set_option maxRecDepth 20000 in
theorem gL_law_X5_buffer : GoodIn wsL_law (wsV RL 146 RX5 yX5_buffer wsX5_buffer) := goodIn_app (goodIn_of _ (by decide +kernel)) ggL_law_X5_buffer
set_option maxRecDepth 20000 in
theorem ggL_law_X4_saw : GoodIn wsL_law wsX4_saw := goodIn_r _ [994, 16, 995, 159, 160, 2, 161, 996, 997, 998, 15, 999, 48, 59, 49, 284, 285, 1138, 1139, 1140, 1141, 1142, 1143, 1144, 1145, 1146, 1147, 1148, 1149, 1176, 1177, 1178, 1179, 1180, 1181, 1182, 1183, 1184, 1185, 1186, 1187, 1188, 1189] (by decide +kernel) (by decide +kernel)
set_option maxRecDepth 20000 in
theorem gL_law_X4_saw : GoodIn wsL_law (wsV RL 147 RX4 yX4_saw wsX4_saw) := goodIn_app (goodIn_of _ (by decide +kernel)) ggL_law_X4_saw
set_option maxRecDepth 20000 in
theorem ggL_law_X5_saw : GoodIn wsL_law wsX5_saw := goodIn_r _ [1003, 1004, 978, 95, 166, 167, 5, 168, 1150, 1151, 1152, 1153, 1154, 1155, 1156, 1157, 1158, 1159, 1160, 1161, 1162, 1163, 1164, 1165, 1166, 1167, 1168, 1169, 1170, 1171, 1172, 1173, 1174, 1175] (by decide +kernel) (by decide +kernel)
set_option maxRecDepth 20000 in
theorem gL_law_X5_saw : GoodIn wsL_law (wsV RL 150 RX5 yX5_saw wsX5_saw) := goodIn_app (goodIn_of _ (by decide +kernel)) ggL_law_X5_saw
set_option maxRecDepth 20000 in
theorem ggL_law_X4_forget : GoodIn wsL_law wsX4_forget := goodIn_r _ [1008, 16, 995, 1138, 1139, 1140, 1141, 1142, 1143, 1144, 1145, 1146, 1147, 1148, 1149, 1176, 1177, 1178, 1179, 1180, 1181, 1182, 1183, 1184, 1185, 1186, 1187, 1188, 1189] (by decide +kernel) (by decide +kernel)
set_option maxRecDepth 20000 in
theorem gL_law_X4_forget : GoodIn wsL_law (wsV RL 151 RX4 yX4_forget wsX4_forget) := goodIn_app (goodIn_of _ (by decide +kernel)) ggL_law_X4_forget
set_option maxRecDepth 20000 in
theorem ggL_law_X5_forget : GoodIn wsL_law wsX5_forget := goodIn_r _ [1012, 95, 1150, 1151, 1152, 1153, 1154, 1155, 1156, 1157, 1158, 1159, 1160, 1161, 1162, 1163, 1164, 1165, 1166, 1167, 1168, 1169, 1170, 1171, 1172, 1173, 1174, 1175] (by decide +kernel) (by decide +kernel)
set_option maxRecDepth 20000 in
theorem gL_law_X5_forget : GoodIn wsL_law (wsV RL 154 RX5 yX5_forget wsX5_forget) := goodIn_app (goodIn_of _ (by decide +kernel)) ggL_law_X5_forget
set_option maxRecDepth 20000 in
theorem ggL_law_X4_fits : GoodIn wsL_law wsX4_fits := goodIn_r _ [1016, 1017, 1018, 16, 159, 160, 2, 161, 1019, 278, 279, 1020, 1021, 1022, 15, 1023, 59, 48, 49, 451, 452, 1138, 1139, 1140, 1141, 1142, 1143, 1144, 1145, 1146, 1147, 1148, 1149, 1176, 1177, 1178, 1179, 1180, 1181, 1182, 1183, 1184, 1185, 1186, 1187, 1188, 1189] (by decide +kernel) (by decide +kernel)
set_option maxRecDepth 20000 in
theorem gL_law_X4_fits : GoodIn wsL_law (wsV RL 155 RX4 yX4_fits wsX4_fits) := goodIn_app (goodIn_of _ (by decide +kernel)) ggL_law_X4_fits
set_option maxRecDepth 20000 in
theorem ggL_law_X5_fits : GoodIn wsL_law wsX5_fits := goodIn_r _ [1027, 534, 166, 167, 5, 168, 1028, 1029, 1030, 1031, 95, 469, 470, 471, 1150, 1151, 1152, 1153, 1154, 1155, 1156, 1157, 1158, 1159, 1160, 1161, 1162, 1163, 1164, 1165, 1166, 1167, 1168, 1169, 1170, 1171, 1172, 1173, 1174, 1175] (by decide +kernel) (by decide +kernel)
set_option maxRecDepth 20000 in
theorem gL_law_X5_fits : GoodIn wsL_law (wsV RL 158 RX5 yX5_fits wsX5_fits) := goodIn_app (goodIn_of _ (by decide +kernel)) ggL_law_X5_fits
set_option maxRecDepth 20000 in
theorem ggL_law_X4_keep : GoodIn wsL_law wsX4_keep := goodIn_r _ [1035, 36, 16, 159, 160, 2, 161, 1036, 1037, 1038, 1039, 25, 26, 357, 358, 359, 15, 360, 42, 43, 44, 45, 46, 47, 48, 49, 54, 55, 56, 57, 58, 59, 60, 61, 62, 63, 64, 65, 66, 67, 68, 69, 1138, 1139, 1140, 1141, 1142, 1143, 1144, 1145, 1146, 1147, 1148, 1149, 1176, 1177, 1178, 1179, 1180, 1181, 1182, 1183, 1184, 1185, 1186, 1187, 1188, 1189] (by decide +kernel) (by decide +kernel)
set_option maxRecDepth 20000 in
theorem gL_law_X4_keep : GoodIn wsL_law (wsV RL 159 RX4 yX4_keep wsX4_keep) := goodIn_app (goodIn_of _ (by decide +kernel)) ggL_law_X4_keep
set_option maxRecDepth 20000 in
theorem ggL_law_X5_keep : GoodIn wsL_law wsX5_keep := goodIn_r _ [1043, 97, 166, 167, 5, 168, 814, 815, 816, 1044, 1045, 1046, 1047, 95, 1150, 1151, 1152, 1153, 1154, 1155, 1156, 1157, 1158, 1159, 1160, 1161, 1162, 1163, 1164, 1165, 1166, 1167, 1168, 1169, 1170, 1171, 1172, 1173, 1174, 1175] (by decide +kernel) (by decide +kernel)
set_option maxRecDepth 20000 in
theorem gL_law_X5_keep : GoodIn wsL_law (wsV RL 162 RX5 yX5_keep wsX5_keep) := goodIn_app (goodIn_of _ (by decide +kernel)) ggL_law_X5_keep
set_option maxRecDepth 20000 in
theorem ggL_law_X4_back : GoodIn wsL_law wsX4_back := goodIn_r _ [1051, 36, 16, 578, 159, 160, 2, 161, 1036, 1037, 1038, 1039, 25, 26, 357, 358, 359, 15, 360, 42, 43, 44, 45, 46, 47, 48, 49, 54, 55, 56, 57, 58, 59, 60, 61, 62, 63, 64, 65, 66, 67, 68, 69, 1138, 1139, 1140, 1141, 1142, 1143, 1144, 1145, 1146, 1147, 1148, 1149, 1176, 1177, 1178, 1179, 1180, 1181, 1182, 1183, 1184, 1185, 1186, 1187, 1188, 1189] (by decide +kernel) (by decide +kernel)
set_option maxRecDepth 20000 in
theorem gL_law_X4_back : GoodIn wsL_law (wsV RL 163 RX4 yX4_back wsX4_back) := goodIn_app (goodIn_of _ (by decide +kernel)) ggL_law_X4_back
set_option maxRecDepth 20000 in
theorem ggL_law_X5_back : GoodIn wsL_law wsX5_back := goodIn_r _ [1055, 97, 95, 166, 167, 5, 168, 1044, 1045, 1046, 1047, 1150, 1151, 1152, 1153, 1154, 1155, 1156, 1157, 1158, 1159, 1160, 1161, 1162, 1163, 1164, 1165, 1166, 1167, 1168, 1169, 1170, 1171, 1172, 1173, 1174, 1175] (by decide +kernel) (by decide +kernel)
set_option maxRecDepth 20000 in
theorem gL_law_X5_back : GoodIn wsL_law (wsV RL 166 RX5 yX5_back wsX5_back) := goodIn_app (goodIn_of _ (by decide +kernel)) ggL_law_X5_back
set_option maxRecDepth 20000 in
theorem ggL_law_X4_sheet : GoodIn wsL_law wsX4_sheet := goodIn_r _ [1059, 159, 160, 2, 161, 1060, 1061, 1062, 1063, 30, 31, 32, 33, 1064, 1065, 1066, 29, 1067, 89, 90, 88, 284, 285, 1138, 1139, 1140, 1141, 1142, 1143, 1144, 1145, 1146, 1147, 1148, 1149, 1206, 1207, 1208] (by decide +kernel) (by decide +kernel)
set_option maxRecDepth 20000 in
theorem gL_law_X4_sheet : GoodIn wsL_law (wsV RL 167 RX4 yX4_sheet wsX4_sheet) := goodIn_app (goodIn_of _ (by decide +kernel)) ggL_law_X4_sheet
set_option maxRecDepth 20000 in
theorem ggL_law_X5_sheet : GoodIn wsL_law wsX5_sheet := goodIn_r _ [1071, 107, 108, 109, 1072, 1073, 5, 1074, 1075, 534, 166, 167, 168, 1150, 1151, 1152, 1153, 1154, 1155, 1156, 1157, 1158, 1159, 1160, 1161, 1162, 1163, 1164, 1165, 1166, 1167, 1168, 1169, 1170, 1171, 1172, 1173, 1174, 1175] (by decide +kernel) (by decide +kernel)
set_option maxRecDepth 20000 in
theorem gL_law_X5_sheet : GoodIn wsL_law (wsV RL 170 RX5 yX5_sheet wsX5_sheet) := goodIn_app (goodIn_of _ (by decide +kernel)) ggL_law_X5_sheet
set_option maxRecDepth 20000 in
theorem ggL_law_X4_lay : GoodIn wsL_law wsX4_lay := goodIn_r _ [1079, 1080, 159, 160, 2, 161, 1060, 1061, 1062, 1063, 30, 31, 32, 33, 1081, 1082, 1083, 29, 1084, 89, 90, 1085, 1086, 1087, 1088, 1089, 1090, 1091, 1092, 88, 284, 285, 1206, 1207, 1208, 1138, 1139, 1140, 1141, 1142, 1143, 1144, 1145, 1146, 1147, 1148, 1149] (by decide +kernel) (by decide +kernel)
set_option maxRecDepth 20000 in
theorem gL_law_X4_lay : GoodIn wsL_law (wsV RL 171 RX4 yX4_lay wsX4_lay) := goodIn_app (goodIn_of _ (by decide +kernel)) ggL_law_X4_lay
set_option maxRecDepth 20000 in
theorem ggL_law_X5_lay : GoodIn wsL_law wsX5_lay := goodIn_r _ [1096, 107, 108, 109, 1072, 1073, 5, 1074, 1075, 534, 166, 167, 168, 1150, 1151, 1152, 1153, 1154, 1155, 1156, 1157, 1158, 1159, 1160, 1161, 1162, 1163, 1164, 1165, 1166, 1167, 1168, 1169, 1170, 1171, 1172, 1173, 1174, 1175] (by decide +kernel) (by decide +kernel)
set_option maxRecDepth 20000 in
theorem gL_law_X5_lay : GoodIn wsL_law (wsV RL 174 RX5 yX5_lay wsX5_lay) := goodIn_app (goodIn_of _ (by decide +kernel)) ggL_law_X5_lay
set_option maxRecDepth 20000 in
theorem ggL_law_X4_read : GoodIn wsL_law wsX4_read := goodIn_r _ [1100, 16, 577, 35, 159, 160, 2, 161, 1060, 1061, 1062, 1063, 30, 31, 32, 33, 1081, 1082, 1083, 29, 1084, 89, 90, 1085, 1086, 1087, 1088, 1101, 1102, 1103, 1104, 88, 278, 279, 649, 295, 296, 15, 297, 47, 57, 284, 285, 1138, 1139, 1140, 1141, 1142, 1143, 1144, 1145, 1146, 1147, 1148, 1149, 1176, 1177, 1178, 1179, 1180, 1181, 1182, 1183, 1184, 1185, 1186, 1187, 1188, 1189, 1206, 1207, 1208] (by decide +kernel) (by decide +kernel)
set_option maxRecDepth 20000 in
theorem gL_law_X4_read : GoodIn wsL_law (wsV RL 175 RX4 yX4_read wsX4_read) := goodIn_app (goodIn_of _ (by decide +kernel)) ggL_law_X4_read
set_option maxRecDepth 20000 in
theorem ggL_law_X5_read : GoodIn wsL_law wsX5_read := goodIn_r _ [1108, 1109, 107, 108, 109, 154, 95, 1110, 1072, 1073, 5, 1074, 1075, 534, 166, 167, 168, 1111, 651, 652, 653, 1150, 1151, 1152, 1153, 1154, 1155, 1156, 1157, 1158, 1159, 1160, 1161, 1162, 1163, 1164, 1165, 1166, 1167, 1168, 1169, 1170, 1171, 1172, 1173, 1174, 1175] (by decide +kernel) (by decide +kernel)
set_option maxRecDepth 20000 in
theorem gL_law_X5_read : GoodIn wsL_law (wsV RL 178 RX5 yX5_read wsX5_read) := goodIn_app (goodIn_of _ (by decide +kernel)) ggL_law_X5_read
set_option maxRecDepth 20000 in
theorem ggL_law_X4_torn : GoodIn wsL_law wsX4_torn := goodIn_r _ [1115, 35, 1138, 1139, 1140, 1141, 1142, 1143, 1144, 1145, 1146, 1147, 1148, 1149] (by decide +kernel) (by decide +kernel)
set_option maxRecDepth 20000 in
theorem gL_law_X4_torn : GoodIn wsL_law (wsV RL 179 RX4 yX4_torn wsX4_torn) := goodIn_app (goodIn_of _ (by decide +kernel)) ggL_law_X4_torn
set_option maxRecDepth 20000 in
theorem ggL_law_X5_torn : GoodIn wsL_law wsX5_torn := goodIn_r _ [1119, 1110, 1150, 1151, 1152, 1153, 1154, 1155, 1156, 1157, 1158, 1159, 1160, 1161, 1162, 1163, 1164, 1165, 1166, 1167, 1168, 1169, 1170, 1171, 1172, 1173, 1174, 1175] (by decide +kernel) (by decide +kernel)
set_option maxRecDepth 20000 in
theorem gL_law_X5_torn : GoodIn wsL_law (wsV RL 182 RX5 yX5_torn wsX5_torn) := goodIn_app (goodIn_of _ (by decide +kernel)) ggL_law_X5_torn
set_option maxRecDepth 20000 in
theorem ggL_law_X4_count : GoodIn wsL_law wsX4_count := goodIn_r _ [1123, 16, 578, 995, 36, 20, 143, 30, 1124, 1125, 1126, 1127, 15, 1128, 54, 691, 614, 615, 616, 341, 342, 343, 344, 44, 278, 2, 279, 1129, 1130, 1131, 1132, 809, 303, 304, 305, 306, 307, 308, 1133, 1086, 1087, 29, 1088, 89, 1138, 1139, 1140, 1141, 1142, 1143, 1144, 1145, 1146, 1147, 1148, 1149, 1176, 1177, 1178, 1179, 1180, 1181, 1182, 1183, 1184, 1185, 1186, 1187, 1188, 1189, 1190, 1191, 1192, 1193, 1194, 1195, 1196, 1197, 1198, 1199, 1206, 1207, 1208] (by decide +kernel) (by decide +kernel)
set_option maxRecDepth 20000 in
theorem gL_law_X4_count : GoodIn wsL_law (wsV RL 183 RX4 yX4_count wsX4_count) := goodIn_app (goodIn_of _ (by decide +kernel)) ggL_law_X4_count
set_option maxRecDepth 20000 in
theorem ggL_law_X5_count : GoodIn wsL_law wsX5_count := goodIn_r _ [1137, 95, 97, 153, 107, 108, 814, 815, 5, 816, 1150, 1151, 1152, 1153, 1154, 1155, 1156, 1157, 1158, 1159, 1160, 1161, 1162, 1163, 1164, 1165, 1166, 1167, 1168, 1169, 1170, 1171, 1172, 1173, 1174, 1175] (by decide +kernel) (by decide +kernel)
set_option maxRecDepth 20000 in
theorem gL_law_X5_count : GoodIn wsL_law (wsV RL 186 RX5 yX5_count wsX5_count) := goodIn_app (goodIn_of _ (by decide +kernel)) ggL_law_X5_count
