set_option maxRecDepth 20000 in
theorem ggL_law_X9_init : GoodIn wsL_law wsX9_init := goodIn_r _ [9, 10, 11, 12, 13, 14, 15, 16, 17, 18, 19, 20, 21, 22, 23, 24, 25, 26, 27, 28, 29, 30, 31, 32, 33, 34, 35, 36, 37, 38, 39, 40, 41, 42, 43, 44, 45, 46, 47, 48, 49, 50, 51, 52, 53, 54, 55, 56, 57, 58, 59, 60, 61, 62, 63, 64, 65, 66, 67, 68, 69, 70, 71, 72, 73, 74, 75, 76, 77, 78, 79, 80, 81, 82, 83, 84, 85, 86, 87, 88, 89, 90, 91, 92, 93, 94, 95, 96, 97, 98, 99, 100, 1187, 1188, 1131, 1132, 1133, 1134, 1135, 1136, 1137, 1138, 1139, 1189, 1190, 1191, 1192, 1193, 1194, 1195, 1196, 1197, 1198, 1199, 1200, 1201, 1202, 1203, 1204, 1205, 1206, 1207, 1208, 1209, 1210, 1211, 1212, 1213, 1214, 1215, 1216, 1217] (by decide +kernel) (by decide +kernel)
set_option maxRecDepth 20000 in
theorem gL_law_X9_init : GoodIn wsL_law (wsX9_init) := ggL_law_X9_init
set_option maxRecDepth 20000 in
theorem ggL_law_X10_init : GoodIn wsL_law wsX10_init := goodIn_r _ [103, 104, 11, 12, 105, 106, 52, 107, 108, 109, 110, 111, 112, 113, 114, 31, 115, 116, 117, 118, 119, 120, 121, 122, 123, 124, 125, 126, 127, 128, 129, 130, 131, 132, 133, 134, 135, 136, 137, 138, 139, 140, 141, 5, 142, 143, 144, 1140, 1141, 1142, 1143, 1144, 1145, 1146, 1147, 1148, 1149, 1150, 1151, 1152, 1153, 1154, 1155, 1156, 1157, 1158, 1159, 1160, 1161, 1162, 1163, 1164, 1165, 1166, 1167, 1168, 1169, 1170, 1171, 1172, 1173, 1174, 1175, 1176, 1177, 1178, 1179, 1180, 1181, 1182, 1183, 1184, 1185, 1186] (by decide +kernel) (by decide +kernel)
set_option maxRecDepth 20000 in
theorem gL_law_X10_init : GoodIn wsL_law (wsX10_init) := ggL_law_X10_init
set_option maxRecDepth 20000 in
theorem ggL_law_X9_feed : GoodIn wsL_law wsX9_feed := goodIn_r _ [148, 16, 149, 150, 151, 152, 15, 153, 42, 48, 1131, 1132, 1133, 1134, 1135, 1136, 1137, 1138, 1139, 1187, 1188] (by decide +kernel) (by decide +kernel)
set_option maxRecDepth 20000 in
theorem gL_law_X9_feed : GoodIn wsL_law (wsV RL 13 RX9 yX9_feed wsX9_feed) := goodIn_app (goodIn_of _ (by decide +kernel)) ggL_law_X9_feed
set_option maxRecDepth 20000 in
theorem ggL_law_X10_feed : GoodIn wsL_law wsX10_feed := goodIn_r _ [157, 158, 159, 128, 160, 161, 5, 162, 1140, 1141, 1142, 1143, 1144, 1145, 1146, 1147, 1148, 1149, 1150, 1151, 1152, 1153, 1154, 1155, 1156, 1157, 1158, 1159, 1160, 1161, 1162, 1163, 1164, 1165, 1166, 1167, 1168, 1169, 1170, 1171, 1172, 1173, 1174, 1175, 1176, 1177, 1178, 1179, 1180, 1181, 1182, 1183, 1184, 1185, 1186] (by decide +kernel) (by decide +kernel)
set_option maxRecDepth 20000 in
theorem gL_law_X10_feed : GoodIn wsL_law (wsV RL 17 RX10 yX10_feed wsX10_feed) := goodIn_app (goodIn_of _ (by decide +kernel)) ggL_law_X10_feed
set_option maxRecDepth 20000 in
theorem ggL_law_X9_head : GoodIn wsL_law wsX9_head := goodIn_r _ [166, 21, 16, 25, 167, 168, 169, 170, 20, 171, 55, 53, 54, 172, 173, 174, 175, 176, 177, 178, 15, 179, 42, 48, 180, 181, 182, 183, 184, 185, 186, 187, 188, 189, 190, 191, 192, 193, 24, 194, 195, 72, 196, 59, 197, 198, 199, 200, 60, 73, 62, 201, 66, 67, 68, 202, 203, 204, 205, 206, 207, 208, 29, 209, 84, 85, 78, 210, 211, 212, 213, 65, 214, 91, 1131, 1132, 1133, 1134, 1135, 1136, 1137, 1138, 1139, 1192, 1193, 1194, 1195, 1196, 1197, 1198, 1199, 1200, 1201, 1202, 1189, 1190, 1191, 1187, 1188, 1203, 1204, 1205, 1206, 1207, 1208, 1209, 1210, 1211, 1215, 1216, 1217] (by decide +kernel) (by decide +kernel)
set_option maxRecDepth 20000 in
theorem gL_law_X9_head : GoodIn wsL_law (wsV RL 18 RX9 yX9_head wsX9_head) := goodIn_app (goodIn_of _ (by decide +kernel)) ggL_law_X9_head
set_option maxRecDepth 20000 in
theorem ggL_law_X10_head : GoodIn wsL_law wsX10_head := goodIn_r _ [218, 159, 219, 220, 107, 131, 108, 132, 109, 221, 222, 223, 224, 106, 225, 226, 227, 5, 228, 128, 229, 230, 231, 232, 233, 234, 160, 161, 162, 235, 236, 237, 238, 139, 140, 141, 142, 143, 144, 118, 119, 120, 121, 110, 1140, 1141, 1142, 1143, 1144, 1145, 1146, 1147, 1148, 1149, 1150, 1151, 1152, 1153, 1154, 1155, 1156, 1157, 1158, 1159, 1160, 1161, 1162, 1163, 1164, 1165, 1166, 1167, 1168, 1169, 1170, 1171, 1172, 1173, 1174, 1175, 1176, 1177, 1178, 1179, 1180, 1181, 1182, 1183, 1184, 1185, 1186] (by decide +kernel) (by decide +kernel)
set_option maxRecDepth 20000 in
theorem gL_law_X10_head : GoodIn wsL_law (wsV RL 22 RX10 yX10_head wsX10_head) := goodIn_app (goodIn_of _ (by decide +kernel)) ggL_law_X10_head
set_option maxRecDepth 20000 in
theorem ggL_law_X9_line : GoodIn wsL_law wsX9_line := goodIn_r _ [242, 25, 167, 243, 16, 244, 245, 246, 247, 248, 2, 249, 149, 250, 177, 178, 15, 179, 42, 48, 187, 188, 189, 190, 251, 252, 253, 254, 11, 12, 255, 256, 257, 44, 45, 46, 47, 258, 259, 260, 261, 262, 263, 264, 265, 266, 267, 268, 269, 270, 271, 272, 273, 274, 275, 276, 277, 278, 279, 280, 281, 282, 283, 284, 285, 286, 287, 288, 289, 290, 291, 292, 293, 294, 295, 296, 297, 298, 299, 300, 301, 302, 303, 304, 305, 306, 307, 308, 309, 310, 311, 312, 313, 314, 315, 316, 317, 318, 319, 320, 321, 322, 323, 324, 325, 326, 327, 328, 329, 330, 331, 332, 333, 334, 335, 336, 337, 338, 339, 340, 341, 342, 343, 344, 345, 346, 347, 348, 349, 350, 351, 352, 353, 354, 355, 356, 357, 358, 359, 360, 361, 362, 363, 364, 365, 366, 367, 368, 369, 370, 371, 372, 373, 374, 375, 376, 377, 378, 379, 380, 381, 382, 383, 384, 385, 386, 387, 24, 388, 73, 70, 1131, 1132, 1133, 1134, 1135, 1136, 1137, 1138, 1139, 1192, 1193, 1194, 1195, 1196, 1197, 1198, 1199, 1200, 1201, 1202, 1218, 1187, 1188, 1219, 1220, 1221, 1222] (by decide +kernel) (by decide +kernel)
set_option maxRecDepth 20000 in
theorem gL_law_X9_line : GoodIn wsL_law (wsV RL 23 RX9 yX9_line wsX9_line) := goodIn_app (goodIn_of _ (by decide +kernel)) ggL_law_X9_line
set_option maxRecDepth 20000 in
theorem ggL_law_X10_line : GoodIn wsL_law wsX10_line := goodIn_r _ [392, 220, 221, 159, 111, 128, 112, 393, 394, 395, 5, 396, 397, 398, 160, 161, 162, 399, 400, 401, 402, 113, 114, 115, 116, 403, 404, 405, 406, 407, 408, 409, 410, 411, 412, 413, 414, 415, 416, 417, 418, 419, 420, 421, 422, 423, 424, 425, 426, 427, 428, 429, 430, 431, 432, 433, 434, 435, 436, 437, 438, 439, 440, 441, 442, 443, 444, 445, 446, 447, 1140, 1141, 1142, 1143, 1144, 1145, 1146, 1147, 1148, 1149, 1150, 1151, 1152, 1153, 1154, 1155, 1156, 1157, 1158, 1159, 1160, 1161, 1162, 1163, 1164, 1165, 1166, 1167, 1168, 1169, 1170, 1171, 1172, 1173, 1174, 1175, 1176, 1177, 1178, 1179, 1180, 1181, 1182, 1183, 1184, 1185, 1186] (by decide +kernel) (by decide +kernel)
set_option maxRecDepth 20000 in
theorem gL_law_X10_line : GoodIn wsL_law (wsV RL 26 RX10 yX10_line wsX10_line) := goodIn_app (goodIn_of _ (by decide +kernel)) ggL_law_X10_line
set_option maxRecDepth 20000 in
theorem ggL_law_X9_sample : GoodIn wsL_law wsX9_sample := goodIn_r _ [451, 25, 452, 1131, 1132, 1133, 1134, 1135, 1136, 1137, 1138, 1139, 1192, 1193, 1194, 1195, 1196, 1197, 1198, 1199, 1200, 1201, 1202] (by decide +kernel) (by decide +kernel)
set_option maxRecDepth 20000 in
theorem gL_law_X9_sample : GoodIn wsL_law (wsV RL 27 RX9 yX9_sample wsX9_sample) := goodIn_app (goodIn_of _ (by decide +kernel)) ggL_law_X9_sample
set_option maxRecDepth 20000 in
theorem ggL_law_X10_sample : GoodIn wsL_law wsX10_sample := goodIn_r _ [456, 457, 105, 160, 161, 5, 162, 1140, 1141, 1142, 1143, 1144, 1145, 1146, 1147, 1148, 1149, 1150, 1151, 1152, 1153, 1154, 1155, 1156, 1157, 1158, 1159, 1160, 1161, 1162, 1163, 1164, 1165, 1166, 1167, 1168, 1169, 1170, 1171, 1172, 1173, 1174, 1175, 1176, 1177, 1178, 1179, 1180, 1181, 1182, 1183, 1184, 1185, 1186] (by decide +kernel) (by decide +kernel)
set_option maxRecDepth 20000 in
theorem gL_law_X10_sample : GoodIn wsL_law (wsV RL 30 RX10 yX10_sample wsX10_sample) := goodIn_app (goodIn_of _ (by decide +kernel)) ggL_law_X10_sample
set_option maxRecDepth 20000 in
theorem ggL_law_X9_type : GoodIn wsL_law wsX9_type := goodIn_r _ [461, 25, 462, 463, 464, 465, 24, 466, 72, 1131, 1132, 1133, 1134, 1135, 1136, 1137, 1138, 1139, 1192, 1193, 1194, 1195, 1196, 1197, 1198, 1199, 1200, 1201, 1202] (by decide +kernel) (by decide +kernel)
set_option maxRecDepth 20000 in
theorem gL_law_X9_type : GoodIn wsL_law (wsV RL 31 RX9 yX9_type wsX9_type) := goodIn_app (goodIn_of _ (by decide +kernel)) ggL_law_X9_type
set_option maxRecDepth 20000 in
theorem ggL_law_X10_type_ : GoodIn wsL_law wsX10_type_ := goodIn_r _ [470, 471, 109, 472, 473, 474, 5, 475, 220, 160, 161, 162, 1140, 1141, 1142, 1143, 1144, 1145, 1146, 1147, 1148, 1149, 1150, 1151, 1152, 1153, 1154, 1155, 1156, 1157, 1158, 1159, 1160, 1161, 1162, 1163, 1164, 1165, 1166, 1167, 1168, 1169, 1170, 1171, 1172, 1173, 1174, 1175, 1176, 1177, 1178, 1179, 1180, 1181, 1182, 1183, 1184, 1185, 1186] (by decide +kernel) (by decide +kernel)
set_option maxRecDepth 20000 in
theorem gL_law_X10_type_ : GoodIn wsL_law (wsV RL 35 RX10 yX10_type_ wsX10_type_) := goodIn_app (goodIn_of _ (by decide +kernel)) ggL_law_X10_type_
set_option maxRecDepth 20000 in
theorem ggL_law_X9_key : GoodIn wsL_law wsX9_key := goodIn_r _ [479, 25, 480, 481, 482, 463, 464, 465, 24, 466, 72, 483, 484, 485, 2, 486, 1131, 1132, 1133, 1134, 1135, 1136, 1137, 1138, 1139, 1192, 1193, 1194, 1195, 1196, 1197, 1198, 1199, 1200, 1201, 1202, 1203, 1204, 1205, 1206, 1207, 1208, 1209, 1210, 1211] (by decide +kernel) (by decide +kernel)
set_option maxRecDepth 20000 in
theorem gL_law_X9_key : GoodIn wsL_law (wsV RL 36 RX9 yX9_key wsX9_key) := goodIn_app (goodIn_of _ (by decide +kernel)) ggL_law_X9_key
set_option maxRecDepth 20000 in
theorem ggL_law_X10_key : GoodIn wsL_law wsX10_key := goodIn_r _ [490, 143, 106, 472, 473, 474, 5, 475, 220, 160, 161, 162, 1140, 1141, 1142, 1143, 1144, 1145, 1146, 1147, 1148, 1149, 1150, 1151, 1152, 1153, 1154, 1155, 1156, 1157, 1158, 1159, 1160, 1161, 1162, 1163, 1164, 1165, 1166, 1167, 1168, 1169, 1170, 1171, 1172, 1173, 1174, 1175, 1176, 1177, 1178, 1179, 1180, 1181, 1182, 1183, 1184, 1185, 1186] (by decide +kernel) (by decide +kernel)
set_option maxRecDepth 20000 in
theorem gL_law_X10_key : GoodIn wsL_law (wsV RL 39 RX10 yX10_key wsX10_key) := goodIn_app (goodIn_of _ (by decide +kernel)) ggL_law_X10_key
set_option maxRecDepth 20000 in
theorem ggL_law_X9_column : GoodIn wsL_law wsX9_column := goodIn_r _ [494, 25, 452, 462, 480, 495, 496, 463, 464, 465, 24, 466, 72, 497, 498, 499, 500, 62, 501, 74, 502, 503, 504, 505, 506, 60, 507, 508, 509, 510, 71, 511, 512, 513, 514, 73, 515, 202, 203, 204, 205, 516, 517, 518, 519, 70, 520, 521, 522, 246, 523, 256, 524, 1131, 1132, 1133, 1134, 1135, 1136, 1137, 1138, 1139, 1192, 1193, 1194, 1195, 1196, 1197, 1198, 1199, 1200, 1201, 1202, 1203, 1204, 1205, 1206, 1207, 1208, 1209, 1210, 1211, 1219, 1220, 1221, 1222, 1218] (by decide +kernel) (by decide +kernel)
set_option maxRecDepth 20000 in
theorem gL_law_X9_column : GoodIn wsL_law (wsV RL 40 RX9 yX9_column wsX9_column) := goodIn_app (goodIn_of _ (by decide +kernel)) ggL_law_X9_column
set_option maxRecDepth 20000 in
theorem ggL_law_X10_column : GoodIn wsL_law wsX10_column := goodIn_r _ [528, 105, 109, 110, 108, 472, 473, 474, 5, 475, 220, 160, 161, 162, 529, 530, 531, 532, 533, 534, 535, 536, 537, 538, 539, 540, 221, 541, 542, 543, 544, 113, 545, 546, 547, 548, 114, 1140, 1141, 1142, 1143, 1144, 1145, 1146, 1147, 1148, 1149, 1150, 1151, 1152, 1153, 1154, 1155, 1156, 1157, 1158, 1159, 1160, 1161, 1162, 1163, 1164, 1165, 1166, 1167, 1168, 1169, 1170, 1171, 1172, 1173, 1174, 1175, 1176, 1177, 1178, 1179, 1180, 1181, 1182, 1183, 1184, 1185, 1186] (by decide +kernel) (by decide +kernel)
set_option maxRecDepth 20000 in
theorem gL_law_X10_column : GoodIn wsL_law (wsV RL 43 RX10 yX10_column wsX10_column) := goodIn_app (goodIn_of _ (by decide +kernel)) ggL_law_X10_column
set_option maxRecDepth 20000 in
theorem ggL_law_X9_of : GoodIn wsL_law wsX9_of := goodIn_r _ [552, 25, 553, 480, 554, 555, 517, 518, 24, 519, 73, 70, 556, 557, 558, 29, 559, 84, 560, 561, 562, 563, 82, 564, 565, 521, 522, 246, 523, 256, 1131, 1132, 1133, 1134, 1135, 1136, 1137, 1138, 1139, 1218, 1192, 1193, 1194, 1195, 1196, 1197, 1198, 1199, 1200, 1201, 1202, 1219, 1220, 1221, 1222, 1203, 1204, 1205, 1206, 1207, 1208, 1209, 1210, 1211] (by decide +kernel) (by decide +kernel)
set_option maxRecDepth 20000 in
theorem gL_law_X9_of : GoodIn wsL_law (wsV RL 44 RX9 yX9_of wsX9_of) := goodIn_app (goodIn_of _ (by decide +kernel)) ggL_law_X9_of
set_option maxRecDepth 20000 in
theorem ggL_law_X10_of : GoodIn wsL_law wsX10_of := goodIn_r _ [569, 113, 143, 118, 570, 571, 572, 5, 573, 221, 160, 161, 162, 403, 404, 405, 406, 111, 407, 408, 409, 410, 112, 411, 412, 413, 414, 415, 416, 417, 418, 419, 420, 421, 422, 423, 424, 425, 426, 427, 428, 429, 430, 431, 432, 433, 434, 435, 436, 437, 1140, 1141, 1142, 1143, 1144, 1145, 1146, 1147, 1148, 1149, 1150, 1151, 1152, 1153, 1154, 1155, 1156, 1157, 1158, 1159, 1160, 1161, 1162, 1163, 1164, 1165, 1166, 1167, 1168, 1169, 1170, 1171, 1172, 1173, 1174, 1175, 1176, 1177, 1178, 1179, 1180, 1181, 1182, 1183, 1184, 1185, 1186] (by decide +kernel) (by decide +kernel)
set_option maxRecDepth 20000 in
theorem gL_law_X10_of : GoodIn wsL_law (wsV RL 47 RX10 yX10_of wsX10_of) := goodIn_app (goodIn_of _ (by decide +kernel)) ggL_law_X10_of
set_option maxRecDepth 20000 in
theorem ggL_law_X9_votes : GoodIn wsL_law wsX9_votes := goodIn_r _ [577, 25, 452, 463, 464, 465, 24, 466, 72, 578, 579, 580, 581, 71, 511, 512, 513, 514, 73, 515, 202, 203, 204, 205, 516, 517, 518, 519, 70, 520, 521, 522, 246, 523, 256, 1131, 1132, 1133, 1134, 1135, 1136, 1137, 1138, 1139, 1192, 1193, 1194, 1195, 1196, 1197, 1198, 1199, 1200, 1201, 1202, 1219, 1220, 1221, 1222, 1218] (by decide +kernel) (by decide +kernel)
set_option maxRecDepth 20000 in
theorem gL_law_X9_votes : GoodIn wsL_law (wsV RL 48 RX9 yX9_votes wsX9_votes) := goodIn_app (goodIn_of _ (by decide +kernel)) ggL_law_X9_votes
set_option maxRecDepth 20000 in
theorem ggL_law_X10_votes : GoodIn wsL_law wsX10_votes := goodIn_r _ [585, 471, 105, 472, 473, 474, 5, 475, 220, 160, 161, 162, 537, 538, 539, 540, 221, 541, 542, 543, 544, 113, 545, 546, 547, 548, 114, 1140, 1141, 1142, 1143, 1144, 1145, 1146, 1147, 1148, 1149, 1150, 1151, 1152, 1153, 1154, 1155, 1156, 1157, 1158, 1159, 1160, 1161, 1162, 1163, 1164, 1165, 1166, 1167, 1168, 1169, 1170, 1171, 1172, 1173, 1174, 1175, 1176, 1177, 1178, 1179, 1180, 1181, 1182, 1183, 1184, 1185, 1186] (by decide +kernel) (by decide +kernel)
set_option maxRecDepth 20000 in
theorem gL_law_X10_votes : GoodIn wsL_law (wsV RL 51 RX10 yX10_votes wsX10_votes) := goodIn_app (goodIn_of _ (by decide +kernel)) ggL_law_X10_votes
set_option maxRecDepth 20000 in
theorem ggL_law_X9_run : GoodIn wsL_law wsX9_run := goodIn_r _ [589, 25, 480, 590, 591, 592, 24, 593, 594, 73, 74, 595, 596, 597, 598, 72, 501, 503, 504, 505, 506, 60, 502, 464, 465, 466, 507, 508, 509, 510, 71, 511, 512, 513, 514, 515, 202, 203, 204, 205, 516, 517, 518, 519, 70, 520, 521, 522, 246, 523, 256, 599, 600, 601, 602, 603, 604, 605, 606, 29, 607, 84, 79, 80, 81, 82, 608, 609, 610, 611, 612, 613, 614, 259, 615, 273, 616, 617, 618, 619, 201, 620, 621, 622, 623, 624, 625, 626, 627, 628, 85, 83, 629, 630, 631, 632, 275, 274, 633, 634, 635, 636, 637, 1131, 1132, 1133, 1134, 1135, 1136, 1137, 1138, 1139, 1192, 1193, 1194, 1195, 1196, 1197, 1198, 1199, 1200, 1201, 1202, 1203, 1204, 1205, 1206, 1207, 1208, 1209, 1210, 1211, 1219, 1220, 1221, 1222, 1218] (by decide +kernel) (by decide +kernel)
set_option maxRecDepth 20000 in
theorem gL_law_X9_run : GoodIn wsL_law (wsV RL 52 RX9 yX9_run wsX9_run) := goodIn_app (goodIn_of _ (by decide +kernel)) ggL_law_X9_run
set_option maxRecDepth 20000 in
theorem ggL_law_X10_run : GoodIn wsL_law wsX10_run := goodIn_r _ [641, 457, 160, 161, 5, 162, 642, 643, 644, 645, 143, 221, 646, 647, 648, 649, 220, 110, 113, 106, 144, 117, 118, 529, 530, 531, 532, 109, 105, 533, 534, 535, 536, 537, 538, 539, 540, 541, 542, 543, 544, 545, 546, 547, 548, 114, 650, 651, 652, 653, 119, 120, 121, 654, 655, 656, 657, 658, 659, 660, 661, 662, 663, 664, 116, 115, 665, 1140, 1141, 1142, 1143, 1144, 1145, 1146, 1147, 1148, 1149, 1150, 1151, 1152, 1153, 1154, 1155, 1156, 1157, 1158, 1159, 1160, 1161, 1162, 1163, 1164, 1165, 1166, 1167, 1168, 1169, 1170, 1171, 1172, 1173, 1174, 1175, 1176, 1177, 1178, 1179, 1180, 1181, 1182, 1183, 1184, 1185, 1186] (by decide +kernel) (by decide +kernel)
set_option maxRecDepth 20000 in
theorem gL_law_X10_run : GoodIn wsL_law (wsV RL 55 RX10 yX10_run wsX10_run) := goodIn_app (goodIn_of _ (by decide +kernel)) ggL_law_X10_run
set_option maxRecDepth 20000 in
theorem ggL_law_X9_reset : GoodIn wsL_law wsX9_reset := goodIn_r _ [669, 25, 480, 481, 670, 207, 208, 29, 209, 84, 85, 78, 210, 203, 204, 205, 1131, 1132, 1133, 1134, 1135, 1136, 1137, 1138, 1139, 1192, 1193, 1194, 1195, 1196, 1197, 1198, 1199, 1200, 1201, 1202, 1203, 1204, 1205, 1206, 1207, 1208, 1209, 1210, 1211] (by decide +kernel) (by decide +kernel)
set_option maxRecDepth 20000 in
theorem gL_law_X9_reset : GoodIn wsL_law (wsV RL 56 RX9 yX9_reset wsX9_reset) := goodIn_app (goodIn_of _ (by decide +kernel)) ggL_law_X9_reset
set_option maxRecDepth 20000 in
theorem ggL_law_X10_reset : GoodIn wsL_law wsX10_reset := goodIn_r _ [674, 143, 139, 140, 141, 5, 142, 144, 118, 119, 120, 121, 110, 1140, 1141, 1142, 1143, 1144, 1145, 1146, 1147, 1148, 1149, 1150, 1151, 1152, 1153, 1154, 1155, 1156, 1157, 1158, 1159, 1160, 1161, 1162, 1163, 1164, 1165, 1166, 1167, 1168, 1169, 1170, 1171, 1172, 1173, 1174, 1175, 1176, 1177, 1178, 1179, 1180, 1181, 1182, 1183, 1184, 1185, 1186] (by decide +kernel) (by decide +kernel)
set_option maxRecDepth 20000 in
theorem gL_law_X10_reset : GoodIn wsL_law (wsV RL 59 RX10 yX10_reset wsX10_reset) := goodIn_app (goodIn_of _ (by decide +kernel)) ggL_law_X10_reset
