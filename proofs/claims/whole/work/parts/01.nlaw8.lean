set_option maxRecDepth 20000 in
theorem ggL_law_X9_ends : GoodIn wsL_law wsX9_ends := goodIn_r _ [943, 30, 25, 480, 691, 944, 945, 946, 29, 947, 78, 948, 198, 199, 200, 79, 80, 81, 82, 83, 84, 85, 86, 949, 950, 951, 24, 952, 67, 953, 201, 954, 897, 898, 65, 899, 91, 94, 955, 893, 894, 895, 93, 956, 591, 592, 593, 594, 73, 74, 595, 596, 597, 598, 72, 501, 503, 504, 505, 506, 60, 502, 464, 465, 466, 507, 508, 509, 510, 71, 511, 512, 513, 514, 515, 202, 203, 204, 205, 516, 517, 518, 519, 70, 520, 521, 522, 246, 523, 256, 599, 600, 601, 602, 603, 604, 605, 606, 607, 608, 609, 610, 611, 612, 613, 614, 259, 615, 273, 616, 617, 618, 619, 620, 621, 622, 623, 624, 625, 626, 627, 628, 629, 630, 631, 632, 275, 274, 633, 634, 635, 636, 637, 206, 207, 208, 209, 210, 692, 693, 694, 695, 1131, 1132, 1133, 1134, 1135, 1136, 1137, 1138, 1139, 1192, 1193, 1194, 1195, 1196, 1197, 1198, 1199, 1200, 1201, 1202, 1203, 1204, 1205, 1206, 1207, 1208, 1209, 1210, 1211, 1215, 1216, 1217, 1219, 1220, 1221, 1222, 1218] (by decide +kernel) (by decide +kernel)
set_option maxRecDepth 20000 in
theorem gL_law_X9_ends : GoodIn wsL_law (wsV RL 112 RX9 yX9_ends wsX9_ends) := goodIn_app (goodIn_of _ (by decide +kernel)) ggL_law_X9_ends
set_option maxRecDepth 20000 in
theorem ggL_law_X10_ends_ : GoodIn wsL_law wsX10_ends_ := goodIn_r _ [960, 223, 124, 125, 106, 144, 160, 161, 5, 162, 844, 845, 846, 847, 130, 143, 105, 848, 109, 110, 117, 118, 119, 120, 121, 849, 850, 851, 852, 642, 643, 644, 645, 221, 646, 647, 648, 649, 220, 113, 529, 530, 531, 532, 533, 534, 535, 536, 537, 538, 539, 540, 541, 542, 543, 544, 545, 546, 547, 548, 114, 650, 651, 652, 653, 654, 655, 656, 657, 658, 659, 660, 661, 662, 663, 664, 116, 115, 665, 139, 140, 141, 142, 704, 705, 706, 707, 853, 854, 855, 856, 857, 858, 859, 860, 1140, 1141, 1142, 1143, 1144, 1145, 1146, 1147, 1148, 1149, 1150, 1151, 1152, 1153, 1154, 1155, 1156, 1157, 1158, 1159, 1160, 1161, 1162, 1163, 1164, 1165, 1166, 1167, 1168, 1169, 1170, 1171, 1172, 1173, 1174, 1175, 1176, 1177, 1178, 1179, 1180, 1181, 1182, 1183, 1184, 1185, 1186] (by decide +kernel) (by decide +kernel)
set_option maxRecDepth 20000 in
theorem gL_law_X10_ends_ : GoodIn wsL_law (wsV RL 115 RX10 yX10_ends_ wsX10_ends_) := goodIn_app (goodIn_of _ (by decide +kernel)) ggL_law_X10_ends_
set_option maxRecDepth 20000 in
theorem ggL_law_X9_book : GoodIn wsL_law wsX9_book := goodIn_r _ [964, 25, 965, 874, 212, 213, 65, 214, 91, 463, 464, 465, 24, 466, 72, 875, 876, 877, 878, 93, 94, 1131, 1132, 1133, 1134, 1135, 1136, 1137, 1138, 1139, 1192, 1193, 1194, 1195, 1196, 1197, 1198, 1199, 1200, 1201, 1202, 1215, 1216, 1217] (by decide +kernel) (by decide +kernel)
set_option maxRecDepth 20000 in
theorem gL_law_X9_book : GoodIn wsL_law (wsV RL 116 RX9 yX9_book wsX9_book) := goodIn_app (goodIn_of _ (by decide +kernel)) ggL_law_X9_book
set_option maxRecDepth 20000 in
theorem ggL_law_X10_book : GoodIn wsL_law wsX10_book := goodIn_r _ [969, 224, 471, 126, 127, 472, 473, 474, 5, 475, 220, 160, 161, 162, 1140, 1141, 1142, 1143, 1144, 1145, 1146, 1147, 1148, 1149, 1150, 1151, 1152, 1153, 1154, 1155, 1156, 1157, 1158, 1159, 1160, 1161, 1162, 1163, 1164, 1165, 1166, 1167, 1168, 1169, 1170, 1171, 1172, 1173, 1174, 1175, 1176, 1177, 1178, 1179, 1180, 1181, 1182, 1183, 1184, 1185, 1186] (by decide +kernel) (by decide +kernel)
set_option maxRecDepth 20000 in
theorem gL_law_X10_book : GoodIn wsL_law (wsV RL 119 RX10 yX10_book wsX10_book) := goodIn_app (goodIn_of _ (by decide +kernel)) ggL_law_X10_book
set_option maxRecDepth 20000 in
theorem ggL_law_X9_looked : GoodIn wsL_law wsX9_looked := goodIn_r _ [973, 25, 965, 891, 892, 893, 894, 65, 895, 91, 93, 463, 464, 465, 24, 466, 72, 497, 498, 499, 500, 62, 501, 74, 502, 503, 504, 505, 506, 60, 507, 508, 509, 510, 71, 511, 512, 513, 514, 73, 515, 202, 203, 204, 205, 516, 517, 518, 519, 70, 520, 521, 522, 246, 523, 256, 896, 897, 898, 899, 94, 1131, 1132, 1133, 1134, 1135, 1136, 1137, 1138, 1139, 1192, 1193, 1194, 1195, 1196, 1197, 1198, 1199, 1200, 1201, 1202, 1215, 1216, 1217, 1203, 1204, 1205, 1206, 1207, 1208, 1209, 1210, 1211, 1219, 1220, 1221, 1222, 1218] (by decide +kernel) (by decide +kernel)
set_option maxRecDepth 20000 in
theorem gL_law_X9_looked : GoodIn wsL_law (wsV RL 120 RX9 yX9_looked wsX9_looked) := goodIn_app (goodIn_of _ (by decide +kernel)) ggL_law_X9_looked
set_option maxRecDepth 20000 in
theorem ggL_law_X10_looked : GoodIn wsL_law wsX10_looked := goodIn_r _ [977, 224, 126, 127, 529, 530, 531, 5, 532, 110, 109, 105, 533, 534, 535, 536, 537, 538, 539, 540, 221, 541, 542, 543, 544, 113, 545, 546, 547, 548, 114, 1140, 1141, 1142, 1143, 1144, 1145, 1146, 1147, 1148, 1149, 1150, 1151, 1152, 1153, 1154, 1155, 1156, 1157, 1158, 1159, 1160, 1161, 1162, 1163, 1164, 1165, 1166, 1167, 1168, 1169, 1170, 1171, 1172, 1173, 1174, 1175, 1176, 1177, 1178, 1179, 1180, 1181, 1182, 1183, 1184, 1185, 1186] (by decide +kernel) (by decide +kernel)
set_option maxRecDepth 20000 in
theorem gL_law_X10_looked : GoodIn wsL_law (wsV RL 123 RX10 yX10_looked wsX10_looked) := goodIn_app (goodIn_of _ (by decide +kernel)) ggL_law_X10_looked
set_option maxRecDepth 20000 in
theorem ggL_law_X9_judge : GoodIn wsL_law wsX9_judge := goodIn_r _ [981, 25, 982, 32, 983, 984, 985, 986, 2, 987, 34, 463, 464, 465, 24, 466, 72, 793, 794, 795, 796, 480, 691, 554, 713, 714, 715, 716, 717, 626, 627, 29, 628, 85, 83, 555, 517, 518, 519, 73, 70, 565, 521, 522, 246, 523, 256, 497, 498, 499, 500, 62, 501, 74, 502, 503, 504, 505, 506, 60, 507, 508, 509, 510, 71, 511, 512, 513, 514, 515, 202, 203, 204, 205, 516, 520, 718, 630, 631, 259, 632, 275, 273, 274, 633, 988, 989, 990, 37, 991, 98, 992, 993, 994, 995, 996, 100, 1131, 1132, 1133, 1134, 1135, 1136, 1137, 1138, 1139, 1212, 1213, 1214, 1192, 1193, 1194, 1195, 1196, 1197, 1198, 1199, 1200, 1201, 1202, 1203, 1204, 1205, 1206, 1207, 1208, 1209, 1210, 1211, 1219, 1220, 1221, 1222, 1218] (by decide +kernel) (by decide +kernel)
set_option maxRecDepth 20000 in
theorem gL_law_X9_judge : GoodIn wsL_law (wsV RL 124 RX9 yX9_judge wsX9_judge) := goodIn_app (goodIn_of _ (by decide +kernel)) ggL_law_X9_judge
set_option maxRecDepth 20000 in
theorem ggL_law_X10_judge : GoodIn wsL_law wsX10_judge := goodIn_r _ [1000, 136, 144, 137, 135, 472, 473, 474, 5, 475, 220, 160, 161, 162, 1001, 1002, 1003, 1004, 723, 724, 725, 726, 117, 727, 728, 729, 730, 545, 546, 547, 548, 114, 731, 732, 733, 734, 110, 661, 662, 663, 664, 116, 115, 665, 1140, 1141, 1142, 1143, 1144, 1145, 1146, 1147, 1148, 1149, 1150, 1151, 1152, 1153, 1154, 1155, 1156, 1157, 1158, 1159, 1160, 1161, 1162, 1163, 1164, 1165, 1166, 1167, 1168, 1169, 1170, 1171, 1172, 1173, 1174, 1175, 1176, 1177, 1178, 1179, 1180, 1181, 1182, 1183, 1184, 1185, 1186] (by decide +kernel) (by decide +kernel)
set_option maxRecDepth 20000 in
theorem gL_law_X10_judge : GoodIn wsL_law (wsV RL 127 RX10 yX10_judge wsX10_judge) := goodIn_app (goodIn_of _ (by decide +kernel)) ggL_law_X10_judge
set_option maxRecDepth 20000 in
theorem ggL_law_X9_image : GoodIn wsL_law wsX9_image := goodIn_r _ [1008, 26, 25, 35, 243, 1009, 1010, 1011, 24, 1012, 59, 197, 198, 199, 200, 60, 70, 72, 73, 74, 62, 66, 67, 68, 1013, 945, 946, 29, 947, 78, 948, 79, 80, 81, 82, 83, 84, 85, 86, 1014, 1015, 1016, 65, 1017, 91, 1018, 212, 213, 214, 1019, 893, 894, 895, 93, 1020, 897, 898, 899, 94, 1021, 876, 877, 878, 1131, 1132, 1133, 1134, 1135, 1136, 1137, 1138, 1139, 1192, 1193, 1194, 1195, 1196, 1197, 1198, 1199, 1200, 1201, 1202, 1203, 1204, 1205, 1206, 1207, 1208, 1209, 1210, 1211, 1215, 1216, 1217] (by decide +kernel) (by decide +kernel)
set_option maxRecDepth 20000 in
theorem gL_law_X9_image : GoodIn wsL_law (wsV RL 128 RX9 yX9_image wsX9_image) := goodIn_app (goodIn_of _ (by decide +kernel)) ggL_law_X9_image
set_option maxRecDepth 20000 in
theorem ggL_law_X10_image : GoodIn wsL_law wsX10_image := goodIn_r _ [1025, 1026, 1027, 1028, 1029, 5, 1030, 1031, 1032, 220, 221, 105, 106, 143, 144, 222, 223, 224, 107, 108, 109, 110, 111, 112, 113, 114, 115, 116, 117, 118, 119, 120, 121, 122, 123, 124, 125, 126, 127, 1033, 1034, 1035, 1036, 129, 1037, 1038, 1039, 1040, 1041, 1042, 1043, 1044, 1140, 1141, 1142, 1143, 1144, 1145, 1146, 1147, 1148, 1149, 1150, 1151, 1152, 1153, 1154, 1155, 1156, 1157, 1158, 1159, 1160, 1161, 1162, 1163, 1164, 1165, 1166, 1167, 1168, 1169, 1170, 1171, 1172, 1173, 1174, 1175, 1176, 1177, 1178, 1179, 1180, 1181, 1182, 1183, 1184, 1185, 1186] (by decide +kernel) (by decide +kernel)
set_option maxRecDepth 20000 in
theorem gL_law_X10_image : GoodIn wsL_law (wsV RL 131 RX10 yX10_image wsX10_image) := goodIn_app (goodIn_of _ (by decide +kernel)) ggL_law_X10_image
set_option maxRecDepth 20000 in
theorem ggL_law_X9_undo : GoodIn wsL_law wsX9_undo := goodIn_r _ [1048, 35, 25, 26, 243, 1009, 1010, 1011, 24, 1012, 59, 197, 198, 199, 200, 60, 70, 72, 73, 74, 62, 66, 67, 68, 1013, 945, 946, 29, 947, 78, 948, 79, 80, 81, 82, 83, 84, 85, 86, 1014, 1015, 1016, 65, 1017, 91, 1018, 212, 213, 214, 1019, 893, 894, 895, 93, 1020, 897, 898, 899, 94, 1021, 876, 877, 878, 1131, 1132, 1133, 1134, 1135, 1136, 1137, 1138, 1139, 1192, 1193, 1194, 1195, 1196, 1197, 1198, 1199, 1200, 1201, 1202, 1203, 1204, 1205, 1206, 1207, 1208, 1209, 1210, 1211, 1215, 1216, 1217] (by decide +kernel) (by decide +kernel)
set_option maxRecDepth 20000 in
theorem gL_law_X9_undo : GoodIn wsL_law (wsV RL 132 RX9 yX9_undo wsX9_undo) := goodIn_app (goodIn_of _ (by decide +kernel)) ggL_law_X9_undo
set_option maxRecDepth 20000 in
theorem ggL_law_X10_undo : GoodIn wsL_law wsX10_undo := goodIn_r _ [1052, 1026, 1027, 1028, 1029, 5, 1030, 1031, 1032, 220, 221, 105, 106, 143, 144, 222, 223, 224, 107, 108, 109, 110, 111, 112, 113, 114, 115, 116, 117, 118, 119, 120, 121, 122, 123, 124, 125, 126, 127, 1033, 1034, 1035, 1036, 129, 1037, 1038, 1039, 1040, 1041, 1042, 1043, 1044, 1140, 1141, 1142, 1143, 1144, 1145, 1146, 1147, 1148, 1149, 1150, 1151, 1152, 1153, 1154, 1155, 1156, 1157, 1158, 1159, 1160, 1161, 1162, 1163, 1164, 1165, 1166, 1167, 1168, 1169, 1170, 1171, 1172, 1173, 1174, 1175, 1176, 1177, 1178, 1179, 1180, 1181, 1182, 1183, 1184, 1185, 1186] (by decide +kernel) (by decide +kernel)
set_option maxRecDepth 20000 in
theorem gL_law_X10_undo : GoodIn wsL_law (wsV RL 135 RX10 yX10_undo wsX10_undo) := goodIn_app (goodIn_of _ (by decide +kernel)) ggL_law_X10_undo
set_option maxRecDepth 20000 in
theorem ggL_law_X9_taken : GoodIn wsL_law wsX9_taken := goodIn_r _ [1056, 554, 25, 713, 714, 715, 2, 716, 480, 463, 464, 465, 24, 466, 72, 717, 626, 627, 29, 628, 85, 83, 555, 517, 518, 519, 73, 70, 565, 521, 522, 246, 523, 256, 497, 498, 499, 500, 62, 501, 74, 502, 503, 504, 505, 506, 60, 507, 508, 509, 510, 71, 511, 512, 513, 514, 515, 202, 203, 204, 205, 516, 520, 1219, 1220, 1221, 1222, 1131, 1132, 1133, 1134, 1135, 1136, 1137, 1138, 1139, 1192, 1193, 1194, 1195, 1196, 1197, 1198, 1199, 1200, 1201, 1202, 1203, 1204, 1205, 1206, 1207, 1208, 1209, 1210, 1211, 1218] (by decide +kernel) (by decide +kernel)
set_option maxRecDepth 20000 in
theorem gL_law_X9_taken : GoodIn wsL_law (wsV RL 136 RX9 yX9_taken wsX9_taken) := goodIn_app (goodIn_of _ (by decide +kernel)) ggL_law_X9_taken
set_option maxRecDepth 20000 in
theorem ggL_law_X10_taken : GoodIn wsL_law wsX10_taken := goodIn_r _ [1060, 471, 110, 160, 161, 5, 162, 723, 724, 725, 726, 117, 727, 728, 729, 730, 144, 472, 473, 474, 475, 220, 545, 546, 547, 548, 114, 1140, 1141, 1142, 1143, 1144, 1145, 1146, 1147, 1148, 1149, 1150, 1151, 1152, 1153, 1154, 1155, 1156, 1157, 1158, 1159, 1160, 1161, 1162, 1163, 1164, 1165, 1166, 1167, 1168, 1169, 1170, 1171, 1172, 1173, 1174, 1175, 1176, 1177, 1178, 1179, 1180, 1181, 1182, 1183, 1184, 1185, 1186] (by decide +kernel) (by decide +kernel)
set_option maxRecDepth 20000 in
theorem gL_law_X10_taken : GoodIn wsL_law (wsV RL 139 RX10 yX10_taken wsX10_taken) := goodIn_app (goodIn_of _ (by decide +kernel)) ggL_law_X10_taken
set_option maxRecDepth 20000 in
theorem ggL_law_X9_count : GoodIn wsL_law wsX9_count := goodIn_r _ [1064, 25, 243, 873, 891, 934, 965, 16, 149, 1131, 1132, 1133, 1134, 1135, 1136, 1137, 1138, 1139, 1192, 1193, 1194, 1195, 1196, 1197, 1198, 1199, 1200, 1201, 1202, 1215, 1216, 1217, 1187, 1188] (by decide +kernel) (by decide +kernel)
set_option maxRecDepth 20000 in
theorem gL_law_X9_count : GoodIn wsL_law (wsV RL 140 RX9 yX9_count wsX9_count) := goodIn_app (goodIn_of _ (by decide +kernel)) ggL_law_X9_count
set_option maxRecDepth 20000 in
theorem ggL_law_X10_count : GoodIn wsL_law wsX10_count := goodIn_r _ [1068, 221, 222, 223, 224, 159, 1140, 1141, 1142, 1143, 1144, 1145, 1146, 1147, 1148, 1149, 1150, 1151, 1152, 1153, 1154, 1155, 1156, 1157, 1158, 1159, 1160, 1161, 1162, 1163, 1164, 1165, 1166, 1167, 1168, 1169, 1170, 1171, 1172, 1173, 1174, 1175, 1176, 1177, 1178, 1179, 1180, 1181, 1182, 1183, 1184, 1185, 1186] (by decide +kernel) (by decide +kernel)
set_option maxRecDepth 20000 in
theorem gL_law_X10_count : GoodIn wsL_law (wsV RL 143 RX10 yX10_count wsX10_count) := goodIn_app (goodIn_of _ (by decide +kernel)) ggL_law_X10_count
set_option maxRecDepth 20000 in
theorem ggL_law_X9_tape : GoodIn wsL_law wsX9_tape := goodIn_r _ [1072, 984, 985, 986, 2, 987, 34, 1073, 1074, 1075, 37, 1076, 99, 1077, 1078, 45, 1079, 1080, 44, 46, 100, 98, 1081, 1082, 204, 1083, 1131, 1132, 1133, 1134, 1135, 1136, 1137, 1138, 1139, 1212, 1213, 1214] (by decide +kernel) (by decide +kernel)
set_option maxRecDepth 20000 in
theorem gL_law_X9_tape : GoodIn wsL_law (wsV RL 144 RX9 yX9_tape wsX9_tape) := goodIn_app (goodIn_of _ (by decide +kernel)) ggL_law_X9_tape
set_option maxRecDepth 20000 in
theorem ggL_law_X10_tape : GoodIn wsL_law wsX10_tape := goodIn_r _ [1087, 1088, 471, 136, 137, 135, 1001, 1002, 5, 1003, 1004, 160, 161, 162, 1140, 1141, 1142, 1143, 1144, 1145, 1146, 1147, 1148, 1149, 1150, 1151, 1152, 1153, 1154, 1155, 1156, 1157, 1158, 1159, 1160, 1161, 1162, 1163, 1164, 1165, 1166, 1167, 1168, 1169, 1170, 1171, 1172, 1173, 1174, 1175, 1176, 1177, 1178, 1179, 1180, 1181, 1182, 1183, 1184, 1185, 1186] (by decide +kernel) (by decide +kernel)
set_option maxRecDepth 20000 in
theorem gL_law_X10_tape : GoodIn wsL_law (wsV RL 147 RX10 yX10_tape wsX10_tape) := goodIn_app (goodIn_of _ (by decide +kernel)) ggL_law_X10_tape
set_option maxRecDepth 20000 in
theorem ggL_law_X9_item : GoodIn wsL_law wsX9_item := goodIn_r _ [1092, 982, 984, 985, 986, 2, 987, 34, 1093, 994, 995, 37, 996, 100, 98, 1094, 1095, 1096, 1097, 993, 1098, 1099, 1100, 1101, 99, 1212, 1213, 1214, 1131, 1132, 1133, 1134, 1135, 1136, 1137, 1138, 1139] (by decide +kernel) (by decide +kernel)
set_option maxRecDepth 20000 in
theorem gL_law_X9_item : GoodIn wsL_law (wsV RL 150 RX9 yX9_item wsX9_item) := goodIn_app (goodIn_of _ (by decide +kernel)) ggL_law_X9_item
set_option maxRecDepth 20000 in
theorem ggL_law_X10_item : GoodIn wsL_law wsX10_item := goodIn_r _ [1105, 136, 137, 135, 1001, 1002, 5, 1003, 1004, 160, 161, 162, 1106, 1107, 1108, 1140, 1141, 1142, 1143, 1144, 1145, 1146, 1147, 1148, 1149, 1150, 1151, 1152, 1153, 1154, 1155, 1156, 1157, 1158, 1159, 1160, 1161, 1162, 1163, 1164, 1165, 1166, 1167, 1168, 1169, 1170, 1171, 1172, 1173, 1174, 1175, 1176, 1177, 1178, 1179, 1180, 1181, 1182, 1183, 1184, 1185, 1186] (by decide +kernel) (by decide +kernel)
set_option maxRecDepth 20000 in
theorem gL_law_X10_item : GoodIn wsL_law (wsV RL 154 RX10 yX10_item wsX10_item) := goodIn_app (goodIn_of _ (by decide +kernel)) ggL_law_X10_item
set_option maxRecDepth 20000 in
theorem ggL_law_X9_read : GoodIn wsL_law wsX9_read := goodIn_r _ [1112, 712, 984, 985, 986, 2, 987, 34, 1093, 994, 995, 37, 996, 100, 98, 988, 989, 990, 991, 992, 993, 1131, 1132, 1133, 1134, 1135, 1136, 1137, 1138, 1139, 1212, 1213, 1214] (by decide +kernel) (by decide +kernel)
set_option maxRecDepth 20000 in
theorem gL_law_X9_read : GoodIn wsL_law (wsV RL 155 RX9 yX9_read wsX9_read) := goodIn_app (goodIn_of _ (by decide +kernel)) ggL_law_X9_read
set_option maxRecDepth 20000 in
theorem ggL_law_X10_read : GoodIn wsL_law wsX10_read := goodIn_r _ [1116, 136, 137, 135, 417, 1001, 1002, 5, 1003, 1004, 160, 161, 162, 1140, 1141, 1142, 1143, 1144, 1145, 1146, 1147, 1148, 1149, 1150, 1151, 1152, 1153, 1154, 1155, 1156, 1157, 1158, 1159, 1160, 1161, 1162, 1163, 1164, 1165, 1166, 1167, 1168, 1169, 1170, 1171, 1172, 1173, 1174, 1175, 1176, 1177, 1178, 1179, 1180, 1181, 1182, 1183, 1184, 1185, 1186] (by decide +kernel) (by decide +kernel)
set_option maxRecDepth 20000 in
theorem gL_law_X10_read : GoodIn wsL_law (wsV RL 158 RX10 yX10_read wsX10_read) := goodIn_app (goodIn_of _ (by decide +kernel)) ggL_law_X10_read
set_option maxRecDepth 20000 in
theorem ggL_law_X9_shift : GoodIn wsL_law wsX9_shift := goodIn_r _ [1120, 982, 1121, 1122, 198, 199, 200, 984, 985, 986, 2, 987, 34, 1123, 1124, 1125, 37, 1126, 100, 1212, 1213, 1214, 1131, 1132, 1133, 1134, 1135, 1136, 1137, 1138, 1139] (by decide +kernel) (by decide +kernel)
set_option maxRecDepth 20000 in
theorem gL_law_X9_shift : GoodIn wsL_law (wsV RL 159 RX9 yX9_shift wsX9_shift) := goodIn_app (goodIn_of _ (by decide +kernel)) ggL_law_X9_shift
set_option maxRecDepth 20000 in
theorem ggL_law_X10_shift : GoodIn wsL_law wsX10_shift := goodIn_r _ [1130, 136, 137, 138, 135, 1001, 1002, 5, 1003, 1004, 160, 161, 162, 1140, 1141, 1142, 1143, 1144, 1145, 1146, 1147, 1148, 1149, 1150, 1151, 1152, 1153, 1154, 1155, 1156, 1157, 1158, 1159, 1160, 1161, 1162, 1163, 1164, 1165, 1166, 1167, 1168, 1169, 1170, 1171, 1172, 1173, 1174, 1175, 1176, 1177, 1178, 1179, 1180, 1181, 1182, 1183, 1184, 1185, 1186] (by decide +kernel) (by decide +kernel)
set_option maxRecDepth 20000 in
theorem gL_law_X10_shift : GoodIn wsL_law (wsV RL 163 RX10 yX10_shift wsX10_shift) := goodIn_app (goodIn_of _ (by decide +kernel)) ggL_law_X10_shift
