set_option maxRecDepth 100000 in
theorem ggL_law_X10_looked_h : GoodIn wsL_law [.code yX10_looked cX10_looked 11 (some .int)] := goodIn_r _ [1151] (by decide +kernel) (by decide +kernel)
set_option maxRecDepth 100000 in
theorem ggL_law_X10_looked_0 : GoodIn wsL_law wsX10_looked_r1 := goodIn_r _ [16, 446, 642, 981, 43, 1024, 1025, 1026, 2, 1027, 617, 178, 179, 180, 449, 450, 451, 623, 624, 625, 55, 626, 456, 627] (by decide +kernel) (by decide +kernel)
set_option maxRecDepth 100000 in
theorem ggL_law_X10_looked_1 : GoodIn wsL_law wsX10_looked_r2 := goodIn_r _ [515, 516, 517, 84, 643, 644, 645, 646, 39, 447, 37, 647, 648, 649, 59, 650, 472, 95, 100, 651, 652, 653, 654, 655] (by decide +kernel) (by decide +kernel)
set_option maxRecDepth 100000 in
theorem ggL_law_X10_looked_2 : GoodIn wsL_law wsX10_looked_r3 := goodIn_r _ [656, 657, 36, 658, 659, 660, 661, 662, 663, 664, 665, 666, 667, 668, 122, 121, 123, 124, 125, 126, 127, 669, 670, 671] (by decide +kernel) (by decide +kernel)
set_option maxRecDepth 100000 in
theorem ggL_law_X10_looked_3 : GoodIn wsL_law wsX10_looked_r4 := goodIn_r _ [672, 673, 674, 675, 676, 677, 678, 250, 251, 252, 679, 680, 681, 682, 683, 684, 685, 686, 687, 344, 345, 688, 689, 690] (by decide +kernel) (by decide +kernel)
set_option maxRecDepth 100000 in
theorem ggL_law_X10_looked_4 : GoodIn wsL_law wsX10_looked_r5 := goodIn_r _ [691, 692, 130, 133, 693, 694, 695, 696, 697, 698, 699, 700, 701, 702, 703, 704, 705, 706, 707, 708, 709, 710, 711, 712] (by decide +kernel) (by decide +kernel)
set_option maxRecDepth 100000 in
theorem ggL_law_X10_looked_5 : GoodIn wsL_law wsX10_looked_r6 := goodIn_r _ [713, 714, 715, 131, 716, 717, 718, 719, 720, 721, 722, 723, 1152, 1153, 1154, 28, 1155, 1006, 107, 1156, 1028, 1029, 1030, 42] (by decide +kernel) (by decide +kernel)
set_option maxRecDepth 100000 in
theorem ggL_law_X10_looked_6 : GoodIn wsL_law wsX10_looked_r7 := goodIn_r _ [1031, 1032, 144, 1033, 1034, 143, 1035, 1036, 1037, 1038, 139, 1039, 140, 141, 1040, 1041, 142, 1042, 1043, 1044, 1045, 1046, 1047, 1048] (by decide +kernel) (by decide +kernel)
set_option maxRecDepth 100000 in
theorem ggL_law_X10_looked_7 : GoodIn wsL_law wsX10_looked_r8 := goodIn_r _ [1049, 1050, 1051, 1052, 104, 1053, 105, 1054, 1055, 1056, 1057, 1058, 1059, 1060, 1061, 1062, 1063, 1064, 1065, 1066, 1067, 1068, 1069, 1070] (by decide +kernel) (by decide +kernel)
set_option maxRecDepth 100000 in
theorem ggL_law_X10_looked_8 : GoodIn wsL_law wsX10_looked_r9 := goodIn_r _ [1071, 1072, 1073, 1074, 145, 1075, 1076, 1077, 1078, 1079, 359, 360, 361, 1080, 1081, 1082, 1083, 1084, 1085, 1086, 1087, 1088, 108, 109] (by decide +kernel) (by decide +kernel)
set_option maxRecDepth 100000 in
theorem ggL_law_X10_looked_9 : GoodIn wsL_law wsX10_looked_r10 := goodIn_r _ [1007] (by decide +kernel) (by decide +kernel)
set_option maxRecDepth 100000 in
theorem ggL_law_X10_looked_10 : GoodIn wsL_law wsX100 := goodIn_r _ [1265, 1266, 1267, 1268, 1269, 1270, 1271, 1272, 1273, 1274] (by decide +kernel) (by decide +kernel)
set_option maxRecDepth 100000 in
theorem ggL_law_X10_looked_11 : GoodIn wsL_law wsX80 := goodIn_r _ [1303, 1304, 1305, 1306, 1307, 1308, 1309, 1310, 1311] (by decide +kernel) (by decide +kernel)
set_option maxRecDepth 100000 in
theorem ggL_law_X10_looked_12 : GoodIn wsL_law wsX90 := goodIn_r _ [1334, 1335, 1336, 1337, 1338, 1339, 1340, 1341, 1342, 1343, 1344, 1345, 1346, 1347, 1348, 1349] (by decide +kernel) (by decide +kernel)
set_option maxRecDepth 100000 in
theorem ggL_law_X10_looked_13 : GoodIn wsL_law wsX00 := goodIn_r _ [1362, 1363, 1364, 1365, 1366, 1367, 1368, 1369, 1370, 1371, 1372] (by decide +kernel) (by decide +kernel)
set_option maxRecDepth 100000 in
theorem ggL_law_X10_looked_14 : GoodIn wsL_law wsX20 := goodIn_r _ [1373, 1374, 1375, 1376, 1377, 1378, 1379] (by decide +kernel) (by decide +kernel)
set_option maxRecDepth 100000 in
theorem ggL_law_X10_looked_15 : GoodIn wsL_law wsX10 := goodIn_r _ [1322, 1323, 1324, 1325, 1326, 1327, 1328, 1329] (by decide +kernel) (by decide +kernel)
set_option maxRecDepth 100000 in
theorem ggL_law_X10_looked_16 : GoodIn wsL_law wsX50 := goodIn_r _ [1350, 1351, 1352, 1353, 1354, 1355, 1356, 1357, 1358] (by decide +kernel) (by decide +kernel)
set_option maxRecDepth 100000 in
theorem ggL_law_X10_looked : GoodIn wsL_law wsX10_looked := goodIn_app (a := [.code yX10_looked cX10_looked 11 (some .int)]) ggL_law_X10_looked_h (goodIn_app (goodIn_app (goodIn_app (goodIn_app (goodIn_app (goodIn_app (goodIn_app (goodIn_app ggL_law_X10_looked_0 (goodIn_app ggL_law_X10_looked_1 (goodIn_app ggL_law_X10_looked_2 (goodIn_app ggL_law_X10_looked_3 (goodIn_app ggL_law_X10_looked_4 (goodIn_app ggL_law_X10_looked_5 (goodIn_app ggL_law_X10_looked_6 (goodIn_app ggL_law_X10_looked_7 (goodIn_app ggL_law_X10_looked_8 ggL_law_X10_looked_9))))))))) ggL_law_X10_looked_10) ggL_law_X10_looked_11) ggL_law_X10_looked_12) ggL_law_X10_looked_13) ggL_law_X10_looked_14) ggL_law_X10_looked_15) ggL_law_X10_looked_16)
set_option maxRecDepth 20000 in
theorem gL_law_X10_looked : GoodIn wsL_law (wsV RL 159 RX10 yX10_looked wsX10_looked) := goodIn_app (goodIn_of _ (by decide +kernel)) ggL_law_X10_looked
