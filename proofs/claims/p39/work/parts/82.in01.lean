set_option maxRecDepth 100000 in
theorem in_wsL_law_r34 : ∀ w ∈ wsL_law_r34, w ∈ lw_tbl := fun w h => (goodIn_r wsL_law_r34 [19, 847, 1429, 1430, 1431, 1432, 1433, 1435, 65, 1436, 1437, 1439, 66, 1440, 1441, 1443, 67, 1444, 848, 849, 850, 851, 852, 853] (by decide +kernel) (by decide +kernel) w h).1
set_option maxRecDepth 100000 in
theorem in_wsL_law_r35 : ∀ w ∈ wsL_law_r35, w ∈ lw_tbl := fun w h => (goodIn_r wsL_law_r35 [854, 855, 856, 857, 861, 862, 863, 858, 859, 860, 1445, 1446, 1447, 1448, 1449, 1450, 1451, 1452, 1453, 1454, 864, 865, 866, 867] (by decide +kernel) (by decide +kernel) w h).1
set_option maxRecDepth 100000 in
theorem in_wsL_law_r36 : ∀ w ∈ wsL_law_r36, w ∈ lw_tbl := fun w h => (goodIn_r wsL_law_r36 [868, 870, 20, 871, 872, 873, 874, 875, 876, 878, 21, 879, 880, 881, 882, 883, 1455, 1456, 1457, 1458, 1459, 1461, 68, 1462] (by decide +kernel) (by decide +kernel) w h).1
set_option maxRecDepth 100000 in
theorem in_wsL_law_r37 : ∀ w ∈ wsL_law_r37, w ∈ lw_tbl := fun w h => (goodIn_r wsL_law_r37 [1463, 1465, 69, 1466, 884, 885, 886, 887, 423, 1467, 1468, 1469, 1470, 888, 889, 890, 891, 431, 412, 892, 893, 894, 895, 896] (by decide +kernel) (by decide +kernel) w h).1
set_option maxRecDepth 100000 in
theorem in_wsL_law_r38 : ∀ w ∈ wsL_law_r38, w ∈ lw_tbl := fun w h => (goodIn_r wsL_law_r38 [1471, 1472, 1473, 1474, 1475, 1477, 70, 1478, 897, 898, 899, 900, 901, 902, 903, 904, 905, 906, 1479, 1480, 1481, 1482, 1483, 1484] (by decide +kernel) (by decide +kernel) w h).1
set_option maxRecDepth 100000 in
theorem in_wsL_law_r39 : ∀ w ∈ wsL_law_r39, w ∈ lw_tbl := fun w h => (goodIn_r wsL_law_r39 [1485, 1486, 1488, 71, 1489, 907, 908, 909, 910, 911, 913, 22, 914, 1490, 1491, 1492, 1493, 915, 916, 917, 918, 919, 920, 921] (by decide +kernel) (by decide +kernel) w h).1
set_option maxRecDepth 100000 in
theorem in_wsL_law_r40 : ∀ w ∈ wsL_law_r40, w ∈ lw_tbl := fun w h => (goodIn_r wsL_law_r40 [922, 923, 925, 23, 926, 1494, 1495, 1496, 1497, 927, 928, 929, 930, 931, 933, 24, 934, 1506, 1507, 1508, 1509, 1510, 1131, 1515] (by decide +kernel) (by decide +kernel) w h).1
set_option maxRecDepth 100000 in
theorem in_wsL_law_r41 : ∀ w ∈ wsL_law_r41, w ∈ lw_tbl := fun w h => (goodIn_r wsL_law_r41 [1511, 1513, 73, 1514, 1130, 1516, 1518, 74, 1519, 935, 936, 937, 938, 1520, 1521, 1522, 1523, 939, 940, 941, 942, 325, 943, 944] (by decide +kernel) (by decide +kernel) w h).1
set_option maxRecDepth 100000 in
theorem in_wsL_law_r42 : ∀ w ∈ wsL_law_r42, w ∈ lw_tbl := fun w h => (goodIn_r wsL_law_r42 [945, 946, 297, 295, 947, 949, 25, 950, 292, 279, 284, 287, 290, 951, 953, 26, 954, 281, 955, 956, 957, 958, 293, 296] (by decide +kernel) (by decide +kernel) w h).1
set_option maxRecDepth 100000 in
theorem in_wsL_law_r43 : ∀ w ∈ wsL_law_r43, w ∈ lw_tbl := fun w h => (goodIn_r wsL_law_r43 [1285, 1286, 1287, 1288, 1289, 1291, 44, 1292, 1293, 1295, 45, 1296, 960, 961, 962, 963, 964, 966, 27, 967, 968, 969, 970, 971] (by decide +kernel) (by decide +kernel) w h).1
set_option maxRecDepth 100000 in
theorem in_wsL_law_r44 : ∀ w ∈ wsL_law_r44, w ∈ lw_tbl := fun w h => (goodIn_r wsL_law_r44 [429, 481, 482, 972, 974, 28, 975, 411, 283, 286, 976, 977, 978, 428, 294, 289, 984, 979, 980, 981, 982, 187, 184, 983] (by decide +kernel) (by decide +kernel) w h).1
set_option maxRecDepth 100000 in
theorem in_wsL_law_r45 : ∀ w ∈ wsL_law_r45, w ∈ lw_tbl := fun w h => (goodIn_r wsL_law_r45 [986, 987, 988, 989, 990, 991, 992, 994, 29, 995, 996, 998, 30, 999, 1000, 1001, 1003, 31, 1004, 1005, 1007, 32, 1008, 1009] (by decide +kernel) (by decide +kernel) w h).1
set_option maxRecDepth 100000 in
theorem in_wsL_law_r46 : ∀ w ∈ wsL_law_r46, w ∈ lw_tbl := fun w h => (goodIn_r wsL_law_r46 [1010, 1011, 1013, 33, 1014, 1015, 1016, 1017, 1018, 1524, 1525, 1526, 1527, 1528, 1530, 75, 1531, 1532, 1534, 76, 1535, 1536, 1538, 77] (by decide +kernel) (by decide +kernel) w h).1
set_option maxRecDepth 100000 in
theorem in_wsL_law_r47 : ∀ w ∈ wsL_law_r47, w ∈ lw_tbl := fun w h => (goodIn_r wsL_law_r47 [1539, 1540, 1542, 78, 1543, 1544, 1546, 79, 1547, 1548, 1549, 1550, 1551, 1553, 80, 1554, 1555, 1557, 81, 1558, 1559, 1561, 82, 1562] (by decide +kernel) (by decide +kernel) w h).1
set_option maxRecDepth 100000 in
theorem in_wsL_law_r48 : ∀ w ∈ wsL_law_r48, w ∈ lw_tbl := fun w h => (goodIn_r wsL_law_r48 [1563, 1565, 83, 1566, 1019, 1020, 1021, 1022, 1023, 1024, 1025, 1026, 201, 190, 1027, 1029, 1567, 1568, 1569, 1570, 1030, 1031, 1032, 1033] (by decide +kernel) (by decide +kernel) w h).1
set_option maxRecDepth 100000 in
theorem in_wsL_law_r49 : ∀ w ∈ wsL_law_r49, w ∈ lw_tbl := fun w h => (goodIn_r wsL_law_r49 [1034, 1035, 1036, 1037, 1038, 1571, 1572, 1573, 1574, 1575, 1039, 1040, 1041, 1042, 327, 329, 1576, 1577, 1578, 1579, 1580, 1581, 1043, 1044] (by decide +kernel) (by decide +kernel) w h).1
set_option maxRecDepth 100000 in
theorem in_wsL_law_r50 : ∀ w ∈ wsL_law_r50, w ∈ lw_tbl := fun w h => (goodIn_r wsL_law_r50 [1045, 1046, 1047, 1048, 1049, 1050, 332, 1582, 1583, 1584, 1585, 1586, 1588, 84, 1589, 1052, 1053, 1054, 1055, 511, 1056, 1057, 1058, 1059] (by decide +kernel) (by decide +kernel) w h).1
set_option maxRecDepth 100000 in
theorem in_wsL_law_r51 : ∀ w ∈ wsL_law_r51, w ∈ lw_tbl := fun w h => (goodIn_r wsL_law_r51 [330, 1060, 1061, 1062, 1063, 1065, 1066, 1067, 1068, 1069, 1071, 1072, 1073, 1074, 1076, 1590, 1591, 1592, 1593, 1134, 1078, 1079, 1080, 1081] (by decide +kernel) (by decide +kernel) w h).1
set_option maxRecDepth 100000 in
theorem in_wsL_law_r52 : ∀ w ∈ wsL_law_r52, w ∈ lw_tbl := fun w h => (goodIn_r wsL_law_r52 [1594, 1595, 1596, 1597, 1082, 1083, 1084, 1085, 1086, 1087, 1088, 1089, 1090, 1091, 1092, 1598, 1599, 1600, 1601, 1093, 1094, 1095, 1096, 391] (by decide +kernel) (by decide +kernel) w h).1
set_option maxRecDepth 100000 in
theorem in_wsL_law_r53 : ∀ w ∈ wsL_law_r53, w ∈ lw_tbl := fun w h => (goodIn_r wsL_law_r53 [389, 1602, 1603, 1604, 1605, 1097, 1098, 1099, 1100, 1101, 1102, 1103, 1104, 1606, 1607, 1608, 1609] (by decide +kernel) (by decide +kernel) w h).1
set_option maxRecDepth 100000 in
theorem in_wsX100 : ∀ w ∈ wsX100, w ∈ lw_tbl := fun w h => (goodIn_r wsX100 [512, 514, 516, 518, 520, 522, 524, 526, 528, 530] (by decide +kernel) (by decide +kernel) w h).1
set_option maxRecDepth 100000 in
theorem in_wsX110 : ∀ w ∈ wsX110, w ∈ lw_tbl := fun w h => (goodIn_r wsX110 [1139, 1141, 1143, 1145, 1147, 1149, 1151, 1153, 1155, 1157, 1159, 1161, 1163, 1165, 1167, 1169, 1171, 1173, 1175, 1177, 1179, 1181, 1183, 1185, 1187, 1189, 1191, 1193] (by decide +kernel) (by decide +kernel) w h).1
set_option maxRecDepth 100000 in
theorem in_wsX80 : ∀ w ∈ wsX80, w ∈ lw_tbl := fun w h => (goodIn_r wsX80 [334, 336, 338, 340, 342, 344, 346, 348, 350] (by decide +kernel) (by decide +kernel) w h).1
set_option maxRecDepth 100000 in
theorem in_wsX60 : ∀ w ∈ wsX60, w ∈ lw_tbl := fun w h => (goodIn_r wsX60 [365, 367, 369, 371] (by decide +kernel) (by decide +kernel) w h).1
set_option maxRecDepth 100000 in
theorem in_wsX40 : ∀ w ∈ wsX40, w ∈ lw_tbl := fun w h => (goodIn_r wsX40 [163, 165, 167, 169, 171, 173] (by decide +kernel) (by decide +kernel) w h).1
set_option maxRecDepth 100000 in
theorem in_wsX10 : ∀ w ∈ wsX10, w ∈ lw_tbl := fun w h => (goodIn_r wsX10 [298, 300, 302, 304, 306, 308, 310, 312] (by decide +kernel) (by decide +kernel) w h).1
set_option maxRecDepth 100000 in
theorem in_wsX70 : ∀ w ∈ wsX70, w ∈ lw_tbl := fun w h => (goodIn_r wsX70 [392, 394, 396, 398] (by decide +kernel) (by decide +kernel) w h).1
set_option maxRecDepth 100000 in
theorem in_wsX90 : ∀ w ∈ wsX90, w ∈ lw_tbl := fun w h => (goodIn_r wsX90 [434, 436, 438, 440, 442, 444, 446, 448, 450, 452, 454, 456, 458, 460, 462, 464] (by decide +kernel) (by decide +kernel) w h).1
set_option maxRecDepth 100000 in
theorem in_wsX50 : ∀ w ∈ wsX50, w ∈ lw_tbl := fun w h => (goodIn_r wsX50 [483, 485, 487, 489, 491, 493, 495, 497, 499] (by decide +kernel) (by decide +kernel) w h).1
set_option maxRecDepth 100000 in
theorem in_wsX30 : ∀ w ∈ wsX30, w ∈ lw_tbl := fun w h => (goodIn_r wsX30 [136, 138, 140] (by decide +kernel) (by decide +kernel) w h).1
set_option maxRecDepth 100000 in
theorem in_wsX00 : ∀ w ∈ wsX00, w ∈ lw_tbl := fun w h => (goodIn_r wsX00 [212, 214, 216, 218, 220, 222, 224, 226, 228, 230, 232] (by decide +kernel) (by decide +kernel) w h).1
set_option maxRecDepth 100000 in
theorem in_wsX20 : ∀ w ∈ wsX20, w ∈ lw_tbl := fun w h => (goodIn_r wsX20 [256, 258, 260, 262, 264, 266, 268] (by decide +kernel) (by decide +kernel) w h).1
