set_option maxRecDepth 100000 in
theorem in_wsL_law_r1 : ∀ w ∈ wsL_law_r1, w ∈ lw_tbl := fun w h => (goodIn_r wsL_law_r1 [103, 104, 87, 1105, 1106, 98, 1623, 105, 106, 107, 108, 109, 110, 111, 112, 88, 502, 503, 353, 354, 94, 504, 374, 145] (by decide +kernel) (by decide +kernel) w h).1
set_option maxRecDepth 100000 in
theorem in_wsL_law_r2 : ∀ w ∈ wsL_law_r2, w ∈ lw_tbl := fun w h => (goodIn_r wsL_law_r2 [90, 505, 376, 273, 93, 506, 378, 380, 95, 507, 401, 403, 96, 508, 315, 509, 468, 469, 97, 510, 114, 115, 116, 117] (by decide +kernel) (by decide +kernel) w h).1
set_option maxRecDepth 100000 in
theorem in_wsL_law_r3 : ∀ w ∈ wsL_law_r3, w ∈ lw_tbl := fun w h => (goodIn_r wsL_law_r3 [118, 89, 316, 144, 318, 176, 178, 91, 320, 235, 236, 92, 322, 271, 324, 143, 326, 328, 120, 121, 122, 123, 125, 129] (by decide +kernel) (by decide +kernel) w h).1
set_option maxRecDepth 100000 in
theorem in_wsL_law_r4 : ∀ w ∈ wsL_law_r4, w ∈ lw_tbl := fun w h => (goodIn_r wsL_law_r4 [133, 147, 148, 149, 150, 152, 154, 156, 158, 180, 181, 182, 183, 186, 189, 192, 194, 196, 198, 207, 238, 239, 240, 241] (by decide +kernel) (by decide +kernel) w h).1
set_option maxRecDepth 100000 in
theorem in_wsL_law_r5 : ∀ w ∈ wsL_law_r5, w ∈ lw_tbl := fun w h => (goodIn_r wsL_law_r5 [243, 245, 247, 249, 251, 275, 276, 277, 278, 280, 282, 285, 288, 291, 356, 357, 358, 359, 382, 383, 384, 385, 405, 406] (by decide +kernel) (by decide +kernel) w h).1
set_option maxRecDepth 100000 in
theorem in_wsL_law_r6 : ∀ w ∈ wsL_law_r6, w ∈ lw_tbl := fun w h => (goodIn_r wsL_law_r6 [407, 410, 413, 415, 416, 417, 418, 419, 408, 467, 420, 421, 422, 424, 425, 426, 471, 472, 473, 474, 475, 476, 477, 478] (by decide +kernel) (by decide +kernel) w h).1
set_option maxRecDepth 100000 in
theorem in_wsL_law_r7 : ∀ w ∈ wsL_law_r7, w ∈ lw_tbl := fun w h => (goodIn_r wsL_law_r7 [479, 480, 1107, 1108, 1109, 1110, 1111, 1112, 1116, 1119, 1120, 1121, 1122, 1123, 1124, 1125, 1127, 1128, 1129, 1132, 1133, 1135, 1136, 1137] (by decide +kernel) (by decide +kernel) w h).1
set_option maxRecDepth 100000 in
theorem in_wsL_law_r8 : ∀ w ∈ wsL_law_r8, w ∈ lw_tbl := fun w h => (goodIn_r wsL_law_r8 [1138, 533, 534, 535, 536, 317, 127, 537, 538, 539, 540, 541, 542, 543, 544, 545, 1196, 1197, 1198, 1199, 1200, 1201, 1202, 1203] (by decide +kernel) (by decide +kernel) w h).1
set_option maxRecDepth 100000 in
theorem in_wsL_law_r9 : ∀ w ∈ wsL_law_r9, w ∈ lw_tbl := fun w h => (goodIn_r wsL_law_r9 [1204, 1205, 1206, 1207, 1208, 1209, 1210, 1211, 1212, 547, 548, 549, 550, 386, 551, 552, 553, 554, 555, 556, 557, 390, 387, 388] (by decide +kernel) (by decide +kernel) w h).1
set_option maxRecDepth 100000 in
theorem in_wsL_law_r10 : ∀ w ∈ wsL_law_r10, w ∈ lw_tbl := fun w h => (goodIn_r wsL_law_r10 [1610, 1611, 1612, 1613, 1340, 1614, 1498, 1499, 1500, 1501, 1502, 1504, 72, 1505, 558, 559, 560, 561, 131, 134, 1213, 1214, 1215, 1216] (by decide +kernel) (by decide +kernel) w h).1
set_option maxRecDepth 100000 in
theorem in_wsL_law_r11 : ∀ w ∈ wsL_law_r11, w ∈ lw_tbl := fun w h => (goodIn_r wsL_law_r11 [1217, 562, 563, 564, 565, 566, 567, 568, 569, 570, 571, 99, 572, 1218, 1219, 1220, 1221, 1222, 1224, 34, 1225, 573, 574, 575] (by decide +kernel) (by decide +kernel) w h).1
set_option maxRecDepth 100000 in
theorem in_wsL_law_r12 : ∀ w ∈ wsL_law_r12, w ∈ lw_tbl := fun w h => (goodIn_r wsL_law_r12 [576, 577, 578, 579, 580, 581, 1226, 1227, 1228, 1229, 1230, 1232, 35, 1233, 582, 583, 584, 585, 361, 360, 586, 587, 588, 1246] (by decide +kernel) (by decide +kernel) w h).1
set_option maxRecDepth 100000 in
theorem in_wsL_law_r13 : ∀ w ∈ wsL_law_r13, w ∈ lw_tbl := fun w h => (goodIn_r wsL_law_r13 [1247, 1248, 1249, 1250, 1251, 1252, 1253, 1113, 589, 590, 591, 592, 319, 162, 593, 594, 595, 596, 363, 364, 161, 597, 599, 0] (by decide +kernel) (by decide +kernel) w h).1
set_option maxRecDepth 100000 in
theorem in_wsL_law_r14 : ∀ w ∈ wsL_law_r14, w ∈ lw_tbl := fun w h => (goodIn_r wsL_law_r14 [600, 153, 151, 601, 603, 1, 604, 605, 607, 2, 608, 362, 609, 611, 3, 612, 155, 157, 159, 613, 615, 4, 616, 617] (by decide +kernel) (by decide +kernel) w h).1
set_option maxRecDepth 100000 in
theorem in_wsL_law_r15 : ∀ w ∈ wsL_law_r15, w ∈ lw_tbl := fun w h => (goodIn_r wsL_law_r15 [619, 5, 620, 621, 623, 6, 624, 626, 627, 628, 629, 631, 7, 632, 633, 634, 635, 636, 160, 638, 639, 640, 641, 643] (by decide +kernel) (by decide +kernel) w h).1
set_option maxRecDepth 100000 in
theorem in_wsL_law_r16 : ∀ w ∈ wsL_law_r16, w ∈ lw_tbl := fun w h => (goodIn_r wsL_law_r16 [642, 100, 1254, 1255, 1256, 1257, 1114, 1115, 1258, 1260, 38, 1261, 1262, 1264, 39, 1265, 1284, 1266, 1268, 40, 1269, 1270, 1272, 41] (by decide +kernel) (by decide +kernel) w h).1
set_option maxRecDepth 100000 in
theorem in_wsL_law_r17 : ∀ w ∈ wsL_law_r17, w ∈ lw_tbl := fun w h => (goodIn_r wsL_law_r17 [1273, 1274, 1276, 42, 1277, 1278, 1280, 43, 1281, 1282, 1283, 644, 645, 646, 647, 648, 649, 650, 651, 130, 126, 652, 653, 655] (by decide +kernel) (by decide +kernel) w h).1
set_option maxRecDepth 100000 in
theorem in_wsL_law_r18 : ∀ w ∈ wsL_law_r18, w ∈ lw_tbl := fun w h => (goodIn_r wsL_law_r18 [8, 656, 657, 658, 101, 659, 1234, 1235, 1236, 1237, 1238, 1240, 36, 1241, 1242, 1244, 37, 1245, 660, 661, 662, 663, 664, 666] (by decide +kernel) (by decide +kernel) w h).1
set_option maxRecDepth 100000 in
theorem in_wsL_law_r19 : ∀ w ∈ wsL_law_r19, w ∈ lw_tbl := fun w h => (goodIn_r wsL_law_r19 [9, 667, 1615, 1616, 1617, 1618, 1619, 1621, 85, 1622, 668, 669, 670, 671, 321, 323, 203, 672, 673, 674, 675, 676, 677, 678] (by decide +kernel) (by decide +kernel) w h).1
set_option maxRecDepth 100000 in
theorem in_wsL_law_r20 : ∀ w ∈ wsL_law_r20, w ∈ lw_tbl := fun w h => (goodIn_r wsL_law_r20 [200, 205, 210, 135, 132, 128, 679, 680, 681, 682, 683, 684, 685, 686, 687, 688, 253, 689, 690, 691, 692, 1297, 1298, 1299] (by decide +kernel) (by decide +kernel) w h).1
set_option maxRecDepth 100000 in
theorem in_wsL_law_r21 : ∀ w ∈ wsL_law_r21, w ∈ lw_tbl := fun w h => (goodIn_r wsL_law_r21 [1300, 1301, 1302, 1303, 1304, 1306, 46, 1307, 1308, 1310, 47, 1311, 1312, 1314, 48, 1315, 1316, 1318, 49, 1319, 1320, 1322, 50, 1323] (by decide +kernel) (by decide +kernel) w h).1
set_option maxRecDepth 100000 in
theorem in_wsL_law_r22 : ∀ w ∈ wsL_law_r22, w ∈ lw_tbl := fun w h => (goodIn_r wsL_law_r22 [693, 694, 695, 696, 211, 191, 697, 699, 10, 700, 701, 702, 703, 704, 1324, 1325, 1326, 1327, 1328, 1330, 51, 1331, 1332, 1334] (by decide +kernel) (by decide +kernel) w h).1
set_option maxRecDepth 100000 in
theorem in_wsL_law_r23 : ∀ w ∈ wsL_law_r23, w ∈ lw_tbl := fun w h => (goodIn_r wsL_law_r23 [52, 1335, 705, 706, 707, 708, 709, 1336, 1337, 1338, 1339, 1341, 1342, 710, 711, 712, 713, 714, 715, 716, 717, 718, 719, 720] (by decide +kernel) (by decide +kernel) w h).1
set_option maxRecDepth 100000 in
theorem in_wsL_law_r24 : ∀ w ∈ wsL_law_r24, w ∈ lw_tbl := fun w h => (goodIn_r wsL_law_r24 [721, 1343, 1344, 1345, 1346, 722, 723, 724, 725, 185, 188, 1347, 1348, 1349, 1350, 1351, 1353, 53, 1354, 726, 727, 728, 729, 209] (by decide +kernel) (by decide +kernel) w h).1
set_option maxRecDepth 100000 in
theorem in_wsL_law_r25 : ∀ w ∈ wsL_law_r25, w ∈ lw_tbl := fun w h => (goodIn_r wsL_law_r25 [1355, 1356, 1357, 1358, 730, 731, 732, 733, 206, 734, 735, 736, 737, 1359, 1360, 1361, 1362, 738, 739, 740, 741, 255, 742, 1363] (by decide +kernel) (by decide +kernel) w h).1
set_option maxRecDepth 100000 in
theorem in_wsL_law_r26 : ∀ w ∈ wsL_law_r26, w ∈ lw_tbl := fun w h => (goodIn_r wsL_law_r26 [1364, 1365, 1366, 743, 744, 745, 746, 252, 242, 1367, 1368, 1369, 1370, 747, 748, 749, 750, 331, 333, 751, 752, 753, 754, 755] (by decide +kernel) (by decide +kernel) w h).1
set_option maxRecDepth 100000 in
theorem in_wsL_law_r27 : ∀ w ∈ wsL_law_r27, w ∈ lw_tbl := fun w h => (goodIn_r wsL_law_r27 [756, 757, 758, 759, 1371, 1372, 1373, 1374, 1375, 1377, 54, 1378, 760, 761, 762, 763, 764, 765, 433, 766, 768, 11, 769, 770] (by decide +kernel) (by decide +kernel) w h).1
set_option maxRecDepth 100000 in
theorem in_wsL_law_r28 : ∀ w ∈ wsL_law_r28, w ∈ lw_tbl := fun w h => (goodIn_r wsL_law_r28 [771, 772, 773, 774, 776, 12, 777, 778, 779, 780, 781, 208, 427, 204, 254, 782, 784, 13, 785, 430, 202, 786, 787, 789] (by decide +kernel) (by decide +kernel) w h).1
set_option maxRecDepth 100000 in
theorem in_wsL_law_r29 : ∀ w ∈ wsL_law_r29, w ∈ lw_tbl := fun w h => (goodIn_r wsL_law_r29 [14, 790, 199, 195, 197, 193, 791, 792, 794, 15, 795, 244, 246, 250, 248, 796, 797, 798, 799, 800, 432, 801, 802, 102] (by decide +kernel) (by decide +kernel) w h).1
set_option maxRecDepth 100000 in
theorem in_wsL_law_r30 : ∀ w ∈ wsL_law_r30, w ∈ lw_tbl := fun w h => (goodIn_r wsL_law_r30 [803, 804, 805, 806, 807, 808, 809, 810, 811, 812, 813, 814, 815, 817, 16, 818, 819, 820, 821, 822, 823, 825, 17, 826] (by decide +kernel) (by decide +kernel) w h).1
set_option maxRecDepth 100000 in
theorem in_wsL_law_r31 : ∀ w ∈ wsL_law_r31, w ∈ lw_tbl := fun w h => (goodIn_r wsL_law_r31 [827, 829, 18, 830, 1379, 1380, 1381, 1382, 1383, 1384, 1126, 1385, 1387, 55, 1388, 1389, 1391, 56, 1392, 1393, 1395, 57, 1396, 1397] (by decide +kernel) (by decide +kernel) w h).1
set_option maxRecDepth 100000 in
theorem in_wsL_law_r32 : ∀ w ∈ wsL_law_r32, w ∈ lw_tbl := fun w h => (goodIn_r wsL_law_r32 [1399, 58, 1400, 1117, 1118, 1401, 1402, 1404, 59, 1405, 1406, 1408, 60, 1409, 1410, 1412, 61, 1413, 1414, 1416, 62, 1417, 1418, 1419] (by decide +kernel) (by decide +kernel) w h).1
set_option maxRecDepth 100000 in
theorem in_wsL_law_r33 : ∀ w ∈ wsL_law_r33, w ∈ lw_tbl := fun w h => (goodIn_r wsL_law_r33 [1420, 1421, 1423, 63, 1424, 1425, 1427, 64, 1428, 832, 833, 834, 835, 414, 836, 837, 838, 839, 840, 841, 842, 843, 844, 846] (by decide +kernel) (by decide +kernel) w h).1
