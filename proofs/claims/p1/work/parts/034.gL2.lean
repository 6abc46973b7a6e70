set_option maxRecDepth 20000 in
theorem ggL_law_X10_thing : GoodIn wsL_law wsX10_thing := goodIn_r _ [560, 16, 446, 561, 562, 510, 511, 512, 2, 513, 448, 449, 450, 451, 178, 179, 180, 1265, 1266, 1267, 1268, 1269, 1270, 1271, 1272, 1273, 1274, 1303, 1304, 1305, 1306, 1307, 1308, 1309, 1310, 1311, 1362, 1363, 1364, 1365, 1366, 1367, 1368, 1369, 1370, 1371, 1372] (by decide +kernel) (by decide +kernel)
set_option maxRecDepth 20000 in
theorem gL_law_X10_thing : GoodIn wsL_law (wsV RL 73 RX10 yX10_thing wsX10_thing) := goodIn_app (goodIn_of _ (by decide +kernel)) ggL_law_X10_thing
set_option maxRecDepth 20000 in
theorem ggL_law_X11_thing : GoodIn wsL_law wsX11_thing := goodIn_r _ [566, 481, 482, 5, 483, 192, 193, 194, 522, 523, 524, 525, 150, 526, 527, 528, 529, 567, 568, 569, 570, 1275, 1276, 1277, 1278, 1279, 1280, 1281, 1282, 1283, 1284, 1285, 1286, 1287, 1288, 1289, 1290, 1291, 1292, 1293, 1294, 1295, 1296, 1297, 1298, 1299, 1300, 1301, 1302] (by decide +kernel) (by decide +kernel)
set_option maxRecDepth 20000 in
theorem gL_law_X11_thing : GoodIn wsL_law (wsV RL 76 RX11 yX11_thing wsX11_thing) := goodIn_app (goodIn_of _ (by decide +kernel)) ggL_law_X11_thing
set_option maxRecDepth 20000 in
theorem ggL_law_X10_most : GoodIn wsL_law wsX10_most := goodIn_r _ [574, 16, 446, 575, 39, 449, 450, 2, 451, 178, 179, 180, 1265, 1266, 1267, 1268, 1269, 1270, 1271, 1272, 1273, 1274, 1303, 1304, 1305, 1306, 1307, 1308, 1309, 1310, 1311, 1362, 1363, 1364, 1365, 1366, 1367, 1368, 1369, 1370, 1371, 1372] (by decide +kernel) (by decide +kernel)
set_option maxRecDepth 20000 in
theorem gL_law_X10_most : GoodIn wsL_law (wsV RL 77 RX10 yX10_most wsX10_most) := goodIn_app (goodIn_of _ (by decide +kernel)) ggL_law_X10_most
set_option maxRecDepth 20000 in
theorem ggL_law_X11_most : GoodIn wsL_law wsX11_most := goodIn_r _ [579, 376, 150, 481, 482, 5, 483, 192, 193, 194, 1275, 1276, 1277, 1278, 1279, 1280, 1281, 1282, 1283, 1284, 1285, 1286, 1287, 1288, 1289, 1290, 1291, 1292, 1293, 1294, 1295, 1296, 1297, 1298, 1299, 1300, 1301, 1302] (by decide +kernel) (by decide +kernel)
set_option maxRecDepth 20000 in
theorem gL_law_X11_most : GoodIn wsL_law (wsV RL 80 RX11 yX11_most wsX11_most) := goodIn_app (goodIn_of _ (by decide +kernel)) ggL_law_X11_most
set_option maxRecDepth 20000 in
theorem ggL_law_X10_stretch : GoodIn wsL_law wsX10_stretch := goodIn_r _ [583, 16, 446, 584, 39, 510, 511, 512, 2, 513, 448, 449, 450, 451, 178, 179, 180, 585, 586, 587, 514, 515, 516, 55, 517, 84, 588, 550, 551, 552, 87, 457, 88, 89, 90, 1265, 1266, 1267, 1268, 1269, 1270, 1271, 1272, 1273, 1274, 1303, 1304, 1305, 1306, 1307, 1308, 1309, 1310, 1311, 1362, 1363, 1364, 1365, 1366, 1367, 1368, 1369, 1370, 1371, 1372] (by decide +kernel) (by decide +kernel)
set_option maxRecDepth 20000 in
theorem gL_law_X10_stretch : GoodIn wsL_law (wsV RL 81 RX10 yX10_stretch wsX10_stretch) := goodIn_app (goodIn_of _ (by decide +kernel)) ggL_law_X10_stretch
set_option maxRecDepth 20000 in
theorem ggL_law_X11_stretch : GoodIn wsL_law wsX11_stretch := goodIn_r _ [592, 220, 376, 200, 150, 481, 482, 5, 483, 192, 193, 194, 522, 523, 524, 525, 526, 527, 528, 529, 488, 489, 490, 491, 1275, 1276, 1277, 1278, 1279, 1280, 1281, 1282, 1283, 1284, 1285, 1286, 1287, 1288, 1289, 1290, 1291, 1292, 1293, 1294, 1295, 1296, 1297, 1298, 1299, 1300, 1301, 1302] (by decide +kernel) (by decide +kernel)
set_option maxRecDepth 20000 in
theorem gL_law_X11_stretch : GoodIn wsL_law (wsV RL 84 RX11 yX11_stretch wsX11_stretch) := goodIn_app (goodIn_of _ (by decide +kernel)) ggL_law_X11_stretch
set_option maxRecDepth 20000 in
theorem ggL_law_X10_date : GoodIn wsL_law wsX10_date := goodIn_r _ [596, 16, 446, 447, 597, 39, 510, 511, 512, 2, 513, 448, 449, 450, 451, 178, 179, 180, 175, 176, 177, 514, 515, 516, 55, 517, 84, 598, 474, 475, 59, 476, 95, 472, 96, 97, 98, 99, 100, 1265, 1266, 1267, 1268, 1269, 1270, 1271, 1272, 1273, 1274, 1303, 1304, 1305, 1306, 1307, 1308, 1309, 1310, 1311, 1373, 1374, 1375, 1376, 1377, 1378, 1379, 1362, 1363, 1364, 1365, 1366, 1367, 1368, 1369, 1370, 1371, 1372] (by decide +kernel) (by decide +kernel)
set_option maxRecDepth 20000 in
theorem gL_law_X10_date : GoodIn wsL_law (wsV RL 85 RX10 yX10_date wsX10_date) := goodIn_app (goodIn_of _ (by decide +kernel)) ggL_law_X10_date
set_option maxRecDepth 20000 in
theorem ggL_law_X11_date : GoodIn wsL_law wsX11_date := goodIn_r _ [602, 150, 481, 482, 5, 483, 192, 193, 194, 522, 523, 524, 525, 188, 189, 190, 191, 526, 527, 528, 529, 496, 497, 498, 499, 1275, 1276, 1277, 1278, 1279, 1280, 1281, 1282, 1283, 1284, 1285, 1286, 1287, 1288, 1289, 1290, 1291, 1292, 1293, 1294, 1295, 1296, 1297, 1298, 1299, 1300, 1301, 1302] (by decide +kernel) (by decide +kernel)
set_option maxRecDepth 20000 in
theorem gL_law_X11_date : GoodIn wsL_law (wsV RL 88 RX11 yX11_date wsX11_date) := goodIn_app (goodIn_of _ (by decide +kernel)) ggL_law_X11_date
set_option maxRecDepth 20000 in
theorem ggL_law_X10_throwOut : GoodIn wsL_law wsX10_throwOut := goodIn_r _ [606, 16, 447, 597, 607, 39, 608, 178, 179, 2, 180, 1265, 1266, 1267, 1268, 1269, 1270, 1271, 1272, 1273, 1274, 1303, 1304, 1305, 1306, 1307, 1308, 1309, 1310, 1311, 1373, 1374, 1375, 1376, 1377, 1378, 1379] (by decide +kernel) (by decide +kernel)
set_option maxRecDepth 20000 in
theorem gL_law_X10_throwOut : GoodIn wsL_law (wsV RL 89 RX10 yX10_throwOut wsX10_throwOut) := goodIn_app (goodIn_of _ (by decide +kernel)) ggL_law_X10_throwOut
set_option maxRecDepth 20000 in
theorem ggL_law_X11_throwOut : GoodIn wsL_law wsX11_throwOut := goodIn_r _ [612, 150, 198, 192, 193, 5, 194, 496, 497, 498, 499, 1275, 1276, 1277, 1278, 1279, 1280, 1281, 1282, 1283, 1284, 1285, 1286, 1287, 1288, 1289, 1290, 1291, 1292, 1293, 1294, 1295, 1296, 1297, 1298, 1299, 1300, 1301, 1302] (by decide +kernel) (by decide +kernel)
set_option maxRecDepth 20000 in
theorem gL_law_X11_throwOut : GoodIn wsL_law (wsV RL 92 RX11 yX11_throwOut wsX11_throwOut) := goodIn_app (goodIn_of _ (by decide +kernel)) ggL_law_X11_throwOut
set_option maxRecDepth 20000 in
theorem ggL_law_X10_count : GoodIn wsL_law wsX10_count := goodIn_r _ [616, 16, 447, 597, 617, 618, 446, 448, 619, 620, 621, 59, 622, 472, 100, 623, 624, 625, 55, 626, 456, 627, 515, 516, 517, 84, 1265, 1266, 1267, 1268, 1269, 1270, 1271, 1272, 1273, 1274, 1303, 1304, 1305, 1306, 1307, 1308, 1309, 1310, 1311, 1373, 1374, 1375, 1376, 1377, 1378, 1379, 1362, 1363, 1364, 1365, 1366, 1367, 1368, 1369, 1370, 1371, 1372] (by decide +kernel) (by decide +kernel)
set_option maxRecDepth 20000 in
theorem gL_law_X10_count : GoodIn wsL_law (wsV RL 93 RX10 yX10_count wsX10_count) := goodIn_app (goodIn_of _ (by decide +kernel)) ggL_law_X10_count
set_option maxRecDepth 20000 in
theorem ggL_law_X11_count : GoodIn wsL_law wsX11_count := goodIn_r _ [631, 150, 496, 497, 498, 5, 499, 632, 633, 634, 635, 526, 527, 528, 529, 1275, 1276, 1277, 1278, 1279, 1280, 1281, 1282, 1283, 1284, 1285, 1286, 1287, 1288, 1289, 1290, 1291, 1292, 1293, 1294, 1295, 1296, 1297, 1298, 1299, 1300, 1301, 1302] (by decide +kernel) (by decide +kernel)
set_option maxRecDepth 20000 in
theorem gL_law_X11_count : GoodIn wsL_law (wsV RL 96 RX11 yX11_count wsX11_count) := goodIn_app (goodIn_of _ (by decide +kernel)) ggL_law_X11_count
set_option maxRecDepth 20000 in
theorem ggL_law_X10_ways : GoodIn wsL_law wsX10_ways := goodIn_r _ [639, 640, 16, 446, 641, 642, 449, 450, 2, 451, 178, 179, 180, 623, 624, 625, 55, 626, 456, 627, 515, 516, 517, 84, 643, 644, 645, 646, 39, 447, 37, 647, 648, 649, 59, 650, 472, 95, 100, 651, 652, 653, 654, 655, 656, 657, 36, 658, 659, 660, 661, 662, 663, 664, 665, 666, 667, 668, 122, 121, 123, 124, 125, 126, 127, 669, 670, 671, 672, 673, 674, 675, 676, 677, 678, 250, 251, 252, 679, 680, 681, 682, 683, 684, 685, 686, 687, 344, 345, 688, 689, 690, 691, 692, 130, 133, 693, 694, 695, 696, 697, 698, 699, 700, 701, 702, 703, 704, 705, 706, 707, 708, 709, 710, 711, 712, 713, 714, 715, 131, 716, 717, 718, 719, 720, 721, 722, 723, 1265, 1266, 1267, 1268, 1269, 1270, 1271, 1272, 1273, 1274, 1303, 1304, 1305, 1306, 1307, 1308, 1309, 1310, 1311, 1334, 1335, 1336, 1337, 1338, 1339, 1340, 1341, 1342, 1343, 1344, 1345, 1346, 1347, 1348, 1349, 1362, 1363, 1364, 1365, 1366, 1367, 1368, 1369, 1370, 1371, 1372, 1373, 1374, 1375, 1376, 1377, 1378, 1379] (by decide +kernel) (by decide +kernel)
set_option maxRecDepth 20000 in
theorem gL_law_X10_ways : GoodIn wsL_law (wsV RL 97 RX10 yX10_ways wsX10_ways) := goodIn_app (goodIn_of _ (by decide +kernel)) ggL_law_X10_ways
set_option maxRecDepth 20000 in
theorem ggL_law_X11_ways : GoodIn wsL_law wsX11_ways := goodIn_r _ [727, 728, 729, 730, 481, 482, 5, 483, 192, 193, 194, 632, 633, 634, 635, 150, 526, 527, 528, 529, 731, 732, 733, 734, 735, 736, 737, 738, 496, 497, 498, 499, 739, 740, 741, 742, 743, 744, 745, 746, 747, 748, 153, 154, 749, 155, 156, 157, 488, 489, 490, 491, 750, 751, 752, 753, 754, 755, 756, 757, 758, 759, 760, 761, 762, 763, 764, 765, 158, 766, 767, 768, 769, 770, 771, 772, 773, 774, 775, 776, 159, 1275, 1276, 1277, 1278, 1279, 1280, 1281, 1282, 1283, 1284, 1285, 1286, 1287, 1288, 1289, 1290, 1291, 1292, 1293, 1294, 1295, 1296, 1297, 1298, 1299, 1300, 1301, 1302] (by decide +kernel) (by decide +kernel)
set_option maxRecDepth 20000 in
theorem gL_law_X11_ways : GoodIn wsL_law (wsV RL 101 RX11 yX11_ways wsX11_ways) := goodIn_app (goodIn_of _ (by decide +kernel)) ggL_law_X11_ways
