set_option maxRecDepth 20000 in
theorem ggL_law_X10_init : GoodIn wsL_law wsX10_init := goodIn_r _ [9, 10, 11, 12, 13, 14, 15, 16, 17, 18, 19, 20, 21, 22, 23, 24, 25, 26, 27, 28, 29, 30, 31, 32, 33, 34, 35, 36, 37, 38, 39, 40, 41, 42, 43, 44, 45, 46, 47, 48, 49, 50, 51, 52, 53, 54, 55, 56, 57, 58, 59, 60, 61, 62, 63, 64, 65, 66, 67, 68, 69, 70, 71, 72, 73, 74, 75, 76, 77, 78, 79, 80, 81, 82, 83, 84, 85, 86, 87, 88, 89, 90, 91, 92, 93, 94, 95, 96, 97, 98, 99, 100, 101, 102, 103, 104, 105, 106, 107, 108, 109, 110, 111, 112, 113, 114, 115, 116, 117, 118, 119, 120, 121, 122, 123, 124, 125, 126, 127, 128, 129, 130, 131, 132, 133, 134, 135, 136, 137, 138, 139, 140, 141, 142, 143, 144, 145, 1303, 1304, 1305, 1306, 1307, 1308, 1309, 1310, 1311, 1265, 1266, 1267, 1268, 1269, 1270, 1271, 1272, 1273, 1274, 1312, 1313, 1314, 1315, 1316, 1317, 1318, 1319, 1320, 1321, 1322, 1323, 1324, 1325, 1326, 1327, 1328, 1329, 1330, 1331, 1332, 1333, 1334, 1335, 1336, 1337, 1338, 1339, 1340, 1341, 1342, 1343, 1344, 1345, 1346, 1347, 1348, 1349, 1350, 1351, 1352, 1353, 1354, 1355, 1356, 1357, 1358, 1359, 1360, 1361, 1362, 1363, 1364, 1365, 1366, 1367, 1368, 1369, 1370, 1371, 1372, 1373, 1374, 1375, 1376, 1377, 1378, 1379] (by decide +kernel) (by decide +kernel)
set_option maxRecDepth 20000 in
theorem gL_law_X10_init : GoodIn wsL_law (wsX10_init) := ggL_law_X10_init
set_option maxRecDepth 20000 in
theorem ggL_law_X11_init : GoodIn wsL_law wsX11_init := goodIn_r _ [148, 149, 11, 12, 63, 150, 151, 152, 153, 154, 155, 156, 157, 129, 158, 159, 160, 161, 162, 163, 164, 165, 166, 167, 168, 1275, 1276, 1277, 1278, 1279, 1280, 1281, 1282, 1283, 1284, 1285, 1286, 1287, 1288, 1289, 1290, 1291, 1292, 1293, 1294, 1295, 1296, 1297, 1298, 1299, 1300, 1301, 1302] (by decide +kernel) (by decide +kernel)
set_option maxRecDepth 20000 in
theorem gL_law_X11_init : GoodIn wsL_law (wsX11_init) := ggL_law_X11_init
set_option maxRecDepth 20000 in
theorem ggL_law_X10_rain : GoodIn wsL_law wsX10_rain := goodIn_r _ [172, 16, 173, 174, 175, 176, 2, 177, 178, 179, 180, 181, 182, 49, 183, 1265, 1266, 1267, 1268, 1269, 1270, 1271, 1272, 1273, 1274, 1303, 1304, 1305, 1306, 1307, 1308, 1309, 1310, 1311, 1359, 1360, 1361] (by decide +kernel) (by decide +kernel)
set_option maxRecDepth 20000 in
theorem gL_law_X10_rain : GoodIn wsL_law (wsV RL 13 RX10 yX10_rain wsX10_rain) := goodIn_app (goodIn_of _ (by decide +kernel)) ggL_law_X10_rain
set_option maxRecDepth 20000 in
theorem ggL_law_X11_rain : GoodIn wsL_law wsX11_rain := goodIn_r _ [187, 150, 188, 189, 5, 190, 191, 192, 193, 194, 195, 196, 197, 198, 199, 200, 1275, 1276, 1277, 1278, 1279, 1280, 1281, 1282, 1283, 1284, 1285, 1286, 1287, 1288, 1289, 1290, 1291, 1292, 1293, 1294, 1295, 1296, 1297, 1298, 1299, 1300, 1301, 1302] (by decide +kernel) (by decide +kernel)
set_option maxRecDepth 20000 in
theorem gL_law_X11_rain : GoodIn wsL_law (wsV RL 17 RX11 yX11_rain wsX11_rain) := goodIn_app (goodIn_of _ (by decide +kernel)) ggL_law_X11_rain
set_option maxRecDepth 20000 in
theorem ggL_law_X10_rains : GoodIn wsL_law wsX10_rains := goodIn_r _ [204, 33, 205, 16, 173, 174, 178, 179, 2, 180, 206, 207, 208, 209, 210, 211, 32, 212, 213, 214, 215, 181, 182, 49, 183, 1265, 1266, 1267, 1268, 1269, 1270, 1271, 1272, 1273, 1274, 1330, 1331, 1332, 1333, 1303, 1304, 1305, 1306, 1307, 1308, 1309, 1310, 1311, 1359, 1360, 1361] (by decide +kernel) (by decide +kernel)
set_option maxRecDepth 20000 in
theorem gL_law_X10_rains : GoodIn wsL_law (wsV RL 18 RX10 yX10_rains wsX10_rains) := goodIn_app (goodIn_of _ (by decide +kernel)) ggL_law_X10_rains
set_option maxRecDepth 20000 in
theorem ggL_law_X11_rains : GoodIn wsL_law wsX11_rains := goodIn_r _ [219, 220, 221, 168, 150, 192, 193, 5, 194, 222, 223, 224, 225, 226, 227, 228, 229, 166, 167, 195, 196, 197, 198, 199, 200, 1275, 1276, 1277, 1278, 1279, 1280, 1281, 1282, 1283, 1284, 1285, 1286, 1287, 1288, 1289, 1290, 1291, 1292, 1293, 1294, 1295, 1296, 1297, 1298, 1299, 1300, 1301, 1302] (by decide +kernel) (by decide +kernel)
set_option maxRecDepth 20000 in
theorem gL_law_X11_rains : GoodIn wsL_law (wsV RL 22 RX11 yX11_rains wsX11_rains) := goodIn_app (goodIn_of _ (by decide +kernel)) ggL_law_X11_rains
set_option maxRecDepth 20000 in
theorem ggL_law_X10_set : GoodIn wsL_law wsX10_set := goodIn_r _ [233, 16, 173, 234, 235, 178, 179, 2, 180, 1265, 1266, 1267, 1268, 1269, 1270, 1271, 1272, 1273, 1274, 1303, 1304, 1305, 1306, 1307, 1308, 1309, 1310, 1311, 1359, 1360, 1361] (by decide +kernel) (by decide +kernel)
set_option maxRecDepth 20000 in
theorem gL_law_X10_set : GoodIn wsL_law (wsV RL 23 RX10 yX10_set wsX10_set) := goodIn_app (goodIn_of _ (by decide +kernel)) ggL_law_X10_set
set_option maxRecDepth 20000 in
theorem ggL_law_X11_set : GoodIn wsL_law wsX11_set := goodIn_r _ [239, 240, 198, 150, 192, 193, 5, 194, 1275, 1276, 1277, 1278, 1279, 1280, 1281, 1282, 1283, 1284, 1285, 1286, 1287, 1288, 1289, 1290, 1291, 1292, 1293, 1294, 1295, 1296, 1297, 1298, 1299, 1300, 1301, 1302] (by decide +kernel) (by decide +kernel)
set_option maxRecDepth 20000 in
theorem gL_law_X11_set : GoodIn wsL_law (wsV RL 27 RX11 yX11_set wsX11_set) := goodIn_app (goodIn_of _ (by decide +kernel)) ggL_law_X11_set
set_option maxRecDepth 20000 in
theorem ggL_law_X10_wet : GoodIn wsL_law wsX10_wet := goodIn_r _ [244, 16, 173, 234, 175, 176, 2, 177, 178, 179, 180, 245, 246, 247, 49, 248, 249, 250, 251, 252, 70, 1265, 1266, 1267, 1268, 1269, 1270, 1271, 1272, 1273, 1274, 1303, 1304, 1305, 1306, 1307, 1308, 1309, 1310, 1311, 1359, 1360, 1361] (by decide +kernel) (by decide +kernel)
set_option maxRecDepth 20000 in
theorem gL_law_X10_wet : GoodIn wsL_law (wsV RL 28 RX10 yX10_wet wsX10_wet) := goodIn_app (goodIn_of _ (by decide +kernel)) ggL_law_X10_wet
set_option maxRecDepth 20000 in
theorem ggL_law_X11_wet : GoodIn wsL_law wsX11_wet := goodIn_r _ [256, 150, 188, 189, 5, 190, 191, 192, 193, 194, 257, 258, 259, 260, 1275, 1276, 1277, 1278, 1279, 1280, 1281, 1282, 1283, 1284, 1285, 1286, 1287, 1288, 1289, 1290, 1291, 1292, 1293, 1294, 1295, 1296, 1297, 1298, 1299, 1300, 1301, 1302] (by decide +kernel) (by decide +kernel)
set_option maxRecDepth 20000 in
theorem gL_law_X11_wet : GoodIn wsL_law (wsV RL 32 RX11 yX11_wet wsX11_wet) := goodIn_app (goodIn_of _ (by decide +kernel)) ggL_law_X11_wet
set_option maxRecDepth 20000 in
theorem ggL_law_X10_water : GoodIn wsL_law wsX10_water := goodIn_r _ [264, 16, 173, 234, 175, 176, 2, 177, 178, 179, 180, 265, 266, 267, 49, 268, 249, 250, 251, 252, 70, 269, 246, 247, 248, 1265, 1266, 1267, 1268, 1269, 1270, 1271, 1272, 1273, 1274, 1303, 1304, 1305, 1306, 1307, 1308, 1309, 1310, 1311, 1359, 1360, 1361] (by decide +kernel) (by decide +kernel)
set_option maxRecDepth 20000 in
theorem gL_law_X10_water : GoodIn wsL_law (wsV RL 33 RX10 yX10_water wsX10_water) := goodIn_app (goodIn_of _ (by decide +kernel)) ggL_law_X10_water
set_option maxRecDepth 20000 in
theorem ggL_law_X11_water : GoodIn wsL_law wsX11_water := goodIn_r _ [273, 150, 188, 189, 5, 190, 191, 192, 193, 194, 257, 258, 259, 260, 274, 275, 276, 277, 1275, 1276, 1277, 1278, 1279, 1280, 1281, 1282, 1283, 1284, 1285, 1286, 1287, 1288, 1289, 1290, 1291, 1292, 1293, 1294, 1295, 1296, 1297, 1298, 1299, 1300, 1301, 1302] (by decide +kernel) (by decide +kernel)
set_option maxRecDepth 20000 in
theorem gL_law_X11_water : GoodIn wsL_law (wsV RL 36 RX11 yX11_water wsX11_water) := goodIn_app (goodIn_of _ (by decide +kernel)) ggL_law_X11_water
set_option maxRecDepth 20000 in
theorem ggL_law_X10_type : GoodIn wsL_law wsX10_type := goodIn_r _ [281, 21, 282, 283, 178, 179, 2, 180, 284, 285, 286, 1265, 1266, 1267, 1268, 1269, 1270, 1271, 1272, 1273, 1274, 1312, 1313, 1314, 1315] (by decide +kernel) (by decide +kernel)
set_option maxRecDepth 20000 in
theorem gL_law_X10_type : GoodIn wsL_law (wsV RL 39 RX10 yX10_type wsX10_type) := goodIn_app (goodIn_of _ (by decide +kernel)) ggL_law_X10_type
set_option maxRecDepth 20000 in
theorem ggL_law_X11_type : GoodIn wsL_law wsX11_type := goodIn_r _ [290, 291, 292, 293, 294, 295, 151, 192, 193, 5, 194, 1275, 1276, 1277, 1278, 1279, 1280, 1281, 1282, 1283, 1284, 1285, 1286, 1287, 1288, 1289, 1290, 1291, 1292, 1293, 1294, 1295, 1296, 1297, 1298, 1299, 1300, 1301, 1302] (by decide +kernel) (by decide +kernel)
set_option maxRecDepth 20000 in
theorem gL_law_X11_type : GoodIn wsL_law (wsV RL 43 RX11 yX11_type wsX11_type) := goodIn_app (goodIn_of _ (by decide +kernel)) ggL_law_X11_type
