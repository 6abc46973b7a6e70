set_option maxRecDepth 20000 in
theorem ggL_law_X10_cause : GoodIn wsL_law wsX10_cause := goodIn_r _ [1165, 16, 618, 1166, 1167, 178, 179, 2, 180, 1265, 1266, 1267, 1268, 1269, 1270, 1271, 1272, 1273, 1274, 1303, 1304, 1305, 1306, 1307, 1308, 1309, 1310, 1311] (by decide +kernel) (by decide +kernel)
set_option maxRecDepth 20000 in
theorem gL_law_X10_cause : GoodIn wsL_law (wsV RL 163 RX10 yX10_cause wsX10_cause) := goodIn_app (goodIn_of _ (by decide +kernel)) ggL_law_X10_cause
set_option maxRecDepth 20000 in
theorem ggL_law_X11_cause : GoodIn wsL_law wsX11_cause := goodIn_r _ [1171, 1172, 1173, 150, 192, 193, 5, 194, 1275, 1276, 1277, 1278, 1279, 1280, 1281, 1282, 1283, 1284, 1285, 1286, 1287, 1288, 1289, 1290, 1291, 1292, 1293, 1294, 1295, 1296, 1297, 1298, 1299, 1300, 1301, 1302] (by decide +kernel) (by decide +kernel)
set_option maxRecDepth 20000 in
theorem gL_law_X11_cause : GoodIn wsL_law (wsV RL 166 RX11 yX11_cause wsX11_cause) := goodIn_app (goodIn_of _ (by decide +kernel)) ggL_law_X11_cause
set_option maxRecDepth 20000 in
theorem ggL_law_X10_says : GoodIn wsL_law wsX10_says := goodIn_r _ [1177, 16, 446, 561, 562, 618, 840, 841, 842, 2, 843, 510, 511, 512, 513, 448, 449, 450, 451, 178, 179, 180, 1178, 1179, 1180, 15, 1181, 1182, 64, 65, 900, 901, 412, 902, 903, 904, 905, 1265, 1266, 1267, 1268, 1269, 1270, 1271, 1272, 1273, 1274, 1303, 1304, 1305, 1306, 1307, 1308, 1309, 1310, 1311, 1362, 1363, 1364, 1365, 1366, 1367, 1368, 1369, 1370, 1371, 1372] (by decide +kernel) (by decide +kernel)
set_option maxRecDepth 20000 in
theorem gL_law_X10_says : GoodIn wsL_law (wsV RL 167 RX10 yX10_says wsX10_says) := goodIn_app (goodIn_of _ (by decide +kernel)) ggL_law_X10_says
set_option maxRecDepth 20000 in
theorem ggL_law_X11_says : GoodIn wsL_law wsX11_says := goodIn_r _ [1186, 220, 150, 481, 482, 5, 483, 192, 193, 194, 522, 523, 524, 525, 526, 527, 528, 529, 567, 568, 569, 570, 1187, 1188, 1189, 1190, 910, 911, 912, 1275, 1276, 1277, 1278, 1279, 1280, 1281, 1282, 1283, 1284, 1285, 1286, 1287, 1288, 1289, 1290, 1291, 1292, 1293, 1294, 1295, 1296, 1297, 1298, 1299, 1300, 1301, 1302] (by decide +kernel) (by decide +kernel)
set_option maxRecDepth 20000 in
theorem gL_law_X11_says : GoodIn wsL_law (wsV RL 170 RX11 yX11_says wsX11_says) := goodIn_app (goodIn_of _ (by decide +kernel)) ggL_law_X11_says
set_option maxRecDepth 20000 in
theorem ggL_law_X10_image : GoodIn wsL_law wsX10_image := goodIn_r _ [1194, 17, 16, 1195, 1196, 1197, 1198, 15, 1199, 50, 52, 60, 56, 62, 64, 65, 1200, 1182, 1201, 1202, 1203, 49, 1204, 70, 71, 72, 355, 2, 356, 357, 344, 251, 345, 358, 359, 360, 361, 1205, 351, 352, 24, 353, 76, 77, 78, 79, 80, 354, 1206, 1207, 1208, 59, 1209, 95, 96, 97, 98, 99, 100, 472, 1210, 1211, 1212, 55, 1213, 84, 85, 86, 87, 88, 89, 90, 456, 457, 91, 458, 1214, 1003, 1004, 28, 1005, 104, 105, 106, 107, 108, 109, 1006, 1007, 1265, 1266, 1267, 1268, 1269, 1270, 1271, 1272, 1273, 1274, 1303, 1304, 1305, 1306, 1307, 1308, 1309, 1310, 1311, 1359, 1360, 1361, 1316, 1317, 1318, 1319, 1320, 1321, 1373, 1374, 1375, 1376, 1377, 1378, 1379, 1362, 1363, 1364, 1365, 1366, 1367, 1368, 1369, 1370, 1371, 1372, 1322, 1323, 1324, 1325, 1326, 1327, 1328, 1329] (by decide +kernel) (by decide +kernel)
set_option maxRecDepth 20000 in
theorem gL_law_X10_image : GoodIn wsL_law (wsV RL 171 RX10 yX10_image wsX10_image) := goodIn_app (goodIn_of _ (by decide +kernel)) ggL_law_X10_image
set_option maxRecDepth 20000 in
theorem ggL_law_X11_image : GoodIn wsL_law wsX11_image := goodIn_r _ [1218, 165, 150, 1219, 1275, 1276, 1277, 1278, 1279, 1280, 1281, 1282, 1283, 1284, 1285, 1286, 1287, 1288, 1289, 1290, 1291, 1292, 1293, 1294, 1295, 1296, 1297, 1298, 1299, 1300, 1301, 1302] (by decide +kernel) (by decide +kernel)
set_option maxRecDepth 20000 in
theorem gL_law_X11_image : GoodIn wsL_law (wsV RL 174 RX11 yX11_image wsX11_image) := goodIn_app (goodIn_of _ (by decide +kernel)) ggL_law_X11_image
set_option maxRecDepth 20000 in
theorem ggL_law_X10_restore : GoodIn wsL_law wsX10_restore := goodIn_r _ [1223, 1195, 16, 17, 39, 1196, 1197, 1198, 15, 1199, 50, 52, 60, 56, 62, 64, 65, 1200, 1182, 1201, 1202, 1203, 49, 1204, 70, 71, 72, 355, 2, 356, 357, 344, 251, 345, 358, 359, 360, 361, 1205, 351, 352, 24, 353, 76, 77, 78, 79, 80, 354, 1206, 1207, 1208, 59, 1209, 95, 96, 97, 98, 99, 100, 472, 1210, 1211, 1212, 55, 1213, 84, 85, 86, 87, 88, 89, 90, 456, 457, 91, 458, 1214, 1003, 1004, 28, 1005, 104, 105, 106, 107, 108, 109, 1006, 1007, 1265, 1266, 1267, 1268, 1269, 1270, 1271, 1272, 1273, 1274, 1303, 1304, 1305, 1306, 1307, 1308, 1309, 1310, 1311, 1359, 1360, 1361, 1316, 1317, 1318, 1319, 1320, 1321, 1373, 1374, 1375, 1376, 1377, 1378, 1379, 1362, 1363, 1364, 1365, 1366, 1367, 1368, 1369, 1370, 1371, 1372, 1322, 1323, 1324, 1325, 1326, 1327, 1328, 1329] (by decide +kernel) (by decide +kernel)
set_option maxRecDepth 20000 in
theorem gL_law_X10_restore : GoodIn wsL_law (wsV RL 175 RX10 yX10_restore wsX10_restore) := goodIn_app (goodIn_of _ (by decide +kernel)) ggL_law_X10_restore
set_option maxRecDepth 20000 in
theorem ggL_law_X11_restore : GoodIn wsL_law wsX11_restore := goodIn_r _ [1227, 1219, 150, 165, 1275, 1276, 1277, 1278, 1279, 1280, 1281, 1282, 1283, 1284, 1285, 1286, 1287, 1288, 1289, 1290, 1291, 1292, 1293, 1294, 1295, 1296, 1297, 1298, 1299, 1300, 1301, 1302] (by decide +kernel) (by decide +kernel)
set_option maxRecDepth 20000 in
theorem gL_law_X11_restore : GoodIn wsL_law (wsV RL 178 RX11 yX11_restore wsX11_restore) := goodIn_app (goodIn_of _ (by decide +kernel)) ggL_law_X11_restore
set_option maxRecDepth 20000 in
theorem ggL_law_X10_sheet : GoodIn wsL_law wsX10_sheet := goodIn_r _ [1231, 33, 206, 207, 2, 208, 178, 179, 180, 1232, 1233, 1234, 32, 1235, 213, 214, 215, 117, 1236, 1237, 695, 1238, 1265, 1266, 1267, 1268, 1269, 1270, 1271, 1272, 1273, 1274, 1330, 1331, 1332, 1333] (by decide +kernel) (by decide +kernel)
set_option maxRecDepth 20000 in
theorem gL_law_X10_sheet : GoodIn wsL_law (wsV RL 179 RX10 yX10_sheet wsX10_sheet) := goodIn_app (goodIn_of _ (by decide +kernel)) ggL_law_X10_sheet
set_option maxRecDepth 20000 in
theorem ggL_law_X11_sheet : GoodIn wsL_law wsX11_sheet := goodIn_r _ [1242, 166, 167, 168, 222, 223, 5, 224, 225, 220, 192, 193, 194, 1275, 1276, 1277, 1278, 1279, 1280, 1281, 1282, 1283, 1284, 1285, 1286, 1287, 1288, 1289, 1290, 1291, 1292, 1293, 1294, 1295, 1296, 1297, 1298, 1299, 1300, 1301, 1302] (by decide +kernel) (by decide +kernel)
set_option maxRecDepth 20000 in
theorem gL_law_X11_sheet : GoodIn wsL_law (wsV RL 182 RX11 yX11_sheet wsX11_sheet) := goodIn_app (goodIn_of _ (by decide +kernel)) ggL_law_X11_sheet
set_option maxRecDepth 20000 in
theorem ggL_law_X10_drop : GoodIn wsL_law wsX10_drop := goodIn_r _ [1246, 33, 1247, 1248, 178, 179, 2, 180, 1265, 1266, 1267, 1268, 1269, 1270, 1271, 1272, 1273, 1274, 1330, 1331, 1332, 1333] (by decide +kernel) (by decide +kernel)
set_option maxRecDepth 20000 in
theorem gL_law_X10_drop : GoodIn wsL_law (wsV RL 183 RX10 yX10_drop wsX10_drop) := goodIn_app (goodIn_of _ (by decide +kernel)) ggL_law_X10_drop
set_option maxRecDepth 20000 in
theorem ggL_law_X11_drop : GoodIn wsL_law wsX11_drop := goodIn_r _ [1252, 225, 166, 167, 192, 193, 5, 194, 1275, 1276, 1277, 1278, 1279, 1280, 1281, 1282, 1283, 1284, 1285, 1286, 1287, 1288, 1289, 1290, 1291, 1292, 1293, 1294, 1295, 1296, 1297, 1298, 1299, 1300, 1301, 1302] (by decide +kernel) (by decide +kernel)
set_option maxRecDepth 20000 in
theorem gL_law_X11_drop : GoodIn wsL_law (wsV RL 186 RX11 yX11_drop wsX11_drop) := goodIn_app (goodIn_of _ (by decide +kernel)) ggL_law_X11_drop
set_option maxRecDepth 20000 in
theorem ggL_law_X10_item : GoodIn wsL_law wsX10_item := goodIn_r _ [1256, 33, 206, 207, 2, 208, 178, 179, 180, 209, 210, 211, 32, 212, 213, 214, 215, 1257, 1258, 1259, 1260, 117, 1265, 1266, 1267, 1268, 1269, 1270, 1271, 1272, 1273, 1274, 1330, 1331, 1332, 1333] (by decide +kernel) (by decide +kernel)
set_option maxRecDepth 20000 in
theorem gL_law_X10_item : GoodIn wsL_law (wsV RL 187 RX10 yX10_item wsX10_item) := goodIn_app (goodIn_of _ (by decide +kernel)) ggL_law_X10_item
set_option maxRecDepth 20000 in
theorem ggL_law_X11_item : GoodIn wsL_law wsX11_item := goodIn_r _ [1264, 168, 222, 223, 5, 224, 225, 220, 192, 193, 194, 226, 227, 228, 229, 166, 167, 1275, 1276, 1277, 1278, 1279, 1280, 1281, 1282, 1283, 1284, 1285, 1286, 1287, 1288, 1289, 1290, 1291, 1292, 1293, 1294, 1295, 1296, 1297, 1298, 1299, 1300, 1301, 1302] (by decide +kernel) (by decide +kernel)
set_option maxRecDepth 20000 in
theorem gL_law_X11_item : GoodIn wsL_law (wsV RL 190 RX11 yX11_item wsX11_item) := goodIn_app (goodIn_of _ (by decide +kernel)) ggL_law_X11_item
