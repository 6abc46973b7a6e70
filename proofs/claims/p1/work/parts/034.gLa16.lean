set_option maxRecDepth 20000 in
theorem ggL_law_X10_cause : GoodIn wsL_law wsX10_cause := goodIn_r _ [1165, 16, 618, 1166, 1167, 178, 179, 2, 180, 1265, 1266, 1267, 1268, 1269, 1270, 1271, 1272, 1273, 1274, 1303, 1304, 1305, 1306, 1307, 1308, 1309, 1310, 1311] (by decide +kernel) (by decide +kernel)
set_option maxRecDepth 20000 in
theorem gL_law_X10_cause : GoodIn wsL_law (wsV RL 163 RX10 yX10_cause wsX10_cause) := goodIn_app (goodIn_of _ (by decide +kernel)) ggL_law_X10_cause
set_option maxRecDepth 20000 in
theorem ggL_law_X11_cause : GoodIn wsL_law wsX11_cause := goodIn_r _ [1171, 1172, 1173, 150, 192, 193, 5, 194, 1275, 1276, 1277, 1278, 1279, 1280, 1281, 1282, 1283, 1284, 1285, 1286, 1287, 1288, 1289, 1290, 1291, 1292, 1293, 1294, 1295, 1296, 1297, 1298, 1299, 1300, 1301, 1302] (by decide +kernel) (by decide +kernel)
set_option maxRecDepth 20000 in
theorem gL_law_X11_cause : GoodIn wsL_law (wsV RL 166 RX11 yX11_cause wsX11_cause) := goodIn_app (goodIn_of _ (by decide +kernel)) ggL_law_X11_cause
set_option maxRecDepth 20000 in
theorem ggL_law_X10_says : GoodIn wsL_law wsX10_says := goodIn_r _ [1177, 16, 446, 561, 562, 618, 840, 841, 842, 2, 843, 510, 511, 512, 513, 448, 449, 450, 451, 178, 179, 180, 1178, 1179, 1180, 15, 1181, 1182, 64, 65, 900, 901, 412, 902, 903, 904, 905, 1265, 1266, 1267, 1268, 1269, 1270, 1271, 1272, 1273, 1274, 1303, 1304, 1305, 1306, 1307, 1308, 1309, 1310, 1311, 1362, 1363, 1364, 1365, 1366, 1367, 1368, 1369, 1370, 1371, 1372] (by decide +kernel) (by decide +kernel)
set_option maxRecDepth 20000 in
theorem gL_law_X10_says : GoodIn wsL_law (wsV RL 167 RX10 yX10_says wsX10_says) := goodIn_app (goodIn_of _ (by decide +kernel)) ggL_law_X10_says
set_option maxRecDepth 20000 in
theorem ggL_law_X11_says : GoodIn wsL_law wsX11_says := goodIn_r _ [1186, 220, 150, 481, 482, 5, 483, 192, 193, 194, 522, 523, 524, 525, 526, 527, 528, 529, 567, 568, 569, 570, 1187, 1188, 1189, 1190, 910, 911, 912, 1275, 1276, 1277, 1278, 1279, 1280, 1281, 1282, 1283, 1284, 1285, 1286, 1287, 1288, 1289, 1290, 1291, 1292, 1293, 1294, 1295, 1296, 1297, 1298, 1299, 1300, 1301, 1302] (by decide +kernel) (by decide +kernel)
set_option maxRecDepth 20000 in
theorem gL_law_X11_says : GoodIn wsL_law (wsV RL 170 RX11 yX11_says wsX11_says) := goodIn_app (goodIn_of _ (by decide +kernel)) ggL_law_X11_says
