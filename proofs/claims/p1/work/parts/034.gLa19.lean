set_option maxRecDepth 20000 in
theorem ggL_law_X10_item : GoodIn wsL_law wsX10_item := goodIn_r _ [1256, 33, 206, 207, 2, 208, 178, 179, 180, 209, 210, 211, 32, 212, 213, 214, 215, 1257, 1258, 1259, 1260, 117, 1265, 1266, 1267, 1268, 1269, 1270, 1271, 1272, 1273, 1274, 1330, 1331, 1332, 1333] (by decide +kernel) (by decide +kernel)
set_option maxRecDepth 20000 in
theorem gL_law_X10_item : GoodIn wsL_law (wsV RL 187 RX10 yX10_item wsX10_item) := goodIn_app (goodIn_of _ (by decide +kernel)) ggL_law_X10_item
set_option maxRecDepth 20000 in
theorem ggL_law_X11_item : GoodIn wsL_law wsX11_item := goodIn_r _ [1264, 168, 222, 223, 5, 224, 225, 220, 192, 193, 194, 226, 227, 228, 229, 166, 167, 1275, 1276, 1277, 1278, 1279, 1280, 1281, 1282, 1283, 1284, 1285, 1286, 1287, 1288, 1289, 1290, 1291, 1292, 1293, 1294, 1295, 1296, 1297, 1298, 1299, 1300, 1301, 1302] (by decide +kernel) (by decide +kernel)
set_option maxRecDepth 20000 in
theorem gL_law_X11_item : GoodIn wsL_law (wsV RL 190 RX11 yX11_item wsX11_item) := goodIn_app (goodIn_of _ (by decide +kernel)) ggL_law_X11_item
