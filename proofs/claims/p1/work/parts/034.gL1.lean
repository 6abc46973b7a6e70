set_option maxRecDepth 20000 in
theorem ggL_law_X10_law : GoodIn wsL_law wsX10_law := goodIn_r _ [299, 21, 25, 282, 16, 300, 301, 302, 303, 304, 20, 305, 306, 307, 308, 309, 310, 311, 312, 313, 314, 315, 316, 317, 318, 319, 320, 321, 322, 323, 113, 324, 325, 326, 327, 328, 329, 330, 331, 332, 333, 334, 335, 336, 337, 338, 339, 340, 341, 342, 343, 344, 251, 345, 179, 2, 180, 346, 347, 348, 349, 350, 351, 352, 24, 353, 76, 77, 78, 79, 80, 354, 355, 356, 357, 358, 359, 360, 361, 1265, 1266, 1267, 1268, 1269, 1270, 1271, 1272, 1273, 1274, 1312, 1313, 1314, 1315, 1303, 1304, 1305, 1306, 1307, 1308, 1309, 1310, 1311, 1316, 1317, 1318, 1319, 1320, 1321] (by decide +kernel) (by decide +kernel)
set_option maxRecDepth 20000 in
theorem gL_law_X10_law : GoodIn wsL_law (wsV RL 44 RX10 yX10_law wsX10_law) := goodIn_app (goodIn_of _ (by decide +kernel)) ggL_law_X10_law
set_option maxRecDepth 20000 in
theorem ggL_law_X11_law : GoodIn wsL_law wsX11_law := goodIn_r _ [365, 295, 366, 150, 152, 367, 368, 369, 370, 5, 371, 372, 373, 374, 375, 376, 377, 378, 379, 380, 381, 382, 383, 384, 151, 385, 386, 387, 388, 389, 390, 391, 392, 393, 394, 192, 193, 194, 1275, 1276, 1277, 1278, 1279, 1280, 1281, 1282, 1283, 1284, 1285, 1286, 1287, 1288, 1289, 1290, 1291, 1292, 1293, 1294, 1295, 1296, 1297, 1298, 1299, 1300, 1301, 1302] (by decide +kernel) (by decide +kernel)
set_option maxRecDepth 20000 in
theorem gL_law_X11_law : GoodIn wsL_law (wsV RL 48 RX11 yX11_law wsX11_law) := goodIn_app (goodIn_of _ (by decide +kernel)) ggL_law_X11_law
set_option maxRecDepth 20000 in
theorem ggL_law_X10_grows : GoodIn wsL_law wsX10_grows := goodIn_r _ [398, 16, 300, 173, 175, 176, 2, 177, 178, 179, 180, 399, 400, 401, 24, 402, 403, 354, 404, 76, 405, 246, 247, 49, 248, 249, 250, 251, 252, 70, 406, 407, 408, 409, 77, 78, 80, 79, 410, 411, 412, 413, 1265, 1266, 1267, 1268, 1269, 1270, 1271, 1272, 1273, 1274, 1303, 1304, 1305, 1306, 1307, 1308, 1309, 1310, 1311, 1359, 1360, 1361, 1316, 1317, 1318, 1319, 1320, 1321] (by decide +kernel) (by decide +kernel)
set_option maxRecDepth 20000 in
theorem gL_law_X10_grows : GoodIn wsL_law (wsV RL 49 RX10 yX10_grows wsX10_grows) := goodIn_app (goodIn_of _ (by decide +kernel)) ggL_law_X10_grows
set_option maxRecDepth 20000 in
theorem ggL_law_X11_grows : GoodIn wsL_law wsX11_grows := goodIn_r _ [417, 188, 189, 5, 190, 191, 192, 193, 194, 418, 419, 420, 421, 150, 257, 258, 259, 260, 422, 423, 424, 425, 1275, 1276, 1277, 1278, 1279, 1280, 1281, 1282, 1283, 1284, 1285, 1286, 1287, 1288, 1289, 1290, 1291, 1292, 1293, 1294, 1295, 1296, 1297, 1298, 1299, 1300, 1301, 1302] (by decide +kernel) (by decide +kernel)
set_option maxRecDepth 20000 in
theorem gL_law_X11_grows : GoodIn wsL_law (wsV RL 52 RX11 yX11_grows wsX11_grows) := goodIn_app (goodIn_of _ (by decide +kernel)) ggL_law_X11_grows
set_option maxRecDepth 20000 in
theorem ggL_law_X10_learn : GoodIn wsL_law wsX10_learn := goodIn_r _ [429, 33, 205, 206, 207, 2, 208, 178, 179, 180, 209, 210, 211, 32, 212, 213, 214, 215, 175, 176, 177, 430, 431, 432, 433, 16, 173, 265, 266, 267, 49, 268, 249, 250, 251, 252, 70, 269, 246, 247, 248, 1265, 1266, 1267, 1268, 1269, 1270, 1271, 1272, 1273, 1274, 1330, 1331, 1332, 1333, 1303, 1304, 1305, 1306, 1307, 1308, 1309, 1310, 1311, 1359, 1360, 1361] (by decide +kernel) (by decide +kernel)
set_option maxRecDepth 20000 in
theorem gL_law_X10_learn : GoodIn wsL_law (wsV RL 53 RX10 yX10_learn wsX10_learn) := goodIn_app (goodIn_of _ (by decide +kernel)) ggL_law_X10_learn
set_option maxRecDepth 20000 in
theorem ggL_law_X11_learn : GoodIn wsL_law wsX11_learn := goodIn_r _ [437, 291, 198, 168, 222, 223, 5, 224, 225, 220, 192, 193, 194, 226, 227, 228, 229, 166, 167, 188, 189, 190, 191, 438, 439, 440, 441, 257, 258, 259, 260, 150, 274, 275, 276, 277, 1275, 1276, 1277, 1278, 1279, 1280, 1281, 1282, 1283, 1284, 1285, 1286, 1287, 1288, 1289, 1290, 1291, 1292, 1293, 1294, 1295, 1296, 1297, 1298, 1299, 1300, 1301, 1302] (by decide +kernel) (by decide +kernel)
set_option maxRecDepth 20000 in
theorem gL_law_X11_learn : GoodIn wsL_law (wsV RL 56 RX11 yX11_learn wsX11_learn) := goodIn_app (goodIn_of _ (by decide +kernel)) ggL_law_X11_learn
set_option maxRecDepth 20000 in
theorem ggL_law_X10_make : GoodIn wsL_law wsX10_make := goodIn_r _ [445, 16, 300, 301, 446, 173, 447, 39, 448, 449, 450, 2, 451, 178, 179, 180, 452, 453, 454, 55, 455, 456, 457, 458, 459, 460, 461, 462, 400, 401, 24, 402, 403, 354, 404, 76, 405, 246, 247, 49, 248, 249, 250, 251, 252, 70, 406, 407, 408, 409, 77, 78, 80, 79, 410, 411, 412, 413, 463, 464, 465, 466, 84, 85, 86, 467, 266, 267, 268, 269, 468, 469, 470, 59, 471, 472, 95, 96, 100, 97, 98, 99, 473, 474, 475, 476, 1265, 1266, 1267, 1268, 1269, 1270, 1271, 1272, 1273, 1274, 1303, 1304, 1305, 1306, 1307, 1308, 1309, 1310, 1311, 1316, 1317, 1318, 1319, 1320, 1321, 1362, 1363, 1364, 1365, 1366, 1367, 1368, 1369, 1370, 1371, 1372, 1359, 1360, 1361, 1373, 1374, 1375, 1376, 1377, 1378, 1379] (by decide +kernel) (by decide +kernel)
set_option maxRecDepth 20000 in
theorem gL_law_X10_make : GoodIn wsL_law (wsV RL 57 RX10 yX10_make wsX10_make) := goodIn_app (goodIn_of _ (by decide +kernel)) ggL_law_X10_make
set_option maxRecDepth 20000 in
theorem ggL_law_X11_make : GoodIn wsL_law wsX11_make := goodIn_r _ [480, 150, 481, 482, 5, 483, 192, 193, 194, 484, 485, 486, 487, 488, 489, 490, 491, 492, 493, 494, 495, 496, 497, 498, 499, 418, 419, 420, 421, 257, 258, 259, 260, 422, 423, 424, 425, 500, 501, 502, 503, 274, 275, 276, 277, 1275, 1276, 1277, 1278, 1279, 1280, 1281, 1282, 1283, 1284, 1285, 1286, 1287, 1288, 1289, 1290, 1291, 1292, 1293, 1294, 1295, 1296, 1297, 1298, 1299, 1300, 1301, 1302] (by decide +kernel) (by decide +kernel)
set_option maxRecDepth 20000 in
theorem gL_law_X11_make : GoodIn wsL_law (wsV RL 60 RX11 yX11_make wsX11_make) := goodIn_app (goodIn_of _ (by decide +kernel)) ggL_law_X11_make
set_option maxRecDepth 20000 in
theorem ggL_law_X10_truth : GoodIn wsL_law wsX10_truth := goodIn_r _ [507, 16, 446, 508, 509, 510, 511, 512, 2, 513, 448, 449, 450, 451, 178, 179, 180, 514, 515, 516, 55, 517, 84, 1265, 1266, 1267, 1268, 1269, 1270, 1271, 1272, 1273, 1274, 1303, 1304, 1305, 1306, 1307, 1308, 1309, 1310, 1311, 1362, 1363, 1364, 1365, 1366, 1367, 1368, 1369, 1370, 1371, 1372] (by decide +kernel) (by decide +kernel)
set_option maxRecDepth 20000 in
theorem gL_law_X10_truth : GoodIn wsL_law (wsV RL 61 RX10 yX10_truth wsX10_truth) := goodIn_app (goodIn_of _ (by decide +kernel)) ggL_law_X10_truth
set_option maxRecDepth 20000 in
theorem ggL_law_X11_truth : GoodIn wsL_law wsX11_truth := goodIn_r _ [521, 150, 481, 482, 5, 483, 192, 193, 194, 522, 523, 524, 525, 526, 527, 528, 529, 1275, 1276, 1277, 1278, 1279, 1280, 1281, 1282, 1283, 1284, 1285, 1286, 1287, 1288, 1289, 1290, 1291, 1292, 1293, 1294, 1295, 1296, 1297, 1298, 1299, 1300, 1301, 1302] (by decide +kernel) (by decide +kernel)
set_option maxRecDepth 20000 in
theorem gL_law_X11_truth : GoodIn wsL_law (wsV RL 64 RX11 yX11_truth wsX11_truth) := goodIn_app (goodIn_of _ (by decide +kernel)) ggL_law_X11_truth
set_option maxRecDepth 20000 in
theorem ggL_law_X10_put : GoodIn wsL_law wsX10_put := goodIn_r _ [533, 16, 446, 448, 508, 39, 449, 450, 2, 451, 178, 179, 180, 534, 464, 465, 55, 466, 456, 84, 85, 86, 1265, 1266, 1267, 1268, 1269, 1270, 1271, 1272, 1273, 1274, 1303, 1304, 1305, 1306, 1307, 1308, 1309, 1310, 1311, 1362, 1363, 1364, 1365, 1366, 1367, 1368, 1369, 1370, 1371, 1372] (by decide +kernel) (by decide +kernel)
set_option maxRecDepth 20000 in
theorem gL_law_X10_put : GoodIn wsL_law (wsV RL 65 RX10 yX10_put wsX10_put) := goodIn_app (goodIn_of _ (by decide +kernel)) ggL_law_X10_put
set_option maxRecDepth 20000 in
theorem ggL_law_X11_put : GoodIn wsL_law wsX11_put := goodIn_r _ [538, 220, 539, 540, 150, 481, 482, 5, 483, 192, 193, 194, 500, 501, 502, 503, 1275, 1276, 1277, 1278, 1279, 1280, 1281, 1282, 1283, 1284, 1285, 1286, 1287, 1288, 1289, 1290, 1291, 1292, 1293, 1294, 1295, 1296, 1297, 1298, 1299, 1300, 1301, 1302] (by decide +kernel) (by decide +kernel)
set_option maxRecDepth 20000 in
theorem gL_law_X11_put : GoodIn wsL_law (wsV RL 68 RX11 yX11_put wsX11_put) := goodIn_app (goodIn_of _ (by decide +kernel)) ggL_law_X11_put
set_option maxRecDepth 20000 in
theorem ggL_law_X10_cut : GoodIn wsL_law wsX10_cut := goodIn_r _ [544, 16, 446, 447, 39, 510, 511, 512, 2, 513, 448, 449, 450, 451, 178, 179, 180, 545, 546, 547, 55, 548, 457, 456, 458, 89, 87, 88, 90, 549, 550, 551, 552, 468, 469, 470, 59, 471, 472, 95, 96, 100, 97, 98, 99, 473, 474, 475, 476, 1265, 1266, 1267, 1268, 1269, 1270, 1271, 1272, 1273, 1274, 1303, 1304, 1305, 1306, 1307, 1308, 1309, 1310, 1311, 1362, 1363, 1364, 1365, 1366, 1367, 1368, 1369, 1370, 1371, 1372, 1373, 1374, 1375, 1376, 1377, 1378, 1379] (by decide +kernel) (by decide +kernel)
set_option maxRecDepth 20000 in
theorem gL_law_X10_cut : GoodIn wsL_law (wsV RL 69 RX10 yX10_cut wsX10_cut) := goodIn_app (goodIn_of _ (by decide +kernel)) ggL_law_X10_cut
set_option maxRecDepth 20000 in
theorem ggL_law_X11_cut : GoodIn wsL_law wsX11_cut := goodIn_r _ [556, 150, 481, 482, 5, 483, 192, 193, 194, 522, 523, 524, 525, 484, 485, 486, 487, 488, 489, 490, 491, 492, 493, 494, 495, 496, 497, 498, 499, 1275, 1276, 1277, 1278, 1279, 1280, 1281, 1282, 1283, 1284, 1285, 1286, 1287, 1288, 1289, 1290, 1291, 1292, 1293, 1294, 1295, 1296, 1297, 1298, 1299, 1300, 1301, 1302] (by decide +kernel) (by decide +kernel)
set_option maxRecDepth 20000 in
theorem gL_law_X11_cut : GoodIn wsL_law (wsV RL 72 RX11 yX11_cut wsX11_cut) := goodIn_app (goodIn_of _ (by decide +kernel)) ggL_law_X11_cut
