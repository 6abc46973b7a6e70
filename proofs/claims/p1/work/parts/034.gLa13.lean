set_option maxRecDepth 20000 in
theorem ggL_law_X11_holds : GoodIn wsL_law wsX11_holds := goodIn_r _ [1147, 150, 1093, 1094, 1095, 5, 1096, 192, 193, 194, 481, 482, 483, 526, 527, 528, 529, 1109, 1110, 1111, 1112, 567, 568, 569, 570, 1124, 1125, 1126, 1127, 1128, 1129, 1130, 1131, 1275, 1276, 1277, 1278, 1279, 1280, 1281, 1282, 1283, 1284, 1285, 1286, 1287, 1288, 1289, 1290, 1291, 1292, 1293, 1294, 1295, 1296, 1297, 1298, 1299, 1300, 1301, 1302] (by decide +kernel) (by decide +kernel)
set_option maxRecDepth 20000 in
theorem gL_law_X11_holds : GoodIn wsL_law (wsV RL 158 RX11 yX11_holds wsX11_holds) := goodIn_app (goodIn_of _ (by decide +kernel)) ggL_law_X11_holds
