set_option maxRecDepth 20000 in
theorem ggL_law_X11_claim : GoodIn wsL_law wsX11_claim := goodIn_r _ [1011, 295, 366, 150, 152, 1012, 1013, 1014, 5, 1015, 1016, 1017, 1018, 1019, 151, 393, 394, 377, 378, 379, 380, 381, 382, 383, 384, 389, 390, 391, 392, 192, 193, 194, 1275, 1276, 1277, 1278, 1279, 1280, 1281, 1282, 1283, 1284, 1285, 1286, 1287, 1288, 1289, 1290, 1291, 1292, 1293, 1294, 1295, 1296, 1297, 1298, 1299, 1300, 1301, 1302] (by decide +kernel) (by decide +kernel)
set_option maxRecDepth 20000 in
theorem gL_law_X11_claim : GoodIn wsL_law (wsV RL 150 RX11 yX11_claim wsX11_claim) := goodIn_app (goodIn_of _ (by decide +kernel)) ggL_law_X11_claim
