set_option maxRecDepth 100000 in
theorem ggL_law_X11_looked_h : GoodIn wsL_law [.code yX11_looked cX11_looked 11 (some .int)] := goodIn_r _ [1160] (by decide +kernel) (by decide +kernel)
set_option maxRecDepth 100000 in
theorem ggL_law_X11_looked_0 : GoodIn wsL_law wsX11_looked_r1 := goodIn_r _ [1161, 150, 730, 1093, 1094, 1095, 5, 1096, 192, 193, 194, 481, 482, 483, 892, 893, 894, 895, 632, 633, 634, 635, 526, 527] (by decide +kernel) (by decide +kernel)
set_option maxRecDepth 100000 in
theorem ggL_law_X11_looked_1 : GoodIn wsL_law wsX11_looked_r2 := goodIn_r _ [528, 529, 731, 732, 733, 734, 735, 736, 737, 738, 496, 497, 498, 499, 739, 740, 741, 742, 743, 744, 745, 746, 747, 748] (by decide +kernel) (by decide +kernel)
set_option maxRecDepth 100000 in
theorem ggL_law_X11_looked_2 : GoodIn wsL_law wsX11_looked_r3 := goodIn_r _ [153, 154, 749, 155, 156, 157, 488, 489, 490, 491, 750, 751, 752, 753, 754, 755, 756, 757, 758, 759, 760, 761, 762, 763] (by decide +kernel) (by decide +kernel)
set_option maxRecDepth 100000 in
theorem ggL_law_X11_looked_3 : GoodIn wsL_law wsX11_looked_r4 := goodIn_r _ [764, 765, 158, 766, 767, 768, 769, 770, 771, 772, 773, 774, 775, 776, 159, 1097, 1098, 1099, 1100, 164, 163, 1101, 1102, 1103] (by decide +kernel) (by decide +kernel)
set_option maxRecDepth 100000 in
theorem ggL_law_X11_looked_4 : GoodIn wsL_law wsX11_looked_r5 := goodIn_r _ [1104, 1105, 1106, 1107, 1108, 1109, 1110, 1111, 1112, 567, 568, 569, 570, 1113, 1114, 1115, 1116, 1117, 1118, 1119, 1120, 1121, 1122, 1123] (by decide +kernel) (by decide +kernel)
set_option maxRecDepth 100000 in
theorem ggL_law_X11_looked_5 : GoodIn wsL_law wsX11_looked_r6 := goodIn_r _ [1124, 1125, 1126, 1127, 1128, 1129, 1130, 1131] (by decide +kernel) (by decide +kernel)
set_option maxRecDepth 100000 in
theorem ggL_law_X11_looked_6 : GoodIn wsL_law wsX110 := goodIn_r _ [1275, 1276, 1277, 1278, 1279, 1280, 1281, 1282, 1283, 1284, 1285, 1286, 1287, 1288, 1289, 1290, 1291, 1292, 1293, 1294, 1295, 1296, 1297, 1298, 1299, 1300, 1301, 1302] (by decide +kernel) (by decide +kernel)
set_option maxRecDepth 100000 in
theorem ggL_law_X11_looked : GoodIn wsL_law wsX11_looked := goodIn_app (a := [.code yX11_looked cX11_looked 11 (some .int)]) ggL_law_X11_looked_h (goodIn_app (goodIn_app ggL_law_X11_looked_0 (goodIn_app ggL_law_X11_looked_1 (goodIn_app ggL_law_X11_looked_2 (goodIn_app ggL_law_X11_looked_3 (goodIn_app ggL_law_X11_looked_4 ggL_law_X11_looked_5))))) ggL_law_X11_looked_6)
set_option maxRecDepth 20000 in
theorem gL_law_X11_looked : GoodIn wsL_law (wsV RL 162 RX11 yX11_looked wsX11_looked) := goodIn_app (goodIn_of _ (by decide +kernel)) ggL_law_X11_looked
