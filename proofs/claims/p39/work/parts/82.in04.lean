set_option maxRecDepth 100000 in
theorem in_wsL_law_r45 : ∀ w ∈ wsL_law_r45, w ∈ lw_tbl := fun w h => (goodIn_p wsL_law_r45 [988, 991, 995, 999, 1004, 1008] (by decide +kernel) (by decide +kernel) w h).1
set_option maxRecDepth 100000 in
theorem in_wsL_law_r46 : ∀ w ∈ wsL_law_r46, w ∈ lw_tbl := fun w h => (goodIn_p wsL_law_r46 [1014, 1018, 1527, 1531, 1535] (by decide +kernel) (by decide +kernel) w h).1
set_option maxRecDepth 100000 in
theorem in_wsL_law_r47 : ∀ w ∈ wsL_law_r47, w ∈ lw_tbl := fun w h => (goodIn_p wsL_law_r47 [1539, 1543, 1547, 1550, 1554, 1558, 1562] (by decide +kernel) (by decide +kernel) w h).1
set_option maxRecDepth 100000 in
theorem in_wsL_law_r48 : ∀ w ∈ wsL_law_r48, w ∈ lw_tbl := fun w h => (goodIn_p wsL_law_r48 [1566, 1022, 1026, 1570, 1033] (by decide +kernel) (by decide +kernel) w h).1
set_option maxRecDepth 100000 in
theorem in_wsL_law_r49 : ∀ w ∈ wsL_law_r49, w ∈ lw_tbl := fun w h => (goodIn_p wsL_law_r49 [1037, 1574, 1042, 1579] (by decide +kernel) (by decide +kernel) w h).1
set_option maxRecDepth 100000 in
theorem in_wsL_law_r50 : ∀ w ∈ wsL_law_r50, w ∈ lw_tbl := fun w h => (goodIn_p wsL_law_r50 [1046, 1050, 1585, 1589, 1055, 1059] (by decide +kernel) (by decide +kernel) w h).1
set_option maxRecDepth 100000 in
theorem in_wsL_law_r51 : ∀ w ∈ wsL_law_r51, w ∈ lw_tbl := fun w h => (goodIn_p wsL_law_r51 [1063, 1069, 1074, 1593, 1081] (by decide +kernel) (by decide +kernel) w h).1
set_option maxRecDepth 100000 in
theorem in_wsL_law_r52 : ∀ w ∈ wsL_law_r52, w ∈ lw_tbl := fun w h => (goodIn_p wsL_law_r52 [1597, 1085, 1089, 1092, 1601, 1096] (by decide +kernel) (by decide +kernel) w h).1
set_option maxRecDepth 100000 in
theorem in_wsL_law_r53 : ∀ w ∈ wsL_law_r53, w ∈ lw_tbl := fun w h => (goodIn_p wsL_law_r53 [1605, 1100, 1104, 1609] (by decide +kernel) (by decide +kernel) w h).1
set_option maxRecDepth 100000 in
theorem in_wsX100 : ∀ w ∈ wsX100, w ∈ lw_tbl := fun w h => (goodIn_p wsX100 [] (by decide +kernel) (by decide +kernel) w h).1
set_option maxRecDepth 100000 in
theorem in_wsX110 : ∀ w ∈ wsX110, w ∈ lw_tbl := fun w h => (goodIn_p wsX110 [] (by decide +kernel) (by decide +kernel) w h).1
