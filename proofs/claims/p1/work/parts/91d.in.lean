set_option maxRecDepth 20000 in
theorem wi_r43 : GoodIn lw_tbl wsL_law_r43 := goodIn_p wsL_law_r43 [1508, 934, 1512, 938, 942, 1516] (by decide +kernel) (by decide +kernel)
set_option maxRecDepth 20000 in
theorem wi_r44 : GoodIn lw_tbl wsL_law_r44 := goodIn_p wsL_law_r44 [1520, 946, 950, 954, 958] (by decide +kernel) (by decide +kernel)
set_option maxRecDepth 20000 in
theorem wi_r45 : GoodIn lw_tbl wsL_law_r45 := goodIn_p wsL_law_r45 [962, 1524, 1528] (by decide +kernel) (by decide +kernel)
set_option maxRecDepth 20000 in
theorem wi_r46 : GoodIn lw_tbl wsL_law_r46 := goodIn_p wsL_law_r46 [1532, 970, 1536, 974, 1540, 978] (by decide +kernel) (by decide +kernel)
set_option maxRecDepth 20000 in
theorem wi_r47 : GoodIn lw_tbl wsL_law_r47 := goodIn_p wsL_law_r47 [983, 1544, 987, 1551, 991] (by decide +kernel) (by decide +kernel)
set_option maxRecDepth 20000 in
theorem wi_r48 : GoodIn lw_tbl wsL_law_r48 := goodIn_p wsL_law_r48 [995, 998, 1002, 1005, 1555, 1559] (by decide +kernel) (by decide +kernel)
set_option maxRecDepth 20000 in
theorem wi_r49 : GoodIn lw_tbl wsL_law_r49 := goodIn_p wsL_law_r49 [1563, 1566, 1009, 1570, 1013, 1017, 1021] (by decide +kernel) (by decide +kernel)
set_option maxRecDepth 20000 in
theorem wi_r50 : GoodIn lw_tbl wsL_law_r50 := goodIn_p wsL_law_r50 [1025, 1574, 1578, 1029, 1582, 1033] (by decide +kernel) (by decide +kernel)
set_option maxRecDepth 20000 in
theorem wi_r51 : GoodIn lw_tbl wsL_law_r51 := goodIn_p wsL_law_r51 [1586, 1037, 1044, 1050] (by decide +kernel) (by decide +kernel)
set_option maxRecDepth 20000 in
theorem wi_r52 : GoodIn lw_tbl wsL_law_r52 := goodIn_p wsL_law_r52 [1056, 1061, 1590, 1595, 1600] (by decide +kernel) (by decide +kernel)
set_option maxRecDepth 20000 in
theorem wi_wsX110 : GoodIn lw_tbl wsX110 := goodIn_p wsX110 [] (by decide +kernel) (by decide +kernel)
set_option maxRecDepth 20000 in
theorem wi_wsX120 : GoodIn lw_tbl wsX120 := goodIn_p wsX120 [] (by decide +kernel) (by decide +kernel)
set_option maxRecDepth 20000 in
theorem wi_wsX100 : GoodIn lw_tbl wsX100 := goodIn_p wsX100 [] (by decide +kernel) (by decide +kernel)
set_option maxRecDepth 20000 in
theorem wi_wsX40 : GoodIn lw_tbl wsX40 := goodIn_p wsX40 [] (by decide +kernel) (by decide +kernel)
