set_option maxRecDepth 20000 in
theorem wi_r29 : GoodIn lw_tbl wsL_law_r29 := goodIn_p wsL_law_r29 [748, 1410, 1414, 753, 1418, 757] (by decide +kernel) (by decide +kernel)
set_option maxRecDepth 20000 in
theorem wi_r30 : GoodIn lw_tbl wsL_law_r30 := goodIn_p wsL_law_r30 [761, 1422, 765, 768, 772] (by decide +kernel) (by decide +kernel)
set_option maxRecDepth 20000 in
theorem wi_r31 : GoodIn lw_tbl wsL_law_r31 := goodIn_p wsL_law_r31 [777, 1426, 781, 1430, 785] (by decide +kernel) (by decide +kernel)
set_option maxRecDepth 20000 in
theorem wi_r32 : GoodIn lw_tbl wsL_law_r32 := goodIn_p wsL_law_r32 [789, 793, 797] (by decide +kernel) (by decide +kernel)
set_option maxRecDepth 20000 in
theorem wi_r33 : GoodIn lw_tbl wsL_law_r33 := goodIn_p wsL_law_r33 [801, 806, 812] (by decide +kernel) (by decide +kernel)
set_option maxRecDepth 20000 in
theorem wi_r34 : GoodIn lw_tbl wsL_law_r34 := goodIn_p wsL_law_r34 [817, 822, 827, 839, 831] (by decide +kernel) (by decide +kernel)
set_option maxRecDepth 20000 in
theorem wi_r35 : GoodIn lw_tbl wsL_law_r35 := goodIn_p wsL_law_r35 [836, 843, 1434, 1438] (by decide +kernel) (by decide +kernel)
set_option maxRecDepth 20000 in
theorem wi_r36 : GoodIn lw_tbl wsL_law_r36 := goodIn_p wsL_law_r36 [1442, 1446, 1451, 1455] (by decide +kernel) (by decide +kernel)
set_option maxRecDepth 20000 in
theorem wi_r37 : GoodIn lw_tbl wsL_law_r37 := goodIn_p wsL_law_r37 [1459, 1463, 848, 1468, 852] (by decide +kernel) (by decide +kernel)
set_option maxRecDepth 20000 in
theorem wi_r38 : GoodIn lw_tbl wsL_law_r38 := goodIn_p wsL_law_r38 [1472, 856, 1476, 860, 864] (by decide +kernel) (by decide +kernel)
set_option maxRecDepth 20000 in
theorem wi_r39 : GoodIn lw_tbl wsL_law_r39 := goodIn_p wsL_law_r39 [1480, 868, 1484, 872, 877, 1488] (by decide +kernel) (by decide +kernel)
set_option maxRecDepth 20000 in
theorem wi_r40 : GoodIn lw_tbl wsL_law_r40 := goodIn_p wsL_law_r40 [881, 885, 890, 894, 1492] (by decide +kernel) (by decide +kernel)
set_option maxRecDepth 20000 in
theorem wi_r41 : GoodIn lw_tbl wsL_law_r41 := goodIn_p wsL_law_r41 [898, 902, 908, 1496, 1500, 913] (by decide +kernel) (by decide +kernel)
set_option maxRecDepth 20000 in
theorem wi_r42 : GoodIn lw_tbl wsL_law_r42 := goodIn_p wsL_law_r42 [917, 922, 1504, 926, 930] (by decide +kernel) (by decide +kernel)
