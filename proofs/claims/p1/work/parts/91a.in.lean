set_option maxRecDepth 20000 in
theorem wi_r1 : GoodIn lw_tbl wsL_law_r1 := goodIn_p wsL_law_r1 [90, 93] (by decide +kernel) (by decide +kernel)
set_option maxRecDepth 20000 in
theorem wi_r2 : GoodIn lw_tbl wsL_law_r2 := goodIn_p wsL_law_r2 [104] (by decide +kernel) (by decide +kernel)
set_option maxRecDepth 20000 in
theorem wi_r3 : GoodIn lw_tbl wsL_law_r3 := goodIn_p wsL_law_r3 [110, 117, 257] (by decide +kernel) (by decide +kernel)
set_option maxRecDepth 20000 in
theorem wi_r4 : GoodIn lw_tbl wsL_law_r4 := goodIn_p wsL_law_r4 [282, 289, 326] (by decide +kernel) (by decide +kernel)
set_option maxRecDepth 20000 in
theorem wi_r5 : GoodIn lw_tbl wsL_law_r5 := goodIn_p wsL_law_r5 [332, 410, 435, 451] (by decide +kernel) (by decide +kernel)
set_option maxRecDepth 20000 in
theorem wi_r6 : GoodIn lw_tbl wsL_law_r6 := goodIn_p wsL_law_r6 [1067] (by decide +kernel) (by decide +kernel)
set_option maxRecDepth 20000 in
theorem wi_r7 : GoodIn lw_tbl wsL_law_r7 := goodIn_p wsL_law_r7 [503, 506, 510, 514, 517, 1211] (by decide +kernel) (by decide +kernel)
set_option maxRecDepth 20000 in
theorem wi_r8 : GoodIn lw_tbl wsL_law_r8 := goodIn_p wsL_law_r8 [1214, 1217, 1221, 1225, 521, 525] (by decide +kernel) (by decide +kernel)
set_option maxRecDepth 20000 in
theorem wi_r9 : GoodIn lw_tbl wsL_law_r9 := goodIn_p wsL_law_r9 [529, 533, 1245, 1229, 1233] (by decide +kernel) (by decide +kernel)
set_option maxRecDepth 20000 in
theorem wi_r10 : GoodIn lw_tbl wsL_law_r10 := goodIn_p wsL_law_r10 [1237, 1241, 537, 541, 1250, 545] (by decide +kernel) (by decide +kernel)
set_option maxRecDepth 20000 in
theorem wi_r11 : GoodIn lw_tbl wsL_law_r11 := goodIn_p wsL_law_r11 [549, 1254, 556, 1258, 560] (by decide +kernel) (by decide +kernel)
set_option maxRecDepth 20000 in
theorem wi_r12 : GoodIn lw_tbl wsL_law_r12 := goodIn_p wsL_law_r12 [563, 567, 570, 1262, 1265, 574] (by decide +kernel) (by decide +kernel)
set_option maxRecDepth 20000 in
theorem wi_r13 : GoodIn lw_tbl wsL_law_r13 := goodIn_p wsL_law_r13 [578, 582, 1269, 1273, 586, 590] (by decide +kernel) (by decide +kernel)
set_option maxRecDepth 20000 in
theorem wi_r14 : GoodIn lw_tbl wsL_law_r14 := goodIn_p wsL_law_r14 [594, 598, 602, 605, 1277] (by decide +kernel) (by decide +kernel)
