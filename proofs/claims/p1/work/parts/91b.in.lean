set_option maxRecDepth 20000 in
theorem wi_r15 : GoodIn lw_tbl wsL_law_r15 := goodIn_p wsL_law_r15 [1281, 1285, 1289, 1293, 1296, 611] (by decide +kernel) (by decide +kernel)
set_option maxRecDepth 20000 in
theorem wi_r16 : GoodIn lw_tbl wsL_law_r16 := goodIn_p wsL_law_r16 [615, 1300] (by decide +kernel) (by decide +kernel)
set_option maxRecDepth 20000 in
theorem wi_r17 : GoodIn lw_tbl wsL_law_r17 := goodIn_p wsL_law_r17 [620, 624, 628, 632] (by decide +kernel) (by decide +kernel)
set_option maxRecDepth 20000 in
theorem wi_r18 : GoodIn lw_tbl wsL_law_r18 := goodIn_p wsL_law_r18 [635, 638, 645, 1304, 1308] (by decide +kernel) (by decide +kernel)
set_option maxRecDepth 20000 in
theorem wi_r19 : GoodIn lw_tbl wsL_law_r19 := goodIn_p wsL_law_r19 [1312, 1316, 1320, 1324, 1327, 1330] (by decide +kernel) (by decide +kernel)
set_option maxRecDepth 20000 in
theorem wi_r20 : GoodIn lw_tbl wsL_law_r20 := goodIn_p wsL_law_r20 [649, 652, 655, 659, 664, 668] (by decide +kernel) (by decide +kernel)
set_option maxRecDepth 20000 in
theorem wi_r21 : GoodIn lw_tbl wsL_law_r21 := goodIn_p wsL_law_r21 [1334, 1338, 1342, 1346, 672] (by decide +kernel) (by decide +kernel)
set_option maxRecDepth 20000 in
theorem wi_r22 : GoodIn lw_tbl wsL_law_r22 := goodIn_p wsL_law_r22 [1350, 676, 1354, 680, 1358, 684] (by decide +kernel) (by decide +kernel)
set_option maxRecDepth 20000 in
theorem wi_r23 : GoodIn lw_tbl wsL_law_r23 := goodIn_p wsL_law_r23 [1362, 689, 693, 697] (by decide +kernel) (by decide +kernel)
set_option maxRecDepth 20000 in
theorem wi_r24 : GoodIn lw_tbl wsL_law_r24 := goodIn_p wsL_law_r24 [1366, 1370, 1374, 701] (by decide +kernel) (by decide +kernel)
set_option maxRecDepth 20000 in
theorem wi_r25 : GoodIn lw_tbl wsL_law_r25 := goodIn_p wsL_law_r25 [705, 709, 713, 718, 721] (by decide +kernel) (by decide +kernel)
set_option maxRecDepth 20000 in
theorem wi_r26 : GoodIn lw_tbl wsL_law_r26 := goodIn_p wsL_law_r26 [726, 730] (by decide +kernel) (by decide +kernel)
set_option maxRecDepth 20000 in
theorem wi_r27 : GoodIn lw_tbl wsL_law_r27 := goodIn_p wsL_law_r27 [1378, 1382, 1386, 1390, 1394] (by decide +kernel) (by decide +kernel)
set_option maxRecDepth 20000 in
theorem wi_r28 : GoodIn lw_tbl wsL_law_r28 := goodIn_p wsL_law_r28 [1398, 736, 1402, 740, 1406, 744] (by decide +kernel) (by decide +kernel)
