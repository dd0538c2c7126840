set_option maxRecDepth 20000 in
theorem in_wsL_law0_r31 : GoodIn lw_tbl wsL_law0_r31 := goodIn_p wsL_law0_r31 [1276, 1280, 588, 592, 1284, 596] (by decide +kernel) (by decide +kernel)
set_option maxRecDepth 20000 in
theorem in_wsL_law0_r32 : GoodIn lw_tbl wsL_law0_r32 := goodIn_p wsL_law0_r32 [1288, 1291, 601, 605, 1295, 1299] (by decide +kernel) (by decide +kernel)
set_option maxRecDepth 20000 in
theorem in_wsL_law0_r33 : GoodIn lw_tbl wsL_law0_r33 := goodIn_p wsL_law0_r33 [610, 1303, 614, 618, 1307] (by decide +kernel) (by decide +kernel)
set_option maxRecDepth 20000 in
theorem in_wsL_law0_r34 : GoodIn lw_tbl wsL_law0_r34 := goodIn_p wsL_law0_r34 [623, 627, 631, 1311, 635, 1315] (by decide +kernel) (by decide +kernel)
set_option maxRecDepth 20000 in
theorem in_wsL_law0_r35 : GoodIn lw_tbl wsL_law0_r35 := goodIn_p wsL_law0_r35 [1319, 639, 1323, 643, 647, 652] (by decide +kernel) (by decide +kernel)
set_option maxRecDepth 20000 in
theorem in_wsL_law0_r36 : GoodIn lw_tbl wsL_law0_r36 := goodIn_p wsL_law0_r36 [1327, 1331, 1335, 657, 1342] (by decide +kernel) (by decide +kernel)
