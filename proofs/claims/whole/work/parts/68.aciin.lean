set_option maxRecDepth 20000 in
theorem in_wsL_law0_r49 : GoodIn lw_tbl wsL_law0_r49 := goodIn_p wsL_law0_r49 [902, 913, 908] (by decide +kernel) (by decide +kernel)
set_option maxRecDepth 20000 in
theorem in_wsL_law0_r50 : GoodIn lw_tbl wsL_law0_r50 := goodIn_p wsL_law0_r50 [1429] (by decide +kernel) (by decide +kernel)
