set_option maxRecDepth 20000 in
theorem in_wsL_law0_r37 : GoodIn lw_tbl wsL_law0_r37 := goodIn_p wsL_law0_r37 [661, 665, 1346, 669, 673, 679] (by decide +kernel) (by decide +kernel)
set_option maxRecDepth 20000 in
theorem in_wsL_law0_r38 : GoodIn lw_tbl wsL_law0_r38 := goodIn_p wsL_law0_r38 [676, 1350, 1354, 1357, 683, 687] (by decide +kernel) (by decide +kernel)
set_option maxRecDepth 20000 in
theorem in_wsL_law0_r39 : GoodIn lw_tbl wsL_law0_r39 := goodIn_p wsL_law0_r39 [1361, 1365, 692, 1370, 696] (by decide +kernel) (by decide +kernel)
set_option maxRecDepth 20000 in
theorem in_wsL_law0_r40 : GoodIn lw_tbl wsL_law0_r40 := goodIn_p wsL_law0_r40 [1376, 700, 1380, 704, 708, 712] (by decide +kernel) (by decide +kernel)
set_option maxRecDepth 20000 in
theorem in_wsL_law0_r41 : GoodIn lw_tbl wsL_law0_r41 := goodIn_p wsL_law0_r41 [719, 1384, 1388, 723] (by decide +kernel) (by decide +kernel)
set_option maxRecDepth 20000 in
theorem in_wsL_law0_r42 : GoodIn lw_tbl wsL_law0_r42 := goodIn_p wsL_law0_r42 [1174, 727, 1178, 731, 735, 739] (by decide +kernel) (by decide +kernel)
