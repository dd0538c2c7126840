set_option maxRecDepth 20000 in
theorem in_wsL_law0_r43 : GoodIn lw_tbl wsL_law0_r43 := goodIn_p wsL_law0_r43 [1395, 743, 747, 751, 1399] (by decide +kernel) (by decide +kernel)
set_option maxRecDepth 20000 in
theorem in_wsL_law0_r44 : GoodIn lw_tbl wsL_law0_r44 := goodIn_p wsL_law0_r44 [755, 759, 1403, 764, 768, 772] (by decide +kernel) (by decide +kernel)
set_option maxRecDepth 20000 in
theorem in_wsL_law0_r45 : GoodIn lw_tbl wsL_law0_r45 := goodIn_p wsL_law0_r45 [1407, 1410, 922, 1414] (by decide +kernel) (by decide +kernel)
set_option maxRecDepth 20000 in
theorem in_wsL_law0_r46 : GoodIn lw_tbl wsL_law0_r46 := goodIn_p wsL_law0_r46 [1055, 776, 1418, 781, 788] (by decide +kernel) (by decide +kernel)
set_option maxRecDepth 20000 in
theorem in_wsL_law0_r47 : GoodIn lw_tbl wsL_law0_r47 := goodIn_p wsL_law0_r47 [791, 809, 795, 798, 803] (by decide +kernel) (by decide +kernel)
set_option maxRecDepth 20000 in
theorem in_wsL_law0_r48 : GoodIn lw_tbl wsL_law0_r48 := goodIn_p wsL_law0_r48 [807, 1422, 1425, 828, 822] (by decide +kernel) (by decide +kernel)
