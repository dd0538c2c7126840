set_option maxRecDepth 20000 in
theorem ggX0_init_X4_init : GoodIn wsX0_init wsX4_init := goodIn_r _ [4, 5, 6, 7, 8, 9, 10, 11] (by decide +kernel) (by decide +kernel)
set_option maxRecDepth 20000 in
theorem gX0_init_X4_init : GoodIn wsX0_init (wsX4_init) := ggX0_init_X4_init
set_option maxRecDepth 20000 in
theorem ggX0_presses_X4_presses : GoodIn wsX0_presses wsX4_presses := goodIn_r _ [6, 7, 8, 9, 10, 11, 12] (by decide +kernel) (by decide +kernel)
set_option maxRecDepth 20000 in
theorem gX0_presses_X4_presses_s7 : GoodIn wsX0_presses (va_wsSU RX0 7 yX4_presses wsX4_presses) := goodIn_app (goodIn_of _ (by decide +kernel)) ggX0_presses_X4_presses
set_option maxRecDepth 20000 in
theorem ggX0_price_X4_price : GoodIn wsX0_price wsX4_price := goodIn_r _ [6, 7, 8, 9, 10, 11, 12] (by decide +kernel) (by decide +kernel)
set_option maxRecDepth 20000 in
theorem gX0_price_X4_price_s11 : GoodIn wsX0_price (va_wsSU RX0 11 yX4_price wsX4_price) := goodIn_app (goodIn_of _ (by decide +kernel)) ggX0_price_X4_price
set_option maxRecDepth 20000 in
theorem ggX0_failureAsTold_X0_price : GoodIn wsX0_failureAsTold wsX0_price := goodIn_r _ [5, 6, 7, 8, 9, 10, 11, 12, 13, 14, 15, 16, 17] (by decide +kernel) (by decide +kernel)
set_option maxRecDepth 20000 in
theorem gX0_failureAsTold_X0_price : GoodIn wsX0_failureAsTold (wsV RX0 15 RX0 yX0_price wsX0_price) := goodIn_app (goodIn_of _ (by decide +kernel)) ggX0_failureAsTold_X0_price
set_option maxRecDepth 20000 in
theorem ggX1_init_J7_fill_53178 : GoodIn wsX1_init wsJ7_fill_53178 := goodIn_r _ [19] (by decide +kernel) (by decide +kernel)
set_option maxRecDepth 20000 in
theorem gX1_init_J7_fill_53178 : GoodIn wsX1_init (va_wsS RX1 46 yJ7_fill_53178 wsJ7_fill_53178) := goodIn_app (goodIn_of _ (by decide +kernel)) ggX1_init_J7_fill_53178
set_option maxRecDepth 20000 in
theorem ggX1_has_X11_isWithin : GoodIn wsX1_has wsX11_isWithin := goodIn_r _ [4] (by decide +kernel) (by decide +kernel)
set_option maxRecDepth 20000 in
theorem gX1_has_X11_isWithin_n65 : GoodIn wsX1_has (wsX11_isWithin) := ggX1_has_X11_isWithin
set_option maxRecDepth 20000 in
theorem ggX1_setHeight_X11_isCell : GoodIn wsX1_setHeight wsX11_isCell := goodIn_r _ [4, 5, 6, 3, 7] (by decide +kernel) (by decide +kernel)
set_option maxRecDepth 20000 in
theorem gX1_setHeight_X11_isCell_n69 : GoodIn wsX1_setHeight (wsX11_isCell) := ggX1_setHeight_X11_isCell
set_option maxRecDepth 20000 in
theorem ggX1_setHeight_X11_isWithin : GoodIn wsX1_setHeight wsX11_isWithin := goodIn_r _ [7] (by decide +kernel) (by decide +kernel)
set_option maxRecDepth 20000 in
theorem gX1_setHeight_X11_isWithin_n65 : GoodIn wsX1_setHeight (wsX11_isWithin) := ggX1_setHeight_X11_isWithin
set_option maxRecDepth 20000 in
theorem ggX1_addWalker_X11_isCell : GoodIn wsX1_addWalker wsX11_isCell := goodIn_r _ [6, 7, 8, 5, 9] (by decide +kernel) (by decide +kernel)
set_option maxRecDepth 20000 in
theorem gX1_addWalker_X11_isCell_n69 : GoodIn wsX1_addWalker (wsX11_isCell) := ggX1_addWalker_X11_isCell
set_option maxRecDepth 20000 in
theorem ggX1_addWalker_X1_setNature : GoodIn wsX1_addWalker wsX1_setNature := goodIn_r _ [14, 15, 16, 17, 18, 19, 20, 21, 8, 5, 9, 22, 23, 24, 25, 26, 27, 28, 29, 30, 31, 32, 33, 34, 35, 36, 37, 38, 39, 40, 41, 42, 43, 44, 45, 46, 47, 48, 49, 50, 51, 52, 53, 54, 55, 56, 57, 58, 59, 60, 61, 62, 63, 64, 65, 66, 67, 68, 69, 70, 71, 72, 73, 74, 75, 76, 77, 78, 79, 80, 81, 82, 83, 84, 85, 86, 87, 88, 89, 90, 91, 92, 93, 94, 95, 96, 97, 98, 99, 100, 101, 102, 103, 104, 105, 106, 107, 108, 109, 110, 111, 112, 113, 114, 115, 116, 117, 118, 119] (by decide +kernel) (by decide +kernel)
set_option maxRecDepth 20000 in
theorem gX1_addWalker_X1_setNature : GoodIn wsX1_addWalker (wsV RX1 73 RX1 yX1_setNature wsX1_setNature) := goodIn_app (goodIn_of _ (by decide +kernel)) ggX1_addWalker_X1_setNature
set_option maxRecDepth 20000 in
theorem ggX1_setNature_X11_isWithin : GoodIn wsX1_setNature wsX11_isWithin := goodIn_r _ [10] (by decide +kernel) (by decide +kernel)
set_option maxRecDepth 20000 in
theorem gX1_setNature_X11_isWithin_n65 : GoodIn wsX1_setNature (wsX11_isWithin) := ggX1_setNature_X11_isWithin
set_option maxRecDepth 20000 in
theorem ggX1_setNature_X0_presses : GoodIn wsX1_setNature wsX0_presses := goodIn_r _ [17, 18, 19, 20, 21, 22, 23, 24, 12, 25, 26, 27, 28] (by decide +kernel) (by decide +kernel)
set_option maxRecDepth 20000 in
theorem gX1_setNature_X0_presses_u77X0 : GoodIn wsX1_setNature (va_wsO RX1 77 RX0 "HillsLieDown$Walker" ⟨"HillsLieDown$Walker", "presses", "(II)I"⟩ yX0_presses wsX0_presses) := goodIn_app (goodIn_of _ (by decide +kernel)) ggX1_setNature_X0_presses
set_option maxRecDepth 20000 in
theorem ggX1_setNature_X2_presses : GoodIn wsX1_setNature wsX2_presses := goodIn_r _ [32, 33, 34, 35, 36, 37, 38, 39, 12, 40, 26, 27, 28] (by decide +kernel) (by decide +kernel)
set_option maxRecDepth 20000 in
theorem gX1_setNature_X2_presses_u77X2 : GoodIn wsX1_setNature (va_wsO RX1 77 RX2 "HillsLieDown$Walker" ⟨"HillsLieDown$Walker", "presses", "(II)I"⟩ yX2_presses wsX2_presses) := goodIn_app (goodIn_of _ (by decide +kernel)) ggX1_setNature_X2_presses
set_option maxRecDepth 20000 in
theorem ggX1_setNature_X9_presses : GoodIn wsX1_setNature wsX9_presses := goodIn_r _ [28] (by decide +kernel) (by decide +kernel)
set_option maxRecDepth 20000 in
theorem gX1_setNature_X9_presses_u77X3 : GoodIn wsX1_setNature (va_wsU RX1 77 RX3 "HillsLieDown$Walker" ⟨"HillsLieDown$Walker", "presses", "(II)I"⟩ yX9_presses wsX9_presses) := goodIn_app (goodIn_of _ (by decide +kernel)) ggX1_setNature_X9_presses
set_option maxRecDepth 20000 in
theorem ggX1_setNature_X4_presses : GoodIn wsX1_setNature wsX4_presses := goodIn_r _ [23, 24, 12, 25, 26, 27, 28] (by decide +kernel) (by decide +kernel)
set_option maxRecDepth 20000 in
theorem gX1_setNature_X4_presses_u77X4 : GoodIn wsX1_setNature (va_wsO RX1 77 RX4 "HillsLieDown$Walker" ⟨"HillsLieDown$Walker", "presses", "(II)I"⟩ yX4_presses wsX4_presses) := goodIn_app (goodIn_of _ (by decide +kernel)) ggX1_setNature_X4_presses
set_option maxRecDepth 20000 in
theorem ggX1_setNature_X6_presses : GoodIn wsX1_setNature wsX6_presses := goodIn_r _ [38, 39, 12, 40, 26, 27, 28] (by decide +kernel) (by decide +kernel)
set_option maxRecDepth 20000 in
theorem gX1_setNature_X6_presses_u77X6 : GoodIn wsX1_setNature (va_wsO RX1 77 RX6 "HillsLieDown$Walker" ⟨"HillsLieDown$Walker", "presses", "(II)I"⟩ yX6_presses wsX6_presses) := goodIn_app (goodIn_of _ (by decide +kernel)) ggX1_setNature_X6_presses
set_option maxRecDepth 20000 in
theorem ggX1_setNature_X8_presses : GoodIn wsX1_setNature wsX8_presses := goodIn_r _ [47] (by decide +kernel) (by decide +kernel)
set_option maxRecDepth 20000 in
theorem gX1_setNature_X8_presses_u77X8 : GoodIn wsX1_setNature (va_wsO RX1 77 RX8 "HillsLieDown$Walker" ⟨"HillsLieDown$Walker", "presses", "(II)I"⟩ yX8_presses wsX8_presses) := goodIn_app (goodIn_of _ (by decide +kernel)) ggX1_setNature_X8_presses
set_option maxRecDepth 20000 in
theorem gX1_setNature_X9_presses : GoodIn wsX1_setNature (wsV RX1 77 RX9 yX9_presses wsX9_presses) := goodIn_app (goodIn_of _ (by decide +kernel)) ggX1_setNature_X9_presses
set_option maxRecDepth 20000 in
theorem ggX1_setNature_X10_presses : GoodIn wsX1_setNature wsX10_presses := goodIn_r _ [53] (by decide +kernel) (by decide +kernel)
set_option maxRecDepth 20000 in
theorem gX1_setNature_X10_presses_u77X10 : GoodIn wsX1_setNature (va_wsO RX1 77 RX10 "HillsLieDown$Walker" ⟨"HillsLieDown$Walker", "presses", "(II)I"⟩ yX10_presses wsX10_presses) := goodIn_app (goodIn_of _ (by decide +kernel)) ggX1_setNature_X10_presses
set_option maxRecDepth 20000 in
theorem ggX1_setNature_X0_spreads : GoodIn wsX1_setNature wsX0_spreads := goodIn_r _ [59] (by decide +kernel) (by decide +kernel)
set_option maxRecDepth 20000 in
theorem gX1_setNature_X0_spreads_u83X0 : GoodIn wsX1_setNature (va_wsO RX1 83 RX0 "HillsLieDown$Walker" ⟨"HillsLieDown$Walker", "spreads", "()I"⟩ yX0_spreads wsX0_spreads) := goodIn_app (goodIn_of _ (by decide +kernel)) ggX1_setNature_X0_spreads
set_option maxRecDepth 20000 in
theorem ggX1_setNature_X2_spreads : GoodIn wsX1_setNature wsX2_spreads := goodIn_r _ [63] (by decide +kernel) (by decide +kernel)
set_option maxRecDepth 20000 in
theorem gX1_setNature_X2_spreads_u83X2 : GoodIn wsX1_setNature (va_wsO RX1 83 RX2 "HillsLieDown$Walker" ⟨"HillsLieDown$Walker", "spreads", "()I"⟩ yX2_spreads wsX2_spreads) := goodIn_app (goodIn_of _ (by decide +kernel)) ggX1_setNature_X2_spreads
set_option maxRecDepth 20000 in
theorem ggX1_setNature_X9_spreads : GoodIn wsX1_setNature wsX9_spreads := goodIn_r _ [60] (by decide +kernel) (by decide +kernel)
set_option maxRecDepth 20000 in
theorem gX1_setNature_X9_spreads_u83X3 : GoodIn wsX1_setNature (va_wsU RX1 83 RX3 "HillsLieDown$Walker" ⟨"HillsLieDown$Walker", "spreads", "()I"⟩ yX9_spreads wsX9_spreads) := goodIn_app (goodIn_of _ (by decide +kernel)) ggX1_setNature_X9_spreads
set_option maxRecDepth 20000 in
theorem ggX1_setNature_X4_spreads : GoodIn wsX1_setNature wsX4_spreads := goodIn_r _ [68] (by decide +kernel) (by decide +kernel)
set_option maxRecDepth 20000 in
theorem gX1_setNature_X4_spreads_u83X4 : GoodIn wsX1_setNature (va_wsO RX1 83 RX4 "HillsLieDown$Walker" ⟨"HillsLieDown$Walker", "spreads", "()I"⟩ yX4_spreads wsX4_spreads) := goodIn_app (goodIn_of _ (by decide +kernel)) ggX1_setNature_X4_spreads
set_option maxRecDepth 20000 in
theorem gX1_setNature_X9_spreads_u83X6 : GoodIn wsX1_setNature (va_wsU RX1 83 RX6 "HillsLieDown$Walker" ⟨"HillsLieDown$Walker", "spreads", "()I"⟩ yX9_spreads wsX9_spreads) := goodIn_app (goodIn_of _ (by decide +kernel)) ggX1_setNature_X9_spreads
set_option maxRecDepth 20000 in
theorem gX1_setNature_X9_spreads_u83X8 : GoodIn wsX1_setNature (va_wsU RX1 83 RX8 "HillsLieDown$Walker" ⟨"HillsLieDown$Walker", "spreads", "()I"⟩ yX9_spreads wsX9_spreads) := goodIn_app (goodIn_of _ (by decide +kernel)) ggX1_setNature_X9_spreads
set_option maxRecDepth 20000 in
theorem gX1_setNature_X9_spreads : GoodIn wsX1_setNature (wsV RX1 83 RX9 yX9_spreads wsX9_spreads) := goodIn_app (goodIn_of _ (by decide +kernel)) ggX1_setNature_X9_spreads
set_option maxRecDepth 20000 in
theorem gX1_setNature_X9_spreads_u83X10 : GoodIn wsX1_setNature (va_wsU RX1 83 RX10 "HillsLieDown$Walker" ⟨"HillsLieDown$Walker", "spreads", "()I"⟩ yX9_spreads wsX9_spreads) := goodIn_app (goodIn_of _ (by decide +kernel)) ggX1_setNature_X9_spreads
set_option maxRecDepth 20000 in
theorem ggX1_setNature_X4_strides : GoodIn wsX1_setNature wsX4_strides := goodIn_r _ [79] (by decide +kernel) (by decide +kernel)
set_option maxRecDepth 20000 in
theorem gX1_setNature_X4_strides_u87X0 : GoodIn wsX1_setNature (va_wsO RX1 87 RX0 "HillsLieDown$Walker" ⟨"HillsLieDown$Walker", "strides", "(I)I"⟩ yX4_strides wsX4_strides) := goodIn_app (goodIn_of _ (by decide +kernel)) ggX1_setNature_X4_strides
set_option maxRecDepth 20000 in
theorem ggX1_setNature_X6_strides : GoodIn wsX1_setNature wsX6_strides := goodIn_r _ [83] (by decide +kernel) (by decide +kernel)
set_option maxRecDepth 20000 in
theorem gX1_setNature_X6_strides_u87X2 : GoodIn wsX1_setNature (va_wsO RX1 87 RX2 "HillsLieDown$Walker" ⟨"HillsLieDown$Walker", "strides", "(I)I"⟩ yX6_strides wsX6_strides) := goodIn_app (goodIn_of _ (by decide +kernel)) ggX1_setNature_X6_strides
set_option maxRecDepth 20000 in
theorem ggX1_setNature_X9_strides : GoodIn wsX1_setNature wsX9_strides := goodIn_r _ [80] (by decide +kernel) (by decide +kernel)
set_option maxRecDepth 20000 in
theorem gX1_setNature_X9_strides_u87X3 : GoodIn wsX1_setNature (va_wsU RX1 87 RX3 "HillsLieDown$Walker" ⟨"HillsLieDown$Walker", "strides", "(I)I"⟩ yX9_strides wsX9_strides) := goodIn_app (goodIn_of _ (by decide +kernel)) ggX1_setNature_X9_strides
set_option maxRecDepth 20000 in
theorem gX1_setNature_X4_strides_u87X4 : GoodIn wsX1_setNature (va_wsO RX1 87 RX4 "HillsLieDown$Walker" ⟨"HillsLieDown$Walker", "strides", "(I)I"⟩ yX4_strides wsX4_strides) := goodIn_app (goodIn_of _ (by decide +kernel)) ggX1_setNature_X4_strides
set_option maxRecDepth 20000 in
theorem gX1_setNature_X6_strides_u87X6 : GoodIn wsX1_setNature (va_wsO RX1 87 RX6 "HillsLieDown$Walker" ⟨"HillsLieDown$Walker", "strides", "(I)I"⟩ yX6_strides wsX6_strides) := goodIn_app (goodIn_of _ (by decide +kernel)) ggX1_setNature_X6_strides
set_option maxRecDepth 20000 in
theorem ggX1_setNature_X8_strides : GoodIn wsX1_setNature wsX8_strides := goodIn_r _ [90] (by decide +kernel) (by decide +kernel)
set_option maxRecDepth 20000 in
theorem gX1_setNature_X8_strides_u87X8 : GoodIn wsX1_setNature (va_wsO RX1 87 RX8 "HillsLieDown$Walker" ⟨"HillsLieDown$Walker", "strides", "(I)I"⟩ yX8_strides wsX8_strides) := goodIn_app (goodIn_of _ (by decide +kernel)) ggX1_setNature_X8_strides
set_option maxRecDepth 20000 in
theorem gX1_setNature_X9_strides : GoodIn wsX1_setNature (wsV RX1 87 RX9 yX9_strides wsX9_strides) := goodIn_app (goodIn_of _ (by decide +kernel)) ggX1_setNature_X9_strides
set_option maxRecDepth 20000 in
theorem ggX1_setNature_X10_strides : GoodIn wsX1_setNature wsX10_strides := goodIn_r _ [95] (by decide +kernel) (by decide +kernel)
set_option maxRecDepth 20000 in
theorem gX1_setNature_X10_strides_u87X10 : GoodIn wsX1_setNature (va_wsO RX1 87 RX10 "HillsLieDown$Walker" ⟨"HillsLieDown$Walker", "strides", "(I)I"⟩ yX10_strides wsX10_strides) := goodIn_app (goodIn_of _ (by decide +kernel)) ggX1_setNature_X10_strides
set_option maxRecDepth 20000 in
theorem ggX1_setPlace_X1_has : GoodIn wsX1_setPlace wsX1_has := goodIn_r _ [6, 7, 8, 9, 10, 14, 15, 16, 17, 18, 19, 20, 21, 22, 23, 24, 25, 26] (by decide +kernel) (by decide +kernel)
set_option maxRecDepth 20000 in
theorem gX1_setPlace_X1_has : GoodIn wsX1_setPlace (wsV RX1 91 RX1 yX1_has wsX1_has) := goodIn_app (goodIn_of _ (by decide +kernel)) ggX1_setPlace_X1_has
set_option maxRecDepth 20000 in
theorem ggX1_setPlace_X11_isCell : GoodIn wsX1_setPlace wsX11_isCell := goodIn_r _ [12, 13, 8, 9, 10] (by decide +kernel) (by decide +kernel)
set_option maxRecDepth 20000 in
theorem gX1_setPlace_X11_isCell_n69 : GoodIn wsX1_setPlace (wsX11_isCell) := ggX1_setPlace_X11_isCell
set_option maxRecDepth 20000 in
theorem ggX1_setWay_X1_has : GoodIn wsX1_setWay wsX1_has := goodIn_r _ [6, 7, 8, 9, 10, 11, 12, 13, 14, 15, 16, 17, 18, 19, 20, 21, 22, 23] (by decide +kernel) (by decide +kernel)
set_option maxRecDepth 20000 in
theorem gX1_setWay_X1_has : GoodIn wsX1_setWay (wsV RX1 91 RX1 yX1_has wsX1_has) := goodIn_app (goodIn_of _ (by decide +kernel)) ggX1_setWay_X1_has
set_option maxRecDepth 20000 in
theorem ggX1_setWay_X11_isWithin : GoodIn wsX1_setWay wsX11_isWithin := goodIn_r _ [10] (by decide +kernel) (by decide +kernel)
set_option maxRecDepth 20000 in
theorem gX1_setWay_X11_isWithin_n65 : GoodIn wsX1_setWay (wsX11_isWithin) := ggX1_setWay_X11_isWithin
set_option maxRecDepth 20000 in
theorem ggX1_passDaysAsTold_X11_isWithin : GoodIn wsX1_passDaysAsTold wsX11_isWithin := goodIn_r _ [4] (by decide +kernel) (by decide +kernel)
set_option maxRecDepth 20000 in
theorem gX1_passDaysAsTold_X11_isWithin_n65 : GoodIn wsX1_passDaysAsTold (wsX11_isWithin) := ggX1_passDaysAsTold_X11_isWithin
set_option maxRecDepth 20000 in
theorem ggX1_passDaysAsTold_X1_passDays : GoodIn wsX1_passDaysAsTold wsX1_passDays := goodIn_r _ [9, 10, 11, 12, 8, 13, 1, 14, 15, 16, 17, 3, 18, 19, 2, 4, 20, 21, 22, 23, 24, 25, 26, 27, 28, 29, 30, 31, 32, 33, 34, 35, 36, 37, 38, 39, 40, 41, 42, 43, 44] (by decide +kernel) (by decide +kernel)
set_option maxRecDepth 20000 in
theorem gX1_passDaysAsTold_X1_passDays : GoodIn wsX1_passDaysAsTold (wsV RX1 94 RX1 yX1_passDays wsX1_passDays) := goodIn_app (goodIn_of _ (by decide +kernel)) ggX1_passDaysAsTold_X1_passDays
set_option maxRecDepth 20000 in
theorem ggX1_passDays_X1_passDay : GoodIn wsX1_passDays wsX1_passDay := goodIn_r _ [5, 6, 7, 8, 9, 10, 11, 12, 13, 14, 15, 16, 17, 18, 4, 19, 20, 21, 22, 23, 24, 25, 26, 27, 28, 29, 30, 31, 32, 33, 34, 35, 36, 37, 38, 39, 40] (by decide +kernel) (by decide +kernel)
set_option maxRecDepth 20000 in
theorem gX1_passDays_X1_passDay : GoodIn wsX1_passDays (wsV RX1 98 RX1 yX1_passDay wsX1_passDay) := goodIn_app (goodIn_of _ (by decide +kernel)) ggX1_passDays_X1_passDay
set_option maxRecDepth 20000 in
theorem ggX1_passDay_X11_isCell : GoodIn wsX1_passDay wsX11_isCell := goodIn_r _ [7, 8, 9, 6, 10] (by decide +kernel) (by decide +kernel)
set_option maxRecDepth 20000 in
theorem gX1_passDay_X11_isCell_n69 : GoodIn wsX1_passDay (wsX11_isCell) := ggX1_passDay_X11_isCell
set_option maxRecDepth 20000 in
theorem ggX1_passDay_X1_mayGo : GoodIn wsX1_passDay wsX1_mayGo := goodIn_r _ [15, 3, 16, 5, 6, 7, 8, 9, 10, 17, 18, 19, 14, 20, 21, 2, 22, 23, 24, 25, 26, 27, 28, 29, 30, 31, 32, 33, 34, 35, 36] (by decide +kernel) (by decide +kernel)
set_option maxRecDepth 20000 in
theorem gX1_passDay_X1_mayGo : GoodIn wsX1_passDay (wsV RX1 102 RX1 yX1_mayGo wsX1_mayGo) := goodIn_app (goodIn_of _ (by decide +kernel)) ggX1_passDay_X1_mayGo
set_option maxRecDepth 20000 in
theorem ggX1_mayGo_X11_isCell : GoodIn wsX1_mayGo wsX11_isCell := goodIn_r _ [5, 6, 7, 4, 8] (by decide +kernel) (by decide +kernel)
set_option maxRecDepth 20000 in
theorem gX1_mayGo_X11_isCell_n69 : GoodIn wsX1_mayGo (wsX11_isCell) := ggX1_mayGo_X11_isCell
set_option maxRecDepth 20000 in
theorem ggX1_mayGo_X1_level : GoodIn wsX1_mayGo wsX1_level := goodIn_r _ [13, 14, 15, 1, 16, 17, 18, 19, 20, 21, 22, 23, 24, 25, 26, 27, 28, 29, 30] (by decide +kernel) (by decide +kernel)
set_option maxRecDepth 20000 in
theorem gX1_mayGo_X1_level : GoodIn wsX1_mayGo (wsV RX1 106 RX1 yX1_level wsX1_level) := goodIn_app (goodIn_of _ (by decide +kernel)) ggX1_mayGo_X1_level
set_option maxRecDepth 20000 in
theorem ggX1_shownAge_X9_shows : GoodIn wsX1_shownAge wsX9_shows := goodIn_r _ [10] (by decide +kernel) (by decide +kernel)
set_option maxRecDepth 20000 in
theorem gX1_shownAge_X9_shows_u109X0 : GoodIn wsX1_shownAge (va_wsU RX1 109 RX0 "HillsLieDown$Walker" ⟨"HillsLieDown$Walker", "shows", "(II)I"⟩ yX9_shows wsX9_shows) := goodIn_app (goodIn_of _ (by decide +kernel)) ggX1_shownAge_X9_shows
set_option maxRecDepth 20000 in
theorem gX1_shownAge_X9_shows_u109X2 : GoodIn wsX1_shownAge (va_wsU RX1 109 RX2 "HillsLieDown$Walker" ⟨"HillsLieDown$Walker", "shows", "(II)I"⟩ yX9_shows wsX9_shows) := goodIn_app (goodIn_of _ (by decide +kernel)) ggX1_shownAge_X9_shows
set_option maxRecDepth 20000 in
theorem ggX1_shownAge_X3_shows : GoodIn wsX1_shownAge wsX3_shows := goodIn_r _ [16] (by decide +kernel) (by decide +kernel)
set_option maxRecDepth 20000 in
theorem gX1_shownAge_X3_shows_u109X3 : GoodIn wsX1_shownAge (va_wsO RX1 109 RX3 "HillsLieDown$Walker" ⟨"HillsLieDown$Walker", "shows", "(II)I"⟩ yX3_shows wsX3_shows) := goodIn_app (goodIn_of _ (by decide +kernel)) ggX1_shownAge_X3_shows
set_option maxRecDepth 20000 in
theorem gX1_shownAge_X9_shows_u109X4 : GoodIn wsX1_shownAge (va_wsU RX1 109 RX4 "HillsLieDown$Walker" ⟨"HillsLieDown$Walker", "shows", "(II)I"⟩ yX9_shows wsX9_shows) := goodIn_app (goodIn_of _ (by decide +kernel)) ggX1_shownAge_X9_shows
set_option maxRecDepth 20000 in
theorem gX1_shownAge_X9_shows_u109X6 : GoodIn wsX1_shownAge (va_wsU RX1 109 RX6 "HillsLieDown$Walker" ⟨"HillsLieDown$Walker", "shows", "(II)I"⟩ yX9_shows wsX9_shows) := goodIn_app (goodIn_of _ (by decide +kernel)) ggX1_shownAge_X9_shows
set_option maxRecDepth 20000 in
theorem ggX1_shownAge_X8_shows : GoodIn wsX1_shownAge wsX8_shows := goodIn_r _ [22, 23, 24, 25, 14, 15, 16] (by decide +kernel) (by decide +kernel)
set_option maxRecDepth 20000 in
theorem gX1_shownAge_X8_shows_u109X8 : GoodIn wsX1_shownAge (va_wsO RX1 109 RX8 "HillsLieDown$Walker" ⟨"HillsLieDown$Walker", "shows", "(II)I"⟩ yX8_shows wsX8_shows) := goodIn_app (goodIn_of _ (by decide +kernel)) ggX1_shownAge_X8_shows
set_option maxRecDepth 20000 in
theorem gX1_shownAge_X9_shows : GoodIn wsX1_shownAge (wsV RX1 109 RX9 yX9_shows wsX9_shows) := goodIn_app (goodIn_of _ (by decide +kernel)) ggX1_shownAge_X9_shows
set_option maxRecDepth 20000 in
theorem gX1_shownAge_X9_shows_u109X10 : GoodIn wsX1_shownAge (va_wsU RX1 109 RX10 "HillsLieDown$Walker" ⟨"HillsLieDown$Walker", "shows", "(II)I"⟩ yX9_shows wsX9_shows) := goodIn_app (goodIn_of _ (by decide +kernel)) ggX1_shownAge_X9_shows
set_option maxRecDepth 20000 in
theorem ggX1_payOf_X11_isIn : GoodIn wsX1_payOf wsX11_isIn := goodIn_r _ [4] (by decide +kernel) (by decide +kernel)
set_option maxRecDepth 20000 in
theorem gX1_payOf_X11_isIn_n112 : GoodIn wsX1_payOf (wsX11_isIn) := ggX1_payOf_X11_isIn
set_option maxRecDepth 20000 in
theorem ggX1_payOf_X1_shownAge : GoodIn wsX1_payOf wsX1_shownAge := goodIn_r _ [9, 10, 11, 12, 13, 14, 15, 16, 17, 18, 19, 20, 21, 22, 23, 24, 25, 26, 27, 28, 29, 30, 31, 32, 33, 34, 35, 36, 37, 38, 39, 40, 41, 42, 43, 44, 45, 46, 47, 48, 49, 50] (by decide +kernel) (by decide +kernel)
set_option maxRecDepth 20000 in
theorem gX1_payOf_X1_shownAge : GoodIn wsX1_payOf (wsV RX1 115 RX1 yX1_shownAge wsX1_shownAge) := goodIn_app (goodIn_of _ (by decide +kernel)) ggX1_payOf_X1_shownAge
set_option maxRecDepth 20000 in
theorem ggX1_riseFrom_X1_level : GoodIn wsX1_riseFrom wsX1_level := goodIn_r _ [5, 6, 7, 8, 9, 10, 11, 12, 13, 14, 15, 16, 17, 18, 19, 20, 21, 22, 23] (by decide +kernel) (by decide +kernel)
set_option maxRecDepth 20000 in
theorem gX1_riseFrom_X1_level : GoodIn wsX1_riseFrom (wsV RX1 106 RX1 yX1_level wsX1_level) := goodIn_app (goodIn_of _ (by decide +kernel)) ggX1_riseFrom_X1_level
set_option maxRecDepth 20000 in
theorem ggX1_steepness_X1_riseFrom : GoodIn wsX1_steepness wsX1_riseFrom := goodIn_r _ [9, 10, 11, 12, 8, 13, 14, 15, 16, 17, 18, 19, 20, 21, 22, 23, 24, 25, 26, 27, 28, 29, 30, 31] (by decide +kernel) (by decide +kernel)
set_option maxRecDepth 20000 in
theorem gX1_steepness_X1_riseFrom : GoodIn wsX1_steepness (wsV RX1 118 RX1 yX1_riseFrom wsX1_riseFrom) := goodIn_app (goodIn_of _ (by decide +kernel)) ggX1_steepness_X1_riseFrom
set_option maxRecDepth 20000 in
theorem ggX1_steepestCell_X1_steepness : GoodIn wsX1_steepestCell wsX1_steepness := goodIn_r _ [5, 6, 7, 8, 9, 10, 11, 12, 4, 13, 14, 15, 16, 17, 18, 19, 20, 21, 22, 23, 24, 25, 26, 27, 28, 29, 30, 31, 32, 33, 34, 35] (by decide +kernel) (by decide +kernel)
set_option maxRecDepth 20000 in
theorem gX1_steepestCell_X1_steepness : GoodIn wsX1_steepestCell (wsV RX1 126 RX1 yX1_steepness wsX1_steepness) := goodIn_app (goodIn_of _ (by decide +kernel)) ggX1_steepestCell_X1_steepness
set_option maxRecDepth 20000 in
theorem ggX1_flattestCell_X1_steepness : GoodIn wsX1_flattestCell wsX1_steepness := goodIn_r _ [5, 6, 7, 8, 9, 10, 11, 12, 4, 13, 14, 15, 16, 17, 18, 19, 20, 21, 22, 23, 24, 25, 26, 27, 28, 29, 30, 31, 32, 33, 34, 35] (by decide +kernel) (by decide +kernel)
set_option maxRecDepth 20000 in
theorem gX1_flattestCell_X1_steepness : GoodIn wsX1_flattestCell (wsV RX1 126 RX1 yX1_steepness wsX1_steepness) := goodIn_app (goodIn_of _ (by decide +kernel)) ggX1_flattestCell_X1_steepness
set_option maxRecDepth 20000 in
theorem ggX1_flood_X1_level : GoodIn wsX1_flood wsX1_level := goodIn_r _ [13, 14, 15, 16, 17, 18, 19, 20, 21, 22, 23, 24, 25, 26, 27, 28, 29, 30, 31] (by decide +kernel) (by decide +kernel)
set_option maxRecDepth 20000 in
theorem gX1_flood_X1_level : GoodIn wsX1_flood (wsV RX1 106 RX1 yX1_level wsX1_level) := goodIn_app (goodIn_of _ (by decide +kernel)) ggX1_flood_X1_level
set_option maxRecDepth 20000 in
theorem ggX1_waterOf_X11_isCell : GoodIn wsX1_waterOf wsX11_isCell := goodIn_r _ [4, 5, 6, 3, 7] (by decide +kernel) (by decide +kernel)
set_option maxRecDepth 20000 in
theorem gX1_waterOf_X11_isCell_n69 : GoodIn wsX1_waterOf (wsX11_isCell) := ggX1_waterOf_X11_isCell
set_option maxRecDepth 20000 in
theorem ggX1_waterOf_X1_allWater : GoodIn wsX1_waterOf wsX1_allWater := goodIn_r _ [12, 1, 13, 14, 15, 11, 16, 17, 18, 19, 20, 21, 22, 23, 24, 25, 26, 27, 28, 29, 30, 31, 32, 33, 34, 35, 36, 37, 38, 39, 40, 41, 42, 43, 44, 45] (by decide +kernel) (by decide +kernel)
set_option maxRecDepth 20000 in
theorem gX1_waterOf_X1_allWater : GoodIn wsX1_waterOf (wsV RX1 135 RX1 yX1_allWater wsX1_allWater) := goodIn_app (goodIn_of _ (by decide +kernel)) ggX1_waterOf_X1_allWater
set_option maxRecDepth 20000 in
theorem ggX1_waterOf_X1_flood : GoodIn wsX1_waterOf wsX1_flood := goodIn_r _ [16, 1, 17, 18, 19, 20, 21, 22, 23, 24, 25, 26, 11, 27, 28, 29, 30, 31, 32, 33, 34, 35, 36, 37, 38, 39, 40, 41, 42, 43, 44, 45] (by decide +kernel) (by decide +kernel)
set_option maxRecDepth 20000 in
theorem gX1_waterOf_X1_flood : GoodIn wsX1_waterOf (wsV RX1 138 RX1 yX1_flood wsX1_flood) := goodIn_app (goodIn_of _ (by decide +kernel)) ggX1_waterOf_X1_flood
set_option maxRecDepth 20000 in
theorem ggX1_allWater_X1_flood : GoodIn wsX1_allWater wsX1_flood := goodIn_r _ [6, 1, 7, 8, 9, 10, 11, 12, 13, 14, 15, 16, 5, 17, 18, 19, 20, 21, 22, 23, 24, 25, 26, 27, 28, 29, 30, 31, 32, 33, 34, 35] (by decide +kernel) (by decide +kernel)
set_option maxRecDepth 20000 in
theorem gX1_allWater_X1_flood : GoodIn wsX1_allWater (wsV RX1 138 RX1 yX1_flood wsX1_flood) := goodIn_app (goodIn_of _ (by decide +kernel)) ggX1_allWater_X1_flood
set_option maxRecDepth 20000 in
theorem ggX1_wetCells_X1_flood : GoodIn wsX1_wetCells wsX1_flood := goodIn_r _ [6, 1, 7, 8, 9, 10, 11, 12, 13, 14, 15, 16, 5, 17, 18, 19, 20, 21, 22, 23, 24, 25, 26, 27, 28, 29, 30, 31, 32, 33, 34, 35] (by decide +kernel) (by decide +kernel)
set_option maxRecDepth 20000 in
theorem gX1_wetCells_X1_flood : GoodIn wsX1_wetCells (wsV RX1 138 RX1 yX1_flood wsX1_flood) := goodIn_app (goodIn_of _ (by decide +kernel)) ggX1_wetCells_X1_flood
set_option maxRecDepth 20000 in
theorem ggX1_allGround_X1_level : GoodIn wsX1_allGround wsX1_level := goodIn_r _ [5, 6, 7, 8, 9, 10, 11, 12, 13, 14, 15, 16, 17, 18, 19, 20, 21, 22, 23] (by decide +kernel) (by decide +kernel)
set_option maxRecDepth 20000 in
theorem gX1_allGround_X1_level : GoodIn wsX1_allGround (wsV RX1 106 RX1 yX1_level wsX1_level) := goodIn_app (goodIn_of _ (by decide +kernel)) ggX1_allGround_X1_level
set_option maxRecDepth 20000 in
theorem ggX1_walkFar_X1_mayGo : GoodIn wsX1_walkFar wsX1_mayGo := goodIn_r _ [6, 1, 7, 8, 9, 10, 11, 12, 13, 14, 15, 16, 5, 17, 18, 19, 20, 21, 22, 23, 24, 25, 26, 27, 28, 29, 30, 31, 32, 33, 34] (by decide +kernel) (by decide +kernel)
set_option maxRecDepth 20000 in
theorem gX1_walkFar_X1_mayGo : GoodIn wsX1_walkFar (wsV RX1 102 RX1 yX1_mayGo wsX1_mayGo) := goodIn_app (goodIn_of _ (by decide +kernel)) ggX1_walkFar_X1_mayGo
set_option maxRecDepth 20000 in
theorem ggX1_walkTo_X1_gather : GoodIn wsX1_walkTo wsX1_gather := goodIn_r _ [6, 7, 1, 8, 9, 10, 28, 29, 30, 31, 32, 33, 34, 35, 36, 37, 38, 39, 40] (by decide +kernel) (by decide +kernel)
set_option maxRecDepth 20000 in
theorem gX1_walkTo_X1_gather : GoodIn wsX1_walkTo (wsV RX1 141 RX1 yX1_gather wsX1_gather) := goodIn_app (goodIn_of _ (by decide +kernel)) ggX1_walkTo_X1_gather
set_option maxRecDepth 20000 in
theorem ggX1_walkTo_X1_mayGo : GoodIn wsX1_walkTo wsX1_mayGo := goodIn_r _ [14, 1, 15, 16, 9, 17, 18, 19, 20, 21, 22, 23, 5, 24, 25, 7, 26, 27, 28, 29, 30, 31, 32, 33, 34, 35, 36, 37, 38, 39, 40] (by decide +kernel) (by decide +kernel)
set_option maxRecDepth 20000 in
theorem gX1_walkTo_X1_mayGo : GoodIn wsX1_walkTo (wsV RX1 102 RX1 yX1_mayGo wsX1_mayGo) := goodIn_app (goodIn_of _ (by decide +kernel)) ggX1_walkTo_X1_mayGo
set_option maxRecDepth 20000 in
theorem ggX1_gather_X11_isIn : GoodIn wsX1_gather wsX11_isIn := goodIn_r _ [5] (by decide +kernel) (by decide +kernel)
set_option maxRecDepth 20000 in
theorem gX1_gather_X11_isIn_n112 : GoodIn wsX1_gather (wsX11_isIn) := ggX1_gather_X11_isIn
set_option maxRecDepth 20000 in
theorem ggX2_init_X6_init : GoodIn wsX2_init wsX6_init := goodIn_r _ [4, 5, 6, 7, 8, 9, 10, 11] (by decide +kernel) (by decide +kernel)
set_option maxRecDepth 20000 in
theorem gX2_init_X6_init : GoodIn wsX2_init (wsX6_init) := ggX2_init_X6_init
set_option maxRecDepth 20000 in
theorem ggX2_presses_X6_presses : GoodIn wsX2_presses wsX6_presses := goodIn_r _ [6, 7, 8, 9, 10, 11, 12] (by decide +kernel) (by decide +kernel)
set_option maxRecDepth 20000 in
theorem gX2_presses_X6_presses_s7 : GoodIn wsX2_presses (va_wsSU RX2 7 yX6_presses wsX6_presses) := goodIn_app (goodIn_of _ (by decide +kernel)) ggX2_presses_X6_presses
set_option maxRecDepth 20000 in
theorem ggX3_init_X9_init : GoodIn wsX3_init wsX9_init := goodIn_r _ [4, 5, 6, 7] (by decide +kernel) (by decide +kernel)
set_option maxRecDepth 20000 in
theorem gX3_init_X9_init : GoodIn wsX3_init (wsX9_init) := ggX3_init_X9_init
set_option maxRecDepth 20000 in
theorem ggX3_price_X9_price : GoodIn wsX3_price wsX9_price := goodIn_r _ [6] (by decide +kernel) (by decide +kernel)
set_option maxRecDepth 20000 in
theorem gX3_price_X9_price_s7 : GoodIn wsX3_price (va_wsSU RX3 7 yX9_price wsX9_price) := goodIn_app (goodIn_of _ (by decide +kernel)) ggX3_price_X9_price
set_option maxRecDepth 20000 in
theorem ggX4_init_X9_init : GoodIn wsX4_init wsX9_init := goodIn_r _ [4, 5, 6, 7] (by decide +kernel) (by decide +kernel)
set_option maxRecDepth 20000 in
theorem gX4_init_X9_init : GoodIn wsX4_init (wsX9_init) := ggX4_init_X9_init
set_option maxRecDepth 20000 in
theorem ggX4_presses_X9_presses : GoodIn wsX4_presses wsX9_presses := goodIn_r _ [6] (by decide +kernel) (by decide +kernel)
set_option maxRecDepth 20000 in
theorem gX4_presses_X9_presses_s7 : GoodIn wsX4_presses (va_wsSU RX4 7 yX9_presses wsX9_presses) := goodIn_app (goodIn_of _ (by decide +kernel)) ggX4_presses_X9_presses
set_option maxRecDepth 20000 in
theorem ggX4_price_X9_price : GoodIn wsX4_price wsX9_price := goodIn_r _ [6] (by decide +kernel) (by decide +kernel)
set_option maxRecDepth 20000 in
theorem gX4_price_X9_price_s11 : GoodIn wsX4_price (va_wsSU RX4 11 yX9_price wsX9_price) := goodIn_app (goodIn_of _ (by decide +kernel)) ggX4_price_X9_price
set_option maxRecDepth 20000 in
theorem ggX4_failureAsTold_X9_failureAsTold : GoodIn wsX4_failureAsTold wsX9_failureAsTold := goodIn_r _ [6] (by decide +kernel) (by decide +kernel)
set_option maxRecDepth 20000 in
theorem gX4_failureAsTold_X9_failureAsTold_s15 : GoodIn wsX4_failureAsTold (va_wsSU RX4 15 yX9_failureAsTold wsX9_failureAsTold) := goodIn_app (goodIn_of _ (by decide +kernel)) ggX4_failureAsTold_X9_failureAsTold
set_option maxRecDepth 20000 in
theorem ggX5_holdRow_J7_fill_53178 : GoodIn wsX5_holdRow wsJ7_fill_53178 := goodIn_r _ [8] (by decide +kernel) (by decide +kernel)
set_option maxRecDepth 20000 in
theorem gX5_holdRow_J7_fill_53178 : GoodIn wsX5_holdRow (va_wsS RX5 31 yJ7_fill_53178 wsJ7_fill_53178) := goodIn_app (goodIn_of _ (by decide +kernel)) ggX5_holdRow_J7_fill_53178
set_option maxRecDepth 20000 in
theorem ggX5_hasPlaces_X11_isWithin : GoodIn wsX5_hasPlaces wsX11_isWithin := goodIn_r _ [4] (by decide +kernel) (by decide +kernel)
set_option maxRecDepth 20000 in
theorem gX5_hasPlaces_X11_isWithin_n37 : GoodIn wsX5_hasPlaces (wsX11_isWithin) := ggX5_hasPlaces_X11_isWithin
set_option maxRecDepth 20000 in
theorem ggX5_valueOrZero_X11_isWithin : GoodIn wsX5_valueOrZero wsX11_isWithin := goodIn_r _ [5] (by decide +kernel) (by decide +kernel)
set_option maxRecDepth 20000 in
theorem gX5_valueOrZero_X11_isWithin_n37 : GoodIn wsX5_valueOrZero (wsX11_isWithin) := ggX5_valueOrZero_X11_isWithin
set_option maxRecDepth 20000 in
theorem ggX6_init_X9_init : GoodIn wsX6_init wsX9_init := goodIn_r _ [4, 5, 6, 7] (by decide +kernel) (by decide +kernel)
set_option maxRecDepth 20000 in
theorem gX6_init_X9_init : GoodIn wsX6_init (wsX9_init) := ggX6_init_X9_init
set_option maxRecDepth 20000 in
theorem ggX6_presses_X9_presses : GoodIn wsX6_presses wsX9_presses := goodIn_r _ [6] (by decide +kernel) (by decide +kernel)
set_option maxRecDepth 20000 in
theorem gX6_presses_X9_presses_s7 : GoodIn wsX6_presses (va_wsSU RX6 7 yX9_presses wsX9_presses) := goodIn_app (goodIn_of _ (by decide +kernel)) ggX6_presses_X9_presses
set_option maxRecDepth 20000 in
theorem ggX7_lengthFrom_X5_valueOrZero : GoodIn wsX7_lengthFrom wsX5_valueOrZero := goodIn_r _ [5, 6, 7, 8, 9, 10, 15, 16, 17, 18, 19, 20] (by decide +kernel) (by decide +kernel)
set_option maxRecDepth 20000 in
theorem gX7_lengthFrom_X5_valueOrZero : GoodIn wsX7_lengthFrom (wsV RX7 7 RX5 yX5_valueOrZero wsX5_valueOrZero) := goodIn_app (goodIn_of _ (by decide +kernel)) ggX7_lengthFrom_X5_valueOrZero
set_option maxRecDepth 20000 in
theorem ggX7_lengthFrom_X7_digitsBehind : GoodIn wsX7_lengthFrom wsX7_digitsBehind := goodIn_r _ [14] (by decide +kernel) (by decide +kernel)
set_option maxRecDepth 20000 in
theorem gX7_lengthFrom_X7_digitsBehind : GoodIn wsX7_lengthFrom (va_wsS RX7 13 yX7_digitsBehind wsX7_digitsBehind) := goodIn_app (goodIn_of _ (by decide +kernel)) ggX7_lengthFrom_X7_digitsBehind
set_option maxRecDepth 20000 in
theorem ggX7_firstBadPlace_X5_valueOrZero : GoodIn wsX7_firstBadPlace wsX5_valueOrZero := goodIn_r _ [6, 7, 8, 9, 10, 11, 16, 17, 18, 19, 20, 21] (by decide +kernel) (by decide +kernel)
set_option maxRecDepth 20000 in
theorem gX7_firstBadPlace_X5_valueOrZero : GoodIn wsX7_firstBadPlace (wsV RX7 7 RX5 yX5_valueOrZero wsX5_valueOrZero) := goodIn_app (goodIn_of _ (by decide +kernel)) ggX7_firstBadPlace_X5_valueOrZero
set_option maxRecDepth 20000 in
theorem ggX7_firstBadPlace_X7_digitsBehind : GoodIn wsX7_firstBadPlace wsX7_digitsBehind := goodIn_r _ [15] (by decide +kernel) (by decide +kernel)
set_option maxRecDepth 20000 in
theorem gX7_firstBadPlace_X7_digitsBehind : GoodIn wsX7_firstBadPlace (va_wsS RX7 13 yX7_digitsBehind wsX7_digitsBehind) := goodIn_app (goodIn_of _ (by decide +kernel)) ggX7_firstBadPlace_X7_digitsBehind
set_option maxRecDepth 20000 in
theorem ggX7_firstBadPlace_X11_isWithin : GoodIn wsX7_firstBadPlace wsX11_isWithin := goodIn_r _ [11] (by decide +kernel) (by decide +kernel)
set_option maxRecDepth 20000 in
theorem gX7_firstBadPlace_X11_isWithin_n18 : GoodIn wsX7_firstBadPlace (wsX11_isWithin) := ggX7_firstBadPlace_X11_isWithin
set_option maxRecDepth 20000 in
theorem ggX7_number_X5_valueOrZero : GoodIn wsX7_number wsX5_valueOrZero := goodIn_r _ [5, 6, 7, 8, 9, 10, 11, 12, 13, 14, 15, 16] (by decide +kernel) (by decide +kernel)
set_option maxRecDepth 20000 in
theorem gX7_number_X5_valueOrZero : GoodIn wsX7_number (wsV RX7 7 RX5 yX5_valueOrZero wsX5_valueOrZero) := goodIn_app (goodIn_of _ (by decide +kernel)) ggX7_number_X5_valueOrZero
set_option maxRecDepth 20000 in
theorem ggX7_carryOut_X5_valueOrZero : GoodIn wsX7_carryOut wsX5_valueOrZero := goodIn_r _ [5, 6, 7, 8, 9, 10, 160, 161, 162, 163, 164, 165] (by decide +kernel) (by decide +kernel)
set_option maxRecDepth 20000 in
theorem gX7_carryOut_X5_valueOrZero : GoodIn wsX7_carryOut (wsV RX7 7 RX5 yX5_valueOrZero wsX5_valueOrZero) := goodIn_app (goodIn_of _ (by decide +kernel)) ggX7_carryOut_X5_valueOrZero
set_option maxRecDepth 20000 in
theorem ggX7_carryOut_X7_number : GoodIn wsX7_carryOut wsX7_number := goodIn_r _ [14, 1, 2, 3, 4, 5, 6, 7, 8, 9, 10, 160, 161, 162, 163, 164, 165] (by decide +kernel) (by decide +kernel)
set_option maxRecDepth 20000 in
theorem gX7_carryOut_X7_number : GoodIn wsX7_carryOut (va_wsS RX7 28 yX7_number wsX7_number) := goodIn_app (goodIn_of _ (by decide +kernel)) ggX7_carryOut_X7_number
set_option maxRecDepth 20000 in
theorem ggX7_carryOut_X1_setHeight : GoodIn wsX7_carryOut wsX1_setHeight := goodIn_r _ [19, 20, 21, 9, 22, 23, 8, 10, 166, 167, 168, 169, 170, 171, 172, 173, 174, 175, 176, 177, 178] (by decide +kernel) (by decide +kernel)
set_option maxRecDepth 20000 in
theorem gX7_carryOut_X1_setHeight : GoodIn wsX7_carryOut (wsV RX7 32 RX1 yX1_setHeight wsX1_setHeight) := goodIn_app (goodIn_of _ (by decide +kernel)) ggX7_carryOut_X1_setHeight
set_option maxRecDepth 20000 in
theorem ggX7_carryOut_X1_addWalker : GoodIn wsX7_carryOut wsX1_addWalker := goodIn_r _ [27, 28, 29, 30, 21, 9, 22, 23, 8, 10, 31, 32, 33, 18, 34, 35, 36, 37, 38, 39, 40, 41, 42, 43, 44, 45, 46, 47, 48, 49, 50, 51, 52, 53, 54, 55, 56, 57, 58, 59, 60, 61, 62, 63, 64, 65, 66, 67, 68, 69, 70, 71, 72, 73, 74, 75, 76, 77, 78, 79, 80, 81, 82, 83, 84, 85, 86, 87, 88, 89, 90, 91, 92, 93, 94, 95, 96, 97, 98, 99, 100, 101, 102, 103, 104, 105, 106, 107, 108, 109, 110, 111, 112, 113, 114, 115, 116, 117, 118, 119, 120, 121, 122, 123, 124, 125, 126, 166, 167, 168, 169, 170, 171, 172, 173, 174, 175, 176, 177, 178] (by decide +kernel) (by decide +kernel)
set_option maxRecDepth 20000 in
theorem gX7_carryOut_X1_addWalker : GoodIn wsX7_carryOut (wsV RX7 38 RX1 yX1_addWalker wsX1_addWalker) := goodIn_app (goodIn_of _ (by decide +kernel)) ggX7_carryOut_X1_addWalker
set_option maxRecDepth 20000 in
theorem ggX7_carryOut_X1_setPlace : GoodIn wsX7_carryOut wsX1_setPlace := goodIn_r _ [130, 29, 131, 132, 133, 18, 134, 28, 8, 9, 10, 21, 22, 23, 166, 167, 168, 169, 170, 171, 172, 173, 174, 175, 176, 177, 178] (by decide +kernel) (by decide +kernel)
set_option maxRecDepth 20000 in
theorem gX7_carryOut_X1_setPlace : GoodIn wsX7_carryOut (wsV RX7 42 RX1 yX1_setPlace wsX1_setPlace) := goodIn_app (goodIn_of _ (by decide +kernel)) ggX7_carryOut_X1_setPlace
set_option maxRecDepth 20000 in
theorem ggX7_carryOut_X1_setWay : GoodIn wsX7_carryOut wsX1_setWay := goodIn_r _ [138, 30, 131, 132, 133, 18, 134, 28, 8, 9, 10, 166, 167, 168, 169, 170, 171, 172, 173, 174, 175, 176, 177, 178] (by decide +kernel) (by decide +kernel)
set_option maxRecDepth 20000 in
theorem gX7_carryOut_X1_setWay : GoodIn wsX7_carryOut (wsV RX7 45 RX1 yX1_setWay wsX1_setWay) := goodIn_app (goodIn_of _ (by decide +kernel)) ggX7_carryOut_X1_setWay
set_option maxRecDepth 20000 in
theorem ggX7_carryOut_X1_passDaysAsTold : GoodIn wsX7_carryOut wsX1_passDaysAsTold := goodIn_r _ [142, 143, 8, 9, 10, 144, 145, 146, 18, 147, 148, 149, 150, 151, 28, 29, 30, 21, 22, 23, 152, 153, 154, 155, 41, 156, 157, 158, 159, 20, 40, 38, 166, 167, 168, 169, 170, 171, 172, 173, 174, 175, 176, 177, 178] (by decide +kernel) (by decide +kernel)
set_option maxRecDepth 20000 in
theorem gX7_carryOut_X1_passDaysAsTold : GoodIn wsX7_carryOut (wsV RX7 48 RX1 yX1_passDaysAsTold wsX1_passDaysAsTold) := goodIn_app (goodIn_of _ (by decide +kernel)) ggX7_carryOut_X1_passDaysAsTold
set_option maxRecDepth 20000 in
theorem ggX8_init_X3_init : GoodIn wsX8_init wsX3_init := goodIn_r _ [4, 5, 6, 7, 8, 9, 10, 11] (by decide +kernel) (by decide +kernel)
set_option maxRecDepth 20000 in
theorem gX8_init_X3_init : GoodIn wsX8_init (wsX3_init) := ggX8_init_X3_init
set_option maxRecDepth 20000 in
theorem ggX8_shows_X3_shows : GoodIn wsX8_shows wsX3_shows := goodIn_r _ [6] (by decide +kernel) (by decide +kernel)
set_option maxRecDepth 20000 in
theorem gX8_shows_X3_shows_s11 : GoodIn wsX8_shows (va_wsSU RX8 11 yX3_shows wsX3_shows) := goodIn_app (goodIn_of _ (by decide +kernel)) ggX8_shows_X3_shows
set_option maxRecDepth 20000 in
theorem ggX10_init_X9_init : GoodIn wsX10_init wsX9_init := goodIn_r _ [4, 5, 6, 7] (by decide +kernel) (by decide +kernel)
set_option maxRecDepth 20000 in
theorem gX10_init_X9_init : GoodIn wsX10_init (wsX9_init) := ggX10_init_X9_init
set_option maxRecDepth 20000 in
theorem ggX10_price_X9_price : GoodIn wsX10_price wsX9_price := goodIn_r _ [6] (by decide +kernel) (by decide +kernel)
set_option maxRecDepth 20000 in
theorem gX10_price_X9_price_s7 : GoodIn wsX10_price (va_wsSU RX10 7 yX9_price wsX9_price) := goodIn_app (goodIn_of _ (by decide +kernel)) ggX10_price_X9_price
set_option maxRecDepth 20000 in
theorem ggX11_init_X5_init : GoodIn wsX11_init wsX5_init := goodIn_r _ [40, 41, 2, 3, 42, 43, 44, 102, 103, 104, 105, 106, 107] (by decide +kernel) (by decide +kernel)
set_option maxRecDepth 20000 in
theorem gX11_init_X5_init : GoodIn wsX11_init (wsX5_init) := ggX11_init_X5_init
set_option maxRecDepth 20000 in
theorem ggX11_init_X9_init : GoodIn wsX11_init wsX9_init := goodIn_r _ [47, 48, 2, 3] (by decide +kernel) (by decide +kernel)
set_option maxRecDepth 20000 in
theorem gX11_init_X9_init : GoodIn wsX11_init (wsX9_init) := ggX11_init_X9_init
set_option maxRecDepth 20000 in
theorem ggX11_init_X4_init : GoodIn wsX11_init wsX4_init := goodIn_r _ [51, 52, 46, 10, 47, 48, 2, 3] (by decide +kernel) (by decide +kernel)
set_option maxRecDepth 20000 in
theorem gX11_init_X4_init : GoodIn wsX11_init (wsX4_init) := ggX11_init_X4_init
set_option maxRecDepth 20000 in
theorem ggX11_init_X3_init : GoodIn wsX11_init wsX3_init := goodIn_r _ [55, 56, 46, 10, 47, 48, 2, 3] (by decide +kernel) (by decide +kernel)
set_option maxRecDepth 20000 in
theorem gX11_init_X3_init : GoodIn wsX11_init (wsX3_init) := ggX11_init_X3_init
set_option maxRecDepth 20000 in
theorem ggX11_init_X6_init : GoodIn wsX11_init wsX6_init := goodIn_r _ [59, 60, 46, 10, 47, 48, 2, 3] (by decide +kernel) (by decide +kernel)
set_option maxRecDepth 20000 in
theorem gX11_init_X6_init : GoodIn wsX11_init (wsX6_init) := ggX11_init_X6_init
set_option maxRecDepth 20000 in
theorem ggX11_init_X2_init : GoodIn wsX11_init wsX2_init := goodIn_r _ [63, 64, 58, 19, 59, 60, 46, 10, 47, 48, 2, 3] (by decide +kernel) (by decide +kernel)
set_option maxRecDepth 20000 in
theorem gX11_init_X2_init : GoodIn wsX11_init (wsX2_init) := ggX11_init_X2_init
set_option maxRecDepth 20000 in
theorem ggX11_init_X0_init : GoodIn wsX11_init wsX0_init := goodIn_r _ [67, 68, 50, 13, 51, 52, 46, 10, 47, 48, 2, 3] (by decide +kernel) (by decide +kernel)
set_option maxRecDepth 20000 in
theorem gX11_init_X0_init : GoodIn wsX11_init (wsX0_init) := ggX11_init_X0_init
set_option maxRecDepth 20000 in
theorem ggX11_init_X8_init : GoodIn wsX11_init wsX8_init := goodIn_r _ [71, 72, 54, 16, 55, 56, 46, 10, 47, 48, 2, 3] (by decide +kernel) (by decide +kernel)
set_option maxRecDepth 20000 in
theorem gX11_init_X8_init : GoodIn wsX11_init (wsX8_init) := ggX11_init_X8_init
set_option maxRecDepth 20000 in
theorem ggX11_init_X10_init : GoodIn wsX11_init wsX10_init := goodIn_r _ [75, 76, 46, 10, 47, 48, 2, 3] (by decide +kernel) (by decide +kernel)
set_option maxRecDepth 20000 in
theorem gX11_init_X10_init : GoodIn wsX11_init (wsX10_init) := ggX11_init_X10_init
set_option maxRecDepth 20000 in
theorem ggX11_init_X1_init : GoodIn wsX11_init wsX1_init := goodIn_r _ [79, 80, 2, 3, 43, 81, 82, 83, 84, 85, 86, 87, 88, 89, 90, 91, 92, 93, 94, 95, 108, 109, 110, 111, 112, 113, 114, 115, 116, 117, 118, 119, 120] (by decide +kernel) (by decide +kernel)
set_option maxRecDepth 20000 in
theorem gX11_init_X1_init : GoodIn wsX11_init (wsX1_init) := ggX11_init_X1_init
set_option maxRecDepth 20000 in
theorem ggX11_country_X11_rowRefusal : GoodIn wsX11_country wsX11_rowRefusal := goodIn_r _ [10, 1, 11, 12, 13, 9, 14, 15, 16, 17, 194, 195, 196, 197, 198, 199, 200, 201, 202, 203, 204, 205] (by decide +kernel) (by decide +kernel)
set_option maxRecDepth 20000 in
theorem gX11_country_X11_rowRefusal : GoodIn wsX11_country (wsV RX11 55 RX11 yX11_rowRefusal wsX11_rowRefusal) := goodIn_app (goodIn_of _ (by decide +kernel)) ggX11_country_X11_rowRefusal
set_option maxRecDepth 20000 in
theorem ggX11_country_X7_firstBadPlace : GoodIn wsX11_country wsX7_firstBadPlace := goodIn_r _ [21, 22, 23, 24, 25, 26, 27, 28, 29, 16, 9, 17, 30, 31, 20, 32, 200, 201, 202, 203, 204, 205] (by decide +kernel) (by decide +kernel)
set_option maxRecDepth 20000 in
theorem gX11_country_X7_firstBadPlace : GoodIn wsX11_country (va_wsS RX11 63 yX7_firstBadPlace wsX7_firstBadPlace) := goodIn_app (goodIn_of _ (by decide +kernel)) ggX11_country_X7_firstBadPlace
set_option maxRecDepth 20000 in
theorem ggX11_country_X1_become : GoodIn wsX11_country wsX1_become := goodIn_r _ [37, 38, 39, 40, 41, 42, 43, 44, 45, 46, 47, 48, 49, 50, 51, 52, 206, 207, 208, 209, 210, 211, 212, 213, 214, 215, 216, 217, 218] (by decide +kernel) (by decide +kernel)
set_option maxRecDepth 20000 in
theorem gX11_country_X1_become : GoodIn wsX11_country (wsV RX11 69 RX1 yX1_become wsX1_become) := goodIn_app (goodIn_of _ (by decide +kernel)) ggX11_country_X1_become
set_option maxRecDepth 20000 in
theorem ggX11_country_X7_carryOut : GoodIn wsX11_country wsX7_carryOut := goodIn_r _ [55, 23, 24, 25, 26, 27, 28, 29, 16, 9, 17, 56, 57, 20, 58, 59, 60, 61, 36, 62, 40, 63, 64, 15, 65, 66, 67, 68, 38, 48, 49, 69, 70, 71, 72, 45, 46, 47, 50, 73, 51, 52, 74, 75, 76, 77, 78, 79, 80, 81, 82, 83, 84, 85, 86, 87, 88, 89, 90, 91, 92, 93, 94, 95, 96, 97, 98, 99, 100, 101, 102, 103, 104, 105, 106, 107, 108, 109, 110, 111, 112, 113, 114, 115, 116, 117, 118, 119, 120, 121, 122, 123, 124, 125, 126, 127, 128, 129, 130, 131, 132, 133, 134, 135, 136, 137, 138, 139, 140, 141, 142, 143, 144, 145, 146, 147, 148, 149, 150, 151, 152, 153, 154, 155, 156, 157, 158, 159, 160, 161, 162, 163, 164, 165, 166, 167, 168, 169, 170, 171, 172, 173, 174, 39, 175, 176, 177, 178, 179, 180, 181, 182, 183, 184, 185, 186, 187, 188, 189, 190, 200, 201, 202, 203, 204, 205, 206, 207, 208, 209, 210, 211, 212, 213, 214, 215, 216, 217, 218] (by decide +kernel) (by decide +kernel)
set_option maxRecDepth 20000 in
theorem gX11_country_X7_carryOut : GoodIn wsX11_country (va_wsS RX11 76 yX7_carryOut wsX7_carryOut) := goodIn_app (goodIn_of _ (by decide +kernel)) ggX11_country_X7_carryOut
set_option maxRecDepth 20000 in
theorem ggX11_country_X7_lengthFrom : GoodIn wsX11_country wsX7_lengthFrom := goodIn_r _ [193, 23, 24, 25, 26, 27, 28, 29, 16, 9, 17, 30, 31, 20, 32, 200, 201, 202, 203, 204, 205] (by decide +kernel) (by decide +kernel)
set_option maxRecDepth 20000 in
theorem gX11_country_X7_lengthFrom : GoodIn wsX11_country (va_wsS RX11 80 yX7_lengthFrom wsX7_lengthFrom) := goodIn_app (goodIn_of _ (by decide +kernel)) ggX11_country_X7_lengthFrom
set_option maxRecDepth 20000 in
theorem ggX11_walker_X1_has : GoodIn wsX11_walker wsX1_has := goodIn_r _ [14, 15, 16, 17, 18, 60, 61, 62, 63, 64, 65, 66, 67, 68, 69, 70, 71, 72] (by decide +kernel) (by decide +kernel)
set_option maxRecDepth 20000 in
theorem gX11_walker_X1_has : GoodIn wsX11_walker (wsV RX11 84 RX1 yX1_has wsX1_has) := goodIn_app (goodIn_of _ (by decide +kernel)) ggX11_walker_X1_has
set_option maxRecDepth 20000 in
theorem ggX11_walker_X11_wayAsTold : GoodIn wsX11_walker wsX11_wayAsTold := goodIn_r _ [21] (by decide +kernel) (by decide +kernel)
set_option maxRecDepth 20000 in
theorem gX11_walker_X11_wayAsTold : GoodIn wsX11_walker (va_wsS RX11 104 yX11_wayAsTold wsX11_wayAsTold) := goodIn_app (goodIn_of _ (by decide +kernel)) ggX11_walker_X11_wayAsTold
set_option maxRecDepth 20000 in
theorem ggX11_walker_X1_shownAge : GoodIn wsX11_walker wsX1_shownAge := goodIn_r _ [25, 26, 27, 28, 29, 30, 31, 32, 33, 34, 35, 36, 37, 38, 39, 40, 41, 42, 43, 44, 45, 46, 47, 48, 49, 50, 51, 52, 53, 60, 61, 62, 63, 64, 65, 66, 67, 68, 69, 70, 71, 72] (by decide +kernel) (by decide +kernel)
set_option maxRecDepth 20000 in
theorem gX11_walker_X1_shownAge : GoodIn wsX11_walker (wsV RX11 113 RX1 yX1_shownAge wsX1_shownAge) := goodIn_app (goodIn_of _ (by decide +kernel)) ggX11_walker_X1_shownAge
set_option maxRecDepth 20000 in
theorem ggX11_height_X11_isCell : GoodIn wsX11_height wsX11_isCell := goodIn_r _ [6, 7, 8, 5, 9] (by decide +kernel) (by decide +kernel)
set_option maxRecDepth 20000 in
theorem gX11_height_X11_isCell : GoodIn wsX11_height (va_wsS RX11 119 yX11_isCell wsX11_isCell) := goodIn_app (goodIn_of _ (by decide +kernel)) ggX11_height_X11_isCell
set_option maxRecDepth 20000 in
theorem ggX11_comes_X11_isWithin : GoodIn wsX11_comes wsX11_isWithin := goodIn_r _ [9] (by decide +kernel) (by decide +kernel)
set_option maxRecDepth 20000 in
theorem gX11_comes_X11_isWithin : GoodIn wsX11_comes (va_wsS RX11 125 yX11_isWithin wsX11_isWithin) := goodIn_app (goodIn_of _ (by decide +kernel)) ggX11_comes_X11_isWithin
set_option maxRecDepth 20000 in
theorem ggX11_comes_X11_isCell : GoodIn wsX11_comes wsX11_isCell := goodIn_r _ [12, 6, 7, 8, 9] (by decide +kernel) (by decide +kernel)
set_option maxRecDepth 20000 in
theorem gX11_comes_X11_isCell : GoodIn wsX11_comes (va_wsS RX11 119 yX11_isCell wsX11_isCell) := goodIn_app (goodIn_of _ (by decide +kernel)) ggX11_comes_X11_isCell
set_option maxRecDepth 20000 in
theorem ggX11_comes_X11_kindRefusal : GoodIn wsX11_comes wsX11_kindRefusal := goodIn_r _ [16, 2, 17, 18, 19, 8, 20, 6, 7, 9, 125, 126, 127, 128, 129, 130, 131, 132, 133, 134, 135, 136] (by decide +kernel) (by decide +kernel)
set_option maxRecDepth 20000 in
theorem gX11_comes_X11_kindRefusal : GoodIn wsX11_comes (wsV RX11 129 RX11 yX11_kindRefusal wsX11_kindRefusal) := goodIn_app (goodIn_of _ (by decide +kernel)) ggX11_comes_X11_kindRefusal
set_option maxRecDepth 20000 in
theorem ggX11_comes_X1_addWalker : GoodIn wsX11_comes wsX1_addWalker := goodIn_r _ [25, 26, 27, 28, 11, 8, 12, 6, 7, 9, 29, 30, 31, 24, 32, 33, 34, 35, 36, 37, 38, 39, 40, 41, 42, 43, 44, 45, 46, 47, 48, 49, 50, 51, 52, 53, 54, 55, 56, 57, 58, 59, 60, 61, 62, 63, 64, 65, 66, 67, 68, 69, 70, 71, 72, 73, 74, 75, 76, 77, 78, 79, 80, 81, 82, 83, 84, 85, 86, 87, 88, 89, 90, 91, 92, 93, 94, 95, 96, 97, 98, 99, 100, 101, 102, 103, 104, 105, 106, 107, 108, 109, 110, 111, 112, 113, 114, 115, 116, 117, 118, 119, 120, 121, 122, 123, 124, 137, 138, 139, 140, 141, 142, 143, 144, 145, 146, 147, 148, 149] (by decide +kernel) (by decide +kernel)
set_option maxRecDepth 20000 in
theorem gX11_comes_X1_addWalker : GoodIn wsX11_comes (wsV RX11 136 RX1 yX1_addWalker wsX1_addWalker) := goodIn_app (goodIn_of _ (by decide +kernel)) ggX11_comes_X1_addWalker
set_option maxRecDepth 20000 in
theorem ggX11_raises_X11_isCell : GoodIn wsX11_raises wsX11_isCell := goodIn_r _ [6, 7, 8, 5, 9] (by decide +kernel) (by decide +kernel)
set_option maxRecDepth 20000 in
theorem gX11_raises_X11_isCell : GoodIn wsX11_raises (va_wsS RX11 119 yX11_isCell wsX11_isCell) := goodIn_app (goodIn_of _ (by decide +kernel)) ggX11_raises_X11_isCell
set_option maxRecDepth 20000 in
theorem ggX11_raises_X1_setHeight : GoodIn wsX11_raises wsX1_setHeight := goodIn_r _ [14, 15, 4, 5, 6, 7, 8, 9, 22, 23, 24, 25, 26, 27, 28, 29, 30, 31, 32, 33, 34] (by decide +kernel) (by decide +kernel)
set_option maxRecDepth 20000 in
theorem gX11_raises_X1_setHeight : GoodIn wsX11_raises (wsV RX11 143 RX1 yX1_setHeight wsX1_setHeight) := goodIn_app (goodIn_of _ (by decide +kernel)) ggX11_raises_X1_setHeight
set_option maxRecDepth 20000 in
theorem ggX11_moves_X1_has : GoodIn wsX11_moves wsX1_has := goodIn_r _ [7, 8, 9, 10, 11, 27, 28, 29, 30, 31, 32, 33, 34, 35, 36, 37, 38, 39] (by decide +kernel) (by decide +kernel)
set_option maxRecDepth 20000 in
theorem gX11_moves_X1_has : GoodIn wsX11_moves (wsV RX11 84 RX1 yX1_has wsX1_has) := goodIn_app (goodIn_of _ (by decide +kernel)) ggX11_moves_X1_has
set_option maxRecDepth 20000 in
theorem ggX11_moves_X1_setPlace : GoodIn wsX11_moves wsX1_setPlace := goodIn_r _ [15, 16, 17, 4, 5, 6, 7, 8, 9, 10, 11, 18, 19, 20, 27, 28, 29, 30, 31, 32, 33, 34, 35, 36, 37, 38, 39] (by decide +kernel) (by decide +kernel)
set_option maxRecDepth 20000 in
theorem gX11_moves_X1_setPlace : GoodIn wsX11_moves (wsV RX11 147 RX1 yX1_setPlace wsX1_setPlace) := goodIn_app (goodIn_of _ (by decide +kernel)) ggX11_moves_X1_setPlace
set_option maxRecDepth 20000 in
theorem ggX11_turns_X1_has : GoodIn wsX11_turns wsX1_has := goodIn_r _ [7, 8, 9, 10, 11, 27, 28, 29, 30, 31, 32, 33, 34, 35, 36, 37, 38, 39] (by decide +kernel) (by decide +kernel)
set_option maxRecDepth 20000 in
theorem gX11_turns_X1_has : GoodIn wsX11_turns (wsV RX11 84 RX1 yX1_has wsX1_has) := goodIn_app (goodIn_of _ (by decide +kernel)) ggX11_turns_X1_has
set_option maxRecDepth 20000 in
theorem ggX11_turns_X11_wayAsTold : GoodIn wsX11_turns wsX11_wayAsTold := goodIn_r _ [14] (by decide +kernel) (by decide +kernel)
set_option maxRecDepth 20000 in
theorem gX11_turns_X11_wayAsTold : GoodIn wsX11_turns (va_wsS RX11 104 yX11_wayAsTold wsX11_wayAsTold) := goodIn_app (goodIn_of _ (by decide +kernel)) ggX11_turns_X11_wayAsTold
set_option maxRecDepth 20000 in
theorem ggX11_turns_X1_setWay : GoodIn wsX11_turns wsX1_setWay := goodIn_r _ [18, 19, 20, 4, 5, 6, 7, 8, 9, 10, 11, 27, 28, 29, 30, 31, 32, 33, 34, 35, 36, 37, 38, 39] (by decide +kernel) (by decide +kernel)
set_option maxRecDepth 20000 in
theorem gX11_turns_X1_setWay : GoodIn wsX11_turns (wsV RX11 150 RX1 yX1_setWay wsX1_setWay) := goodIn_app (goodIn_of _ (by decide +kernel)) ggX11_turns_X1_setWay
set_option maxRecDepth 20000 in
theorem ggX11_days_X11_isWithin : GoodIn wsX11_days wsX11_isWithin := goodIn_r _ [5] (by decide +kernel) (by decide +kernel)
set_option maxRecDepth 20000 in
theorem gX11_days_X11_isWithin : GoodIn wsX11_days (va_wsS RX11 125 yX11_isWithin wsX11_isWithin) := goodIn_app (goodIn_of _ (by decide +kernel)) ggX11_days_X11_isWithin
set_option maxRecDepth 20000 in
theorem ggX11_days_X1_passDaysAsTold : GoodIn wsX11_days wsX1_passDaysAsTold := goodIn_r _ [10, 11, 3, 4, 5, 12, 13, 14, 9, 15, 16, 17, 18, 19, 20, 21, 22, 23, 24, 2, 25, 26, 27, 28, 29, 30, 31, 32, 33, 34, 35, 36, 59, 60, 61, 62, 63, 64, 65, 66, 67, 68, 69, 70, 71] (by decide +kernel) (by decide +kernel)
set_option maxRecDepth 20000 in
theorem gX11_days_X1_passDaysAsTold : GoodIn wsX11_days (wsV RX11 153 RX1 yX1_passDaysAsTold wsX1_passDaysAsTold) := goodIn_app (goodIn_of _ (by decide +kernel)) ggX11_days_X1_passDaysAsTold
set_option maxRecDepth 20000 in
theorem ggX11_days_X1_allWater : GoodIn wsX11_days wsX1_allWater := goodIn_r _ [40, 41, 42, 43, 44, 9, 45, 46, 47, 48, 49, 50, 51, 52, 30, 31, 32, 33, 34, 20, 21, 35, 36, 59, 60, 61, 62, 63, 64, 65, 66, 67, 68, 69, 70, 71] (by decide +kernel) (by decide +kernel)
set_option maxRecDepth 20000 in
theorem gX11_days_X1_allWater : GoodIn wsX11_days (wsV RX11 156 RX1 yX1_allWater wsX1_allWater) := goodIn_app (goodIn_of _ (by decide +kernel)) ggX11_days_X1_allWater
set_option maxRecDepth 20000 in
theorem ggX11_ground_X11_isCell : GoodIn wsX11_ground wsX11_isCell := goodIn_r _ [5, 6, 7, 4, 8] (by decide +kernel) (by decide +kernel)
set_option maxRecDepth 20000 in
theorem gX11_ground_X11_isCell : GoodIn wsX11_ground (va_wsS RX11 119 yX11_isCell wsX11_isCell) := goodIn_app (goodIn_of _ (by decide +kernel)) ggX11_ground_X11_isCell
set_option maxRecDepth 20000 in
theorem ggX11_ground_X1_level : GoodIn wsX11_ground wsX1_level := goodIn_r _ [13, 14, 15, 16, 17, 18, 25, 26, 27, 28, 29, 30, 31, 32, 33, 34, 35, 36, 37] (by decide +kernel) (by decide +kernel)
set_option maxRecDepth 20000 in
theorem gX11_ground_X1_level : GoodIn wsX11_ground (wsV RX11 160 RX1 yX1_level wsX1_level) := goodIn_app (goodIn_of _ (by decide +kernel)) ggX11_ground_X1_level
set_option maxRecDepth 20000 in
theorem ggX11_water_X11_isCellOrAll : GoodIn wsX11_water wsX11_isCellOrAll := goodIn_r _ [5, 6, 7, 4, 8] (by decide +kernel) (by decide +kernel)
set_option maxRecDepth 20000 in
theorem gX11_water_X11_isCellOrAll : GoodIn wsX11_water (va_wsS RX11 163 yX11_isCellOrAll wsX11_isCellOrAll) := goodIn_app (goodIn_of _ (by decide +kernel)) ggX11_water_X11_isCellOrAll
set_option maxRecDepth 20000 in
theorem ggX11_water_X1_waterOf : GoodIn wsX11_water wsX1_waterOf := goodIn_r _ [13, 14, 15, 4, 16, 6, 7, 8, 17, 18, 19, 12, 20, 21, 22, 23, 24, 25, 26, 27, 28, 29, 30, 31, 32, 33, 34, 35, 36, 37, 38, 39, 40, 47, 48, 49, 50, 51, 52, 53, 54, 55, 56, 57, 58, 59] (by decide +kernel) (by decide +kernel)
set_option maxRecDepth 20000 in
theorem gX11_water_X1_waterOf : GoodIn wsX11_water (wsV RX11 166 RX1 yX1_waterOf wsX1_waterOf) := goodIn_app (goodIn_of _ (by decide +kernel)) ggX11_water_X1_waterOf
set_option maxRecDepth 20000 in
theorem ggX11_lakes_X1_wetCells : GoodIn wsX11_lakes wsX1_wetCells := goodIn_r _ [6, 7, 8, 9, 10, 5, 11, 12, 13, 14, 15, 16, 17, 18, 19, 20, 21, 22, 23, 24, 25, 26, 27, 41, 42, 43, 44, 45, 46, 47, 48, 49, 50, 51, 52, 53] (by decide +kernel) (by decide +kernel)
set_option maxRecDepth 20000 in
theorem gX11_lakes_X1_wetCells : GoodIn wsX11_lakes (wsV RX11 169 RX1 yX1_wetCells wsX1_wetCells) := goodIn_app (goodIn_of _ (by decide +kernel)) ggX11_lakes_X1_wetCells
set_option maxRecDepth 20000 in
theorem ggX11_lakes_J6_bitCount_0f7a4 : GoodIn wsX11_lakes wsJ6_bitCount_0f7a4 := goodIn_r _ [31, 32, 33, 34] (by decide +kernel) (by decide +kernel)
set_option maxRecDepth 20000 in
theorem gX11_lakes_J6_bitCount_0f7a4 : GoodIn wsX11_lakes (va_wsS RX11 172 yJ6_bitCount_0f7a4 wsJ6_bitCount_0f7a4) := goodIn_app (goodIn_of _ (by decide +kernel)) ggX11_lakes_J6_bitCount_0f7a4
set_option maxRecDepth 20000 in
theorem ggX11_rise_X11_isWithin : GoodIn wsX11_rise wsX11_isWithin := goodIn_r _ [6] (by decide +kernel) (by decide +kernel)
set_option maxRecDepth 20000 in
theorem gX11_rise_X11_isWithin : GoodIn wsX11_rise (va_wsS RX11 125 yX11_isWithin wsX11_isWithin) := goodIn_app (goodIn_of _ (by decide +kernel)) ggX11_rise_X11_isWithin
set_option maxRecDepth 20000 in
theorem ggX11_rise_X1_riseFrom : GoodIn wsX11_rise wsX1_riseFrom := goodIn_r _ [11, 12, 13, 14, 10, 15, 16, 17, 18, 19, 20, 27, 28, 29, 30, 31, 32, 33, 34, 35, 36, 37, 38, 39] (by decide +kernel) (by decide +kernel)
set_option maxRecDepth 20000 in
theorem gX11_rise_X1_riseFrom : GoodIn wsX11_rise (wsV RX11 177 RX1 yX1_riseFrom wsX1_riseFrom) := goodIn_app (goodIn_of _ (by decide +kernel)) ggX11_rise_X1_riseFrom
set_option maxRecDepth 20000 in
theorem ggX11_steepest_X1_steepestCell : GoodIn wsX11_steepest wsX1_steepestCell := goodIn_r _ [6, 7, 8, 9, 5, 10, 11, 12, 13, 14, 15, 16, 17, 18, 19, 20, 21, 22, 23, 24, 25, 26, 27, 39, 40, 41, 42, 43, 44, 45, 46, 47, 48, 49, 50, 51] (by decide +kernel) (by decide +kernel)
set_option maxRecDepth 20000 in
theorem gX11_steepest_X1_steepestCell : GoodIn wsX11_steepest (wsV RX11 181 RX1 yX1_steepestCell wsX1_steepestCell) := goodIn_app (goodIn_of _ (by decide +kernel)) ggX11_steepest_X1_steepestCell
set_option maxRecDepth 20000 in
theorem ggX11_steepest_X1_steepness : GoodIn wsX11_steepest wsX1_steepness := goodIn_r _ [10, 11, 12, 13, 14, 15, 16, 17, 5, 18, 19, 20, 21, 22, 23, 24, 25, 26, 27, 39, 40, 41, 42, 43, 44, 45, 46, 47, 48, 49, 50, 51] (by decide +kernel) (by decide +kernel)
set_option maxRecDepth 20000 in
theorem gX11_steepest_X1_steepness : GoodIn wsX11_steepest (wsV RX11 184 RX1 yX1_steepness wsX1_steepness) := goodIn_app (goodIn_of _ (by decide +kernel)) ggX11_steepest_X1_steepness
set_option maxRecDepth 20000 in
theorem ggX11_steepest_X1_flattestCell : GoodIn wsX11_steepest wsX1_flattestCell := goodIn_r _ [32, 7, 8, 9, 5, 10, 11, 12, 13, 14, 15, 16, 17, 18, 19, 20, 21, 22, 23, 24, 25, 26, 27, 39, 40, 41, 42, 43, 44, 45, 46, 47, 48, 49, 50, 51] (by decide +kernel) (by decide +kernel)
set_option maxRecDepth 20000 in
theorem gX11_steepest_X1_flattestCell : GoodIn wsX11_steepest (wsV RX11 187 RX1 yX1_flattestCell wsX1_flattestCell) := goodIn_app (goodIn_of _ (by decide +kernel)) ggX11_steepest_X1_flattestCell
set_option maxRecDepth 20000 in
theorem ggX11_behind_X1_has : GoodIn wsX11_behind wsX1_has := goodIn_r _ [8, 9, 10, 11, 12, 60, 61, 62, 63, 64, 65, 66, 67, 68, 69, 70, 71, 72] (by decide +kernel) (by decide +kernel)
set_option maxRecDepth 20000 in
theorem gX11_behind_X1_has : GoodIn wsX11_behind (wsV RX11 84 RX1 yX1_has wsX1_has) := goodIn_app (goodIn_of _ (by decide +kernel)) ggX11_behind_X1_has
set_option maxRecDepth 20000 in
theorem ggX11_behind_X11_isWithin : GoodIn wsX11_behind wsX11_isWithin := goodIn_r _ [12] (by decide +kernel) (by decide +kernel)
set_option maxRecDepth 20000 in
theorem gX11_behind_X11_isWithin : GoodIn wsX11_behind (va_wsS RX11 125 yX11_isWithin wsX11_isWithin) := goodIn_app (goodIn_of _ (by decide +kernel)) ggX11_behind_X11_isWithin
set_option maxRecDepth 20000 in
theorem ggX11_behind_X11_thinkDaysOn : GoodIn wsX11_behind wsX11_thinkDaysOn := goodIn_r _ [17, 2, 1, 18, 19, 20, 7, 21, 9, 22, 23, 24, 25, 26, 27, 28, 29, 30, 31, 32, 33, 34, 35, 36, 37, 38, 39, 40, 41, 42, 43, 44, 11, 45, 13, 10, 12, 46, 47, 48, 49, 50, 51, 52, 53, 54, 55, 56, 57, 58, 59, 60, 61, 62, 63, 64, 65, 66, 67, 68, 69, 70, 71, 72] (by decide +kernel) (by decide +kernel)
set_option maxRecDepth 20000 in
theorem gX11_behind_X11_thinkDaysOn : GoodIn wsX11_behind (wsV RX11 190 RX11 yX11_thinkDaysOn wsX11_thinkDaysOn) := goodIn_app (goodIn_of _ (by decide +kernel)) ggX11_behind_X11_thinkDaysOn
set_option maxRecDepth 20000 in
theorem ggX11_groundThen_X11_isCellOrAll : GoodIn wsX11_groundThen wsX11_isCellOrAll := goodIn_r _ [5, 6, 7, 4, 8] (by decide +kernel) (by decide +kernel)
set_option maxRecDepth 20000 in
theorem gX11_groundThen_X11_isCellOrAll : GoodIn wsX11_groundThen (va_wsS RX11 163 yX11_isCellOrAll wsX11_isCellOrAll) := goodIn_app (goodIn_of _ (by decide +kernel)) ggX11_groundThen_X11_isCellOrAll
set_option maxRecDepth 20000 in
theorem ggX11_groundThen_X11_isWithin : GoodIn wsX11_groundThen wsX11_isWithin := goodIn_r _ [8] (by decide +kernel) (by decide +kernel)
