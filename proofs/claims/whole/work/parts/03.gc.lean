set_option maxRecDepth 20000 in
theorem ggX12_isCell_X12_in : GoodIn wsX12_isCell wsX12_in := goodIn_r _ [5] (by decide +kernel) (by decide +kernel)
set_option maxRecDepth 20000 in
theorem gX12_isCell_X12_in : GoodIn wsX12_isCell (va_wsS RX12 80 yX12_in wsX12_in) := goodIn_app (goodIn_of _ (by decide +kernel)) ggX12_isCell_X12_in
set_option maxRecDepth 20000 in
theorem ggX12_isOne_X12_in : GoodIn wsX12_isOne wsX12_in := goodIn_r _ [5] (by decide +kernel) (by decide +kernel)
set_option maxRecDepth 20000 in
theorem gX12_isOne_X12_in : GoodIn wsX12_isOne (va_wsS RX12 80 yX12_in wsX12_in) := goodIn_app (goodIn_of _ (by decide +kernel)) ggX12_isOne_X12_in
set_option maxRecDepth 20000 in
theorem ggX12_pressesOf_X12_above : GoodIn wsX12_pressesOf wsX12_above := goodIn_r _ [7] (by decide +kernel) (by decide +kernel)
set_option maxRecDepth 20000 in
theorem gX12_pressesOf_X12_above : GoodIn wsX12_pressesOf (va_wsS RX12 87 yX12_above wsX12_above) := goodIn_app (goodIn_of _ (by decide +kernel)) ggX12_pressesOf_X12_above
set_option maxRecDepth 20000 in
theorem ggX12_showsOf_X12_above : GoodIn wsX12_showsOf wsX12_above := goodIn_r _ [7] (by decide +kernel) (by decide +kernel)
set_option maxRecDepth 20000 in
theorem gX12_showsOf_X12_above : GoodIn wsX12_showsOf (va_wsS RX12 87 yX12_above wsX12_above) := goodIn_app (goodIn_of _ (by decide +kernel)) ggX12_showsOf_X12_above
set_option maxRecDepth 20000 in
theorem ggX12_layGround_X12_plainly : GoodIn wsX12_layGround wsX12_plainly := goodIn_r _ [9] (by decide +kernel) (by decide +kernel)
set_option maxRecDepth 20000 in
theorem gX12_layGround_X12_plainly : GoodIn wsX12_layGround (va_wsS RX12 91 yX12_plainly wsX12_plainly) := goodIn_app (goodIn_of _ (by decide +kernel)) ggX12_layGround_X12_plainly
set_option maxRecDepth 20000 in
theorem ggX12_layGround_X12_hasBit : GoodIn wsX12_layGround wsX12_hasBit := goodIn_r _ [12] (by decide +kernel) (by decide +kernel)
set_option maxRecDepth 20000 in
theorem gX12_layGround_X12_hasBit : GoodIn wsX12_layGround (va_wsS RX12 97 yX12_hasBit wsX12_hasBit) := goodIn_app (goodIn_of _ (by decide +kernel)) ggX12_layGround_X12_hasBit
set_option maxRecDepth 20000 in
theorem ggX12_layGround_X12_spreadsOf : GoodIn wsX12_layGround wsX12_spreadsOf := goodIn_r _ [16, 17, 27, 28, 29, 30, 31, 32, 33, 34, 35, 36, 37, 38, 39, 40, 41, 42, 43, 44, 45, 46, 47, 48, 49, 50, 51, 52, 53, 54, 55, 56, 57, 58, 59, 60] (by decide +kernel) (by decide +kernel)
set_option maxRecDepth 20000 in
theorem gX12_layGround_X12_spreadsOf : GoodIn wsX12_layGround (wsV RX12 101 RX12 yX12_spreadsOf wsX12_spreadsOf) := goodIn_app (goodIn_of _ (by decide +kernel)) ggX12_layGround_X12_spreadsOf
set_option maxRecDepth 20000 in
theorem ggX12_layGround_X12_pressesOf : GoodIn wsX12_layGround wsX12_pressesOf := goodIn_r _ [21, 22, 17, 23, 24, 25, 8, 26, 27, 28, 29, 30, 31, 32, 33, 34, 35, 36, 37, 38, 39, 40, 41, 42, 43, 44, 45, 46, 47, 48, 49, 50, 51, 52, 53, 54, 55, 56, 57, 58, 59, 60] (by decide +kernel) (by decide +kernel)
set_option maxRecDepth 20000 in
theorem gX12_layGround_X12_pressesOf : GoodIn wsX12_layGround (wsV RX12 104 RX12 yX12_pressesOf wsX12_pressesOf) := goodIn_app (goodIn_of _ (by decide +kernel)) ggX12_layGround_X12_pressesOf
set_option maxRecDepth 20000 in
theorem ggX12_layGround_X12_above : GoodIn wsX12_layGround wsX12_above := goodIn_r _ [26] (by decide +kernel) (by decide +kernel)
set_option maxRecDepth 20000 in
theorem gX12_layGround_X12_above : GoodIn wsX12_layGround (va_wsS RX12 87 yX12_above wsX12_above) := goodIn_app (goodIn_of _ (by decide +kernel)) ggX12_layGround_X12_above
set_option maxRecDepth 20000 in
theorem ggX12_allWater_X12_layGround : GoodIn wsX12_allWater wsX12_layGround := goodIn_r _ [7, 8, 9, 10, 1, 11, 12, 13, 6, 14, 15, 16, 17, 18, 19, 20, 21, 22, 23, 24, 25, 26, 27, 28, 29, 30, 31, 32, 33, 34, 35, 36, 37, 38, 39, 40, 41, 42, 43, 44, 45, 46, 47, 48, 49, 50, 51, 52, 53, 54, 55, 56, 57, 58, 59, 60, 61, 62, 63, 64, 65] (by decide +kernel) (by decide +kernel)
set_option maxRecDepth 20000 in
theorem gX12_allWater_X12_layGround : GoodIn wsX12_allWater (wsV RX12 107 RX12 yX12_layGround wsX12_layGround) := goodIn_app (goodIn_of _ (by decide +kernel)) ggX12_allWater_X12_layGround
set_option maxRecDepth 20000 in
theorem ggX12_allWater_X12_above : GoodIn wsX12_allWater wsX12_above := goodIn_r _ [31] (by decide +kernel) (by decide +kernel)
set_option maxRecDepth 20000 in
theorem gX12_allWater_X12_above : GoodIn wsX12_allWater (va_wsS RX12 87 yX12_above wsX12_above) := goodIn_app (goodIn_of _ (by decide +kernel)) ggX12_allWater_X12_above
set_option maxRecDepth 20000 in
theorem ggX12_groundAt_X12_layGround : GoodIn wsX12_groundAt wsX12_layGround := goodIn_r _ [6, 7, 8, 9, 1, 10, 11, 12, 5, 13, 14, 15, 16, 17, 18, 19, 20, 21, 22, 23, 24, 25, 26, 27, 28, 29, 30, 31, 32, 33, 34, 35, 36, 37, 38, 39, 40, 41, 42, 43, 44, 45, 46, 47, 48, 49, 50, 51, 52, 53, 54, 55, 56, 57, 58, 59, 60, 61, 62, 63, 64] (by decide +kernel) (by decide +kernel)
set_option maxRecDepth 20000 in
theorem gX12_groundAt_X12_layGround : GoodIn wsX12_groundAt (wsV RX12 107 RX12 yX12_layGround wsX12_layGround) := goodIn_app (goodIn_of _ (by decide +kernel)) ggX12_groundAt_X12_layGround
set_option maxRecDepth 20000 in
theorem ggX12_greatestRise_X12_layGround : GoodIn wsX12_greatestRise wsX12_layGround := goodIn_r _ [5, 6, 7, 8, 9, 10, 11, 12, 4, 13, 14, 15, 16, 17, 18, 19, 20, 21, 22, 23, 24, 25, 26, 27, 28, 29, 30, 35, 36, 37, 38, 39, 40, 41, 42, 43, 44, 45, 46, 47, 48, 49, 50, 51, 52, 53, 54, 55, 56, 57, 58, 59, 60, 61, 62, 63, 64, 65, 66, 67, 68] (by decide +kernel) (by decide +kernel)
set_option maxRecDepth 20000 in
theorem gX12_greatestRise_X12_layGround : GoodIn wsX12_greatestRise (wsV RX12 107 RX12 yX12_layGround wsX12_layGround) := goodIn_app (goodIn_of _ (by decide +kernel)) ggX12_greatestRise_X12_layGround
set_option maxRecDepth 20000 in
theorem ggX12_greatestRise_X12_riseAt : GoodIn wsX12_greatestRise wsX12_riseAt := goodIn_r _ [34, 9, 35, 36, 37, 38, 39, 40, 41, 42, 43, 44, 45, 46, 47, 48, 49, 50, 51, 52, 53, 54, 55, 56, 57, 58, 59, 60, 61, 62, 63, 64, 65, 66, 67, 68] (by decide +kernel) (by decide +kernel)
set_option maxRecDepth 20000 in
theorem gX12_greatestRise_X12_riseAt : GoodIn wsX12_greatestRise (wsV RX12 110 RX12 yX12_riseAt wsX12_riseAt) := goodIn_app (goodIn_of _ (by decide +kernel)) ggX12_greatestRise_X12_riseAt
set_option maxRecDepth 20000 in
theorem ggX12_greatestRise_X12_plainly : GoodIn wsX12_greatestRise wsX12_plainly := goodIn_r _ [13] (by decide +kernel) (by decide +kernel)
set_option maxRecDepth 20000 in
theorem gX12_greatestRise_X12_plainly : GoodIn wsX12_greatestRise (va_wsS RX12 91 yX12_plainly wsX12_plainly) := goodIn_app (goodIn_of _ (by decide +kernel)) ggX12_greatestRise_X12_plainly
set_option maxRecDepth 20000 in
theorem ggX12_couldGo_X12_layGround : GoodIn wsX12_couldGo wsX12_layGround := goodIn_r _ [7, 8, 1, 9, 2, 10, 11, 12, 6, 13, 14, 15, 16, 17, 18, 19, 20, 21, 22, 23, 24, 25, 26, 27, 28, 29, 30, 42, 43, 44, 45, 46, 47, 48, 49, 50, 51, 52, 53, 54, 55, 56, 57, 58, 59, 60, 61, 62, 63, 64, 65, 66, 67, 68, 69, 70, 71, 72, 73, 74, 75] (by decide +kernel) (by decide +kernel)
set_option maxRecDepth 20000 in
theorem gX12_couldGo_X12_layGround : GoodIn wsX12_couldGo (wsV RX12 107 RX12 yX12_layGround wsX12_layGround) := goodIn_app (goodIn_of _ (by decide +kernel)) ggX12_couldGo_X12_layGround
set_option maxRecDepth 20000 in
theorem ggX12_couldGo_X12_isCell : GoodIn wsX12_couldGo wsX12_isCell := goodIn_r _ [33, 34, 35, 36, 6, 37] (by decide +kernel) (by decide +kernel)
set_option maxRecDepth 20000 in
theorem gX12_couldGo_X12_isCell : GoodIn wsX12_couldGo (va_wsS RX12 113 yX12_isCell wsX12_isCell) := goodIn_app (goodIn_of _ (by decide +kernel)) ggX12_couldGo_X12_isCell
set_option maxRecDepth 20000 in
theorem ggX12_couldGo_X12_strideOf : GoodIn wsX12_couldGo wsX12_strideOf := goodIn_r _ [41, 21, 27, 42, 43, 44, 45, 46, 47, 48, 49, 50, 51, 52, 53, 54, 55, 56, 57, 58, 59, 60, 61, 62, 63, 64, 65, 66, 67, 68, 69, 70, 71, 72, 73, 74, 75] (by decide +kernel) (by decide +kernel)
set_option maxRecDepth 20000 in
theorem gX12_couldGo_X12_strideOf : GoodIn wsX12_couldGo (wsV RX12 117 RX12 yX12_strideOf wsX12_strideOf) := goodIn_app (goodIn_of _ (by decide +kernel)) ggX12_couldGo_X12_strideOf
set_option maxRecDepth 20000 in
theorem ggX12_goesNext_X12_couldGo : GoodIn wsX12_goesNext wsX12_couldGo := goodIn_r _ [6, 7, 8, 9, 10, 11, 5, 12, 13, 14, 15, 16, 17, 18, 19, 20, 21, 22, 23, 24, 25, 26, 27, 28, 29, 30, 31, 32, 33, 34, 35, 36, 37, 38, 39, 40, 41, 42, 43, 44, 45, 46, 47, 48, 49, 50, 51, 52, 53, 54, 55, 56, 57, 58, 59, 60, 61, 62, 63, 64, 65, 66, 67, 68, 69, 70, 71, 72, 73, 74, 75, 76, 77, 78, 79, 80] (by decide +kernel) (by decide +kernel)
set_option maxRecDepth 20000 in
theorem gX12_goesNext_X12_couldGo : GoodIn wsX12_goesNext (wsV RX12 120 RX12 yX12_couldGo wsX12_couldGo) := goodIn_app (goodIn_of _ (by decide +kernel)) ggX12_goesNext_X12_couldGo
set_option maxRecDepth 20000 in
theorem ggX12_dayBy_X12_goesNext : GoodIn wsX12_dayBy wsX12_goesNext := goodIn_r _ [9, 4, 10, 11, 12, 8, 13, 3, 14, 15, 16, 17, 18, 2, 19, 20, 21, 22, 23, 24, 25, 26, 27, 28, 29, 30, 31, 32, 33, 34, 35, 36, 37, 38, 39, 40, 41, 42, 43, 44, 45, 46, 47, 48, 49, 50, 51, 52, 53, 54, 55, 56, 57, 58, 59, 60, 61, 62, 63, 64, 65, 66, 67, 68, 69, 70, 71, 72, 73, 74, 75, 76, 77, 78, 79, 80, 81, 82, 83, 84, 85] (by decide +kernel) (by decide +kernel)
set_option maxRecDepth 20000 in
theorem gX12_dayBy_X12_goesNext : GoodIn wsX12_dayBy (wsV RX12 126 RX12 yX12_goesNext wsX12_goesNext) := goodIn_app (goodIn_of _ (by decide +kernel)) ggX12_dayBy_X12_goesNext
set_option maxRecDepth 20000 in
theorem ggX12_dayBy_X12_isCell : GoodIn wsX12_dayBy wsX12_isCell := goodIn_r _ [43, 44, 45, 46, 8, 47] (by decide +kernel) (by decide +kernel)
set_option maxRecDepth 20000 in
theorem gX12_dayBy_X12_isCell : GoodIn wsX12_dayBy (va_wsS RX12 113 yX12_isCell wsX12_isCell) := goodIn_app (goodIn_of _ (by decide +kernel)) ggX12_dayBy_X12_isCell
set_option maxRecDepth 20000 in
theorem ggX12_goDays_X12_dayBy : GoodIn wsX12_goDays wsX12_dayBy := goodIn_r _ [5, 6, 7, 8, 9, 10, 11, 12, 4, 13, 14, 15, 16, 17, 18, 19, 20, 21, 22, 23, 24, 25, 26, 27, 28, 29, 30, 31, 32, 33, 34, 35, 36, 37, 38, 39, 40, 41, 42, 43, 44, 45, 46, 47, 48, 49, 50, 51, 52, 53, 54, 55, 56, 57, 58, 59, 60, 61, 62, 63, 64, 65, 66, 67, 68, 69, 70, 71, 72, 73, 74, 75, 76, 77, 78, 79, 80, 81, 82, 83, 84, 85, 86, 87, 88, 89] (by decide +kernel) (by decide +kernel)
set_option maxRecDepth 20000 in
theorem gX12_goDays_X12_dayBy : GoodIn wsX12_goDays (wsV RX12 129 RX12 yX12_dayBy wsX12_dayBy) := goodIn_app (goodIn_of _ (by decide +kernel)) ggX12_goDays_X12_dayBy
set_option maxRecDepth 20000 in
theorem ggX12_readDigits_X12_here : GoodIn wsX12_readDigits wsX12_here := goodIn_r _ [9, 4, 10, 11, 12, 16, 17, 18, 19, 20, 21, 22, 23, 24, 25, 26, 27, 28, 29, 30, 31, 32, 33, 34, 35, 36, 37, 38, 39, 40, 41, 42, 43, 44, 45, 46, 47, 48, 49] (by decide +kernel) (by decide +kernel)
set_option maxRecDepth 20000 in
theorem gX12_readDigits_X12_here : GoodIn wsX12_readDigits (wsV RX12 143 RX12 yX12_here wsX12_here) := goodIn_app (goodIn_of _ (by decide +kernel)) ggX12_readDigits_X12_here
set_option maxRecDepth 20000 in
theorem ggX12_readDigits_X12_in : GoodIn wsX12_readDigits wsX12_in := goodIn_r _ [15] (by decide +kernel) (by decide +kernel)
set_option maxRecDepth 20000 in
theorem gX12_readDigits_X12_in : GoodIn wsX12_readDigits (va_wsS RX12 80 yX12_in wsX12_in) := goodIn_app (goodIn_of _ (by decide +kernel)) ggX12_readDigits_X12_in
set_option maxRecDepth 20000 in
theorem ggX12_readNumbers_X12_readDigits : GoodIn wsX12_readNumbers wsX12_readDigits := goodIn_r _ [6, 7, 8, 9, 10, 11, 12, 13, 5, 14, 15, 16, 17, 18, 19, 20, 21, 22, 23, 24, 25, 26, 27, 28, 29, 30, 31, 32, 33, 34, 35, 36, 37, 38, 39, 40, 41, 42, 43, 44, 45, 46, 47, 48, 49, 50, 51, 52, 53, 54] (by decide +kernel) (by decide +kernel)
set_option maxRecDepth 20000 in
theorem gX12_readNumbers_X12_readDigits : GoodIn wsX12_readNumbers (wsV RX12 151 RX12 yX12_readDigits wsX12_readDigits) := goodIn_app (goodIn_of _ (by decide +kernel)) ggX12_readNumbers_X12_readDigits
set_option maxRecDepth 20000 in
theorem ggX12_readStatement_X12_here : GoodIn wsX12_readStatement wsX12_here := goodIn_r _ [10, 3, 11, 12, 13, 31, 32, 33, 34, 35, 36, 37, 38, 39, 40, 41, 42, 43, 44, 45, 46, 47, 48, 49, 50, 51, 52, 53, 54, 55, 56, 57, 58, 59, 60, 61, 62, 63, 64] (by decide +kernel) (by decide +kernel)
set_option maxRecDepth 20000 in
theorem gX12_readStatement_X12_here : GoodIn wsX12_readStatement (wsV RX12 143 RX12 yX12_here wsX12_here) := goodIn_app (goodIn_of _ (by decide +kernel)) ggX12_readStatement_X12_here
set_option maxRecDepth 20000 in
theorem ggX12_readStatement_X12_isLetter : GoodIn wsX12_readStatement wsX12_isLetter := goodIn_r _ [16] (by decide +kernel) (by decide +kernel)
set_option maxRecDepth 20000 in
theorem gX12_readStatement_X12_isLetter : GoodIn wsX12_readStatement (va_wsS RX12 157 yX12_isLetter wsX12_isLetter) := goodIn_app (goodIn_of _ (by decide +kernel)) ggX12_readStatement_X12_isLetter
set_option maxRecDepth 20000 in
theorem ggX12_readStatement_X12_readNumbers : GoodIn wsX12_readStatement wsX12_readNumbers := goodIn_r _ [20, 21, 22, 23, 24, 9, 25, 5, 26, 27, 3, 6, 7, 8, 10, 11, 12, 13, 28, 29, 30, 31, 32, 33, 34, 35, 36, 37, 38, 39, 40, 41, 42, 43, 44, 45, 46, 47, 48, 49, 50, 51, 52, 53, 54, 55, 56, 57, 58, 59, 60, 61, 62, 63, 64] (by decide +kernel) (by decide +kernel)
set_option maxRecDepth 20000 in
theorem gX12_readStatement_X12_readNumbers : GoodIn wsX12_readStatement (wsV RX12 160 RX12 yX12_readNumbers wsX12_readNumbers) := goodIn_app (goodIn_of _ (by decide +kernel)) ggX12_readStatement_X12_readNumbers
set_option maxRecDepth 20000 in
theorem ggX12_oneComes_X12_in : GoodIn wsX12_oneComes wsX12_in := goodIn_r _ [11] (by decide +kernel) (by decide +kernel)
set_option maxRecDepth 20000 in
theorem gX12_oneComes_X12_in : GoodIn wsX12_oneComes (va_wsS RX12 80 yX12_in wsX12_in) := goodIn_app (goodIn_of _ (by decide +kernel)) ggX12_oneComes_X12_in
set_option maxRecDepth 20000 in
theorem ggX12_oneComes_X12_isCell : GoodIn wsX12_oneComes wsX12_isCell := goodIn_r _ [14, 15, 8, 9, 10, 11] (by decide +kernel) (by decide +kernel)
set_option maxRecDepth 20000 in
theorem gX12_oneComes_X12_isCell : GoodIn wsX12_oneComes (va_wsS RX12 113 yX12_isCell wsX12_isCell) := goodIn_app (goodIn_of _ (by decide +kernel)) ggX12_oneComes_X12_isCell
set_option maxRecDepth 20000 in
theorem ggX12_daysCome_X12_in : GoodIn wsX12_daysCome wsX12_in := goodIn_r _ [6] (by decide +kernel) (by decide +kernel)
set_option maxRecDepth 20000 in
theorem gX12_daysCome_X12_in : GoodIn wsX12_daysCome (va_wsS RX12 80 yX12_in wsX12_in) := goodIn_app (goodIn_of _ (by decide +kernel)) ggX12_daysCome_X12_in
set_option maxRecDepth 20000 in
theorem ggX12_daysCome_X12_goDays : GoodIn wsX12_daysCome wsX12_goDays := goodIn_r _ [10, 11, 12, 13, 5, 14, 2, 15, 16, 17, 18, 19, 20, 21, 22, 23, 24, 25, 26, 27, 28, 29, 30, 31, 32, 33, 34, 35, 36, 37, 38, 39, 40, 41, 42, 43, 44, 45, 46, 47, 48, 49, 50, 51, 52, 53, 54, 55, 56, 3, 4, 6, 57, 58, 59, 60, 61, 62, 63, 64, 65, 66, 67, 68, 69, 70, 71, 72, 73, 74, 75, 76, 77, 78, 79, 80, 81, 82, 83, 84, 85, 86, 87, 88, 89, 90, 91, 92, 93, 94] (by decide +kernel) (by decide +kernel)
set_option maxRecDepth 20000 in
theorem gX12_daysCome_X12_goDays : GoodIn wsX12_daysCome (wsV RX12 168 RX12 yX12_goDays wsX12_goDays) := goodIn_app (goodIn_of _ (by decide +kernel)) ggX12_daysCome_X12_goDays
set_option maxRecDepth 20000 in
theorem ggX12_comesTold_X12_isCell : GoodIn wsX12_comesTold wsX12_isCell := goodIn_r _ [9, 10, 11, 12, 8, 13] (by decide +kernel) (by decide +kernel)
set_option maxRecDepth 20000 in
theorem gX12_comesTold_X12_isCell : GoodIn wsX12_comesTold (va_wsS RX12 113 yX12_isCell wsX12_isCell) := goodIn_app (goodIn_of _ (by decide +kernel)) ggX12_comesTold_X12_isCell
set_option maxRecDepth 20000 in
theorem ggX12_comesTold_X12_oneComes : GoodIn wsX12_comesTold wsX12_oneComes := goodIn_r _ [17, 18, 19, 20, 21, 22, 4, 5, 11, 12, 8, 13, 6, 7, 9, 10, 79, 80, 81, 82, 83, 84, 85, 86, 87, 88, 89, 90, 91, 92, 93, 94, 95, 96, 97, 98, 99, 100, 101, 102, 103, 104, 105, 106, 107, 108, 109, 110, 111, 112] (by decide +kernel) (by decide +kernel)
set_option maxRecDepth 20000 in
theorem gX12_comesTold_X12_oneComes : GoodIn wsX12_comesTold (wsV RX12 172 RX12 yX12_oneComes wsX12_oneComes) := goodIn_app (goodIn_of _ (by decide +kernel)) ggX12_comesTold_X12_oneComes
set_option maxRecDepth 20000 in
theorem ggX12_comesTold_X12_isOne : GoodIn wsX12_comesTold wsX12_isOne := goodIn_r _ [26, 19, 11, 12, 8, 13, 79, 80, 81, 82, 83, 84, 85, 86, 87, 88, 89, 90, 91, 92, 93, 94, 95, 96, 97, 98, 99, 100, 101, 102, 103, 104, 105, 106, 107, 108, 109, 110, 111, 112] (by decide +kernel) (by decide +kernel)
set_option maxRecDepth 20000 in
theorem gX12_comesTold_X12_isOne : GoodIn wsX12_comesTold (wsV RX12 176 RX12 yX12_isOne wsX12_isOne) := goodIn_app (goodIn_of _ (by decide +kernel)) ggX12_comesTold_X12_isOne
set_option maxRecDepth 20000 in
theorem ggX12_comesTold_X12_wayOf : GoodIn wsX12_comesTold wsX12_wayOf := goodIn_r _ [29] (by decide +kernel) (by decide +kernel)
set_option maxRecDepth 20000 in
theorem gX12_comesTold_X12_wayOf : GoodIn wsX12_comesTold (va_wsS RX12 179 yX12_wayOf wsX12_wayOf) := goodIn_app (goodIn_of _ (by decide +kernel)) ggX12_comesTold_X12_wayOf
set_option maxRecDepth 20000 in
theorem ggX12_comesTold_X12_daysCome : GoodIn wsX12_comesTold wsX12_daysCome := goodIn_r _ [33, 34, 35, 11, 12, 8, 13, 36, 37, 38, 39, 40, 41, 42, 43, 19, 4, 5, 44, 45, 46, 47, 48, 49, 50, 51, 52, 53, 54, 55, 56, 57, 3, 58, 59, 60, 61, 62, 63, 64, 65, 66, 67, 20, 68, 69, 70, 71, 22, 21, 72, 73, 74, 6, 7, 9, 10, 75, 76, 77, 78, 79, 80, 81, 82, 83, 84, 85, 86, 87, 88, 89, 90, 91, 92, 93, 94, 95, 96, 97, 98, 99, 100, 101, 102, 103, 104, 105, 106, 107, 108, 109, 110, 111, 112] (by decide +kernel) (by decide +kernel)
set_option maxRecDepth 20000 in
theorem gX12_comesTold_X12_daysCome : GoodIn wsX12_comesTold (wsV RX12 182 RX12 yX12_daysCome wsX12_daysCome) := goodIn_app (goodIn_of _ (by decide +kernel)) ggX12_comesTold_X12_daysCome
set_option maxRecDepth 20000 in
theorem ggX12_country_X12_wrongRow : GoodIn wsX12_country wsX12_wrongRow := goodIn_r _ [13, 14, 15, 16, 17, 12, 18, 139, 140, 141, 142, 143, 144, 145, 146, 147, 148, 149, 150, 151, 152, 153, 154, 155, 156, 157, 158, 159, 160, 161, 162, 163, 164, 165, 166, 167, 168, 169, 170, 171, 172] (by decide +kernel) (by decide +kernel)
set_option maxRecDepth 20000 in
theorem gX12_country_X12_wrongRow : GoodIn wsX12_country (wsV RX12 185 RX12 yX12_wrongRow wsX12_wrongRow) := goodIn_app (goodIn_of _ (by decide +kernel)) ggX12_country_X12_wrongRow
set_option maxRecDepth 20000 in
theorem ggX12_country_X12_readStatement : GoodIn wsX12_country wsX12_readStatement := goodIn_r _ [22, 6, 8, 4, 23, 5, 24, 25, 26, 12, 27, 7, 3, 28, 29, 30, 31, 32, 33, 34, 35, 36, 37, 38, 39, 40, 41, 42, 16, 17, 18, 139, 140, 141, 142, 143, 144, 145, 146, 147, 148, 149, 150, 151, 152, 153, 154, 155, 156, 157, 158, 159, 160, 161, 162, 163, 164, 165, 166, 167, 168, 169, 170, 171, 172] (by decide +kernel) (by decide +kernel)
set_option maxRecDepth 20000 in
theorem gX12_country_X12_readStatement : GoodIn wsX12_country (wsV RX12 188 RX12 yX12_readStatement wsX12_readStatement) := goodIn_app (goodIn_of _ (by decide +kernel)) ggX12_country_X12_readStatement
set_option maxRecDepth 20000 in
theorem ggX12_country_X12_open : GoodIn wsX12_country wsX12_open := goodIn_r _ [46, 47, 48, 49, 50, 12, 51, 52, 53, 54, 55, 56, 57, 58, 59, 60, 61, 62, 63, 64, 65, 66, 139, 140, 141, 142, 143, 144, 145, 146, 147, 148, 149, 150, 151, 152, 153, 154, 155, 156, 157, 158, 159, 160, 161, 162, 163, 164, 165, 166, 167, 168, 169, 170, 171, 172] (by decide +kernel) (by decide +kernel)
set_option maxRecDepth 20000 in
theorem gX12_country_X12_open : GoodIn wsX12_country (wsV RX12 191 RX12 yX12_open wsX12_open) := goodIn_app (goodIn_of _ (by decide +kernel)) ggX12_country_X12_open
set_option maxRecDepth 20000 in
theorem ggX12_country_X12_comesTold : GoodIn wsX12_country wsX12_comesTold := goodIn_r _ [70, 36, 23, 57, 61, 62, 71, 72, 12, 73, 74, 16, 17, 18, 75, 76, 77, 78, 79, 55, 58, 59, 60, 80, 81, 82, 83, 84, 85, 86, 87, 88, 89, 90, 91, 56, 92, 93, 94, 95, 96, 97, 98, 99, 100, 101, 102, 103, 104, 105, 106, 107, 108, 109, 110, 111, 112, 113, 114, 115, 116, 117, 118, 119, 120, 121, 122, 123, 124, 125, 126, 127, 128, 129, 130, 131, 132, 133, 134, 139, 140, 141, 142, 143, 144, 145, 146, 147, 148, 149, 150, 151, 152, 153, 154, 155, 156, 157, 158, 159, 160, 161, 162, 163, 164, 165, 166, 167, 168, 169, 170, 171, 172] (by decide +kernel) (by decide +kernel)
set_option maxRecDepth 20000 in
theorem gX12_country_X12_comesTold : GoodIn wsX12_country (wsV RX12 194 RX12 yX12_comesTold wsX12_comesTold) := goodIn_app (goodIn_of _ (by decide +kernel)) ggX12_country_X12_comesTold
set_option maxRecDepth 20000 in
theorem ggX12_country_X12_close : GoodIn wsX12_country wsX12_close := goodIn_r _ [138, 47, 48, 49, 50, 12, 51, 52, 53, 54, 55, 56, 57, 58, 59, 60, 61, 62, 63, 64, 65, 66, 139, 140, 141, 142, 143, 144, 145, 146, 147, 148, 149, 150, 151, 152, 153, 154, 155, 156, 157, 158, 159, 160, 161, 162, 163, 164, 165, 166, 167, 168, 169, 170, 171, 172] (by decide +kernel) (by decide +kernel)
set_option maxRecDepth 20000 in
theorem gX12_country_X12_close : GoodIn wsX12_country (wsV RX12 197 RX12 yX12_close wsX12_close) := goodIn_app (goodIn_of _ (by decide +kernel)) ggX12_country_X12_close
set_option maxRecDepth 20000 in
theorem ggX12_carryAll_X12_carry : GoodIn wsX12_carryAll wsX12_carry := goodIn_r _ [16, 2, 1, 3, 17, 18, 19, 20, 21, 22, 23, 24, 25, 26, 27, 28, 29, 30, 31, 32, 33, 34, 35, 36, 37, 38, 39, 40, 41, 42, 43, 44, 45, 46, 47, 48, 49, 50] (by decide +kernel) (by decide +kernel)
set_option maxRecDepth 20000 in
theorem gX12_carryAll_X12_carry : GoodIn wsX12_carryAll (wsV RX12 209 RX12 yX12_carry wsX12_carry) := goodIn_app (goodIn_of _ (by decide +kernel)) ggX12_carryAll_X12_carry
set_option maxRecDepth 20000 in
theorem ggX12_open_X12_carryAll : GoodIn wsX12_open wsX12_carryAll := goodIn_r _ [6, 7, 8, 9, 10, 11, 12, 13, 14, 15, 16, 17, 18, 19, 20, 5, 21, 22, 23, 24, 25, 26, 27, 28, 29, 30, 31, 32, 33, 34, 35, 36, 37, 38, 39, 40, 41, 42, 43, 44, 45, 46, 47, 48, 49, 50, 51, 52, 53, 54, 55] (by decide +kernel) (by decide +kernel)
set_option maxRecDepth 20000 in
theorem gX12_open_X12_carryAll : GoodIn wsX12_open (wsV RX12 212 RX12 yX12_carryAll wsX12_carryAll) := goodIn_app (goodIn_of _ (by decide +kernel)) ggX12_open_X12_carryAll
set_option maxRecDepth 20000 in
theorem ggX12_close_X12_carryAll : GoodIn wsX12_close wsX12_carryAll := goodIn_r _ [6, 7, 8, 9, 10, 11, 12, 13, 14, 15, 16, 17, 18, 19, 20, 5, 21, 22, 23, 24, 25, 26, 27, 28, 29, 30, 31, 32, 33, 34, 35, 36, 37, 38, 39, 40, 41, 42, 43, 44, 45, 46, 47, 48, 49, 50, 51, 52, 53, 54, 55] (by decide +kernel) (by decide +kernel)
set_option maxRecDepth 20000 in
theorem gX12_close_X12_carryAll : GoodIn wsX12_close (wsV RX12 212 RX12 yX12_carryAll wsX12_carryAll) := goodIn_app (goodIn_of _ (by decide +kernel)) ggX12_close_X12_carryAll
set_option maxRecDepth 20000 in
theorem ggX12_image_X12_carryAll : GoodIn wsX12_image wsX12_carryAll := goodIn_r _ [9, 10, 11, 12, 13, 4, 14, 15, 16, 17, 18, 19, 20, 21, 22, 8, 23, 24, 25, 26, 27, 28, 29, 30, 31, 32, 33, 34, 35, 36, 37, 38, 39, 40, 41, 42, 43, 44, 45, 46, 47, 48, 49, 50, 51, 52, 53, 54, 55, 56, 57] (by decide +kernel) (by decide +kernel)
set_option maxRecDepth 20000 in
theorem gX12_image_X12_carryAll : GoodIn wsX12_image (wsV RX12 212 RX12 yX12_carryAll wsX12_carryAll) := goodIn_app (goodIn_of _ (by decide +kernel)) ggX12_image_X12_carryAll
set_option maxRecDepth 20000 in
theorem ggX12_restore_X12_carryAll : GoodIn wsX12_restore wsX12_carryAll := goodIn_r _ [9, 10, 11, 12, 13, 4, 14, 15, 16, 17, 18, 19, 20, 21, 22, 8, 23, 24, 25, 26, 27, 28, 29, 30, 31, 32, 33, 34, 35, 36, 37, 38, 39, 40, 41, 42, 43, 44, 45, 46, 47, 48, 49, 50, 51, 52, 53, 54, 55, 56, 57] (by decide +kernel) (by decide +kernel)
set_option maxRecDepth 20000 in
theorem gX12_restore_X12_carryAll : GoodIn wsX12_restore (wsV RX12 212 RX12 yX12_carryAll wsX12_carryAll) := goodIn_app (goodIn_of _ (by decide +kernel)) ggX12_restore_X12_carryAll
set_option maxRecDepth 20000 in
theorem ggX12_walker_X12_isOne : GoodIn wsX12_walker wsX12_isOne := goodIn_r _ [11, 12, 13, 14, 10, 15, 35, 36, 37, 38, 39, 40, 41, 42, 43, 44, 45, 46, 47, 48, 49, 50, 51, 52, 53, 54, 55, 56, 57, 58, 59, 60, 61, 62, 63, 64, 65, 66, 67, 68] (by decide +kernel) (by decide +kernel)
set_option maxRecDepth 20000 in
theorem gX12_walker_X12_isOne : GoodIn wsX12_walker (wsV RX12 176 RX12 yX12_isOne wsX12_isOne) := goodIn_app (goodIn_of _ (by decide +kernel)) ggX12_walker_X12_isOne
set_option maxRecDepth 20000 in
theorem ggX12_walker_X12_pressesOf : GoodIn wsX12_walker wsX12_pressesOf := goodIn_r _ [19, 4, 2, 3, 20, 21, 10, 22, 35, 36, 37, 38, 39, 40, 41, 42, 43, 44, 45, 46, 47, 48, 49, 50, 51, 52, 53, 54, 55, 56, 57, 58, 59, 60, 61, 62, 63, 64, 65, 66, 67, 68] (by decide +kernel) (by decide +kernel)
set_option maxRecDepth 20000 in
theorem gX12_walker_X12_pressesOf : GoodIn wsX12_walker (wsV RX12 104 RX12 yX12_pressesOf wsX12_pressesOf) := goodIn_app (goodIn_of _ (by decide +kernel)) ggX12_walker_X12_pressesOf
set_option maxRecDepth 20000 in
theorem ggX12_walker_X12_strideOf : GoodIn wsX12_walker wsX12_strideOf := goodIn_r _ [26, 2, 3, 35, 36, 37, 38, 39, 40, 41, 42, 43, 44, 45, 46, 47, 48, 49, 50, 51, 52, 53, 54, 55, 56, 57, 58, 59, 60, 61, 62, 63, 64, 65, 66, 67, 68] (by decide +kernel) (by decide +kernel)
set_option maxRecDepth 20000 in
theorem gX12_walker_X12_strideOf : GoodIn wsX12_walker (wsV RX12 117 RX12 yX12_strideOf wsX12_strideOf) := goodIn_app (goodIn_of _ (by decide +kernel)) ggX12_walker_X12_strideOf
set_option maxRecDepth 20000 in
theorem ggX12_walker_X12_showsOf : GoodIn wsX12_walker wsX12_showsOf := goodIn_r _ [30, 4, 3, 2, 20, 21, 10, 22, 35, 36, 37, 38, 39, 40, 41, 42, 43, 44, 45, 46, 47, 48, 49, 50, 51, 52, 53, 54, 55, 56, 57, 58, 59, 60, 61, 62, 63, 64, 65, 66, 67, 68] (by decide +kernel) (by decide +kernel)
set_option maxRecDepth 20000 in
theorem gX12_walker_X12_showsOf : GoodIn wsX12_walker (wsV RX12 219 RX12 yX12_showsOf wsX12_showsOf) := goodIn_app (goodIn_of _ (by decide +kernel)) ggX12_walker_X12_showsOf
set_option maxRecDepth 20000 in
theorem ggX12_walker_X12_spreadsOf : GoodIn wsX12_walker wsX12_spreadsOf := goodIn_r _ [34, 2, 35, 36, 37, 38, 39, 40, 41, 42, 43, 44, 45, 46, 47, 48, 49, 50, 51, 52, 53, 54, 55, 56, 57, 58, 59, 60, 61, 62, 63, 64, 65, 66, 67, 68] (by decide +kernel) (by decide +kernel)
set_option maxRecDepth 20000 in
theorem gX12_walker_X12_spreadsOf : GoodIn wsX12_walker (wsV RX12 101 RX12 yX12_spreadsOf wsX12_spreadsOf) := goodIn_app (goodIn_of _ (by decide +kernel)) ggX12_walker_X12_spreadsOf
set_option maxRecDepth 20000 in
theorem ggX12_height_X12_isCell : GoodIn wsX12_height wsX12_isCell := goodIn_r _ [6, 7, 8, 9, 5, 10] (by decide +kernel) (by decide +kernel)
set_option maxRecDepth 20000 in
theorem gX12_height_X12_isCell : GoodIn wsX12_height (va_wsS RX12 113 yX12_isCell wsX12_isCell) := goodIn_app (goodIn_of _ (by decide +kernel)) ggX12_height_X12_isCell
set_option maxRecDepth 20000 in
theorem ggX12_wrongKept_X12_in : GoodIn wsX12_wrongKept wsX12_in := goodIn_r _ [6] (by decide +kernel) (by decide +kernel)
set_option maxRecDepth 20000 in
theorem gX12_wrongKept_X12_in : GoodIn wsX12_wrongKept (va_wsS RX12 80 yX12_in wsX12_in) := goodIn_app (goodIn_of _ (by decide +kernel)) ggX12_wrongKept_X12_in
set_option maxRecDepth 20000 in
theorem ggX12_comes_X12_in : GoodIn wsX12_comes wsX12_in := goodIn_r _ [9] (by decide +kernel) (by decide +kernel)
set_option maxRecDepth 20000 in
theorem gX12_comes_X12_in : GoodIn wsX12_comes (va_wsS RX12 80 yX12_in wsX12_in) := goodIn_app (goodIn_of _ (by decide +kernel)) ggX12_comes_X12_in
set_option maxRecDepth 20000 in
theorem ggX12_comes_X12_isCell : GoodIn wsX12_comes wsX12_isCell := goodIn_r _ [12, 13, 6, 7, 8, 9] (by decide +kernel) (by decide +kernel)
set_option maxRecDepth 20000 in
theorem gX12_comes_X12_isCell : GoodIn wsX12_comes (va_wsS RX12 113 yX12_isCell wsX12_isCell) := goodIn_app (goodIn_of _ (by decide +kernel)) ggX12_comes_X12_isCell
set_option maxRecDepth 20000 in
theorem ggX12_comes_X12_wrongKept : GoodIn wsX12_comes wsX12_wrongKept := goodIn_r _ [17, 18, 19, 6, 7, 8, 9, 29, 30, 31, 32, 33, 34, 35, 36, 37, 38, 39, 40, 41, 42, 43, 44, 45, 46, 47, 48, 49, 50, 51, 52, 53, 54, 55, 56, 57, 58, 59, 60, 61, 62] (by decide +kernel) (by decide +kernel)
set_option maxRecDepth 20000 in
theorem gX12_comes_X12_wrongKept : GoodIn wsX12_comes (wsV RX12 224 RX12 yX12_wrongKept wsX12_wrongKept) := goodIn_app (goodIn_of _ (by decide +kernel)) ggX12_comes_X12_wrongKept
set_option maxRecDepth 20000 in
theorem ggX12_comes_X12_oneComes : GoodIn wsX12_comes wsX12_oneComes := goodIn_r _ [23, 2, 5, 24, 25, 26, 27, 28, 6, 7, 8, 9, 10, 11, 12, 13, 29, 30, 31, 32, 33, 34, 35, 36, 37, 38, 39, 40, 41, 42, 43, 44, 45, 46, 47, 48, 49, 50, 51, 52, 53, 54, 55, 56, 57, 58, 59, 60, 61, 62] (by decide +kernel) (by decide +kernel)
set_option maxRecDepth 20000 in
theorem gX12_comes_X12_oneComes : GoodIn wsX12_comes (wsV RX12 172 RX12 yX12_oneComes wsX12_oneComes) := goodIn_app (goodIn_of _ (by decide +kernel)) ggX12_comes_X12_oneComes
set_option maxRecDepth 20000 in
theorem ggX12_raises_X12_isCell : GoodIn wsX12_raises wsX12_isCell := goodIn_r _ [7, 8, 9, 10, 6, 11] (by decide +kernel) (by decide +kernel)
set_option maxRecDepth 20000 in
theorem gX12_raises_X12_isCell : GoodIn wsX12_raises (va_wsS RX12 113 yX12_isCell wsX12_isCell) := goodIn_app (goodIn_of _ (by decide +kernel)) ggX12_raises_X12_isCell
set_option maxRecDepth 20000 in
theorem ggX12_raises_X12_in : GoodIn wsX12_raises wsX12_in := goodIn_r _ [11] (by decide +kernel) (by decide +kernel)
set_option maxRecDepth 20000 in
theorem gX12_raises_X12_in : GoodIn wsX12_raises (va_wsS RX12 80 yX12_in wsX12_in) := goodIn_app (goodIn_of _ (by decide +kernel)) ggX12_raises_X12_in
set_option maxRecDepth 20000 in
theorem ggX12_moves_X12_isOne : GoodIn wsX12_moves wsX12_isOne := goodIn_r _ [7, 8, 9, 10, 6, 11, 16, 17, 18, 19, 20, 21, 22, 23, 24, 25, 26, 27, 28, 29, 30, 31, 32, 33, 34, 35, 36, 37, 38, 39, 40, 41, 42, 43, 44, 45, 46, 47, 48, 49] (by decide +kernel) (by decide +kernel)
set_option maxRecDepth 20000 in
theorem gX12_moves_X12_isOne : GoodIn wsX12_moves (wsV RX12 176 RX12 yX12_isOne wsX12_isOne) := goodIn_app (goodIn_of _ (by decide +kernel)) ggX12_moves_X12_isOne
set_option maxRecDepth 20000 in
theorem ggX12_moves_X12_isCell : GoodIn wsX12_moves wsX12_isCell := goodIn_r _ [14, 15, 9, 10, 6, 11] (by decide +kernel) (by decide +kernel)
set_option maxRecDepth 20000 in
theorem gX12_moves_X12_isCell : GoodIn wsX12_moves (va_wsS RX12 113 yX12_isCell wsX12_isCell) := goodIn_app (goodIn_of _ (by decide +kernel)) ggX12_moves_X12_isCell
set_option maxRecDepth 20000 in
theorem ggX12_turns_X12_isOne : GoodIn wsX12_turns wsX12_isOne := goodIn_r _ [8, 9, 10, 11, 7, 12, 16, 17, 18, 19, 20, 21, 22, 23, 24, 25, 26, 27, 28, 29, 30, 31, 32, 33, 34, 35, 36, 37, 38, 39, 40, 41, 42, 43, 44, 45, 46, 47, 48, 49] (by decide +kernel) (by decide +kernel)
set_option maxRecDepth 20000 in
theorem gX12_turns_X12_isOne : GoodIn wsX12_turns (wsV RX12 176 RX12 yX12_isOne wsX12_isOne) := goodIn_app (goodIn_of _ (by decide +kernel)) ggX12_turns_X12_isOne
set_option maxRecDepth 20000 in
theorem ggX12_turns_X12_in : GoodIn wsX12_turns wsX12_in := goodIn_r _ [12] (by decide +kernel) (by decide +kernel)
set_option maxRecDepth 20000 in
theorem gX12_turns_X12_in : GoodIn wsX12_turns (va_wsS RX12 80 yX12_in wsX12_in) := goodIn_app (goodIn_of _ (by decide +kernel)) ggX12_turns_X12_in
set_option maxRecDepth 20000 in
theorem ggX12_turns_X12_wayOf : GoodIn wsX12_turns wsX12_wayOf := goodIn_r _ [15] (by decide +kernel) (by decide +kernel)
set_option maxRecDepth 20000 in
theorem gX12_turns_X12_wayOf : GoodIn wsX12_turns (va_wsS RX12 179 yX12_wayOf wsX12_wayOf) := goodIn_app (goodIn_of _ (by decide +kernel)) ggX12_turns_X12_wayOf
set_option maxRecDepth 20000 in
theorem ggX12_days_X12_in : GoodIn wsX12_days wsX12_in := goodIn_r _ [6] (by decide +kernel) (by decide +kernel)
set_option maxRecDepth 20000 in
theorem gX12_days_X12_in : GoodIn wsX12_days (va_wsS RX12 80 yX12_in wsX12_in) := goodIn_app (goodIn_of _ (by decide +kernel)) ggX12_days_X12_in
set_option maxRecDepth 20000 in
theorem ggX12_days_X12_daysCome : GoodIn wsX12_days wsX12_daysCome := goodIn_r _ [10, 2, 11, 3, 4, 5, 6, 12, 13, 14, 15, 16, 17, 18, 19, 20, 21, 22, 23, 24, 25, 26, 27, 28, 29, 30, 31, 32, 33, 34, 35, 36, 37, 38, 39, 40, 41, 42, 43, 44, 45, 46, 47, 48, 49, 50, 51, 52, 53, 54, 55, 56, 57, 58, 59, 60, 61, 62, 63, 64, 65, 71, 72, 73, 74, 75, 76, 77, 78, 79, 80, 81, 82, 83, 84, 85, 86, 87, 88, 89, 90, 91, 92, 93, 94, 95, 96, 97, 98, 99, 100, 101, 102, 103, 104] (by decide +kernel) (by decide +kernel)
set_option maxRecDepth 20000 in
theorem gX12_days_X12_daysCome : GoodIn wsX12_days (wsV RX12 182 RX12 yX12_daysCome wsX12_daysCome) := goodIn_app (goodIn_of _ (by decide +kernel)) ggX12_days_X12_daysCome
set_option maxRecDepth 20000 in
theorem ggX12_days_X12_allWater : GoodIn wsX12_days wsX12_allWater := goodIn_r _ [69, 31, 70, 32, 33, 34, 5, 35, 20, 21, 36, 37, 38, 39, 40, 41, 42, 43, 44, 45, 46, 47, 48, 49, 50, 51, 52, 53, 54, 55, 56, 57, 71, 72, 73, 74, 75, 76, 77, 78, 79, 80, 81, 82, 83, 84, 85, 86, 87, 88, 89, 90, 91, 92, 93, 94, 95, 96, 97, 98, 99, 100, 101, 102, 103, 104] (by decide +kernel) (by decide +kernel)
set_option maxRecDepth 20000 in
theorem gX12_days_X12_allWater : GoodIn wsX12_days (wsV RX12 231 RX12 yX12_allWater wsX12_allWater) := goodIn_app (goodIn_of _ (by decide +kernel)) ggX12_days_X12_allWater
set_option maxRecDepth 20000 in
theorem ggX12_ground_X12_isCell : GoodIn wsX12_ground wsX12_isCell := goodIn_r _ [5, 6, 7, 8, 4, 9] (by decide +kernel) (by decide +kernel)
set_option maxRecDepth 20000 in
theorem gX12_ground_X12_isCell : GoodIn wsX12_ground (va_wsS RX12 113 yX12_isCell wsX12_isCell) := goodIn_app (goodIn_of _ (by decide +kernel)) ggX12_ground_X12_isCell
set_option maxRecDepth 20000 in
theorem ggX12_ground_X12_groundAt : GoodIn wsX12_ground wsX12_groundAt := goodIn_r _ [13, 14, 15, 16, 17, 4, 18, 19, 20, 21, 22, 23, 24, 25, 26, 27, 28, 29, 30, 31, 32, 33, 34, 35, 36, 37, 38, 39, 40, 41, 42, 43, 44, 45, 46, 47, 48, 49, 50, 51, 52, 53, 54, 55, 56, 57, 58, 59, 60, 61, 62, 63, 64, 65, 66, 67, 68, 69, 70, 71, 72, 73, 74, 75, 76] (by decide +kernel) (by decide +kernel)
set_option maxRecDepth 20000 in
theorem gX12_ground_X12_groundAt : GoodIn wsX12_ground (wsV RX12 234 RX12 yX12_groundAt wsX12_groundAt) := goodIn_app (goodIn_of _ (by decide +kernel)) ggX12_ground_X12_groundAt
set_option maxRecDepth 20000 in
theorem ggX12_water_X12_in : GoodIn wsX12_water wsX12_in := goodIn_r _ [8] (by decide +kernel) (by decide +kernel)
set_option maxRecDepth 20000 in
theorem gX12_water_X12_in : GoodIn wsX12_water (va_wsS RX12 80 yX12_in wsX12_in) := goodIn_app (goodIn_of _ (by decide +kernel)) ggX12_water_X12_in
set_option maxRecDepth 20000 in
theorem ggX12_water_X12_allWater : GoodIn wsX12_water wsX12_allWater := goodIn_r _ [12, 13, 4, 14, 15, 16, 7, 17, 18, 19, 20, 21, 22, 23, 24, 25, 26, 27, 28, 29, 30, 31, 32, 33, 34, 35, 36, 37, 38, 39, 40, 41, 42, 43, 44, 45, 46, 47, 48, 49, 50, 51, 52, 53, 54, 55, 56, 57, 58, 59, 60, 61, 62, 63, 64, 65, 66, 67, 68, 69, 70, 71, 72, 73, 74, 75] (by decide +kernel) (by decide +kernel)
set_option maxRecDepth 20000 in
theorem gX12_water_X12_allWater : GoodIn wsX12_water (wsV RX12 231 RX12 yX12_allWater wsX12_allWater) := goodIn_app (goodIn_of _ (by decide +kernel)) ggX12_water_X12_allWater
set_option maxRecDepth 20000 in
theorem ggX12_lakes_X12_allWater : GoodIn wsX12_lakes wsX12_allWater := goodIn_r _ [7, 8, 2, 9, 10, 11, 6, 12, 13, 14, 15, 16, 17, 18, 19, 20, 21, 22, 23, 24, 25, 26, 27, 28, 29, 30, 31, 32, 33, 34, 35, 36, 37, 38, 39, 40, 41, 42, 43, 44, 45, 46, 47, 48, 49, 50, 51, 52, 53, 54, 55, 56, 57, 58, 59, 60, 61, 62, 63, 64, 65, 66, 67, 68, 69, 70] (by decide +kernel) (by decide +kernel)
set_option maxRecDepth 20000 in
theorem gX12_lakes_X12_allWater : GoodIn wsX12_lakes (wsV RX12 231 RX12 yX12_allWater wsX12_allWater) := goodIn_app (goodIn_of _ (by decide +kernel)) ggX12_lakes_X12_allWater
set_option maxRecDepth 20000 in
theorem ggX12_rise_X12_in : GoodIn wsX12_rise wsX12_in := goodIn_r _ [7] (by decide +kernel) (by decide +kernel)
set_option maxRecDepth 20000 in
theorem gX12_rise_X12_in : GoodIn wsX12_rise (va_wsS RX12 80 yX12_in wsX12_in) := goodIn_app (goodIn_of _ (by decide +kernel)) ggX12_rise_X12_in
set_option maxRecDepth 20000 in
theorem ggX12_rise_X12_layGround : GoodIn wsX12_rise wsX12_layGround := goodIn_r _ [11, 12, 13, 14, 15, 16, 17, 18, 6, 19, 20, 21, 22, 23, 24, 25, 26, 27, 28, 29, 30, 31, 32, 33, 34, 35, 36, 41, 42, 43, 44, 45, 46, 47, 48, 49, 50, 51, 52, 53, 54, 55, 56, 57, 58, 59, 60, 61, 62, 63, 64, 65, 66, 67, 68, 69, 70, 71, 72, 73, 74] (by decide +kernel) (by decide +kernel)
set_option maxRecDepth 20000 in
theorem gX12_rise_X12_layGround : GoodIn wsX12_rise (wsV RX12 107 RX12 yX12_layGround wsX12_layGround) := goodIn_app (goodIn_of _ (by decide +kernel)) ggX12_rise_X12_layGround
set_option maxRecDepth 20000 in
theorem ggX12_rise_X12_riseAt : GoodIn wsX12_rise wsX12_riseAt := goodIn_r _ [40, 15, 41, 42, 43, 44, 45, 46, 47, 48, 49, 50, 51, 52, 53, 54, 55, 56, 57, 58, 59, 60, 61, 62, 63, 64, 65, 66, 67, 68, 69, 70, 71, 72, 73, 74] (by decide +kernel) (by decide +kernel)
set_option maxRecDepth 20000 in
theorem gX12_rise_X12_riseAt : GoodIn wsX12_rise (wsV RX12 110 RX12 yX12_riseAt wsX12_riseAt) := goodIn_app (goodIn_of _ (by decide +kernel)) ggX12_rise_X12_riseAt
set_option maxRecDepth 20000 in
theorem ggX12_steepest_X12_in : GoodIn wsX12_steepest wsX12_in := goodIn_r _ [6] (by decide +kernel) (by decide +kernel)
set_option maxRecDepth 20000 in
theorem gX12_steepest_X12_in : GoodIn wsX12_steepest (va_wsS RX12 80 yX12_in wsX12_in) := goodIn_app (goodIn_of _ (by decide +kernel)) ggX12_steepest_X12_in
set_option maxRecDepth 20000 in
theorem ggX12_steepest_X12_layGround : GoodIn wsX12_steepest wsX12_layGround := goodIn_r _ [10, 11, 12, 13, 14, 15, 16, 17, 5, 18, 19, 20, 21, 22, 23, 24, 25, 26, 27, 28, 29, 30, 31, 32, 33, 34, 35, 40, 41, 42, 43, 44, 45, 46, 47, 48, 49, 50, 51, 52, 53, 54, 55, 56, 57, 58, 59, 60, 61, 62, 63, 64, 65, 66, 67, 68, 69, 70, 71, 72, 73] (by decide +kernel) (by decide +kernel)
set_option maxRecDepth 20000 in
theorem gX12_steepest_X12_layGround : GoodIn wsX12_steepest (wsV RX12 107 RX12 yX12_layGround wsX12_layGround) := goodIn_app (goodIn_of _ (by decide +kernel)) ggX12_steepest_X12_layGround
set_option maxRecDepth 20000 in
theorem ggX12_steepest_X12_riseAt : GoodIn wsX12_steepest wsX12_riseAt := goodIn_r _ [39, 14, 40, 41, 42, 43, 44, 45, 46, 47, 48, 49, 50, 51, 52, 53, 54, 55, 56, 57, 58, 59, 60, 61, 62, 63, 64, 65, 66, 67, 68, 69, 70, 71, 72, 73] (by decide +kernel) (by decide +kernel)
set_option maxRecDepth 20000 in
theorem gX12_steepest_X12_riseAt : GoodIn wsX12_steepest (wsV RX12 110 RX12 yX12_riseAt wsX12_riseAt) := goodIn_app (goodIn_of _ (by decide +kernel)) ggX12_steepest_X12_riseAt
set_option maxRecDepth 20000 in
theorem ggX12_steepest_X12_plainly : GoodIn wsX12_steepest wsX12_plainly := goodIn_r _ [18] (by decide +kernel) (by decide +kernel)
set_option maxRecDepth 20000 in
theorem gX12_steepest_X12_plainly : GoodIn wsX12_steepest (va_wsS RX12 91 yX12_plainly wsX12_plainly) := goodIn_app (goodIn_of _ (by decide +kernel)) ggX12_steepest_X12_plainly
set_option maxRecDepth 20000 in
theorem ggX12_behind_X12_isOne : GoodIn wsX12_behind wsX12_isOne := goodIn_r _ [8, 9, 10, 11, 7, 12, 86, 87, 88, 89, 90, 91, 92, 93, 94, 95, 96, 97, 98, 99, 100, 101, 102, 103, 104, 105, 106, 107, 108, 109, 110, 111, 112, 113, 114, 115, 116, 117, 118, 119] (by decide +kernel) (by decide +kernel)
set_option maxRecDepth 20000 in
theorem gX12_behind_X12_isOne : GoodIn wsX12_behind (wsV RX12 176 RX12 yX12_isOne wsX12_isOne) := goodIn_app (goodIn_of _ (by decide +kernel)) ggX12_behind_X12_isOne
set_option maxRecDepth 20000 in
theorem ggX12_behind_X12_in : GoodIn wsX12_behind wsX12_in := goodIn_r _ [12] (by decide +kernel) (by decide +kernel)
set_option maxRecDepth 20000 in
theorem gX12_behind_X12_in : GoodIn wsX12_behind (va_wsS RX12 80 yX12_in wsX12_in) := goodIn_app (goodIn_of _ (by decide +kernel)) ggX12_behind_X12_in
set_option maxRecDepth 20000 in
theorem ggX12_behind_X12_open : GoodIn wsX12_behind wsX12_open := goodIn_r _ [16, 17, 18, 19, 20, 7, 21, 22, 23, 24, 9, 25, 26, 27, 28, 29, 3, 30, 31, 32, 33, 34, 86, 87, 88, 89, 90, 91, 92, 93, 94, 95, 96, 97, 98, 99, 100, 101, 102, 103, 104, 105, 106, 107, 108, 109, 110, 111, 112, 113, 114, 115, 116, 117, 118, 119] (by decide +kernel) (by decide +kernel)
set_option maxRecDepth 20000 in
theorem gX12_behind_X12_open : GoodIn wsX12_behind (wsV RX12 191 RX12 yX12_open wsX12_open) := goodIn_app (goodIn_of _ (by decide +kernel)) ggX12_behind_X12_open
set_option maxRecDepth 20000 in
theorem ggX12_behind_X12_goDays : GoodIn wsX12_behind wsX12_goDays := goodIn_r _ [38, 39, 40, 41, 7, 42, 25, 9, 3, 30, 43, 44, 45, 46, 47, 48, 49, 50, 51, 52, 53, 54, 55, 56, 26, 57, 58, 59, 60, 61, 62, 63, 64, 65, 66, 27, 67, 68, 69, 70, 29, 28, 71, 72, 73, 74, 75, 76, 77, 10, 11, 12, 78, 79, 80, 81, 86, 87, 88, 89, 90, 91, 92, 93, 94, 95, 96, 97, 98, 99, 100, 101, 102, 103, 104, 105, 106, 107, 108, 109, 110, 111, 112, 113, 114, 115, 116, 117, 118, 119] (by decide +kernel) (by decide +kernel)
set_option maxRecDepth 20000 in
theorem gX12_behind_X12_goDays : GoodIn wsX12_behind (wsV RX12 168 RX12 yX12_goDays wsX12_goDays) := goodIn_app (goodIn_of _ (by decide +kernel)) ggX12_behind_X12_goDays
set_option maxRecDepth 20000 in
theorem ggX12_behind_X12_close : GoodIn wsX12_behind wsX12_close := goodIn_r _ [85, 17, 18, 19, 20, 7, 21, 22, 23, 24, 9, 25, 26, 27, 28, 29, 3, 30, 31, 32, 33, 34, 86, 87, 88, 89, 90, 91, 92, 93, 94, 95, 96, 97, 98, 99, 100, 101, 102, 103, 104, 105, 106, 107, 108, 109, 110, 111, 112, 113, 114, 115, 116, 117, 118, 119] (by decide +kernel) (by decide +kernel)
set_option maxRecDepth 20000 in
theorem gX12_behind_X12_close : GoodIn wsX12_behind (wsV RX12 197 RX12 yX12_close wsX12_close) := goodIn_app (goodIn_of _ (by decide +kernel)) ggX12_behind_X12_close
set_option maxRecDepth 20000 in
theorem ggX12_groundThen_X12_in : GoodIn wsX12_groundThen wsX12_in := goodIn_r _ [8] (by decide +kernel) (by decide +kernel)
set_option maxRecDepth 20000 in
theorem gX12_groundThen_X12_in : GoodIn wsX12_groundThen (va_wsS RX12 80 yX12_in wsX12_in) := goodIn_app (goodIn_of _ (by decide +kernel)) ggX12_groundThen_X12_in
set_option maxRecDepth 20000 in
theorem ggX12_groundThen_X12_open : GoodIn wsX12_groundThen wsX12_open := goodIn_r _ [12, 13, 14, 15, 16, 7, 17, 18, 19, 20, 21, 22, 23, 24, 25, 26, 27, 28, 29, 30, 31, 32, 92, 93, 94, 95, 96, 97, 98, 99, 100, 101, 102, 103, 104, 105, 106, 107, 108, 109, 110, 111, 112, 113, 114, 115, 116, 117, 118, 119, 120, 121, 122, 123, 124, 125] (by decide +kernel) (by decide +kernel)
set_option maxRecDepth 20000 in
theorem gX12_groundThen_X12_open : GoodIn wsX12_groundThen (wsV RX12 191 RX12 yX12_open wsX12_open) := goodIn_app (goodIn_of _ (by decide +kernel)) ggX12_groundThen_X12_open
set_option maxRecDepth 20000 in
theorem ggX12_groundThen_X12_goDays : GoodIn wsX12_groundThen wsX12_goDays := goodIn_r _ [36, 37, 38, 39, 7, 40, 22, 21, 27, 28, 41, 42, 43, 44, 45, 46, 47, 48, 49, 50, 51, 52, 53, 54, 23, 55, 56, 57, 58, 59, 60, 61, 62, 63, 64, 24, 65, 66, 67, 68, 26, 25, 69, 70, 71, 72, 73, 74, 3, 5, 6, 8, 75, 76, 77, 78, 92, 93, 94, 95, 96, 97, 98, 99, 100, 101, 102, 103, 104, 105, 106, 107, 108, 109, 110, 111, 112, 113, 114, 115, 116, 117, 118, 119, 120, 121, 122, 123, 124, 125] (by decide +kernel) (by decide +kernel)
set_option maxRecDepth 20000 in
theorem gX12_groundThen_X12_goDays : GoodIn wsX12_groundThen (wsV RX12 168 RX12 yX12_goDays wsX12_goDays) := goodIn_app (goodIn_of _ (by decide +kernel)) ggX12_groundThen_X12_goDays
set_option maxRecDepth 20000 in
theorem ggX12_groundThen_X12_allWater : GoodIn wsX12_groundThen wsX12_allWater := goodIn_r _ [82, 49, 83, 50, 51, 52, 7, 53, 21, 27, 54, 23, 55, 56, 57, 58, 59, 60, 61, 62, 63, 64, 24, 65, 66, 67, 68, 26, 25, 69, 70, 71, 92, 93, 94, 95, 96, 97, 98, 99, 100, 101, 102, 103, 104, 105, 106, 107, 108, 109, 110, 111, 112, 113, 114, 115, 116, 117, 118, 119, 120, 121, 122, 123, 124, 125] (by decide +kernel) (by decide +kernel)
set_option maxRecDepth 20000 in
theorem gX12_groundThen_X12_allWater : GoodIn wsX12_groundThen (wsV RX12 231 RX12 yX12_allWater wsX12_allWater) := goodIn_app (goodIn_of _ (by decide +kernel)) ggX12_groundThen_X12_allWater
set_option maxRecDepth 20000 in
theorem ggX12_groundThen_X12_groundAt : GoodIn wsX12_groundThen wsX12_groundAt := goodIn_r _ [87, 49, 50, 51, 52, 7, 53, 21, 27, 54, 23, 55, 56, 57, 58, 59, 60, 61, 62, 63, 64, 24, 65, 66, 67, 68, 26, 25, 69, 70, 71, 92, 93, 94, 95, 96, 97, 98, 99, 100, 101, 102, 103, 104, 105, 106, 107, 108, 109, 110, 111, 112, 113, 114, 115, 116, 117, 118, 119, 120, 121, 122, 123, 124, 125] (by decide +kernel) (by decide +kernel)
set_option maxRecDepth 20000 in
theorem gX12_groundThen_X12_groundAt : GoodIn wsX12_groundThen (wsV RX12 234 RX12 yX12_groundAt wsX12_groundAt) := goodIn_app (goodIn_of _ (by decide +kernel)) ggX12_groundThen_X12_groundAt
set_option maxRecDepth 20000 in
theorem ggX12_groundThen_X12_close : GoodIn wsX12_groundThen wsX12_close := goodIn_r _ [91, 13, 14, 15, 16, 7, 17, 18, 19, 20, 21, 22, 23, 24, 25, 26, 27, 28, 29, 30, 31, 32, 92, 93, 94, 95, 96, 97, 98, 99, 100, 101, 102, 103, 104, 105, 106, 107, 108, 109, 110, 111, 112, 113, 114, 115, 116, 117, 118, 119, 120, 121, 122, 123, 124, 125] (by decide +kernel) (by decide +kernel)
set_option maxRecDepth 20000 in
theorem gX12_groundThen_X12_close : GoodIn wsX12_groundThen (wsV RX12 197 RX12 yX12_close wsX12_close) := goodIn_app (goodIn_of _ (by decide +kernel)) ggX12_groundThen_X12_close
set_option maxRecDepth 20000 in
theorem ggX12_arrives_X12_isOne : GoodIn wsX12_arrives wsX12_isOne := goodIn_r _ [7, 8, 9, 10, 6, 11, 81, 82, 83, 84, 85, 86, 87, 88, 89, 90, 91, 92, 93, 94, 95, 96, 97, 98, 99, 100, 101, 102, 103, 104, 105, 106, 107, 108, 109, 110, 111, 112, 113, 114] (by decide +kernel) (by decide +kernel)
set_option maxRecDepth 20000 in
theorem gX12_arrives_X12_isOne : GoodIn wsX12_arrives (wsV RX12 176 RX12 yX12_isOne wsX12_isOne) := goodIn_app (goodIn_of _ (by decide +kernel)) ggX12_arrives_X12_isOne
set_option maxRecDepth 20000 in
theorem ggX12_arrives_X12_isCell : GoodIn wsX12_arrives wsX12_isCell := goodIn_r _ [14, 15, 9, 10, 6, 11] (by decide +kernel) (by decide +kernel)
set_option maxRecDepth 20000 in
theorem gX12_arrives_X12_isCell : GoodIn wsX12_arrives (va_wsS RX12 113 yX12_isCell wsX12_isCell) := goodIn_app (goodIn_of _ (by decide +kernel)) ggX12_arrives_X12_isCell
set_option maxRecDepth 20000 in
theorem ggX12_arrives_X12_open : GoodIn wsX12_arrives wsX12_open := goodIn_r _ [19, 20, 21, 22, 23, 6, 24, 25, 26, 27, 8, 28, 29, 30, 31, 32, 2, 33, 34, 35, 36, 37, 81, 82, 83, 84, 85, 86, 87, 88, 89, 90, 91, 92, 93, 94, 95, 96, 97, 98, 99, 100, 101, 102, 103, 104, 105, 106, 107, 108, 109, 110, 111, 112, 113, 114] (by decide +kernel) (by decide +kernel)
set_option maxRecDepth 20000 in
theorem gX12_arrives_X12_open : GoodIn wsX12_arrives (wsV RX12 191 RX12 yX12_open wsX12_open) := goodIn_app (goodIn_of _ (by decide +kernel)) ggX12_arrives_X12_open
set_option maxRecDepth 20000 in
theorem ggX12_arrives_X12_dayBy : GoodIn wsX12_arrives wsX12_dayBy := goodIn_r _ [41, 28, 8, 2, 33, 42, 43, 44, 6, 45, 46, 47, 48, 49, 50, 51, 52, 53, 54, 55, 29, 56, 57, 58, 59, 60, 61, 62, 63, 64, 65, 30, 66, 67, 68, 69, 32, 31, 70, 71, 72, 12, 13, 14, 15, 9, 10, 11, 73, 74, 75, 76, 81, 82, 83, 84, 85, 86, 87, 88, 89, 90, 91, 92, 93, 94, 95, 96, 97, 98, 99, 100, 101, 102, 103, 104, 105, 106, 107, 108, 109, 110, 111, 112, 113, 114] (by decide +kernel) (by decide +kernel)
set_option maxRecDepth 20000 in
theorem gX12_arrives_X12_dayBy : GoodIn wsX12_arrives (wsV RX12 129 RX12 yX12_dayBy wsX12_dayBy) := goodIn_app (goodIn_of _ (by decide +kernel)) ggX12_arrives_X12_dayBy
set_option maxRecDepth 20000 in
theorem ggX12_arrives_X12_close : GoodIn wsX12_arrives wsX12_close := goodIn_r _ [80, 20, 21, 22, 23, 6, 24, 25, 26, 27, 8, 28, 29, 30, 31, 32, 2, 33, 34, 35, 36, 37, 81, 82, 83, 84, 85, 86, 87, 88, 89, 90, 91, 92, 93, 94, 95, 96, 97, 98, 99, 100, 101, 102, 103, 104, 105, 106, 107, 108, 109, 110, 111, 112, 113, 114] (by decide +kernel) (by decide +kernel)
set_option maxRecDepth 20000 in
theorem gX12_arrives_X12_close : GoodIn wsX12_arrives (wsV RX12 197 RX12 yX12_close wsX12_close) := goodIn_app (goodIn_of _ (by decide +kernel)) ggX12_arrives_X12_close
set_option maxRecDepth 20000 in
theorem ggX12_stuck_X12_isOne : GoodIn wsX12_stuck wsX12_isOne := goodIn_r _ [7, 8, 9, 10, 6, 11, 81, 82, 83, 84, 85, 86, 87, 88, 89, 90, 91, 92, 93, 94, 95, 96, 97, 98, 99, 100, 101, 102, 103, 104, 105, 106, 107, 108, 109, 110, 111, 112, 113, 114] (by decide +kernel) (by decide +kernel)
set_option maxRecDepth 20000 in
theorem gX12_stuck_X12_isOne : GoodIn wsX12_stuck (wsV RX12 176 RX12 yX12_isOne wsX12_isOne) := goodIn_app (goodIn_of _ (by decide +kernel)) ggX12_stuck_X12_isOne
set_option maxRecDepth 20000 in
theorem ggX12_stuck_X12_open : GoodIn wsX12_stuck wsX12_open := goodIn_r _ [15, 16, 17, 18, 19, 6, 20, 21, 22, 23, 8, 24, 25, 26, 27, 28, 2, 29, 30, 31, 32, 33, 81, 82, 83, 84, 85, 86, 87, 88, 89, 90, 91, 92, 93, 94, 95, 96, 97, 98, 99, 100, 101, 102, 103, 104, 105, 106, 107, 108, 109, 110, 111, 112, 113, 114] (by decide +kernel) (by decide +kernel)
