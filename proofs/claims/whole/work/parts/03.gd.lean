set_option maxRecDepth 20000 in
theorem gX12_stuck_X12_open : GoodIn wsX12_stuck (wsV RX12 191 RX12 yX12_open wsX12_open) := goodIn_app (goodIn_of _ (by decide +kernel)) ggX12_stuck_X12_open
set_option maxRecDepth 20000 in
theorem ggX12_stuck_X12_dayBy : GoodIn wsX12_stuck wsX12_dayBy := goodIn_r _ [37, 24, 8, 2, 29, 38, 39, 40, 6, 41, 42, 43, 44, 45, 46, 47, 48, 49, 50, 51, 25, 52, 53, 54, 55, 56, 57, 58, 59, 60, 61, 26, 62, 63, 64, 65, 28, 27, 66, 67, 68, 69, 70, 71, 72, 9, 10, 11, 73, 74, 75, 76, 81, 82, 83, 84, 85, 86, 87, 88, 89, 90, 91, 92, 93, 94, 95, 96, 97, 98, 99, 100, 101, 102, 103, 104, 105, 106, 107, 108, 109, 110, 111, 112, 113, 114] (by decide +kernel) (by decide +kernel)
set_option maxRecDepth 20000 in
theorem gX12_stuck_X12_dayBy : GoodIn wsX12_stuck (wsV RX12 129 RX12 yX12_dayBy wsX12_dayBy) := goodIn_app (goodIn_of _ (by decide +kernel)) ggX12_stuck_X12_dayBy
set_option maxRecDepth 20000 in
theorem ggX12_stuck_X12_close : GoodIn wsX12_stuck wsX12_close := goodIn_r _ [80, 16, 17, 18, 19, 6, 20, 21, 22, 23, 8, 24, 25, 26, 27, 28, 2, 29, 30, 31, 32, 33, 81, 82, 83, 84, 85, 86, 87, 88, 89, 90, 91, 92, 93, 94, 95, 96, 97, 98, 99, 100, 101, 102, 103, 104, 105, 106, 107, 108, 109, 110, 111, 112, 113, 114] (by decide +kernel) (by decide +kernel)
set_option maxRecDepth 20000 in
theorem gX12_stuck_X12_close : GoodIn wsX12_stuck (wsV RX12 197 RX12 yX12_close wsX12_close) := goodIn_app (goodIn_of _ (by decide +kernel)) ggX12_stuck_X12_close
set_option maxRecDepth 20000 in
theorem ggX12_reached_X12_open : GoodIn wsX12_reached wsX12_open := goodIn_r _ [7, 8, 9, 10, 11, 6, 12, 13, 14, 15, 1, 16, 17, 18, 19, 20, 2, 21, 22, 23, 24, 25, 68, 69, 70, 71, 72, 73, 74, 75, 76, 77, 78, 79, 80, 81, 82, 83, 84, 85, 86, 87, 88, 89, 90, 91, 92, 93, 94, 95, 96, 97, 98, 99, 100, 101] (by decide +kernel) (by decide +kernel)
set_option maxRecDepth 20000 in
theorem gX12_reached_X12_open : GoodIn wsX12_reached (wsV RX12 191 RX12 yX12_open wsX12_open) := goodIn_app (goodIn_of _ (by decide +kernel)) ggX12_reached_X12_open
set_option maxRecDepth 20000 in
theorem ggX12_reached_X12_hasBit : GoodIn wsX12_reached wsX12_hasBit := goodIn_r _ [28] (by decide +kernel) (by decide +kernel)
set_option maxRecDepth 20000 in
theorem gX12_reached_X12_hasBit : GoodIn wsX12_reached (va_wsS RX12 97 yX12_hasBit wsX12_hasBit) := goodIn_app (goodIn_of _ (by decide +kernel)) ggX12_reached_X12_hasBit
set_option maxRecDepth 20000 in
theorem ggX12_reached_X12_couldGo : GoodIn wsX12_reached wsX12_couldGo := goodIn_r _ [32, 2, 33, 34, 35, 36, 6, 37, 1, 38, 17, 39, 40, 41, 26, 27, 28, 42, 43, 44, 45, 18, 46, 47, 48, 49, 20, 19, 50, 51, 52, 53, 54, 55, 56, 57, 58, 59, 60, 61, 62, 63, 68, 69, 70, 71, 72, 73, 74, 75, 76, 77, 78, 79, 80, 81, 82, 83, 84, 85, 86, 87, 88, 89, 90, 91, 92, 93, 94, 95, 96, 97, 98, 99, 100, 101] (by decide +kernel) (by decide +kernel)
set_option maxRecDepth 20000 in
theorem gX12_reached_X12_couldGo : GoodIn wsX12_reached (wsV RX12 120 RX12 yX12_couldGo wsX12_couldGo) := goodIn_app (goodIn_of _ (by decide +kernel)) ggX12_reached_X12_couldGo
set_option maxRecDepth 20000 in
theorem ggX12_reached_X12_close : GoodIn wsX12_reached wsX12_close := goodIn_r _ [67, 8, 9, 10, 11, 6, 12, 13, 14, 15, 1, 16, 17, 18, 19, 20, 2, 21, 22, 23, 24, 25, 68, 69, 70, 71, 72, 73, 74, 75, 76, 77, 78, 79, 80, 81, 82, 83, 84, 85, 86, 87, 88, 89, 90, 91, 92, 93, 94, 95, 96, 97, 98, 99, 100, 101] (by decide +kernel) (by decide +kernel)
set_option maxRecDepth 20000 in
theorem gX12_reached_X12_close : GoodIn wsX12_reached (wsV RX12 197 RX12 yX12_close wsX12_close) := goodIn_app (goodIn_of _ (by decide +kernel)) ggX12_reached_X12_close
set_option maxRecDepth 20000 in
theorem ggX12_getsTo_X12_reached : GoodIn wsX12_getsTo wsX12_reached := goodIn_r _ [6, 7, 1, 8, 9, 10, 5, 11, 12, 13, 14, 15, 16, 17, 18, 19, 20, 21, 22, 23, 24, 25, 26, 27, 28, 29, 30, 31, 32, 33, 34, 35, 36, 37, 38, 39, 40, 41, 42, 43, 44, 45, 46, 47, 48, 49, 50, 51, 52, 53, 54, 55, 56, 57, 58, 59, 60, 61, 62, 63, 64, 65, 66, 67, 68, 69, 70, 71, 72, 73, 74, 75, 76, 77, 78, 79, 80, 81, 82, 83, 84, 85, 86, 87, 88, 89, 90, 91, 92, 93, 94, 95, 96, 97, 98, 99, 100, 101, 102, 103, 104, 105] (by decide +kernel) (by decide +kernel)
set_option maxRecDepth 20000 in
theorem gX12_getsTo_X12_reached : GoodIn wsX12_getsTo (wsV RX12 244 RX12 yX12_reached wsX12_reached) := goodIn_app (goodIn_of _ (by decide +kernel)) ggX12_getsTo_X12_reached
set_option maxRecDepth 20000 in
theorem ggX12_goes_X12_isOne : GoodIn wsX12_goes wsX12_isOne := goodIn_r _ [6, 7, 8, 9, 5, 10, 81, 82, 83, 84, 85, 86, 87, 88, 89, 90, 91, 92, 93, 94, 95, 96, 97, 98, 99, 100, 101, 102, 103, 104, 105, 106, 107, 108, 109, 110, 111, 112, 113, 114] (by decide +kernel) (by decide +kernel)
set_option maxRecDepth 20000 in
theorem gX12_goes_X12_isOne : GoodIn wsX12_goes (wsV RX12 176 RX12 yX12_isOne wsX12_isOne) := goodIn_app (goodIn_of _ (by decide +kernel)) ggX12_goes_X12_isOne
set_option maxRecDepth 20000 in
theorem ggX12_goes_X12_isCell : GoodIn wsX12_goes wsX12_isCell := goodIn_r _ [13, 14, 8, 9, 5, 10] (by decide +kernel) (by decide +kernel)
set_option maxRecDepth 20000 in
theorem gX12_goes_X12_isCell : GoodIn wsX12_goes (va_wsS RX12 113 yX12_isCell wsX12_isCell) := goodIn_app (goodIn_of _ (by decide +kernel)) ggX12_goes_X12_isCell
set_option maxRecDepth 20000 in
theorem ggX12_goes_X12_getsTo : GoodIn wsX12_goes wsX12_getsTo := goodIn_r _ [18, 19, 20, 21, 22, 5, 23, 7, 24, 25, 26, 27, 28, 29, 30, 31, 32, 33, 34, 35, 36, 37, 38, 39, 40, 41, 42, 43, 44, 45, 46, 47, 48, 49, 50, 51, 52, 53, 54, 55, 56, 57, 58, 59, 60, 61, 62, 63, 64, 65, 66, 67, 68, 69, 70, 71, 72, 11, 12, 13, 14, 8, 9, 10, 73, 74, 75, 76, 77, 78, 79, 80, 81, 82, 83, 84, 85, 86, 87, 88, 89, 90, 91, 92, 93, 94, 95, 96, 97, 98, 99, 100, 101, 102, 103, 104, 105, 106, 107, 108, 109, 110, 111, 112, 113, 114] (by decide +kernel) (by decide +kernel)
set_option maxRecDepth 20000 in
theorem gX12_goes_X12_getsTo : GoodIn wsX12_goes (wsV RX12 248 RX12 yX12_getsTo wsX12_getsTo) := goodIn_app (goodIn_of _ (by decide +kernel)) ggX12_goes_X12_getsTo
set_option maxRecDepth 20000 in
theorem ggX12_far_X12_isOne : GoodIn wsX12_far wsX12_isOne := goodIn_r _ [6, 7, 8, 9, 5, 10, 77, 78, 79, 80, 81, 82, 83, 84, 85, 86, 87, 88, 89, 90, 91, 92, 93, 94, 95, 96, 97, 98, 99, 100, 101, 102, 103, 104, 105, 106, 107, 108, 109, 110] (by decide +kernel) (by decide +kernel)
set_option maxRecDepth 20000 in
theorem gX12_far_X12_isOne : GoodIn wsX12_far (wsV RX12 176 RX12 yX12_isOne wsX12_isOne) := goodIn_app (goodIn_of _ (by decide +kernel)) ggX12_far_X12_isOne
set_option maxRecDepth 20000 in
theorem ggX12_far_X12_in : GoodIn wsX12_far wsX12_in := goodIn_r _ [10] (by decide +kernel) (by decide +kernel)
set_option maxRecDepth 20000 in
theorem gX12_far_X12_in : GoodIn wsX12_far (va_wsS RX12 80 yX12_in wsX12_in) := goodIn_app (goodIn_of _ (by decide +kernel)) ggX12_far_X12_in
set_option maxRecDepth 20000 in
theorem ggX12_far_X12_reached : GoodIn wsX12_far wsX12_reached := goodIn_r _ [14, 7, 15, 16, 17, 18, 5, 19, 20, 21, 22, 23, 24, 25, 26, 27, 28, 29, 30, 31, 32, 33, 34, 35, 36, 37, 38, 39, 40, 41, 42, 43, 44, 45, 46, 47, 48, 49, 50, 51, 52, 53, 54, 55, 56, 57, 58, 59, 60, 61, 62, 63, 64, 65, 66, 67, 68, 8, 9, 10, 69, 70, 71, 72, 73, 74, 75, 76, 77, 78, 79, 80, 81, 82, 83, 84, 85, 86, 87, 88, 89, 90, 91, 92, 93, 94, 95, 96, 97, 98, 99, 100, 101, 102, 103, 104, 105, 106, 107, 108, 109, 110] (by decide +kernel) (by decide +kernel)
set_option maxRecDepth 20000 in
theorem gX12_far_X12_reached : GoodIn wsX12_far (wsV RX12 244 RX12 yX12_reached wsX12_reached) := goodIn_app (goodIn_of _ (by decide +kernel)) ggX12_far_X12_reached
set_option maxRecDepth 20000 in
theorem ggX12_company_X12_isOne : GoodIn wsX12_company wsX12_isOne := goodIn_r _ [7, 2, 8, 9, 6, 10, 84, 85, 86, 87, 88, 89, 90, 91, 92, 93, 94, 95, 96, 97, 98, 99, 100, 101, 102, 103, 104, 105, 106, 107, 108, 109, 110, 111, 112, 113, 114, 115, 116, 117] (by decide +kernel) (by decide +kernel)
set_option maxRecDepth 20000 in
theorem gX12_company_X12_isOne : GoodIn wsX12_company (wsV RX12 176 RX12 yX12_isOne wsX12_isOne) := goodIn_app (goodIn_of _ (by decide +kernel)) ggX12_company_X12_isOne
set_option maxRecDepth 20000 in
theorem ggX12_company_X12_isCell : GoodIn wsX12_company wsX12_isCell := goodIn_r _ [13, 14, 8, 9, 6, 10] (by decide +kernel) (by decide +kernel)
set_option maxRecDepth 20000 in
theorem gX12_company_X12_isCell : GoodIn wsX12_company (va_wsS RX12 113 yX12_isCell wsX12_isCell) := goodIn_app (goodIn_of _ (by decide +kernel)) ggX12_company_X12_isCell
set_option maxRecDepth 20000 in
theorem ggX12_company_X12_onesOf : GoodIn wsX12_company wsX12_onesOf := goodIn_r _ [17] (by decide +kernel) (by decide +kernel)
set_option maxRecDepth 20000 in
theorem gX12_company_X12_onesOf : GoodIn wsX12_company (va_wsS RX12 252 yX12_onesOf wsX12_onesOf) := goodIn_app (goodIn_of _ (by decide +kernel)) ggX12_company_X12_onesOf
set_option maxRecDepth 20000 in
theorem ggX12_company_X12_hasBit : GoodIn wsX12_company wsX12_hasBit := goodIn_r _ [20] (by decide +kernel) (by decide +kernel)
set_option maxRecDepth 20000 in
theorem gX12_company_X12_hasBit : GoodIn wsX12_company (va_wsS RX12 97 yX12_hasBit wsX12_hasBit) := goodIn_app (goodIn_of _ (by decide +kernel)) ggX12_company_X12_hasBit
set_option maxRecDepth 20000 in
theorem ggX12_company_X12_getsTo : GoodIn wsX12_company wsX12_getsTo := goodIn_r _ [24, 25, 26, 27, 28, 6, 29, 2, 30, 31, 32, 33, 34, 35, 36, 37, 38, 39, 40, 41, 42, 43, 44, 45, 46, 47, 48, 49, 50, 51, 18, 19, 20, 52, 53, 54, 55, 56, 57, 58, 59, 60, 61, 62, 63, 64, 65, 66, 67, 68, 69, 70, 71, 72, 73, 74, 75, 11, 12, 13, 14, 8, 9, 10, 76, 77, 78, 79, 80, 81, 82, 83, 84, 85, 86, 87, 88, 89, 90, 91, 92, 93, 94, 95, 96, 97, 98, 99, 100, 101, 102, 103, 104, 105, 106, 107, 108, 109, 110, 111, 112, 113, 114, 115, 116, 117] (by decide +kernel) (by decide +kernel)
set_option maxRecDepth 20000 in
theorem gX12_company_X12_getsTo : GoodIn wsX12_company (wsV RX12 248 RX12 yX12_getsTo wsX12_getsTo) := goodIn_app (goodIn_of _ (by decide +kernel)) ggX12_company_X12_getsTo
set_option maxRecDepth 20000 in
theorem ggX12_payOf_X12_hasBit : GoodIn wsX12_payOf wsX12_hasBit := goodIn_r _ [5] (by decide +kernel) (by decide +kernel)
set_option maxRecDepth 20000 in
theorem gX12_payOf_X12_hasBit : GoodIn wsX12_payOf (va_wsS RX12 97 yX12_hasBit wsX12_hasBit) := goodIn_app (goodIn_of _ (by decide +kernel)) ggX12_payOf_X12_hasBit
set_option maxRecDepth 20000 in
theorem ggX12_payOf_X12_showsOf : GoodIn wsX12_payOf wsX12_showsOf := goodIn_r _ [9, 10, 11, 12, 13, 14, 4, 15, 16, 17, 18, 19, 20, 21, 22, 23, 24, 25, 26, 27, 28, 29, 30, 31, 32, 33, 34, 35, 36, 37, 38, 39, 40, 41, 42, 43, 44, 45, 46, 47, 48, 49] (by decide +kernel) (by decide +kernel)
set_option maxRecDepth 20000 in
theorem gX12_payOf_X12_showsOf : GoodIn wsX12_payOf (wsV RX12 219 RX12 yX12_showsOf wsX12_showsOf) := goodIn_app (goodIn_of _ (by decide +kernel)) ggX12_payOf_X12_showsOf
set_option maxRecDepth 20000 in
theorem ggX12_hire_X12_isOne : GoodIn wsX12_hire wsX12_isOne := goodIn_r _ [7, 2, 8, 9, 6, 10, 89, 90, 91, 92, 93, 94, 95, 96, 97, 98, 99, 100, 101, 102, 103, 104, 105, 106, 107, 108, 109, 110, 111, 112, 113, 114, 115, 116, 117, 118, 119, 120, 121, 122] (by decide +kernel) (by decide +kernel)
set_option maxRecDepth 20000 in
theorem gX12_hire_X12_isOne : GoodIn wsX12_hire (wsV RX12 176 RX12 yX12_isOne wsX12_isOne) := goodIn_app (goodIn_of _ (by decide +kernel)) ggX12_hire_X12_isOne
set_option maxRecDepth 20000 in
theorem ggX12_hire_X12_isCell : GoodIn wsX12_hire wsX12_isCell := goodIn_r _ [13, 14, 8, 9, 6, 10] (by decide +kernel) (by decide +kernel)
set_option maxRecDepth 20000 in
theorem gX12_hire_X12_isCell : GoodIn wsX12_hire (va_wsS RX12 113 yX12_isCell wsX12_isCell) := goodIn_app (goodIn_of _ (by decide +kernel)) ggX12_hire_X12_isCell
set_option maxRecDepth 20000 in
theorem ggX12_hire_X12_in : GoodIn wsX12_hire wsX12_in := goodIn_r _ [10] (by decide +kernel) (by decide +kernel)
set_option maxRecDepth 20000 in
theorem gX12_hire_X12_in : GoodIn wsX12_hire (va_wsS RX12 80 yX12_in wsX12_in) := goodIn_app (goodIn_of _ (by decide +kernel)) ggX12_hire_X12_in
set_option maxRecDepth 20000 in
theorem ggX12_hire_X12_payOf : GoodIn wsX12_hire wsX12_payOf := goodIn_r _ [18, 2, 19, 20, 6, 21, 22, 23, 24, 25, 26, 27, 28, 29, 30, 31, 89, 90, 91, 92, 93, 94, 95, 96, 97, 98, 99, 100, 101, 102, 103, 104, 105, 106, 107, 108, 109, 110, 111, 112, 113, 114, 115, 116, 117, 118, 119, 120, 121, 122] (by decide +kernel) (by decide +kernel)
set_option maxRecDepth 20000 in
theorem gX12_hire_X12_payOf : GoodIn wsX12_hire (wsV RX12 255 RX12 yX12_payOf wsX12_payOf) := goodIn_app (goodIn_of _ (by decide +kernel)) ggX12_hire_X12_payOf
set_option maxRecDepth 20000 in
theorem ggX12_hire_X12_hasBit : GoodIn wsX12_hire wsX12_hasBit := goodIn_r _ [21] (by decide +kernel) (by decide +kernel)
set_option maxRecDepth 20000 in
theorem gX12_hire_X12_hasBit : GoodIn wsX12_hire (va_wsS RX12 97 yX12_hasBit wsX12_hasBit) := goodIn_app (goodIn_of _ (by decide +kernel)) ggX12_hire_X12_hasBit
set_option maxRecDepth 20000 in
theorem ggX12_hire_X12_getsTo : GoodIn wsX12_hire wsX12_getsTo := goodIn_r _ [35, 36, 37, 38, 39, 6, 40, 2, 41, 42, 43, 44, 45, 46, 47, 48, 49, 50, 51, 52, 53, 54, 28, 27, 26, 55, 56, 57, 58, 59, 19, 20, 21, 60, 61, 62, 63, 64, 65, 66, 67, 68, 69, 70, 71, 72, 73, 74, 75, 76, 77, 78, 79, 80, 29, 30, 31, 11, 12, 13, 14, 8, 9, 10, 81, 82, 83, 84, 85, 86, 87, 88, 89, 90, 91, 92, 93, 94, 95, 96, 97, 98, 99, 100, 101, 102, 103, 104, 105, 106, 107, 108, 109, 110, 111, 112, 113, 114, 115, 116, 117, 118, 119, 120, 121, 122] (by decide +kernel) (by decide +kernel)
set_option maxRecDepth 20000 in
theorem gX12_hire_X12_getsTo : GoodIn wsX12_hire (wsV RX12 248 RX12 yX12_getsTo wsX12_getsTo) := goodIn_app (goodIn_of _ (by decide +kernel)) ggX12_hire_X12_getsTo
set_option maxRecDepth 20000 in
theorem ggX12_sit_X12_isOne : GoodIn wsX12_sit wsX12_isOne := goodIn_r _ [7, 8, 9, 10, 6, 11, 44, 45, 46, 47, 48, 49, 50, 51, 52, 53, 54, 55, 56, 57, 58, 59, 60, 61, 62, 63, 64, 65, 66, 67, 68, 69, 70, 71, 72, 73, 74, 75, 76, 77] (by decide +kernel) (by decide +kernel)
set_option maxRecDepth 20000 in
theorem gX12_sit_X12_isOne : GoodIn wsX12_sit (wsV RX12 176 RX12 yX12_isOne wsX12_isOne) := goodIn_app (goodIn_of _ (by decide +kernel)) ggX12_sit_X12_isOne
set_option maxRecDepth 20000 in
theorem ggX12_sit_X12_in : GoodIn wsX12_sit wsX12_in := goodIn_r _ [11] (by decide +kernel) (by decide +kernel)
set_option maxRecDepth 20000 in
theorem gX12_sit_X12_in : GoodIn wsX12_sit (va_wsS RX12 80 yX12_in wsX12_in) := goodIn_app (goodIn_of _ (by decide +kernel)) ggX12_sit_X12_in
set_option maxRecDepth 20000 in
theorem ggX12_sit_X12_allWater : GoodIn wsX12_sit wsX12_allWater := goodIn_r _ [15, 16, 17, 18, 19, 20, 6, 21, 8, 2, 22, 23, 24, 25, 26, 27, 28, 29, 30, 31, 32, 33, 34, 35, 36, 37, 38, 39, 40, 41, 42, 43, 44, 45, 46, 47, 48, 49, 50, 51, 52, 53, 54, 55, 56, 57, 58, 59, 60, 61, 62, 63, 64, 65, 66, 67, 68, 69, 70, 71, 72, 73, 74, 75, 76, 77] (by decide +kernel) (by decide +kernel)
set_option maxRecDepth 20000 in
theorem gX12_sit_X12_allWater : GoodIn wsX12_sit (wsV RX12 231 RX12 yX12_allWater wsX12_allWater) := goodIn_app (goodIn_of _ (by decide +kernel)) ggX12_sit_X12_allWater
set_option maxRecDepth 20000 in
theorem ggX12_apart_X12_in : GoodIn wsX12_apart wsX12_in := goodIn_r _ [7] (by decide +kernel) (by decide +kernel)
set_option maxRecDepth 20000 in
theorem gX12_apart_X12_in : GoodIn wsX12_apart (va_wsS RX12 80 yX12_in wsX12_in) := goodIn_app (goodIn_of _ (by decide +kernel)) ggX12_apart_X12_in
set_option maxRecDepth 20000 in
theorem ggX12_apart_X12_allWater : GoodIn wsX12_apart wsX12_allWater := goodIn_r _ [11, 12, 13, 14, 15, 16, 6, 17, 2, 3, 18, 19, 20, 21, 22, 23, 24, 25, 26, 27, 28, 29, 30, 31, 32, 33, 34, 35, 36, 37, 38, 39, 62, 63, 64, 65, 66, 67, 68, 69, 70, 71, 72, 73, 74, 75, 76, 77, 78, 79, 80, 81, 82, 83, 84, 85, 86, 87, 88, 89, 90, 91, 92, 93, 94, 95] (by decide +kernel) (by decide +kernel)
set_option maxRecDepth 20000 in
theorem gX12_apart_X12_allWater : GoodIn wsX12_apart (wsV RX12 231 RX12 yX12_allWater wsX12_allWater) := goodIn_app (goodIn_of _ (by decide +kernel)) ggX12_apart_X12_allWater
set_option maxRecDepth 20000 in
theorem ggX12_apart_X12_open : GoodIn wsX12_apart wsX12_open := goodIn_r _ [43, 44, 45, 46, 47, 6, 48, 49, 50, 51, 2, 52, 19, 30, 36, 35, 3, 53, 54, 55, 56, 57, 62, 63, 64, 65, 66, 67, 68, 69, 70, 71, 72, 73, 74, 75, 76, 77, 78, 79, 80, 81, 82, 83, 84, 85, 86, 87, 88, 89, 90, 91, 92, 93, 94, 95] (by decide +kernel) (by decide +kernel)
set_option maxRecDepth 20000 in
theorem gX12_apart_X12_open : GoodIn wsX12_apart (wsV RX12 191 RX12 yX12_open wsX12_open) := goodIn_app (goodIn_of _ (by decide +kernel)) ggX12_apart_X12_open
set_option maxRecDepth 20000 in
theorem ggX12_apart_X12_close : GoodIn wsX12_apart wsX12_close := goodIn_r _ [61, 44, 45, 46, 47, 6, 48, 49, 50, 51, 2, 52, 19, 30, 36, 35, 3, 53, 54, 55, 56, 57, 62, 63, 64, 65, 66, 67, 68, 69, 70, 71, 72, 73, 74, 75, 76, 77, 78, 79, 80, 81, 82, 83, 84, 85, 86, 87, 88, 89, 90, 91, 92, 93, 94, 95] (by decide +kernel) (by decide +kernel)
set_option maxRecDepth 20000 in
theorem gX12_apart_X12_close : GoodIn wsX12_apart (wsV RX12 197 RX12 yX12_close wsX12_close) := goodIn_app (goodIn_of _ (by decide +kernel)) ggX12_apart_X12_close
set_option maxRecDepth 20000 in
theorem ggX12_keeps_X12_onesOf : GoodIn wsX12_keeps wsX12_onesOf := goodIn_r _ [7] (by decide +kernel) (by decide +kernel)
set_option maxRecDepth 20000 in
theorem gX12_keeps_X12_onesOf : GoodIn wsX12_keeps (va_wsS RX12 252 yX12_onesOf wsX12_onesOf) := goodIn_app (goodIn_of _ (by decide +kernel)) ggX12_keeps_X12_onesOf
set_option maxRecDepth 20000 in
theorem ggX12_keeps_X12_allWater : GoodIn wsX12_keeps wsX12_allWater := goodIn_r _ [11, 12, 13, 14, 15, 16, 6, 17, 2, 18, 3, 19, 20, 21, 22, 23, 24, 25, 26, 27, 28, 29, 30, 31, 32, 33, 34, 35, 36, 37, 38, 39, 40, 41, 42, 43, 44, 45, 46, 47, 48, 49, 50, 51, 52, 53, 54, 55, 56, 57, 58, 59, 60, 61, 62, 63, 64, 65, 66, 67, 68, 69, 70, 71, 72, 73] (by decide +kernel) (by decide +kernel)
set_option maxRecDepth 20000 in
theorem gX12_keeps_X12_allWater : GoodIn wsX12_keeps (wsV RX12 231 RX12 yX12_allWater wsX12_allWater) := goodIn_app (goodIn_of _ (by decide +kernel)) ggX12_keeps_X12_allWater
set_option maxRecDepth 20000 in
theorem ggX12_even_X12_greatestRise : GoodIn wsX12_even wsX12_greatestRise := goodIn_r _ [8, 9, 10, 11, 7, 12, 2, 3, 13, 14, 15, 16, 17, 18, 19, 20, 21, 22, 23, 24, 25, 26, 27, 28, 29, 30, 31, 32, 33, 34, 35, 36, 37, 38, 39, 40, 41, 42, 43, 44, 45, 46, 47, 48, 49, 50, 51, 52, 53, 54, 55, 56, 57, 58, 59, 60, 61, 62, 63, 64, 65, 66, 67, 68, 69, 70, 71, 72, 73] (by decide +kernel) (by decide +kernel)
set_option maxRecDepth 20000 in
theorem gX12_even_X12_greatestRise : GoodIn wsX12_even (wsV RX12 258 RX12 yX12_greatestRise wsX12_greatestRise) := goodIn_app (goodIn_of _ (by decide +kernel)) ggX12_even_X12_greatestRise
set_option maxRecDepth 20000 in
theorem ggX12_order_X12_in : GoodIn wsX12_order wsX12_in := goodIn_r _ [7] (by decide +kernel) (by decide +kernel)
set_option maxRecDepth 20000 in
theorem gX12_order_X12_in : GoodIn wsX12_order (va_wsS RX12 80 yX12_in wsX12_in) := goodIn_app (goodIn_of _ (by decide +kernel)) ggX12_order_X12_in
set_option maxRecDepth 20000 in
theorem ggX12_order_X12_reached : GoodIn wsX12_order wsX12_reached := goodIn_r _ [11, 2, 3, 12, 13, 14, 6, 15, 16, 17, 18, 19, 20, 21, 22, 23, 24, 25, 26, 27, 28, 29, 30, 31, 32, 33, 34, 35, 36, 37, 38, 39, 40, 41, 42, 43, 44, 45, 46, 47, 48, 49, 50, 51, 52, 53, 54, 55, 56, 57, 58, 59, 60, 61, 62, 63, 64, 4, 5, 7, 65, 66, 67, 68, 69, 70, 71, 72, 73, 74, 75, 76, 77, 78, 79, 80, 81, 82, 83, 84, 85, 86, 87, 88, 89, 90, 91, 92, 93, 94, 95, 96, 97, 98, 99, 100, 101, 102, 103, 104, 105, 106] (by decide +kernel) (by decide +kernel)
set_option maxRecDepth 20000 in
theorem gX12_order_X12_reached : GoodIn wsX12_order (wsV RX12 244 RX12 yX12_reached wsX12_reached) := goodIn_app (goodIn_of _ (by decide +kernel)) ggX12_order_X12_reached
set_option maxRecDepth 20000 in
theorem ggX12_isRow_X12_skipped : GoodIn wsX12_isRow wsX12_skipped := goodIn_r _ [8, 9, 10, 11, 12, 86, 87, 88, 89, 90, 91, 92, 93, 94, 95, 96, 97, 98, 99, 100, 101, 102, 103, 104, 105, 106, 107, 108, 109, 110, 111, 112, 113, 114, 115, 116, 117, 118, 119] (by decide +kernel) (by decide +kernel)
set_option maxRecDepth 20000 in
theorem gX12_isRow_X12_skipped : GoodIn wsX12_isRow (wsV RX12 267 RX12 yX12_skipped wsX12_skipped) := goodIn_app (goodIn_of _ (by decide +kernel)) ggX12_isRow_X12_skipped
set_option maxRecDepth 20000 in
theorem ggX12_isRow_X12_groundAt : GoodIn wsX12_isRow wsX12_groundAt := goodIn_r _ [16, 17, 18, 19, 20, 7, 21, 22, 3, 23, 24, 25, 26, 27, 28, 29, 30, 31, 32, 33, 34, 35, 36, 37, 38, 39, 40, 41, 42, 43, 44, 86, 87, 88, 89, 90, 91, 92, 93, 94, 95, 96, 97, 98, 99, 100, 101, 102, 103, 104, 105, 106, 107, 108, 109, 110, 111, 112, 113, 114, 115, 116, 117, 118, 119] (by decide +kernel) (by decide +kernel)
set_option maxRecDepth 20000 in
theorem gX12_isRow_X12_groundAt : GoodIn wsX12_isRow (wsV RX12 234 RX12 yX12_groundAt wsX12_groundAt) := goodIn_app (goodIn_of _ (by decide +kernel)) ggX12_isRow_X12_groundAt
set_option maxRecDepth 20000 in
theorem ggX12_isRow_X12_dayBy : GoodIn wsX12_isRow wsX12_dayBy := goodIn_r _ [48, 49, 22, 3, 50, 51, 52, 53, 7, 54, 55, 56, 57, 58, 17, 18, 19, 20, 21, 23, 24, 25, 26, 27, 28, 29, 30, 31, 32, 33, 34, 35, 36, 37, 38, 39, 40, 41, 42, 43, 44, 59, 60, 61, 62, 63, 64, 65, 66, 67, 68, 69, 86, 87, 88, 89, 90, 91, 92, 93, 94, 95, 96, 97, 98, 99, 100, 101, 102, 103, 104, 105, 106, 107, 108, 109, 110, 111, 112, 113, 114, 115, 116, 117, 118, 119] (by decide +kernel) (by decide +kernel)
set_option maxRecDepth 20000 in
theorem gX12_isRow_X12_dayBy : GoodIn wsX12_isRow (wsV RX12 129 RX12 yX12_dayBy wsX12_dayBy) := goodIn_app (goodIn_of _ (by decide +kernel)) ggX12_isRow_X12_dayBy
set_option maxRecDepth 20000 in
theorem ggX12_isRow_X12_close : GoodIn wsX12_isRow wsX12_close := goodIn_r _ [73, 74, 75, 76, 77, 7, 78, 79, 80, 81, 22, 49, 24, 35, 41, 40, 3, 50, 82, 83, 84, 85, 86, 87, 88, 89, 90, 91, 92, 93, 94, 95, 96, 97, 98, 99, 100, 101, 102, 103, 104, 105, 106, 107, 108, 109, 110, 111, 112, 113, 114, 115, 116, 117, 118, 119] (by decide +kernel) (by decide +kernel)
set_option maxRecDepth 20000 in
theorem gX12_isRow_X12_close : GoodIn wsX12_isRow (wsV RX12 197 RX12 yX12_close wsX12_close) := goodIn_app (goodIn_of _ (by decide +kernel)) ggX12_isRow_X12_close
set_option maxRecDepth 20000 in
theorem ggX12_ages_X12_isOne : GoodIn wsX12_ages wsX12_isOne := goodIn_r _ [8, 9, 10, 11, 7, 12, 106, 107, 108, 109, 110, 111, 112, 113, 114, 115, 116, 117, 118, 119, 120, 121, 122, 123, 124, 125, 126, 127, 128, 129, 130, 131, 132, 133, 134, 135, 136, 137, 138, 139] (by decide +kernel) (by decide +kernel)
set_option maxRecDepth 20000 in
theorem gX12_ages_X12_isOne : GoodIn wsX12_ages (wsV RX12 176 RX12 yX12_isOne wsX12_isOne) := goodIn_app (goodIn_of _ (by decide +kernel)) ggX12_ages_X12_isOne
set_option maxRecDepth 20000 in
theorem ggX12_ages_X12_in : GoodIn wsX12_ages wsX12_in := goodIn_r _ [12] (by decide +kernel) (by decide +kernel)
set_option maxRecDepth 20000 in
theorem gX12_ages_X12_in : GoodIn wsX12_ages (va_wsS RX12 80 yX12_in wsX12_in) := goodIn_app (goodIn_of _ (by decide +kernel)) ggX12_ages_X12_in
set_option maxRecDepth 20000 in
theorem ggX12_ages_X12_wrongRow : GoodIn wsX12_ages wsX12_wrongRow := goodIn_r _ [16, 17, 18, 10, 11, 7, 12, 106, 107, 108, 109, 110, 111, 112, 113, 114, 115, 116, 117, 118, 119, 120, 121, 122, 123, 124, 125, 126, 127, 128, 129, 130, 131, 132, 133, 134, 135, 136, 137, 138, 139] (by decide +kernel) (by decide +kernel)
set_option maxRecDepth 20000 in
theorem gX12_ages_X12_wrongRow : GoodIn wsX12_ages (wsV RX12 185 RX12 yX12_wrongRow wsX12_wrongRow) := goodIn_app (goodIn_of _ (by decide +kernel)) ggX12_ages_X12_wrongRow
set_option maxRecDepth 20000 in
theorem ggX12_ages_X12_open : GoodIn wsX12_ages wsX12_open := goodIn_r _ [22, 23, 24, 25, 26, 7, 27, 28, 29, 30, 9, 31, 32, 33, 34, 3, 35, 36, 37, 38, 39, 40, 106, 107, 108, 109, 110, 111, 112, 113, 114, 115, 116, 117, 118, 119, 120, 121, 122, 123, 124, 125, 126, 127, 128, 129, 130, 131, 132, 133, 134, 135, 136, 137, 138, 139] (by decide +kernel) (by decide +kernel)
set_option maxRecDepth 20000 in
theorem gX12_ages_X12_open : GoodIn wsX12_ages (wsV RX12 191 RX12 yX12_open wsX12_open) := goodIn_app (goodIn_of _ (by decide +kernel)) ggX12_ages_X12_open
set_option maxRecDepth 20000 in
theorem ggX12_ages_X12_isRow : GoodIn wsX12_ages wsX12_isRow := goodIn_r _ [44, 45, 46, 35, 47, 48, 49, 7, 50, 51, 52, 53, 54, 55, 56, 57, 58, 59, 60, 61, 62, 63, 9, 64, 32, 65, 66, 67, 68, 69, 70, 71, 72, 73, 74, 33, 75, 76, 77, 78, 3, 34, 79, 80, 81, 82, 83, 84, 85, 31, 36, 86, 87, 88, 89, 90, 91, 92, 93, 94, 95, 96, 97, 10, 11, 12, 98, 99, 100, 101, 102, 103, 104, 105, 23, 24, 25, 26, 27, 28, 29, 30, 37, 38, 39, 40, 106, 107, 108, 109, 110, 111, 112, 113, 114, 115, 116, 117, 118, 119, 120, 121, 122, 123, 124, 125, 126, 127, 128, 129, 130, 131, 132, 133, 134, 135, 136, 137, 138, 139] (by decide +kernel) (by decide +kernel)
set_option maxRecDepth 20000 in
theorem gX12_ages_X12_isRow : GoodIn wsX12_ages (wsV RX12 271 RX12 yX12_isRow wsX12_isRow) := goodIn_app (goodIn_of _ (by decide +kernel)) ggX12_ages_X12_isRow
set_option maxRecDepth 20000 in
theorem ggX12_whatIs_X12_isOne : GoodIn wsX12_whatIs wsX12_isOne := goodIn_r _ [8, 9, 10, 11, 7, 12, 105, 106, 107, 108, 109, 110, 111, 112, 113, 114, 115, 116, 117, 118, 119, 120, 121, 122, 123, 124, 125, 126, 127, 128, 129, 130, 131, 132, 133, 134, 135, 136, 137, 138] (by decide +kernel) (by decide +kernel)
set_option maxRecDepth 20000 in
theorem gX12_whatIs_X12_isOne : GoodIn wsX12_whatIs (wsV RX12 176 RX12 yX12_isOne wsX12_isOne) := goodIn_app (goodIn_of _ (by decide +kernel)) ggX12_whatIs_X12_isOne
set_option maxRecDepth 20000 in
theorem ggX12_whatIs_X12_in : GoodIn wsX12_whatIs wsX12_in := goodIn_r _ [12] (by decide +kernel) (by decide +kernel)
set_option maxRecDepth 20000 in
theorem gX12_whatIs_X12_in : GoodIn wsX12_whatIs (va_wsS RX12 80 yX12_in wsX12_in) := goodIn_app (goodIn_of _ (by decide +kernel)) ggX12_whatIs_X12_in
set_option maxRecDepth 20000 in
theorem ggX12_whatIs_X12_wrongRow : GoodIn wsX12_whatIs wsX12_wrongRow := goodIn_r _ [16, 17, 18, 10, 11, 7, 12, 105, 106, 107, 108, 109, 110, 111, 112, 113, 114, 115, 116, 117, 118, 119, 120, 121, 122, 123, 124, 125, 126, 127, 128, 129, 130, 131, 132, 133, 134, 135, 136, 137, 138] (by decide +kernel) (by decide +kernel)
set_option maxRecDepth 20000 in
theorem gX12_whatIs_X12_wrongRow : GoodIn wsX12_whatIs (wsV RX12 185 RX12 yX12_wrongRow wsX12_wrongRow) := goodIn_app (goodIn_of _ (by decide +kernel)) ggX12_whatIs_X12_wrongRow
set_option maxRecDepth 20000 in
theorem ggX12_whatIs_X12_open : GoodIn wsX12_whatIs wsX12_open := goodIn_r _ [22, 23, 24, 25, 26, 7, 27, 28, 29, 30, 9, 31, 32, 2, 3, 33, 34, 35, 36, 37, 38, 39, 105, 106, 107, 108, 109, 110, 111, 112, 113, 114, 115, 116, 117, 118, 119, 120, 121, 122, 123, 124, 125, 126, 127, 128, 129, 130, 131, 132, 133, 134, 135, 136, 137, 138] (by decide +kernel) (by decide +kernel)
set_option maxRecDepth 20000 in
theorem gX12_whatIs_X12_open : GoodIn wsX12_whatIs (wsV RX12 191 RX12 yX12_open wsX12_open) := goodIn_app (goodIn_of _ (by decide +kernel)) ggX12_whatIs_X12_open
set_option maxRecDepth 20000 in
theorem ggX12_whatIs_X12_isRow : GoodIn wsX12_whatIs wsX12_isRow := goodIn_r _ [43, 44, 45, 34, 46, 47, 48, 7, 49, 50, 51, 52, 53, 54, 55, 56, 57, 58, 59, 60, 61, 62, 9, 63, 32, 64, 65, 66, 67, 68, 69, 70, 71, 72, 73, 2, 74, 75, 76, 77, 33, 3, 78, 79, 80, 81, 82, 83, 84, 31, 35, 85, 86, 87, 88, 89, 90, 91, 92, 93, 94, 95, 96, 10, 11, 12, 97, 98, 99, 100, 101, 102, 103, 104, 23, 24, 25, 26, 27, 28, 29, 30, 36, 37, 38, 39, 105, 106, 107, 108, 109, 110, 111, 112, 113, 114, 115, 116, 117, 118, 119, 120, 121, 122, 123, 124, 125, 126, 127, 128, 129, 130, 131, 132, 133, 134, 135, 136, 137, 138] (by decide +kernel) (by decide +kernel)
set_option maxRecDepth 20000 in
theorem gX12_whatIs_X12_isRow : GoodIn wsX12_whatIs (wsV RX12 271 RX12 yX12_isRow wsX12_isRow) := goodIn_app (goodIn_of _ (by decide +kernel)) ggX12_whatIs_X12_isRow
set_option maxRecDepth 20000 in
theorem ggX12_two_X12_isOne : GoodIn wsX12_two wsX12_isOne := goodIn_r _ [8, 9, 10, 11, 7, 12, 44, 45, 46, 47, 48, 49, 50, 51, 52, 53, 54, 55, 56, 57, 58, 59, 60, 61, 62, 63, 64, 65, 66, 67, 68, 69, 70, 71, 72, 73, 74, 75, 76, 77] (by decide +kernel) (by decide +kernel)
set_option maxRecDepth 20000 in
theorem gX12_two_X12_isOne : GoodIn wsX12_two (wsV RX12 176 RX12 yX12_isOne wsX12_isOne) := goodIn_app (goodIn_of _ (by decide +kernel)) ggX12_two_X12_isOne
set_option maxRecDepth 20000 in
theorem ggX12_two_X12_groundAt : GoodIn wsX12_two wsX12_groundAt := goodIn_r _ [16, 17, 18, 19, 20, 7, 21, 9, 2, 22, 23, 24, 25, 26, 27, 28, 29, 30, 31, 32, 33, 34, 35, 36, 37, 38, 39, 40, 41, 42, 43, 44, 45, 46, 47, 48, 49, 50, 51, 52, 53, 54, 55, 56, 57, 58, 59, 60, 61, 62, 63, 64, 65, 66, 67, 68, 69, 70, 71, 72, 73, 74, 75, 76, 77] (by decide +kernel) (by decide +kernel)
set_option maxRecDepth 20000 in
theorem gX12_two_X12_groundAt : GoodIn wsX12_two (wsV RX12 234 RX12 yX12_groundAt wsX12_groundAt) := goodIn_app (goodIn_of _ (by decide +kernel)) ggX12_two_X12_groundAt
set_option maxRecDepth 20000 in
theorem ggX12_partOf_X12_divisor : GoodIn wsX12_partOf wsX12_divisor := goodIn_r _ [4] (by decide +kernel) (by decide +kernel)
set_option maxRecDepth 20000 in
theorem gX12_partOf_X12_divisor : GoodIn wsX12_partOf (va_wsS RX12 274 yX12_divisor wsX12_divisor) := goodIn_app (goodIn_of _ (by decide +kernel)) ggX12_partOf_X12_divisor
set_option maxRecDepth 20000 in
theorem ggX12_fog_X12_isOne : GoodIn wsX12_fog wsX12_isOne := goodIn_r _ [11, 12, 13, 14, 10, 15, 91, 92, 93, 94, 95, 96, 97, 98, 99, 100, 101, 102, 103, 104, 105, 106, 107, 108, 109, 110, 111, 112, 113, 114, 115, 116, 117, 118, 119, 120, 121, 122, 123, 124] (by decide +kernel) (by decide +kernel)
set_option maxRecDepth 20000 in
theorem gX12_fog_X12_isOne : GoodIn wsX12_fog (wsV RX12 176 RX12 yX12_isOne wsX12_isOne) := goodIn_app (goodIn_of _ (by decide +kernel)) ggX12_fog_X12_isOne
set_option maxRecDepth 20000 in
theorem ggX12_fog_X12_isCell : GoodIn wsX12_fog wsX12_isCell := goodIn_r _ [18, 19, 13, 14, 10, 15] (by decide +kernel) (by decide +kernel)
set_option maxRecDepth 20000 in
theorem gX12_fog_X12_isCell : GoodIn wsX12_fog (va_wsS RX12 113 yX12_isCell wsX12_isCell) := goodIn_app (goodIn_of _ (by decide +kernel)) ggX12_fog_X12_isCell
set_option maxRecDepth 20000 in
theorem ggX12_fog_X12_in : GoodIn wsX12_fog wsX12_in := goodIn_r _ [15] (by decide +kernel) (by decide +kernel)
set_option maxRecDepth 20000 in
theorem gX12_fog_X12_in : GoodIn wsX12_fog (va_wsS RX12 80 yX12_in wsX12_in) := goodIn_app (goodIn_of _ (by decide +kernel)) ggX12_fog_X12_in
set_option maxRecDepth 20000 in
theorem ggX12_fog_X12_open : GoodIn wsX12_fog wsX12_open := goodIn_r _ [23, 24, 25, 26, 27, 10, 28, 29, 30, 31, 12, 32, 33, 34, 35, 36, 6, 37, 38, 39, 40, 41, 91, 92, 93, 94, 95, 96, 97, 98, 99, 100, 101, 102, 103, 104, 105, 106, 107, 108, 109, 110, 111, 112, 113, 114, 115, 116, 117, 118, 119, 120, 121, 122, 123, 124] (by decide +kernel) (by decide +kernel)
set_option maxRecDepth 20000 in
theorem gX12_fog_X12_open : GoodIn wsX12_fog (wsV RX12 191 RX12 yX12_open wsX12_open) := goodIn_app (goodIn_of _ (by decide +kernel)) ggX12_fog_X12_open
set_option maxRecDepth 20000 in
theorem ggX12_fog_X12_hasBit : GoodIn wsX12_fog wsX12_hasBit := goodIn_r _ [44] (by decide +kernel) (by decide +kernel)
set_option maxRecDepth 20000 in
theorem gX12_fog_X12_hasBit : GoodIn wsX12_fog (va_wsS RX12 97 yX12_hasBit wsX12_hasBit) := goodIn_app (goodIn_of _ (by decide +kernel)) ggX12_fog_X12_hasBit
set_option maxRecDepth 20000 in
theorem ggX12_fog_X12_dayBy : GoodIn wsX12_fog wsX12_dayBy := goodIn_r _ [48, 32, 12, 6, 37, 49, 50, 51, 10, 52, 53, 54, 55, 56, 57, 58, 59, 60, 61, 62, 33, 63, 64, 65, 42, 43, 44, 66, 67, 68, 69, 34, 70, 71, 72, 73, 36, 35, 74, 75, 76, 16, 17, 18, 19, 13, 14, 15, 77, 78, 79, 80, 91, 92, 93, 94, 95, 96, 97, 98, 99, 100, 101, 102, 103, 104, 105, 106, 107, 108, 109, 110, 111, 112, 113, 114, 115, 116, 117, 118, 119, 120, 121, 122, 123, 124] (by decide +kernel) (by decide +kernel)
set_option maxRecDepth 20000 in
theorem gX12_fog_X12_dayBy : GoodIn wsX12_fog (wsV RX12 129 RX12 yX12_dayBy wsX12_dayBy) := goodIn_app (goodIn_of _ (by decide +kernel)) ggX12_fog_X12_dayBy
set_option maxRecDepth 20000 in
theorem ggX12_fog_X12_close : GoodIn wsX12_fog wsX12_close := goodIn_r _ [84, 24, 25, 26, 27, 10, 28, 29, 30, 31, 12, 32, 33, 34, 35, 36, 6, 37, 38, 39, 40, 41, 91, 92, 93, 94, 95, 96, 97, 98, 99, 100, 101, 102, 103, 104, 105, 106, 107, 108, 109, 110, 111, 112, 113, 114, 115, 116, 117, 118, 119, 120, 121, 122, 123, 124] (by decide +kernel) (by decide +kernel)
set_option maxRecDepth 20000 in
theorem gX12_fog_X12_close : GoodIn wsX12_fog (wsV RX12 197 RX12 yX12_close wsX12_close) := goodIn_app (goodIn_of _ (by decide +kernel)) ggX12_fog_X12_close
set_option maxRecDepth 20000 in
theorem ggX12_fog_X12_partOf : GoodIn wsX12_fog wsX12_partOf := goodIn_r _ [87, 88, 89, 10, 90] (by decide +kernel) (by decide +kernel)
set_option maxRecDepth 20000 in
theorem gX12_fog_X12_partOf : GoodIn wsX12_fog (va_wsS RX12 280 yX12_partOf wsX12_partOf) := goodIn_app (goodIn_of _ (by decide +kernel)) ggX12_fog_X12_partOf
set_option maxRecDepth 20000 in
theorem ggX12_allGround_X12_layGround : GoodIn wsX12_allGround wsX12_layGround := goodIn_r _ [6, 7, 8, 9, 1, 10, 11, 12, 5, 13, 14, 15, 16, 17, 18, 19, 20, 21, 22, 23, 24, 25, 26, 27, 28, 29, 30, 31, 32, 33, 34, 35, 36, 37, 38, 39, 40, 41, 42, 43, 44, 45, 46, 47, 48, 49, 50, 51, 52, 53, 54, 55, 56, 57, 58, 59, 60, 61, 62, 63, 64] (by decide +kernel) (by decide +kernel)
set_option maxRecDepth 20000 in
theorem gX12_allGround_X12_layGround : GoodIn wsX12_allGround (wsV RX12 107 RX12 yX12_layGround wsX12_layGround) := goodIn_app (goodIn_of _ (by decide +kernel)) ggX12_allGround_X12_layGround
set_option maxRecDepth 20000 in
theorem ggX12_mean_X12_in : GoodIn wsX12_mean wsX12_in := goodIn_r _ [7] (by decide +kernel) (by decide +kernel)
set_option maxRecDepth 20000 in
theorem gX12_mean_X12_in : GoodIn wsX12_mean (va_wsS RX12 80 yX12_in wsX12_in) := goodIn_app (goodIn_of _ (by decide +kernel)) ggX12_mean_X12_in
set_option maxRecDepth 20000 in
theorem ggX12_mean_X12_allGround : GoodIn wsX12_mean wsX12_allGround := goodIn_r _ [11, 12, 13, 14, 15, 6, 16, 17, 18, 19, 20, 21, 22, 23, 24, 25, 26, 27, 28, 29, 30, 31, 32, 33, 34, 35, 36, 37, 38, 39, 40, 47, 48, 49, 50, 51, 52, 53, 54, 55, 56, 57, 58, 59, 60, 61, 62, 63, 64, 65, 66, 67, 68, 69, 70, 71, 72, 73, 74, 75, 76, 77, 78, 79, 80] (by decide +kernel) (by decide +kernel)
set_option maxRecDepth 20000 in
theorem gX12_mean_X12_allGround : GoodIn wsX12_mean (wsV RX12 284 RX12 yX12_allGround wsX12_allGround) := goodIn_app (goodIn_of _ (by decide +kernel)) ggX12_mean_X12_allGround
set_option maxRecDepth 20000 in
theorem ggX12_mean_X12_partOf : GoodIn wsX12_mean wsX12_partOf := goodIn_r _ [43, 44, 45, 6, 46] (by decide +kernel) (by decide +kernel)
set_option maxRecDepth 20000 in
theorem gX12_mean_X12_partOf : GoodIn wsX12_mean (va_wsS RX12 280 yX12_partOf wsX12_partOf) := goodIn_app (goodIn_of _ (by decide +kernel)) ggX12_mean_X12_partOf
set_option maxRecDepth 20000 in
theorem ggX12_shares_X12_in : GoodIn wsX12_shares wsX12_in := goodIn_r _ [7] (by decide +kernel) (by decide +kernel)
set_option maxRecDepth 20000 in
theorem gX12_shares_X12_in : GoodIn wsX12_shares (va_wsS RX12 80 yX12_in wsX12_in) := goodIn_app (goodIn_of _ (by decide +kernel)) ggX12_shares_X12_in
set_option maxRecDepth 20000 in
theorem ggX12_forged_X12_wrongRow : GoodIn wsX12_forged wsX12_wrongRow := goodIn_r _ [9, 10, 11, 12, 13, 8, 14, 43, 44, 45, 46, 47, 48, 49, 50, 51, 52, 53, 54, 55, 56, 57, 58, 59, 60, 61, 62, 63, 64, 65, 66, 67, 68, 69, 70, 71, 72, 73, 74, 75, 76] (by decide +kernel) (by decide +kernel)
set_option maxRecDepth 20000 in
theorem gX12_forged_X12_wrongRow : GoodIn wsX12_forged (wsV RX12 185 RX12 yX12_wrongRow wsX12_wrongRow) := goodIn_app (goodIn_of _ (by decide +kernel)) ggX12_forged_X12_wrongRow
set_option maxRecDepth 20000 in
theorem ggX12_forged_X12_layGround : GoodIn wsX12_forged wsX12_layGround := goodIn_r _ [18, 19, 20, 21, 4, 22, 23, 24, 8, 25, 26, 27, 28, 29, 30, 31, 32, 33, 34, 35, 36, 37, 38, 39, 40, 41, 42, 43, 44, 45, 46, 47, 48, 49, 50, 51, 52, 53, 54, 55, 56, 57, 58, 59, 60, 61, 62, 63, 64, 65, 66, 67, 68, 69, 70, 71, 72, 73, 74, 75, 76] (by decide +kernel) (by decide +kernel)
set_option maxRecDepth 20000 in
theorem gX12_forged_X12_layGround : GoodIn wsX12_forged (wsV RX12 107 RX12 yX12_layGround wsX12_layGround) := goodIn_app (goodIn_of _ (by decide +kernel)) ggX12_forged_X12_layGround
set_option maxRecDepth 20000 in
theorem ggX12_judge_X12_wrongRow : GoodIn wsX12_judge wsX12_wrongRow := goodIn_r _ [8, 9, 10, 11, 12, 7, 13, 98, 99, 100, 101, 102, 103, 104, 105, 106, 107, 108, 109, 110, 111, 112, 113, 114, 115, 116, 117, 118, 119, 120, 121, 122, 123, 124, 125, 126, 127, 128, 129, 130, 131] (by decide +kernel) (by decide +kernel)
set_option maxRecDepth 20000 in
theorem gX12_judge_X12_wrongRow : GoodIn wsX12_judge (wsV RX12 185 RX12 yX12_wrongRow wsX12_wrongRow) := goodIn_app (goodIn_of _ (by decide +kernel)) ggX12_judge_X12_wrongRow
set_option maxRecDepth 20000 in
theorem ggX12_judge_X12_open : GoodIn wsX12_judge wsX12_open := goodIn_r _ [17, 18, 19, 20, 21, 7, 22, 23, 24, 25, 26, 27, 28, 29, 30, 31, 32, 33, 34, 35, 36, 37, 98, 99, 100, 101, 102, 103, 104, 105, 106, 107, 108, 109, 110, 111, 112, 113, 114, 115, 116, 117, 118, 119, 120, 121, 122, 123, 124, 125, 126, 127, 128, 129, 130, 131] (by decide +kernel) (by decide +kernel)
set_option maxRecDepth 20000 in
theorem gX12_judge_X12_open : GoodIn wsX12_judge (wsV RX12 191 RX12 yX12_open wsX12_open) := goodIn_app (goodIn_of _ (by decide +kernel)) ggX12_judge_X12_open
set_option maxRecDepth 20000 in
theorem ggX12_judge_X12_skipped : GoodIn wsX12_judge wsX12_skipped := goodIn_r _ [41, 42, 43, 44, 45, 98, 99, 100, 101, 102, 103, 104, 105, 106, 107, 108, 109, 110, 111, 112, 113, 114, 115, 116, 117, 118, 119, 120, 121, 122, 123, 124, 125, 126, 127, 128, 129, 130, 131] (by decide +kernel) (by decide +kernel)
set_option maxRecDepth 20000 in
theorem gX12_judge_X12_skipped : GoodIn wsX12_judge (wsV RX12 267 RX12 yX12_skipped wsX12_skipped) := goodIn_app (goodIn_of _ (by decide +kernel)) ggX12_judge_X12_skipped
set_option maxRecDepth 20000 in
theorem ggX12_judge_X12_allWater : GoodIn wsX12_judge wsX12_allWater := goodIn_r _ [49, 50, 51, 52, 53, 54, 7, 55, 26, 32, 56, 28, 57, 58, 59, 60, 61, 62, 63, 64, 65, 66, 29, 67, 68, 69, 70, 31, 30, 71, 72, 73, 98, 99, 100, 101, 102, 103, 104, 105, 106, 107, 108, 109, 110, 111, 112, 113, 114, 115, 116, 117, 118, 119, 120, 121, 122, 123, 124, 125, 126, 127, 128, 129, 130, 131] (by decide +kernel) (by decide +kernel)
set_option maxRecDepth 20000 in
theorem gX12_judge_X12_allWater : GoodIn wsX12_judge (wsV RX12 231 RX12 yX12_allWater wsX12_allWater) := goodIn_app (goodIn_of _ (by decide +kernel)) ggX12_judge_X12_allWater
set_option maxRecDepth 20000 in
theorem ggX12_judge_X12_dayBy : GoodIn wsX12_judge wsX12_dayBy := goodIn_r _ [77, 27, 26, 32, 33, 78, 79, 80, 7, 81, 82, 83, 84, 85, 50, 52, 53, 54, 55, 56, 28, 57, 58, 59, 60, 61, 62, 63, 64, 65, 66, 29, 67, 68, 69, 70, 31, 30, 71, 72, 73, 86, 87, 88, 89, 11, 12, 13, 90, 91, 92, 93, 98, 99, 100, 101, 102, 103, 104, 105, 106, 107, 108, 109, 110, 111, 112, 113, 114, 115, 116, 117, 118, 119, 120, 121, 122, 123, 124, 125, 126, 127, 128, 129, 130, 131] (by decide +kernel) (by decide +kernel)
set_option maxRecDepth 20000 in
theorem gX12_judge_X12_dayBy : GoodIn wsX12_judge (wsV RX12 129 RX12 yX12_dayBy wsX12_dayBy) := goodIn_app (goodIn_of _ (by decide +kernel)) ggX12_judge_X12_dayBy
set_option maxRecDepth 20000 in
theorem ggX12_judge_X12_close : GoodIn wsX12_judge wsX12_close := goodIn_r _ [97, 18, 19, 20, 21, 7, 22, 23, 24, 25, 26, 27, 28, 29, 30, 31, 32, 33, 34, 35, 36, 37, 98, 99, 100, 101, 102, 103, 104, 105, 106, 107, 108, 109, 110, 111, 112, 113, 114, 115, 116, 117, 118, 119, 120, 121, 122, 123, 124, 125, 126, 127, 128, 129, 130, 131] (by decide +kernel) (by decide +kernel)
set_option maxRecDepth 20000 in
theorem gX12_judge_X12_close : GoodIn wsX12_judge (wsV RX12 197 RX12 yX12_close wsX12_close) := goodIn_app (goodIn_of _ (by decide +kernel)) ggX12_judge_X12_close
set_option maxRecDepth 20000 in
theorem ggX12_countries_X12_in : GoodIn wsX12_countries wsX12_in := goodIn_r _ [10] (by decide +kernel) (by decide +kernel)
set_option maxRecDepth 20000 in
theorem gX12_countries_X12_in : GoodIn wsX12_countries (va_wsS RX12 80 yX12_in wsX12_in) := goodIn_app (goodIn_of _ (by decide +kernel)) ggX12_countries_X12_in
set_option maxRecDepth 20000 in
theorem ggX12_countries_X12_open : GoodIn wsX12_countries wsX12_open := goodIn_r _ [14, 15, 16, 17, 18, 9, 19, 20, 21, 22, 4, 23, 24, 25, 26, 27, 5, 6, 28, 29, 30, 31, 95, 96, 97, 98, 99, 100, 101, 102, 103, 104, 105, 106, 107, 108, 109, 110, 111, 112, 113, 114, 115, 116, 117, 118, 119, 120, 121, 122, 123, 124, 125, 126, 127, 128] (by decide +kernel) (by decide +kernel)
set_option maxRecDepth 20000 in
theorem gX12_countries_X12_open : GoodIn wsX12_countries (wsV RX12 191 RX12 yX12_open wsX12_open) := goodIn_app (goodIn_of _ (by decide +kernel)) ggX12_countries_X12_open
set_option maxRecDepth 20000 in
theorem ggX12_countries_X12_drawBelow : GoodIn wsX12_countries wsX12_drawBelow := goodIn_r _ [35, 3, 36, 37, 38, 95, 96, 97, 98, 99, 100, 101, 102, 103, 104, 105, 106, 107, 108, 109, 110, 111, 112, 113, 114, 115, 116, 117, 118, 119, 120, 121, 122, 123, 124, 125, 126, 127, 128] (by decide +kernel) (by decide +kernel)
set_option maxRecDepth 20000 in
theorem gX12_countries_X12_drawBelow : GoodIn wsX12_countries (wsV RX12 299 RX12 yX12_drawBelow wsX12_drawBelow) := goodIn_app (goodIn_of _ (by decide +kernel)) ggX12_countries_X12_drawBelow
set_option maxRecDepth 20000 in
theorem ggX12_countries_X12_goDays : GoodIn wsX12_countries wsX12_goDays := goodIn_r _ [42, 43, 44, 45, 9, 46, 23, 4, 5, 6, 47, 48, 49, 50, 51, 52, 53, 54, 55, 56, 57, 58, 59, 60, 24, 61, 62, 63, 64, 65, 66, 67, 68, 69, 70, 25, 71, 72, 73, 74, 27, 26, 75, 76, 77, 78, 79, 80, 81, 7, 8, 10, 82, 83, 84, 85, 95, 96, 97, 98, 99, 100, 101, 102, 103, 104, 105, 106, 107, 108, 109, 110, 111, 112, 113, 114, 115, 116, 117, 118, 119, 120, 121, 122, 123, 124, 125, 126, 127, 128] (by decide +kernel) (by decide +kernel)
set_option maxRecDepth 20000 in
theorem gX12_countries_X12_goDays : GoodIn wsX12_countries (wsV RX12 168 RX12 yX12_goDays wsX12_goDays) := goodIn_app (goodIn_of _ (by decide +kernel)) ggX12_countries_X12_goDays
set_option maxRecDepth 20000 in
theorem ggX12_countries_X12_allWater : GoodIn wsX12_countries wsX12_allWater := goodIn_r _ [89, 55, 90, 56, 57, 58, 9, 59, 4, 5, 60, 24, 61, 62, 63, 64, 65, 66, 67, 68, 69, 70, 25, 71, 72, 73, 74, 27, 26, 75, 76, 77, 95, 96, 97, 98, 99, 100, 101, 102, 103, 104, 105, 106, 107, 108, 109, 110, 111, 112, 113, 114, 115, 116, 117, 118, 119, 120, 121, 122, 123, 124, 125, 126, 127, 128] (by decide +kernel) (by decide +kernel)
set_option maxRecDepth 20000 in
theorem gX12_countries_X12_allWater : GoodIn wsX12_countries (wsV RX12 231 RX12 yX12_allWater wsX12_allWater) := goodIn_app (goodIn_of _ (by decide +kernel)) ggX12_countries_X12_allWater
set_option maxRecDepth 20000 in
theorem ggX12_countries_X12_close : GoodIn wsX12_countries wsX12_close := goodIn_r _ [94, 15, 16, 17, 18, 9, 19, 20, 21, 22, 4, 23, 24, 25, 26, 27, 5, 6, 28, 29, 30, 31, 95, 96, 97, 98, 99, 100, 101, 102, 103, 104, 105, 106, 107, 108, 109, 110, 111, 112, 113, 114, 115, 116, 117, 118, 119, 120, 121, 122, 123, 124, 125, 126, 127, 128] (by decide +kernel) (by decide +kernel)
set_option maxRecDepth 20000 in
theorem gX12_countries_X12_close : GoodIn wsX12_countries (wsV RX12 197 RX12 yX12_close wsX12_close) := goodIn_app (goodIn_of _ (by decide +kernel)) ggX12_countries_X12_close
set_option maxRecDepth 20000 in
theorem ggX12_count_X12_allGround : GoodIn wsX12_count wsX12_allGround := goodIn_r _ [11, 12, 13, 14, 15, 10, 16, 2, 17, 18, 4, 19, 20, 21, 22, 23, 24, 25, 26, 27, 28, 29, 30, 31, 32, 33, 34, 35, 36, 37, 38, 43, 44, 45, 46, 47, 48, 49, 50, 51, 52, 53, 54, 55, 56, 57, 58, 59, 60, 61, 62, 63, 64, 65, 66, 67, 68, 69, 70, 71, 72, 73, 74, 75, 76] (by decide +kernel) (by decide +kernel)
set_option maxRecDepth 20000 in
theorem gX12_count_X12_allGround : GoodIn wsX12_count (wsV RX12 284 RX12 yX12_allGround wsX12_allGround) := goodIn_app (goodIn_of _ (by decide +kernel)) ggX12_count_X12_allGround
set_option maxRecDepth 20000 in
theorem ggX12_count_X12_allWater : GoodIn wsX12_count wsX12_allWater := goodIn_r _ [42, 12, 6, 13, 14, 15, 10, 16, 2, 17, 18, 4, 19, 20, 21, 22, 23, 24, 25, 26, 27, 28, 29, 30, 31, 32, 33, 34, 35, 36, 37, 38, 43, 44, 45, 46, 47, 48, 49, 50, 51, 52, 53, 54, 55, 56, 57, 58, 59, 60, 61, 62, 63, 64, 65, 66, 67, 68, 69, 70, 71, 72, 73, 74, 75, 76] (by decide +kernel) (by decide +kernel)
set_option maxRecDepth 20000 in
theorem gX12_count_X12_allWater : GoodIn wsX12_count (wsV RX12 231 RX12 yX12_allWater wsX12_allWater) := goodIn_app (goodIn_of _ (by decide +kernel)) ggX12_count_X12_allWater
set_option maxRecDepth 20000 in
theorem ggX12_keep_X12_in : GoodIn wsX12_keep wsX12_in := goodIn_r _ [10] (by decide +kernel) (by decide +kernel)
set_option maxRecDepth 20000 in
theorem gX12_keep_X12_in : GoodIn wsX12_keep (va_wsS RX12 80 yX12_in wsX12_in) := goodIn_app (goodIn_of _ (by decide +kernel)) ggX12_keep_X12_in
set_option maxRecDepth 20000 in
theorem ggX12_wrongRow_X12_in : GoodIn wsX12_wrongRow wsX12_in := goodIn_r _ [6] (by decide +kernel) (by decide +kernel)
set_option maxRecDepth 20000 in
theorem gX12_wrongRow_X12_in : GoodIn wsX12_wrongRow (va_wsS RX12 80 yX12_in wsX12_in) := goodIn_app (goodIn_of _ (by decide +kernel)) ggX12_wrongRow_X12_in
set_option maxRecDepth 20000 in
theorem ggX12_row_X12_in : GoodIn wsX12_row wsX12_in := goodIn_r _ [11] (by decide +kernel) (by decide +kernel)
set_option maxRecDepth 20000 in
theorem gX12_row_X12_in : GoodIn wsX12_row (va_wsS RX12 80 yX12_in wsX12_in) := goodIn_app (goodIn_of _ (by decide +kernel)) ggX12_row_X12_in
set_option maxRecDepth 20000 in
theorem ggX12_put_X12_wrongRow : GoodIn wsX12_put wsX12_wrongRow := goodIn_r _ [9, 10, 11, 12, 13, 8, 14, 18, 19, 20, 21, 22, 23, 24, 25, 26, 27, 28, 29, 30, 31, 32, 33, 34, 35, 36, 37, 38, 39, 40, 41, 42, 43, 44, 45, 46, 47, 48, 49, 50, 51] (by decide +kernel) (by decide +kernel)
set_option maxRecDepth 20000 in
theorem gX12_put_X12_wrongRow : GoodIn wsX12_put (wsV RX12 185 RX12 yX12_wrongRow wsX12_wrongRow) := goodIn_app (goodIn_of _ (by decide +kernel)) ggX12_put_X12_wrongRow
set_option maxRecDepth 20000 in
theorem ggX12_put_X12_in : GoodIn wsX12_put wsX12_in := goodIn_r _ [14] (by decide +kernel) (by decide +kernel)
set_option maxRecDepth 20000 in
theorem gX12_put_X12_in : GoodIn wsX12_put (va_wsS RX12 80 yX12_in wsX12_in) := goodIn_app (goodIn_of _ (by decide +kernel)) ggX12_put_X12_in
set_option maxRecDepth 20000 in
theorem ggX12_put_X12_narrowed : GoodIn wsX12_put wsX12_narrowed := goodIn_r _ [17] (by decide +kernel) (by decide +kernel)
set_option maxRecDepth 20000 in
theorem gX12_put_X12_narrowed : GoodIn wsX12_put (va_wsS RX12 302 yX12_narrowed wsX12_narrowed) := goodIn_app (goodIn_of _ (by decide +kernel)) ggX12_put_X12_narrowed
set_option maxRecDepth 20000 in
theorem ggX12_element_X12_wrongRow : GoodIn wsX12_element wsX12_wrongRow := goodIn_r _ [8, 9, 10, 11, 12, 7, 13, 14, 15, 16, 17, 18, 19, 20, 21, 22, 23, 24, 25, 26, 27, 28, 29, 30, 31, 32, 33, 34, 35, 36, 37, 38, 39, 40, 41, 42, 43, 44, 45, 46, 47] (by decide +kernel) (by decide +kernel)
set_option maxRecDepth 20000 in
theorem gX12_element_X12_wrongRow : GoodIn wsX12_element (wsV RX12 185 RX12 yX12_wrongRow wsX12_wrongRow) := goodIn_app (goodIn_of _ (by decide +kernel)) ggX12_element_X12_wrongRow
set_option maxRecDepth 20000 in
theorem ggX12_element_X12_in : GoodIn wsX12_element wsX12_in := goodIn_r _ [13] (by decide +kernel) (by decide +kernel)
set_option maxRecDepth 20000 in
theorem gX12_element_X12_in : GoodIn wsX12_element (va_wsS RX12 80 yX12_in wsX12_in) := goodIn_app (goodIn_of _ (by decide +kernel)) ggX12_element_X12_in
set_option maxRecDepth 20000 in
theorem ggX12_copy_X12_in : GoodIn wsX12_copy wsX12_in := goodIn_r _ [11] (by decide +kernel) (by decide +kernel)
set_option maxRecDepth 20000 in
theorem gX12_copy_X12_in : GoodIn wsX12_copy (va_wsS RX12 80 yX12_in wsX12_in) := goodIn_app (goodIn_of _ (by decide +kernel)) ggX12_copy_X12_in
set_option maxRecDepth 20000 in
theorem ggX12_cost_X12_wrongKept : GoodIn wsX12_cost wsX12_wrongKept := goodIn_r _ [8, 9, 10, 11, 12, 7, 13, 17, 18, 19, 20, 21, 22, 23, 24, 25, 26, 27, 28, 29, 30, 31, 32, 33, 34, 35, 36, 37, 38, 39, 40, 41, 42, 43, 44, 45, 46, 47, 48, 49, 50] (by decide +kernel) (by decide +kernel)
set_option maxRecDepth 20000 in
theorem gX12_cost_X12_wrongKept : GoodIn wsX12_cost (wsV RX12 224 RX12 yX12_wrongKept wsX12_wrongKept) := goodIn_app (goodIn_of _ (by decide +kernel)) ggX12_cost_X12_wrongKept
set_option maxRecDepth 20000 in
theorem ggX12_cost_X12_costOf : GoodIn wsX12_cost wsX12_costOf := goodIn_r _ [16] (by decide +kernel) (by decide +kernel)
set_option maxRecDepth 20000 in
theorem gX12_cost_X12_costOf : GoodIn wsX12_cost (va_wsS RX12 306 yX12_costOf wsX12_costOf) := goodIn_app (goodIn_of _ (by decide +kernel)) ggX12_cost_X12_costOf
set_option maxRecDepth 20000 in
theorem ggX12_toss_X12_wrongKept : GoodIn wsX12_toss wsX12_wrongKept := goodIn_r _ [8, 9, 10, 11, 12, 7, 13, 17, 18, 19, 20, 21, 22, 23, 24, 25, 26, 27, 28, 29, 30, 31, 32, 33, 34, 35, 36, 37, 38, 39, 40, 41, 42, 43, 44, 45, 46, 47, 48, 49, 50] (by decide +kernel) (by decide +kernel)
set_option maxRecDepth 20000 in
theorem gX12_toss_X12_wrongKept : GoodIn wsX12_toss (wsV RX12 224 RX12 yX12_wrongKept wsX12_wrongKept) := goodIn_app (goodIn_of _ (by decide +kernel)) ggX12_toss_X12_wrongKept
set_option maxRecDepth 20000 in
theorem ggX12_toss_X12_costOf : GoodIn wsX12_toss wsX12_costOf := goodIn_r _ [16] (by decide +kernel) (by decide +kernel)
set_option maxRecDepth 20000 in
theorem gX12_toss_X12_costOf : GoodIn wsX12_toss (va_wsS RX12 306 yX12_costOf wsX12_costOf) := goodIn_app (goodIn_of _ (by decide +kernel)) ggX12_toss_X12_costOf
