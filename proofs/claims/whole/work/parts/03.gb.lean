set_option maxRecDepth 20000 in
theorem gX11_groundThen_X11_isWithin : GoodIn wsX11_groundThen (va_wsS RX11 125 yX11_isWithin wsX11_isWithin) := goodIn_app (goodIn_of _ (by decide +kernel)) ggX11_groundThen_X11_isWithin
set_option maxRecDepth 20000 in
theorem ggX11_groundThen_X11_thinkDaysOn : GoodIn wsX11_groundThen wsX11_thinkDaysOn := goodIn_r _ [12, 1, 13, 14, 15, 16, 17, 18, 19, 20, 21, 22, 23, 24, 25, 26, 27, 28, 29, 30, 31, 32, 33, 34, 35, 36, 37, 38, 39, 40, 41, 42, 4, 43, 6, 7, 8, 44, 45, 46, 47, 48, 49, 50, 51, 70, 71, 72, 73, 74, 75, 76, 77, 78, 79, 80, 81, 82, 83, 84, 85, 86, 87, 88] (by decide +kernel) (by decide +kernel)
set_option maxRecDepth 20000 in
theorem gX11_groundThen_X11_thinkDaysOn : GoodIn wsX11_groundThen (wsV RX11 190 RX11 yX11_thinkDaysOn wsX11_thinkDaysOn) := goodIn_app (goodIn_of _ (by decide +kernel)) ggX11_groundThen_X11_thinkDaysOn
set_option maxRecDepth 20000 in
theorem ggX11_groundThen_X11_isCell : GoodIn wsX11_groundThen wsX11_isCell := goodIn_r _ [43, 6, 7, 4, 8] (by decide +kernel) (by decide +kernel)
set_option maxRecDepth 20000 in
theorem gX11_groundThen_X11_isCell : GoodIn wsX11_groundThen (va_wsS RX11 119 yX11_isCell wsX11_isCell) := goodIn_app (goodIn_of _ (by decide +kernel)) ggX11_groundThen_X11_isCell
set_option maxRecDepth 20000 in
theorem ggX11_groundThen_X1_level : GoodIn wsX11_groundThen wsX1_level := goodIn_r _ [51, 21, 19, 29, 32, 31, 76, 77, 78, 79, 80, 81, 82, 83, 84, 85, 86, 87, 88] (by decide +kernel) (by decide +kernel)
set_option maxRecDepth 20000 in
theorem gX11_groundThen_X1_level : GoodIn wsX11_groundThen (wsV RX11 160 RX1 yX1_level wsX1_level) := goodIn_app (goodIn_of _ (by decide +kernel)) ggX11_groundThen_X1_level
set_option maxRecDepth 20000 in
theorem ggX11_groundThen_X1_allWater : GoodIn wsX11_groundThen wsX1_allWater := goodIn_r _ [57, 58, 59, 60, 61, 17, 62, 63, 64, 65, 66, 67, 68, 69, 48, 49, 50, 51, 21, 19, 29, 32, 31, 76, 77, 78, 79, 80, 81, 82, 83, 84, 85, 86, 87, 88] (by decide +kernel) (by decide +kernel)
set_option maxRecDepth 20000 in
theorem gX11_groundThen_X1_allWater : GoodIn wsX11_groundThen (wsV RX11 156 RX1 yX1_allWater wsX1_allWater) := goodIn_app (goodIn_of _ (by decide +kernel)) ggX11_groundThen_X1_allWater
set_option maxRecDepth 20000 in
theorem ggX11_arrives_X1_has : GoodIn wsX11_arrives wsX1_has := goodIn_r _ [8, 9, 10, 11, 12, 53, 54, 55, 56, 57, 58, 59, 60, 61, 62, 63, 64, 65] (by decide +kernel) (by decide +kernel)
set_option maxRecDepth 20000 in
theorem gX11_arrives_X1_has : GoodIn wsX11_arrives (wsV RX11 84 RX1 yX1_has wsX1_has) := goodIn_app (goodIn_of _ (by decide +kernel)) ggX11_arrives_X1_has
set_option maxRecDepth 20000 in
theorem ggX11_arrives_X11_isCell : GoodIn wsX11_arrives wsX11_isCell := goodIn_r _ [15, 16, 10, 11, 12] (by decide +kernel) (by decide +kernel)
set_option maxRecDepth 20000 in
theorem gX11_arrives_X11_isCell : GoodIn wsX11_arrives (va_wsS RX11 119 yX11_isCell wsX11_isCell) := goodIn_app (goodIn_of _ (by decide +kernel)) ggX11_arrives_X11_isCell
set_option maxRecDepth 20000 in
theorem ggX11_arrives_X1_become : GoodIn wsX11_arrives wsX1_become := goodIn_r _ [20, 9, 21, 22, 23, 24, 25, 26, 27, 28, 29, 30, 31, 32, 33, 34, 53, 54, 55, 56, 57, 58, 59, 60, 61, 62, 63, 64, 65] (by decide +kernel) (by decide +kernel)
set_option maxRecDepth 20000 in
theorem gX11_arrives_X1_become : GoodIn wsX11_arrives (wsV RX11 69 RX1 yX1_become wsX1_become) := goodIn_app (goodIn_of _ (by decide +kernel)) ggX11_arrives_X1_become
set_option maxRecDepth 20000 in
theorem ggX11_arrives_X1_passDay : GoodIn wsX11_arrives wsX1_passDay := goodIn_r _ [38, 21, 9, 30, 31, 14, 11, 15, 16, 10, 12, 39, 40, 41, 7, 42, 34, 43, 44, 45, 46, 22, 33, 32, 53, 54, 55, 56, 57, 58, 59, 60, 61, 62, 63, 64, 65] (by decide +kernel) (by decide +kernel)
set_option maxRecDepth 20000 in
theorem gX11_arrives_X1_passDay : GoodIn wsX11_arrives (wsV RX11 194 RX1 yX1_passDay wsX1_passDay) := goodIn_app (goodIn_of _ (by decide +kernel)) ggX11_arrives_X1_passDay
set_option maxRecDepth 20000 in
theorem ggX11_stuck_X1_has : GoodIn wsX11_stuck wsX1_has := goodIn_r _ [8, 9, 10, 11, 12, 52, 53, 54, 55, 56, 57, 58, 59, 60, 61, 62, 63, 64] (by decide +kernel) (by decide +kernel)
set_option maxRecDepth 20000 in
theorem gX11_stuck_X1_has : GoodIn wsX11_stuck (wsV RX11 84 RX1 yX1_has wsX1_has) := goodIn_app (goodIn_of _ (by decide +kernel)) ggX11_stuck_X1_has
set_option maxRecDepth 20000 in
theorem ggX11_stuck_X1_become : GoodIn wsX11_stuck wsX1_become := goodIn_r _ [16, 9, 17, 18, 19, 20, 21, 22, 23, 24, 25, 26, 27, 28, 29, 30, 52, 53, 54, 55, 56, 57, 58, 59, 60, 61, 62, 63, 64] (by decide +kernel) (by decide +kernel)
set_option maxRecDepth 20000 in
theorem gX11_stuck_X1_become : GoodIn wsX11_stuck (wsV RX11 69 RX1 yX1_become wsX1_become) := goodIn_app (goodIn_of _ (by decide +kernel)) ggX11_stuck_X1_become
set_option maxRecDepth 20000 in
theorem ggX11_stuck_X1_passDay : GoodIn wsX11_stuck wsX1_passDay := goodIn_r _ [34, 17, 9, 26, 27, 35, 11, 36, 37, 10, 12, 38, 39, 40, 7, 41, 30, 42, 43, 44, 45, 18, 29, 28, 52, 53, 54, 55, 56, 57, 58, 59, 60, 61, 62, 63, 64] (by decide +kernel) (by decide +kernel)
set_option maxRecDepth 20000 in
theorem gX11_stuck_X1_passDay : GoodIn wsX11_stuck (wsV RX11 194 RX1 yX1_passDay wsX1_passDay) := goodIn_app (goodIn_of _ (by decide +kernel)) ggX11_stuck_X1_passDay
set_option maxRecDepth 20000 in
theorem ggX11_goes_X1_has : GoodIn wsX11_goes wsX1_has := goodIn_r _ [6, 7, 8, 9, 10, 62, 63, 64, 65, 66, 67, 68, 69, 70, 71, 72, 73, 74] (by decide +kernel) (by decide +kernel)
set_option maxRecDepth 20000 in
theorem gX11_goes_X1_has : GoodIn wsX11_goes (wsV RX11 84 RX1 yX1_has wsX1_has) := goodIn_app (goodIn_of _ (by decide +kernel)) ggX11_goes_X1_has
set_option maxRecDepth 20000 in
theorem ggX11_goes_X11_isCell : GoodIn wsX11_goes wsX11_isCell := goodIn_r _ [13, 14, 8, 9, 10] (by decide +kernel) (by decide +kernel)
set_option maxRecDepth 20000 in
theorem gX11_goes_X11_isCell : GoodIn wsX11_goes (va_wsS RX11 119 yX11_isCell wsX11_isCell) := goodIn_app (goodIn_of _ (by decide +kernel)) ggX11_goes_X11_isCell
set_option maxRecDepth 20000 in
theorem ggX11_goes_X11_getsThere : GoodIn wsX11_goes wsX11_getsThere := goodIn_r _ [18, 19, 1, 20, 21, 22, 5, 23, 7, 24, 25, 26, 27, 28, 29, 30, 31, 32, 33, 34, 35, 36, 37, 38, 39, 40, 41, 42, 43, 44, 45, 46, 9, 47, 48, 49, 50, 51, 12, 13, 14, 8, 10, 52, 53, 54, 55, 56, 57, 58, 59, 60, 61, 62, 63, 64, 65, 66, 67, 68, 69, 70, 71, 72, 73, 74] (by decide +kernel) (by decide +kernel)
set_option maxRecDepth 20000 in
theorem gX11_goes_X11_getsThere : GoodIn wsX11_goes (wsV RX11 198 RX11 yX11_getsThere wsX11_getsThere) := goodIn_app (goodIn_of _ (by decide +kernel)) ggX11_goes_X11_getsThere
set_option maxRecDepth 20000 in
theorem ggX11_far_X1_has : GoodIn wsX11_far wsX1_has := goodIn_r _ [7, 8, 9, 10, 11, 51, 52, 53, 54, 55, 56, 57, 58, 59, 60, 61, 62, 63] (by decide +kernel) (by decide +kernel)
set_option maxRecDepth 20000 in
theorem gX11_far_X1_has : GoodIn wsX11_far (wsV RX11 84 RX1 yX1_has wsX1_has) := goodIn_app (goodIn_of _ (by decide +kernel)) ggX11_far_X1_has
set_option maxRecDepth 20000 in
theorem ggX11_far_X11_isWithin : GoodIn wsX11_far wsX11_isWithin := goodIn_r _ [11] (by decide +kernel) (by decide +kernel)
set_option maxRecDepth 20000 in
theorem gX11_far_X11_isWithin : GoodIn wsX11_far (va_wsS RX11 125 yX11_isWithin wsX11_isWithin) := goodIn_app (goodIn_of _ (by decide +kernel)) ggX11_far_X11_isWithin
set_option maxRecDepth 20000 in
theorem ggX11_far_X1_become : GoodIn wsX11_far wsX1_become := goodIn_r _ [16, 8, 17, 18, 19, 20, 21, 22, 23, 24, 25, 26, 27, 28, 29, 30, 51, 52, 53, 54, 55, 56, 57, 58, 59, 60, 61, 62, 63] (by decide +kernel) (by decide +kernel)
set_option maxRecDepth 20000 in
theorem gX11_far_X1_become : GoodIn wsX11_far (wsV RX11 69 RX1 yX1_become wsX1_become) := goodIn_app (goodIn_of _ (by decide +kernel)) ggX11_far_X1_become
set_option maxRecDepth 20000 in
theorem ggX11_far_X1_walkFar : GoodIn wsX11_far wsX1_walkFar := goodIn_r _ [34, 26, 35, 36, 37, 6, 38, 30, 39, 10, 40, 12, 9, 11, 41, 42, 43, 44, 18, 8, 29, 28, 51, 52, 53, 54, 55, 56, 57, 58, 59, 60, 61, 62, 63] (by decide +kernel) (by decide +kernel)
set_option maxRecDepth 20000 in
theorem gX11_far_X1_walkFar : GoodIn wsX11_far (wsV RX11 201 RX1 yX1_walkFar wsX1_walkFar) := goodIn_app (goodIn_of _ (by decide +kernel)) ggX11_far_X1_walkFar
set_option maxRecDepth 20000 in
theorem ggX11_company_X1_has : GoodIn wsX11_company wsX1_has := goodIn_r _ [7, 8, 9, 10, 11, 71, 72, 73, 74, 75, 76, 77, 78, 79, 80, 81, 82, 83] (by decide +kernel) (by decide +kernel)
set_option maxRecDepth 20000 in
theorem gX11_company_X1_has : GoodIn wsX11_company (wsV RX11 84 RX1 yX1_has wsX1_has) := goodIn_app (goodIn_of _ (by decide +kernel)) ggX11_company_X1_has
set_option maxRecDepth 20000 in
theorem ggX11_company_X11_isCell : GoodIn wsX11_company wsX11_isCell := goodIn_r _ [14, 15, 9, 10, 11] (by decide +kernel) (by decide +kernel)
set_option maxRecDepth 20000 in
theorem gX11_company_X11_isCell : GoodIn wsX11_company (va_wsS RX11 119 yX11_isCell wsX11_isCell) := goodIn_app (goodIn_of _ (by decide +kernel)) ggX11_company_X11_isCell
set_option maxRecDepth 20000 in
theorem ggX11_company_J6_bitCount_0f7a4 : GoodIn wsX11_company wsJ6_bitCount_0f7a4 := goodIn_r _ [19, 20, 21, 22] (by decide +kernel) (by decide +kernel)
set_option maxRecDepth 20000 in
theorem gX11_company_J6_bitCount_0f7a4 : GoodIn wsX11_company (va_wsS RX11 172 yJ6_bitCount_0f7a4 wsJ6_bitCount_0f7a4) := goodIn_app (goodIn_of _ (by decide +kernel)) ggX11_company_J6_bitCount_0f7a4
set_option maxRecDepth 20000 in
theorem ggX11_company_X11_isIn : GoodIn wsX11_company wsX11_isIn := goodIn_r _ [25] (by decide +kernel) (by decide +kernel)
set_option maxRecDepth 20000 in
theorem gX11_company_X11_isIn : GoodIn wsX11_company (va_wsS RX11 205 yX11_isIn wsX11_isIn) := goodIn_app (goodIn_of _ (by decide +kernel)) ggX11_company_X11_isIn
set_option maxRecDepth 20000 in
theorem ggX11_company_X11_getsThere : GoodIn wsX11_company wsX11_getsThere := goodIn_r _ [29, 30, 1, 31, 32, 33, 6, 34, 8, 35, 36, 37, 38, 39, 40, 41, 42, 43, 44, 45, 46, 47, 48, 49, 50, 51, 52, 53, 54, 55, 56, 24, 10, 25, 57, 58, 59, 60, 13, 14, 15, 9, 11, 61, 62, 63, 64, 65, 66, 67, 68, 69, 70, 71, 72, 73, 74, 75, 76, 77, 78, 79, 80, 81, 82, 83] (by decide +kernel) (by decide +kernel)
set_option maxRecDepth 20000 in
theorem gX11_company_X11_getsThere : GoodIn wsX11_company (wsV RX11 198 RX11 yX11_getsThere wsX11_getsThere) := goodIn_app (goodIn_of _ (by decide +kernel)) ggX11_company_X11_getsThere
set_option maxRecDepth 20000 in
theorem ggX11_hire_X1_has : GoodIn wsX11_hire wsX1_has := goodIn_r _ [7, 8, 9, 10, 11, 97, 98, 99, 100, 101, 102, 103, 104, 105, 106, 107, 108, 109] (by decide +kernel) (by decide +kernel)
set_option maxRecDepth 20000 in
theorem gX11_hire_X1_has : GoodIn wsX11_hire (wsV RX11 84 RX1 yX1_has wsX1_has) := goodIn_app (goodIn_of _ (by decide +kernel)) ggX11_hire_X1_has
set_option maxRecDepth 20000 in
theorem ggX11_hire_X11_isCell : GoodIn wsX11_hire wsX11_isCell := goodIn_r _ [14, 15, 9, 10, 11] (by decide +kernel) (by decide +kernel)
set_option maxRecDepth 20000 in
theorem gX11_hire_X11_isCell : GoodIn wsX11_hire (va_wsS RX11 119 yX11_isCell wsX11_isCell) := goodIn_app (goodIn_of _ (by decide +kernel)) ggX11_hire_X11_isCell
set_option maxRecDepth 20000 in
theorem ggX11_hire_X11_isWithin : GoodIn wsX11_hire wsX11_isWithin := goodIn_r _ [11] (by decide +kernel) (by decide +kernel)
set_option maxRecDepth 20000 in
theorem gX11_hire_X11_isWithin : GoodIn wsX11_hire (va_wsS RX11 125 yX11_isWithin wsX11_isWithin) := goodIn_app (goodIn_of _ (by decide +kernel)) ggX11_hire_X11_isWithin
set_option maxRecDepth 20000 in
theorem ggX11_hire_X1_payOf : GoodIn wsX11_hire wsX1_payOf := goodIn_r _ [19, 8, 20, 10, 21, 22, 23, 24, 6, 25, 26, 27, 28, 29, 30, 31, 32, 33, 34, 35, 36, 37, 38, 39, 40, 41, 42, 43, 44, 45, 46, 47, 48, 49, 50, 51, 52, 53, 97, 98, 99, 100, 101, 102, 103, 104, 105, 106, 107, 108, 109] (by decide +kernel) (by decide +kernel)
set_option maxRecDepth 20000 in
theorem gX11_hire_X1_payOf : GoodIn wsX11_hire (wsV RX11 208 RX1 yX1_payOf wsX1_payOf) := goodIn_app (goodIn_of _ (by decide +kernel)) ggX11_hire_X1_payOf
set_option maxRecDepth 20000 in
theorem ggX11_hire_X11_isIn : GoodIn wsX11_hire wsX11_isIn := goodIn_r _ [21] (by decide +kernel) (by decide +kernel)
set_option maxRecDepth 20000 in
theorem gX11_hire_X11_isIn : GoodIn wsX11_hire (va_wsS RX11 205 yX11_isIn wsX11_isIn) := goodIn_app (goodIn_of _ (by decide +kernel)) ggX11_hire_X11_isIn
set_option maxRecDepth 20000 in
theorem ggX11_hire_X11_getsThere : GoodIn wsX11_hire wsX11_getsThere := goodIn_r _ [58, 59, 1, 60, 61, 62, 6, 63, 8, 64, 65, 66, 67, 68, 69, 27, 28, 29, 70, 71, 72, 73, 74, 75, 76, 77, 78, 79, 80, 81, 82, 20, 10, 21, 83, 84, 85, 86, 13, 14, 15, 9, 11, 87, 88, 89, 90, 91, 92, 93, 94, 95, 96, 97, 98, 99, 100, 101, 102, 103, 104, 105, 106, 107, 108, 109] (by decide +kernel) (by decide +kernel)
set_option maxRecDepth 20000 in
theorem gX11_hire_X11_getsThere : GoodIn wsX11_hire (wsV RX11 198 RX11 yX11_getsThere wsX11_getsThere) := goodIn_app (goodIn_of _ (by decide +kernel)) ggX11_hire_X11_getsThere
set_option maxRecDepth 20000 in
theorem ggX11_sit_X1_has : GoodIn wsX11_sit wsX1_has := goodIn_r _ [8, 9, 10, 11, 12, 58, 59, 60, 61, 62, 63, 64, 65, 66, 67, 68, 69, 70] (by decide +kernel) (by decide +kernel)
set_option maxRecDepth 20000 in
theorem gX11_sit_X1_has : GoodIn wsX11_sit (wsV RX11 84 RX1 yX1_has wsX1_has) := goodIn_app (goodIn_of _ (by decide +kernel)) ggX11_sit_X1_has
set_option maxRecDepth 20000 in
theorem ggX11_sit_X11_isWithin : GoodIn wsX11_sit wsX11_isWithin := goodIn_r _ [12] (by decide +kernel) (by decide +kernel)
set_option maxRecDepth 20000 in
theorem gX11_sit_X11_isWithin : GoodIn wsX11_sit (va_wsS RX11 125 yX11_isWithin wsX11_isWithin) := goodIn_app (goodIn_of _ (by decide +kernel)) ggX11_sit_X11_isWithin
set_option maxRecDepth 20000 in
theorem ggX11_sit_X1_become : GoodIn wsX11_sit wsX1_become := goodIn_r _ [17, 9, 18, 19, 20, 21, 22, 23, 24, 25, 26, 27, 28, 29, 30, 31, 58, 59, 60, 61, 62, 63, 64, 65, 66, 67, 68, 69, 70] (by decide +kernel) (by decide +kernel)
set_option maxRecDepth 20000 in
theorem gX11_sit_X1_become : GoodIn wsX11_sit (wsV RX11 69 RX1 yX1_become wsX1_become) := goodIn_app (goodIn_of _ (by decide +kernel)) ggX11_sit_X1_become
set_option maxRecDepth 20000 in
theorem ggX11_sit_X1_allWater : GoodIn wsX11_sit wsX1_allWater := goodIn_r _ [35, 36, 37, 38, 39, 7, 40, 41, 42, 43, 44, 45, 46, 47, 48, 49, 50, 51, 19, 9, 27, 30, 29, 58, 59, 60, 61, 62, 63, 64, 65, 66, 67, 68, 69, 70] (by decide +kernel) (by decide +kernel)
set_option maxRecDepth 20000 in
theorem gX11_sit_X1_allWater : GoodIn wsX11_sit (wsV RX11 156 RX1 yX1_allWater wsX1_allWater) := goodIn_app (goodIn_of _ (by decide +kernel)) ggX11_sit_X1_allWater
set_option maxRecDepth 20000 in
theorem ggX11_apart_X11_isWithin : GoodIn wsX11_apart wsX11_isWithin := goodIn_r _ [6] (by decide +kernel) (by decide +kernel)
set_option maxRecDepth 20000 in
theorem gX11_apart_X11_isWithin : GoodIn wsX11_apart (va_wsS RX11 125 yX11_isWithin wsX11_isWithin) := goodIn_app (goodIn_of _ (by decide +kernel)) ggX11_apart_X11_isWithin
set_option maxRecDepth 20000 in
theorem ggX11_apart_X1_allWater : GoodIn wsX11_apart wsX1_allWater := goodIn_r _ [11, 12, 13, 14, 15, 10, 16, 17, 18, 19, 20, 21, 22, 23, 24, 25, 26, 27, 28, 29, 30, 31, 32, 60, 61, 62, 63, 64, 65, 66, 67, 68, 69, 70, 71, 72] (by decide +kernel) (by decide +kernel)
set_option maxRecDepth 20000 in
theorem gX11_apart_X1_allWater : GoodIn wsX11_apart (wsV RX11 156 RX1 yX1_allWater wsX1_allWater) := goodIn_app (goodIn_of _ (by decide +kernel)) ggX11_apart_X1_allWater
set_option maxRecDepth 20000 in
theorem ggX11_apart_X11_waterOfBothInOneCell : GoodIn wsX11_apart wsX11_waterOfBothInOneCell := goodIn_r _ [36, 37, 1, 38, 39, 22, 19, 23, 40, 41, 42, 10, 43, 29, 44, 28, 45, 46, 47, 48, 49, 50, 51, 30, 52, 32, 31, 53, 7, 8, 9, 11, 12, 13, 14, 15, 16, 17, 18, 20, 21, 24, 25, 26, 27, 54, 55, 56, 57, 58, 59, 60, 61, 62, 63, 64, 65, 66, 67, 68, 69, 70, 71, 72] (by decide +kernel) (by decide +kernel)
set_option maxRecDepth 20000 in
theorem gX11_apart_X11_waterOfBothInOneCell : GoodIn wsX11_apart (wsV RX11 211 RX11 yX11_waterOfBothInOneCell wsX11_waterOfBothInOneCell) := goodIn_app (goodIn_of _ (by decide +kernel)) ggX11_apart_X11_waterOfBothInOneCell
set_option maxRecDepth 20000 in
theorem ggX11_keeps_J6_bitCount_0f7a4 : GoodIn wsX11_keeps wsJ6_bitCount_0f7a4 := goodIn_r _ [6, 7, 8, 9] (by decide +kernel) (by decide +kernel)
set_option maxRecDepth 20000 in
theorem gX11_keeps_J6_bitCount_0f7a4 : GoodIn wsX11_keeps (va_wsS RX11 172 yJ6_bitCount_0f7a4 wsJ6_bitCount_0f7a4) := goodIn_app (goodIn_of _ (by decide +kernel)) ggX11_keeps_J6_bitCount_0f7a4
set_option maxRecDepth 20000 in
theorem ggX11_keeps_X11_waterIfOnly : GoodIn wsX11_keeps wsX11_waterIfOnly := goodIn_r _ [14, 15, 1, 2, 16, 17, 18, 19, 20, 21, 22, 23, 24, 25, 26, 27, 28, 29, 30, 31, 32, 33, 34, 35, 36, 37, 13, 38, 39, 40, 41, 42, 43, 44, 45, 46, 47, 48, 49, 50, 51, 52, 53, 54, 55, 56, 57, 58, 59, 60, 61, 62, 63, 64, 65, 66, 67, 68, 69, 70, 71, 72, 73, 74, 75, 76, 77, 78, 79, 80, 81] (by decide +kernel) (by decide +kernel)
set_option maxRecDepth 20000 in
theorem gX11_keeps_X11_waterIfOnly : GoodIn wsX11_keeps (wsV RX11 214 RX11 yX11_waterIfOnly wsX11_waterIfOnly) := goodIn_app (goodIn_of _ (by decide +kernel)) ggX11_keeps_X11_waterIfOnly
set_option maxRecDepth 20000 in
theorem ggX11_even_X1_steepestCell : GoodIn wsX11_even wsX1_steepestCell := goodIn_r _ [9, 10, 11, 12, 8, 13, 14, 15, 16, 17, 18, 19, 20, 21, 22, 23, 24, 25, 26, 27, 28, 29, 30, 52, 53, 54, 55, 56, 57, 58, 59, 60, 61, 62, 63, 64] (by decide +kernel) (by decide +kernel)
set_option maxRecDepth 20000 in
theorem gX11_even_X1_steepestCell : GoodIn wsX11_even (wsV RX11 181 RX1 yX1_steepestCell wsX1_steepestCell) := goodIn_app (goodIn_of _ (by decide +kernel)) ggX11_even_X1_steepestCell
set_option maxRecDepth 20000 in
theorem ggX11_even_X1_steepness : GoodIn wsX11_even wsX1_steepness := goodIn_r _ [13, 14, 15, 16, 17, 18, 19, 20, 8, 21, 22, 23, 24, 25, 26, 27, 28, 29, 30, 52, 53, 54, 55, 56, 57, 58, 59, 60, 61, 62, 63, 64] (by decide +kernel) (by decide +kernel)
set_option maxRecDepth 20000 in
theorem gX11_even_X1_steepness : GoodIn wsX11_even (wsV RX11 184 RX1 yX1_steepness wsX1_steepness) := goodIn_app (goodIn_of _ (by decide +kernel)) ggX11_even_X1_steepness
set_option maxRecDepth 20000 in
theorem ggX11_even_X1_become : GoodIn wsX11_even wsX1_become := goodIn_r _ [35, 27, 36, 26, 37, 38, 39, 40, 41, 42, 43, 28, 44, 30, 29, 45, 52, 53, 54, 55, 56, 57, 58, 59, 60, 61, 62, 63, 64] (by decide +kernel) (by decide +kernel)
set_option maxRecDepth 20000 in
theorem gX11_even_X1_become : GoodIn wsX11_even (wsV RX11 69 RX1 yX1_become wsX1_become) := goodIn_app (goodIn_of _ (by decide +kernel)) ggX11_even_X1_become
set_option maxRecDepth 20000 in
theorem ggX11_order_X11_isWithin : GoodIn wsX11_order wsX11_isWithin := goodIn_r _ [8] (by decide +kernel) (by decide +kernel)
set_option maxRecDepth 20000 in
theorem gX11_order_X11_isWithin : GoodIn wsX11_order (va_wsS RX11 125 yX11_isWithin wsX11_isWithin) := goodIn_app (goodIn_of _ (by decide +kernel)) ggX11_order_X11_isWithin
set_option maxRecDepth 20000 in
theorem ggX11_order_X1_become : GoodIn wsX11_order wsX1_become := goodIn_r _ [13, 14, 15, 16, 17, 18, 19, 20, 21, 22, 23, 24, 25, 26, 27, 28, 49, 50, 51, 52, 53, 54, 55, 56, 57, 58, 59, 60, 61] (by decide +kernel) (by decide +kernel)
set_option maxRecDepth 20000 in
theorem gX11_order_X1_become : GoodIn wsX11_order (wsV RX11 69 RX1 yX1_become wsX1_become) := goodIn_app (goodIn_of _ (by decide +kernel)) ggX11_order_X1_become
set_option maxRecDepth 20000 in
theorem ggX11_order_X1_walkFar : GoodIn wsX11_order wsX1_walkFar := goodIn_r _ [32, 24, 33, 34, 35, 12, 36, 28, 37, 7, 38, 5, 6, 8, 39, 40, 41, 42, 16, 14, 27, 26, 49, 50, 51, 52, 53, 54, 55, 56, 57, 58, 59, 60, 61] (by decide +kernel) (by decide +kernel)
set_option maxRecDepth 20000 in
theorem gX11_order_X1_walkFar : GoodIn wsX11_order (wsV RX11 201 RX1 yX1_walkFar wsX1_walkFar) := goodIn_app (goodIn_of _ (by decide +kernel)) ggX11_order_X1_walkFar
set_option maxRecDepth 20000 in
theorem ggX11_ages_X1_has : GoodIn wsX11_ages wsX1_has := goodIn_r _ [8, 9, 10, 11, 12, 168, 169, 170, 171, 172, 173, 174, 175, 176, 177, 178, 179, 180] (by decide +kernel) (by decide +kernel)
set_option maxRecDepth 20000 in
theorem gX11_ages_X1_has : GoodIn wsX11_ages (wsV RX11 84 RX1 yX1_has wsX1_has) := goodIn_app (goodIn_of _ (by decide +kernel)) ggX11_ages_X1_has
set_option maxRecDepth 20000 in
theorem ggX11_ages_X11_isWithin : GoodIn wsX11_ages wsX11_isWithin := goodIn_r _ [12] (by decide +kernel) (by decide +kernel)
set_option maxRecDepth 20000 in
theorem gX11_ages_X11_isWithin : GoodIn wsX11_ages (va_wsS RX11 125 yX11_isWithin wsX11_isWithin) := goodIn_app (goodIn_of _ (by decide +kernel)) ggX11_ages_X11_isWithin
set_option maxRecDepth 20000 in
theorem ggX11_ages_X11_rowRefusal : GoodIn wsX11_ages wsX11_rowRefusal := goodIn_r _ [17, 18, 19, 20, 21, 11, 22, 13, 10, 12, 162, 163, 164, 165, 166, 167, 181, 182, 183, 184, 185, 186] (by decide +kernel) (by decide +kernel)
set_option maxRecDepth 20000 in
theorem gX11_ages_X11_rowRefusal : GoodIn wsX11_ages (wsV RX11 55 RX11 yX11_rowRefusal wsX11_rowRefusal) := goodIn_app (goodIn_of _ (by decide +kernel)) ggX11_ages_X11_rowRefusal
set_option maxRecDepth 20000 in
theorem ggX11_ages_X11_isAsToldBy : GoodIn wsX11_ages wsX11_isAsToldBy := goodIn_r _ [26, 27, 1, 18, 28, 29, 30, 31, 32, 33, 7, 34, 9, 35, 36, 37, 38, 39, 40, 41, 42, 43, 44, 45, 46, 47, 48, 49, 50, 51, 52, 53, 10, 11, 12, 54, 55, 56, 57, 58, 59, 60, 61, 62, 63, 64, 65, 66, 67, 68, 69, 70, 71, 72, 73, 74, 75, 76, 77, 78, 79, 80, 81, 82, 83, 84, 85, 86, 87, 88, 89, 90, 91, 92, 93, 94, 95, 96, 97, 98, 99, 100, 101, 102, 103, 104, 105, 106, 107, 108, 109, 110, 111, 112, 113, 114, 115, 116, 117, 118, 119, 120, 121, 122, 123, 124, 125, 126, 127, 128, 129, 130, 131, 132, 133, 134, 135, 136, 137, 138, 139, 140, 141, 142, 143, 144, 13, 145, 146, 147, 148, 149, 150, 151, 152, 153, 154, 155, 156, 157, 158, 159, 160, 161, 162, 163, 164, 165, 166, 167, 181, 182, 183, 184, 185, 186, 168, 169, 170, 171, 172, 173, 174, 175, 176, 177, 178, 179, 180] (by decide +kernel) (by decide +kernel)
set_option maxRecDepth 20000 in
theorem gX11_ages_X11_isAsToldBy : GoodIn wsX11_ages (wsV RX11 217 RX11 yX11_isAsToldBy wsX11_isAsToldBy) := goodIn_app (goodIn_of _ (by decide +kernel)) ggX11_ages_X11_isAsToldBy
set_option maxRecDepth 20000 in
theorem ggX11_whatIs_X1_has : GoodIn wsX11_whatIs wsX1_has := goodIn_r _ [9, 10, 11, 12, 13, 169, 170, 171, 172, 173, 174, 175, 176, 177, 178, 179, 180, 181] (by decide +kernel) (by decide +kernel)
set_option maxRecDepth 20000 in
theorem gX11_whatIs_X1_has : GoodIn wsX11_whatIs (wsV RX11 84 RX1 yX1_has wsX1_has) := goodIn_app (goodIn_of _ (by decide +kernel)) ggX11_whatIs_X1_has
set_option maxRecDepth 20000 in
theorem ggX11_whatIs_X11_isWithin : GoodIn wsX11_whatIs wsX11_isWithin := goodIn_r _ [13] (by decide +kernel) (by decide +kernel)
set_option maxRecDepth 20000 in
theorem gX11_whatIs_X11_isWithin : GoodIn wsX11_whatIs (va_wsS RX11 125 yX11_isWithin wsX11_isWithin) := goodIn_app (goodIn_of _ (by decide +kernel)) ggX11_whatIs_X11_isWithin
set_option maxRecDepth 20000 in
theorem ggX11_whatIs_X11_rowRefusal : GoodIn wsX11_whatIs wsX11_rowRefusal := goodIn_r _ [18, 19, 20, 21, 22, 12, 23, 14, 11, 13, 163, 164, 165, 166, 167, 168, 182, 183, 184, 185, 186, 187] (by decide +kernel) (by decide +kernel)
set_option maxRecDepth 20000 in
theorem gX11_whatIs_X11_rowRefusal : GoodIn wsX11_whatIs (wsV RX11 55 RX11 yX11_rowRefusal wsX11_rowRefusal) := goodIn_app (goodIn_of _ (by decide +kernel)) ggX11_whatIs_X11_rowRefusal
set_option maxRecDepth 20000 in
theorem ggX11_whatIs_X11_isAsToldBy : GoodIn wsX11_whatIs wsX11_isAsToldBy := goodIn_r _ [27, 28, 1, 19, 29, 30, 31, 32, 33, 34, 8, 35, 10, 36, 37, 38, 39, 40, 41, 42, 43, 44, 45, 46, 47, 48, 49, 50, 51, 52, 53, 54, 11, 12, 13, 55, 56, 57, 58, 59, 60, 61, 62, 63, 64, 65, 66, 67, 68, 69, 70, 71, 72, 73, 74, 75, 76, 77, 78, 79, 80, 81, 82, 83, 84, 85, 86, 87, 88, 89, 90, 91, 92, 93, 94, 95, 96, 97, 98, 99, 100, 101, 102, 103, 104, 105, 106, 107, 108, 109, 110, 111, 112, 113, 114, 115, 116, 117, 118, 119, 120, 121, 122, 123, 124, 125, 126, 127, 128, 129, 130, 131, 132, 133, 134, 135, 136, 137, 138, 139, 140, 141, 142, 143, 144, 145, 14, 146, 147, 148, 149, 150, 151, 152, 153, 154, 155, 156, 157, 158, 159, 160, 161, 162, 163, 164, 165, 166, 167, 168, 182, 183, 184, 185, 186, 187, 169, 170, 171, 172, 173, 174, 175, 176, 177, 178, 179, 180, 181] (by decide +kernel) (by decide +kernel)
set_option maxRecDepth 20000 in
theorem gX11_whatIs_X11_isAsToldBy : GoodIn wsX11_whatIs (wsV RX11 217 RX11 yX11_isAsToldBy wsX11_isAsToldBy) := goodIn_app (goodIn_of _ (by decide +kernel)) ggX11_whatIs_X11_isAsToldBy
set_option maxRecDepth 20000 in
theorem ggX11_two_X1_has : GoodIn wsX11_two wsX1_has := goodIn_r _ [6, 7, 8, 9, 10, 45, 46, 47, 48, 49, 50, 51, 52, 53, 54, 55, 56, 57] (by decide +kernel) (by decide +kernel)
set_option maxRecDepth 20000 in
theorem gX11_two_X1_has : GoodIn wsX11_two (wsV RX11 84 RX1 yX1_has wsX1_has) := goodIn_app (goodIn_of _ (by decide +kernel)) ggX11_two_X1_has
set_option maxRecDepth 20000 in
theorem ggX11_two_X11_levelUnder : GoodIn wsX11_two wsX11_levelUnder := goodIn_r _ [14, 15, 1, 16, 17, 18, 19, 5, 20, 7, 21, 22, 23, 24, 25, 26, 27, 28, 29, 30, 31, 32, 33, 34, 35, 36, 37, 38, 39, 40, 41, 42, 43, 44, 45, 46, 47, 48, 49, 50, 51, 52, 53, 54, 55, 56, 57] (by decide +kernel) (by decide +kernel)
set_option maxRecDepth 20000 in
theorem gX11_two_X11_levelUnder : GoodIn wsX11_two (wsV RX11 221 RX11 yX11_levelUnder wsX11_levelUnder) := goodIn_app (goodIn_of _ (by decide +kernel)) ggX11_two_X11_levelUnder
set_option maxRecDepth 20000 in
theorem ggX11_fog_X1_has : GoodIn wsX11_fog wsX1_has := goodIn_r _ [9, 10, 11, 12, 13, 64, 65, 66, 67, 68, 69, 70, 71, 72, 73, 74, 75, 76] (by decide +kernel) (by decide +kernel)
set_option maxRecDepth 20000 in
theorem gX11_fog_X1_has : GoodIn wsX11_fog (wsV RX11 84 RX1 yX1_has wsX1_has) := goodIn_app (goodIn_of _ (by decide +kernel)) ggX11_fog_X1_has
set_option maxRecDepth 20000 in
theorem ggX11_fog_X11_isCell : GoodIn wsX11_fog wsX11_isCell := goodIn_r _ [16, 17, 11, 12, 13] (by decide +kernel) (by decide +kernel)
set_option maxRecDepth 20000 in
theorem gX11_fog_X11_isCell : GoodIn wsX11_fog (va_wsS RX11 119 yX11_isCell wsX11_isCell) := goodIn_app (goodIn_of _ (by decide +kernel)) ggX11_fog_X11_isCell
set_option maxRecDepth 20000 in
theorem ggX11_fog_X11_isWithin : GoodIn wsX11_fog wsX11_isWithin := goodIn_r _ [13] (by decide +kernel) (by decide +kernel)
set_option maxRecDepth 20000 in
theorem gX11_fog_X11_isWithin : GoodIn wsX11_fog (va_wsS RX11 125 yX11_isWithin wsX11_isWithin) := goodIn_app (goodIn_of _ (by decide +kernel)) ggX11_fog_X11_isWithin
set_option maxRecDepth 20000 in
theorem ggX11_fog_X1_become : GoodIn wsX11_fog wsX1_become := goodIn_r _ [21, 10, 22, 23, 24, 25, 26, 27, 28, 29, 30, 31, 32, 33, 34, 35, 64, 65, 66, 67, 68, 69, 70, 71, 72, 73, 74, 75, 76] (by decide +kernel) (by decide +kernel)
set_option maxRecDepth 20000 in
theorem gX11_fog_X1_become : GoodIn wsX11_fog (wsV RX11 69 RX1 yX1_become wsX1_become) := goodIn_app (goodIn_of _ (by decide +kernel)) ggX11_fog_X1_become
set_option maxRecDepth 20000 in
theorem ggX11_fog_X1_passDay : GoodIn wsX11_fog wsX1_passDay := goodIn_r _ [39, 22, 10, 31, 32, 15, 12, 16, 17, 11, 13, 40, 41, 42, 8, 43, 35, 44, 45, 46, 47, 23, 34, 33, 64, 65, 66, 67, 68, 69, 70, 71, 72, 73, 74, 75, 76] (by decide +kernel) (by decide +kernel)
set_option maxRecDepth 20000 in
theorem gX11_fog_X1_passDay : GoodIn wsX11_fog (wsV RX11 194 RX1 yX1_passDay wsX1_passDay) := goodIn_app (goodIn_of _ (by decide +kernel)) ggX11_fog_X1_passDay
set_option maxRecDepth 20000 in
theorem ggX11_fog_X11_inLeastTerms : GoodIn wsX11_fog wsX11_inLeastTerms := goodIn_r _ [50, 51, 52, 53, 54, 55, 56, 12, 57] (by decide +kernel) (by decide +kernel)
set_option maxRecDepth 20000 in
theorem gX11_fog_X11_inLeastTerms : GoodIn wsX11_fog (va_wsS RX11 227 yX11_inLeastTerms wsX11_inLeastTerms) := goodIn_app (goodIn_of _ (by decide +kernel)) ggX11_fog_X11_inLeastTerms
set_option maxRecDepth 20000 in
theorem ggX11_mean_X11_isWithin : GoodIn wsX11_mean wsX11_isWithin := goodIn_r _ [7] (by decide +kernel) (by decide +kernel)
set_option maxRecDepth 20000 in
theorem gX11_mean_X11_isWithin : GoodIn wsX11_mean (va_wsS RX11 125 yX11_isWithin wsX11_isWithin) := goodIn_app (goodIn_of _ (by decide +kernel)) ggX11_mean_X11_isWithin
set_option maxRecDepth 20000 in
theorem ggX11_mean_X1_allGround : GoodIn wsX11_mean wsX1_allGround := goodIn_r _ [12, 13, 14, 15, 11, 16, 17, 18, 19, 20, 21, 38, 39, 40, 41, 42, 43, 44, 45, 46, 47, 48, 49, 50] (by decide +kernel) (by decide +kernel)
set_option maxRecDepth 20000 in
theorem gX11_mean_X1_allGround : GoodIn wsX11_mean (wsV RX11 231 RX1 yX1_allGround wsX1_allGround) := goodIn_app (goodIn_of _ (by decide +kernel)) ggX11_mean_X1_allGround
set_option maxRecDepth 20000 in
theorem ggX11_mean_X11_inLeastTerms : GoodIn wsX11_mean wsX11_inLeastTerms := goodIn_r _ [24, 25, 26, 27, 28, 29, 30, 6, 31] (by decide +kernel) (by decide +kernel)
set_option maxRecDepth 20000 in
theorem gX11_mean_X11_inLeastTerms : GoodIn wsX11_mean (va_wsS RX11 227 yX11_inLeastTerms wsX11_inLeastTerms) := goodIn_app (goodIn_of _ (by decide +kernel)) ggX11_mean_X11_inLeastTerms
set_option maxRecDepth 20000 in
theorem ggX11_shares_X11_isWithin : GoodIn wsX11_shares wsX11_isWithin := goodIn_r _ [4] (by decide +kernel) (by decide +kernel)
set_option maxRecDepth 20000 in
theorem gX11_shares_X11_isWithin : GoodIn wsX11_shares (va_wsS RX11 125 yX11_isWithin wsX11_isWithin) := goodIn_app (goodIn_of _ (by decide +kernel)) ggX11_shares_X11_isWithin
set_option maxRecDepth 20000 in
theorem ggX11_forged_X11_rowRefusal : GoodIn wsX11_forged wsX11_rowRefusal := goodIn_r _ [9, 1, 10, 11, 12, 8, 13, 14, 15, 16, 30, 31, 32, 33, 34, 35, 36, 37, 38, 39, 40, 41] (by decide +kernel) (by decide +kernel)
set_option maxRecDepth 20000 in
theorem gX11_forged_X11_rowRefusal : GoodIn wsX11_forged (wsV RX11 55 RX11 yX11_rowRefusal wsX11_rowRefusal) := goodIn_app (goodIn_of _ (by decide +kernel)) ggX11_forged_X11_rowRefusal
set_option maxRecDepth 20000 in
theorem ggX11_forged_X11_isCell : GoodIn wsX11_forged wsX11_isCell := goodIn_r _ [19, 14, 15, 8, 16] (by decide +kernel) (by decide +kernel)
set_option maxRecDepth 20000 in
theorem gX11_forged_X11_isCell : GoodIn wsX11_forged (va_wsS RX11 119 yX11_isCell wsX11_isCell) := goodIn_app (goodIn_of _ (by decide +kernel)) ggX11_forged_X11_isCell
set_option maxRecDepth 20000 in
theorem ggX11_forged_X1_level : GoodIn wsX11_forged wsX1_level := goodIn_r _ [24, 25, 26, 27, 28, 29, 42, 43, 44, 45, 46, 47, 48, 49, 50, 51, 52, 53, 54] (by decide +kernel) (by decide +kernel)
set_option maxRecDepth 20000 in
theorem gX11_forged_X1_level : GoodIn wsX11_forged (wsV RX11 160 RX1 yX1_level wsX1_level) := goodIn_app (goodIn_of _ (by decide +kernel)) ggX11_forged_X1_level
set_option maxRecDepth 20000 in
theorem ggX11_judge_X11_rowRefusal : GoodIn wsX11_judge wsX11_rowRefusal := goodIn_r _ [10, 1, 11, 12, 13, 9, 14, 15, 16, 17, 76, 77, 78, 79, 80, 81, 82, 83, 84, 85, 86, 87] (by decide +kernel) (by decide +kernel)
set_option maxRecDepth 20000 in
theorem gX11_judge_X11_rowRefusal : GoodIn wsX11_judge (wsV RX11 55 RX11 yX11_rowRefusal wsX11_rowRefusal) := goodIn_app (goodIn_of _ (by decide +kernel)) ggX11_judge_X11_rowRefusal
set_option maxRecDepth 20000 in
theorem ggX11_judge_X1_become : GoodIn wsX11_judge wsX1_become := goodIn_r _ [22, 23, 24, 25, 26, 27, 28, 29, 30, 31, 32, 33, 34, 35, 36, 37, 88, 89, 90, 91, 92, 93, 94, 95, 96, 97, 98, 99, 100] (by decide +kernel) (by decide +kernel)
set_option maxRecDepth 20000 in
theorem gX11_judge_X1_become : GoodIn wsX11_judge (wsV RX11 69 RX1 yX1_become wsX1_become) := goodIn_app (goodIn_of _ (by decide +kernel)) ggX11_judge_X1_become
set_option maxRecDepth 20000 in
theorem ggX11_judge_X5_skips : GoodIn wsX11_judge wsX5_skips := goodIn_r _ [42, 43, 44, 45, 82, 83, 84, 85, 86, 87] (by decide +kernel) (by decide +kernel)
set_option maxRecDepth 20000 in
theorem gX11_judge_X5_skips : GoodIn wsX11_judge (wsV RX11 239 RX5 yX5_skips wsX5_skips) := goodIn_app (goodIn_of _ (by decide +kernel)) ggX11_judge_X5_skips
set_option maxRecDepth 20000 in
theorem ggX11_judge_X1_allWater : GoodIn wsX11_judge wsX1_allWater := goodIn_r _ [49, 50, 51, 52, 53, 21, 54, 55, 56, 57, 58, 59, 60, 61, 62, 63, 64, 65, 25, 23, 33, 36, 35, 88, 89, 90, 91, 92, 93, 94, 95, 96, 97, 98, 99, 100] (by decide +kernel) (by decide +kernel)
set_option maxRecDepth 20000 in
theorem gX11_judge_X1_allWater : GoodIn wsX11_judge (wsV RX11 156 RX1 yX1_allWater wsX1_allWater) := goodIn_app (goodIn_of _ (by decide +kernel)) ggX11_judge_X1_allWater
set_option maxRecDepth 20000 in
theorem ggX11_judge_X1_passDay : GoodIn wsX11_judge wsX1_passDay := goodIn_r _ [69, 24, 23, 33, 34, 70, 9, 71, 15, 16, 17, 72, 73, 74, 21, 75, 37, 62, 63, 64, 65, 25, 36, 35, 88, 89, 90, 91, 92, 93, 94, 95, 96, 97, 98, 99, 100] (by decide +kernel) (by decide +kernel)
set_option maxRecDepth 20000 in
theorem gX11_judge_X1_passDay : GoodIn wsX11_judge (wsV RX11 194 RX1 yX1_passDay wsX1_passDay) := goodIn_app (goodIn_of _ (by decide +kernel)) ggX11_judge_X1_passDay
set_option maxRecDepth 20000 in
theorem ggX11_countries_X11_isWithin : GoodIn wsX11_countries wsX11_isWithin := goodIn_r _ [6] (by decide +kernel) (by decide +kernel)
set_option maxRecDepth 20000 in
theorem gX11_countries_X11_isWithin : GoodIn wsX11_countries (va_wsS RX11 125 yX11_isWithin wsX11_isWithin) := goodIn_app (goodIn_of _ (by decide +kernel)) ggX11_countries_X11_isWithin
set_option maxRecDepth 20000 in
theorem ggX11_countries_X11_drawCountry : GoodIn wsX11_countries wsX11_drawCountry := goodIn_r _ [10, 2, 11, 12, 13, 14, 15, 16, 17, 18, 19, 20, 21, 22, 23, 24, 25, 26, 27, 28, 29, 30, 31, 32, 33, 34, 35, 36, 37, 5, 38, 1, 39, 40, 41, 80, 81, 82, 83, 84, 85, 86, 87, 88, 89, 90, 91, 92, 93, 94, 95, 96, 97, 98] (by decide +kernel) (by decide +kernel)
set_option maxRecDepth 20000 in
theorem gX11_countries_X11_drawCountry : GoodIn wsX11_countries (wsV RX11 245 RX11 yX11_drawCountry wsX11_drawCountry) := goodIn_app (goodIn_of _ (by decide +kernel)) ggX11_countries_X11_drawCountry
set_option maxRecDepth 20000 in
theorem ggX11_countries_X1_passDays : GoodIn wsX11_countries wsX1_passDays := goodIn_r _ [45, 46, 47, 48, 18, 49, 21, 20, 30, 31, 50, 5, 51, 3, 4, 6, 52, 53, 54, 55, 34, 56, 57, 58, 59, 22, 33, 32, 86, 87, 88, 89, 90, 91, 92, 93, 94, 95, 96, 97, 98] (by decide +kernel) (by decide +kernel)
set_option maxRecDepth 20000 in
theorem gX11_countries_X1_passDays : GoodIn wsX11_countries (wsV RX11 248 RX1 yX1_passDays wsX1_passDays) := goodIn_app (goodIn_of _ (by decide +kernel)) ggX11_countries_X1_passDays
set_option maxRecDepth 20000 in
theorem ggX11_countries_X1_allWater : GoodIn wsX11_countries wsX1_allWater := goodIn_r _ [63, 64, 65, 66, 67, 18, 68, 69, 70, 71, 72, 73, 74, 75, 56, 57, 58, 59, 22, 20, 30, 33, 32, 86, 87, 88, 89, 90, 91, 92, 93, 94, 95, 96, 97, 98] (by decide +kernel) (by decide +kernel)
set_option maxRecDepth 20000 in
theorem gX11_countries_X1_allWater : GoodIn wsX11_countries (wsV RX11 156 RX1 yX1_allWater wsX1_allWater) := goodIn_app (goodIn_of _ (by decide +kernel)) ggX11_countries_X1_allWater
set_option maxRecDepth 20000 in
theorem ggX11_countries_X1_howManyOnEdge : GoodIn wsX11_countries wsX1_howManyOnEdge := goodIn_r _ [79, 20, 30, 86, 87, 88, 89, 90, 91, 92, 93, 94, 95, 96, 97, 98] (by decide +kernel) (by decide +kernel)
set_option maxRecDepth 20000 in
theorem gX11_countries_X1_howManyOnEdge : GoodIn wsX11_countries (wsV RX11 251 RX1 yX1_howManyOnEdge wsX1_howManyOnEdge) := goodIn_app (goodIn_of _ (by decide +kernel)) ggX11_countries_X1_howManyOnEdge
set_option maxRecDepth 20000 in
theorem ggX11_image_X1_become : GoodIn wsX11_image wsX1_become := goodIn_r _ [9, 10, 11, 12, 13, 14, 15, 16, 17, 18, 19, 20, 21, 22, 23, 24, 31, 32, 33, 34, 35, 36, 37, 38, 39, 40, 41, 42, 43] (by decide +kernel) (by decide +kernel)
set_option maxRecDepth 20000 in
theorem gX11_image_X1_become : GoodIn wsX11_image (wsV RX11 69 RX1 yX1_become wsX1_become) := goodIn_app (goodIn_of _ (by decide +kernel)) ggX11_image_X1_become
set_option maxRecDepth 20000 in
theorem ggX11_restore_X1_become : GoodIn wsX11_restore wsX1_become := goodIn_r _ [9, 10, 11, 12, 13, 14, 15, 16, 17, 18, 19, 20, 21, 22, 23, 24, 31, 32, 33, 34, 35, 36, 37, 38, 39, 40, 41, 42, 43] (by decide +kernel) (by decide +kernel)
set_option maxRecDepth 20000 in
theorem gX11_restore_X1_become : GoodIn wsX11_restore (wsV RX11 69 RX1 yX1_become wsX1_become) := goodIn_app (goodIn_of _ (by decide +kernel)) ggX11_restore_X1_become
set_option maxRecDepth 20000 in
theorem ggX11_count_X1_allHeight : GoodIn wsX11_count wsX1_allHeight := goodIn_r _ [8, 9, 49, 50, 51, 52, 53, 54, 55, 56, 57, 58, 59, 60, 61] (by decide +kernel) (by decide +kernel)
set_option maxRecDepth 20000 in
theorem gX11_count_X1_allHeight : GoodIn wsX11_count (wsV RX11 261 RX1 yX1_allHeight wsX1_allHeight) := goodIn_app (goodIn_of _ (by decide +kernel)) ggX11_count_X1_allHeight
set_option maxRecDepth 20000 in
theorem ggX11_count_X1_allGround : GoodIn wsX11_count wsX1_allGround := goodIn_r _ [13, 14, 15, 16, 7, 17, 9, 18, 19, 20, 21, 49, 50, 51, 52, 53, 54, 55, 56, 57, 58, 59, 60, 61] (by decide +kernel) (by decide +kernel)
set_option maxRecDepth 20000 in
theorem gX11_count_X1_allGround : GoodIn wsX11_count (wsV RX11 231 RX1 yX1_allGround wsX1_allGround) := goodIn_app (goodIn_of _ (by decide +kernel)) ggX11_count_X1_allGround
set_option maxRecDepth 20000 in
theorem ggX11_count_X1_whoHasAWay : GoodIn wsX11_count wsX1_whoHasAWay := goodIn_r _ [25, 18, 26, 49, 50, 51, 52, 53, 54, 55, 56, 57, 58, 59, 60, 61] (by decide +kernel) (by decide +kernel)
set_option maxRecDepth 20000 in
theorem gX11_count_X1_whoHasAWay : GoodIn wsX11_count (wsV RX11 264 RX1 yX1_whoHasAWay wsX1_whoHasAWay) := goodIn_app (goodIn_of _ (by decide +kernel)) ggX11_count_X1_whoHasAWay
set_option maxRecDepth 20000 in
theorem ggX11_count_X1_wetCells : GoodIn wsX11_count wsX1_wetCells := goodIn_r _ [30, 31, 32, 33, 34, 7, 35, 36, 37, 38, 39, 40, 41, 42, 14, 15, 16, 17, 9, 18, 19, 20, 21, 49, 50, 51, 52, 53, 54, 55, 56, 57, 58, 59, 60, 61] (by decide +kernel) (by decide +kernel)
set_option maxRecDepth 20000 in
theorem gX11_count_X1_wetCells : GoodIn wsX11_count (wsV RX11 169 RX1 yX1_wetCells wsX1_wetCells) := goodIn_app (goodIn_of _ (by decide +kernel)) ggX11_count_X1_wetCells
set_option maxRecDepth 20000 in
theorem ggX11_keep_X11_isShelf : GoodIn wsX11_keep wsX11_isShelf := goodIn_r _ [5, 6, 7, 4, 8] (by decide +kernel) (by decide +kernel)
set_option maxRecDepth 20000 in
theorem gX11_keep_X11_isShelf : GoodIn wsX11_keep (va_wsS RX11 267 yX11_isShelf wsX11_isShelf) := goodIn_app (goodIn_of _ (by decide +kernel)) ggX11_keep_X11_isShelf
set_option maxRecDepth 20000 in
theorem ggX11_keep_X11_isWithin : GoodIn wsX11_keep wsX11_isWithin := goodIn_r _ [8] (by decide +kernel) (by decide +kernel)
set_option maxRecDepth 20000 in
theorem gX11_keep_X11_isWithin : GoodIn wsX11_keep (va_wsS RX11 125 yX11_isWithin wsX11_isWithin) := goodIn_app (goodIn_of _ (by decide +kernel)) ggX11_keep_X11_isWithin
set_option maxRecDepth 20000 in
theorem ggX11_keep_X5_holdNothing : GoodIn wsX11_keep wsX5_holdNothing := goodIn_r _ [13, 14, 27, 28, 29, 30, 31, 32] (by decide +kernel) (by decide +kernel)
set_option maxRecDepth 20000 in
theorem gX11_keep_X5_holdNothing : GoodIn wsX11_keep (wsV RX11 270 RX5 yX5_holdNothing wsX5_holdNothing) := goodIn_app (goodIn_of _ (by decide +kernel)) ggX11_keep_X5_holdNothing
set_option maxRecDepth 20000 in
theorem ggX11_keep_X5_holdKind : GoodIn wsX11_keep wsX5_holdKind := goodIn_r _ [18, 14, 19, 20, 27, 28, 29, 30, 31, 32] (by decide +kernel) (by decide +kernel)
set_option maxRecDepth 20000 in
theorem gX11_keep_X5_holdKind : GoodIn wsX11_keep (wsV RX11 273 RX5 yX5_holdKind wsX5_holdKind) := goodIn_app (goodIn_of _ (by decide +kernel)) ggX11_keep_X5_holdKind
set_option maxRecDepth 20000 in
theorem ggX11_row_X11_isShelf : GoodIn wsX11_row wsX11_isShelf := goodIn_r _ [5, 6, 7, 4, 8] (by decide +kernel) (by decide +kernel)
set_option maxRecDepth 20000 in
theorem gX11_row_X11_isShelf : GoodIn wsX11_row (va_wsS RX11 267 yX11_isShelf wsX11_isShelf) := goodIn_app (goodIn_of _ (by decide +kernel)) ggX11_row_X11_isShelf
set_option maxRecDepth 20000 in
theorem ggX11_row_X11_isWithin : GoodIn wsX11_row wsX11_isWithin := goodIn_r _ [8] (by decide +kernel) (by decide +kernel)
set_option maxRecDepth 20000 in
theorem gX11_row_X11_isWithin : GoodIn wsX11_row (va_wsS RX11 125 yX11_isWithin wsX11_isWithin) := goodIn_app (goodIn_of _ (by decide +kernel)) ggX11_row_X11_isWithin
set_option maxRecDepth 20000 in
theorem ggX11_row_X5_holdRow : GoodIn wsX11_row wsX5_holdRow := goodIn_r _ [13, 14, 15, 16, 17, 18, 19, 20, 21, 28, 29, 30, 31, 32, 33] (by decide +kernel) (by decide +kernel)
set_option maxRecDepth 20000 in
theorem gX11_row_X5_holdRow : GoodIn wsX11_row (wsV RX11 277 RX5 yX5_holdRow wsX5_holdRow) := goodIn_app (goodIn_of _ (by decide +kernel)) ggX11_row_X5_holdRow
set_option maxRecDepth 20000 in
theorem ggX11_put_X11_rowRefusal : GoodIn wsX11_put wsX11_rowRefusal := goodIn_r _ [6, 1, 7, 8, 9, 5, 10, 11, 12, 13, 26, 27, 28, 29, 30, 31, 32, 33, 34, 35, 36, 37] (by decide +kernel) (by decide +kernel)
set_option maxRecDepth 20000 in
theorem gX11_put_X11_rowRefusal : GoodIn wsX11_put (wsV RX11 55 RX11 yX11_rowRefusal wsX11_rowRefusal) := goodIn_app (goodIn_of _ (by decide +kernel)) ggX11_put_X11_rowRefusal
set_option maxRecDepth 20000 in
theorem ggX11_put_X5_hasPlaces : GoodIn wsX11_put wsX5_hasPlaces := goodIn_r _ [18, 19, 12, 5, 13, 32, 33, 34, 35, 36, 37] (by decide +kernel) (by decide +kernel)
set_option maxRecDepth 20000 in
theorem gX11_put_X5_hasPlaces : GoodIn wsX11_put (wsV RX11 280 RX5 yX5_hasPlaces wsX5_hasPlaces) := goodIn_app (goodIn_of _ (by decide +kernel)) ggX11_put_X5_hasPlaces
set_option maxRecDepth 20000 in
theorem ggX11_put_X5_store : GoodIn wsX11_put wsX5_store := goodIn_r _ [23, 24, 25, 32, 33, 34, 35, 36, 37] (by decide +kernel) (by decide +kernel)
set_option maxRecDepth 20000 in
theorem gX11_put_X5_store : GoodIn wsX11_put (wsV RX11 283 RX5 yX5_store wsX5_store) := goodIn_app (goodIn_of _ (by decide +kernel)) ggX11_put_X5_store
set_option maxRecDepth 20000 in
theorem ggX11_element_X11_isShelf : GoodIn wsX11_element wsX11_isShelf := goodIn_r _ [10, 11, 12, 9, 13] (by decide +kernel) (by decide +kernel)
set_option maxRecDepth 20000 in
theorem gX11_element_X11_isShelf : GoodIn wsX11_element (va_wsS RX11 267 yX11_isShelf wsX11_isShelf) := goodIn_app (goodIn_of _ (by decide +kernel)) ggX11_element_X11_isShelf
set_option maxRecDepth 20000 in
theorem ggX11_element_X11_rowRefusal : GoodIn wsX11_element wsX11_rowRefusal := goodIn_r _ [17, 5, 18, 7, 8, 9, 10, 11, 12, 13, 25, 26, 27, 28, 29, 30, 31, 32, 33, 34, 35, 36] (by decide +kernel) (by decide +kernel)
set_option maxRecDepth 20000 in
theorem gX11_element_X11_rowRefusal : GoodIn wsX11_element (wsV RX11 55 RX11 yX11_rowRefusal wsX11_rowRefusal) := goodIn_app (goodIn_of _ (by decide +kernel)) ggX11_element_X11_rowRefusal
set_option maxRecDepth 20000 in
theorem ggX11_element_X5_hasPlaces : GoodIn wsX11_element wsX5_hasPlaces := goodIn_r _ [23, 24, 12, 9, 13, 31, 32, 33, 34, 35, 36] (by decide +kernel) (by decide +kernel)
set_option maxRecDepth 20000 in
theorem gX11_element_X5_hasPlaces : GoodIn wsX11_element (wsV RX11 280 RX5 yX5_hasPlaces wsX5_hasPlaces) := goodIn_app (goodIn_of _ (by decide +kernel)) ggX11_element_X5_hasPlaces
set_option maxRecDepth 20000 in
theorem ggX11_copy_X11_isShelf : GoodIn wsX11_copy wsX11_isShelf := goodIn_r _ [12, 13, 14, 11, 15] (by decide +kernel) (by decide +kernel)
set_option maxRecDepth 20000 in
theorem gX11_copy_X11_isShelf : GoodIn wsX11_copy (va_wsS RX11 267 yX11_isShelf wsX11_isShelf) := goodIn_app (goodIn_of _ (by decide +kernel)) ggX11_copy_X11_isShelf
set_option maxRecDepth 20000 in
theorem ggX11_copy_X5_hasPlaces : GoodIn wsX11_copy wsX5_hasPlaces := goodIn_r _ [20, 21, 14, 11, 15, 28, 29, 30, 31, 32, 33] (by decide +kernel) (by decide +kernel)
set_option maxRecDepth 20000 in
theorem gX11_copy_X5_hasPlaces : GoodIn wsX11_copy (wsV RX11 280 RX5 yX5_hasPlaces wsX5_hasPlaces) := goodIn_app (goodIn_of _ (by decide +kernel)) ggX11_copy_X5_hasPlaces
set_option maxRecDepth 20000 in
theorem ggX11_cost_X11_kindRefusal : GoodIn wsX11_cost wsX11_kindRefusal := goodIn_r _ [10, 3, 11, 12, 13, 9, 14, 15, 16, 17, 60, 61, 62, 63, 64, 65, 79, 80, 81, 82, 83, 84] (by decide +kernel) (by decide +kernel)
set_option maxRecDepth 20000 in
theorem gX11_cost_X11_kindRefusal : GoodIn wsX11_cost (wsV RX11 129 RX11 yX11_kindRefusal wsX11_kindRefusal) := goodIn_app (goodIn_of _ (by decide +kernel)) ggX11_cost_X11_kindRefusal
set_option maxRecDepth 20000 in
theorem ggX11_cost_X0_price : GoodIn wsX11_cost wsX0_price := goodIn_r _ [24, 25, 26, 27, 28, 29, 30, 31, 19, 32, 33, 34, 35] (by decide +kernel) (by decide +kernel)
set_option maxRecDepth 20000 in
theorem gX11_cost_X0_price_u313X0 : GoodIn wsX11_cost (va_wsO RX11 313 RX0 "HillsLieDown$Walker" ⟨"HillsLieDown$Walker", "price", "(I)I"⟩ yX0_price wsX0_price) := goodIn_app (goodIn_of _ (by decide +kernel)) ggX11_cost_X0_price
set_option maxRecDepth 20000 in
theorem ggX11_cost_X2_price : GoodIn wsX11_cost wsX2_price := goodIn_r _ [39] (by decide +kernel) (by decide +kernel)
set_option maxRecDepth 20000 in
theorem gX11_cost_X2_price_u313X2 : GoodIn wsX11_cost (va_wsO RX11 313 RX2 "HillsLieDown$Walker" ⟨"HillsLieDown$Walker", "price", "(I)I"⟩ yX2_price wsX2_price) := goodIn_app (goodIn_of _ (by decide +kernel)) ggX11_cost_X2_price
set_option maxRecDepth 20000 in
theorem ggX11_cost_X3_price : GoodIn wsX11_cost wsX3_price := goodIn_r _ [43, 44, 19, 45, 33, 34, 35] (by decide +kernel) (by decide +kernel)
set_option maxRecDepth 20000 in
theorem gX11_cost_X3_price_u313X3 : GoodIn wsX11_cost (va_wsO RX11 313 RX3 "HillsLieDown$Walker" ⟨"HillsLieDown$Walker", "price", "(I)I"⟩ yX3_price wsX3_price) := goodIn_app (goodIn_of _ (by decide +kernel)) ggX11_cost_X3_price
set_option maxRecDepth 20000 in
theorem ggX11_cost_X4_price : GoodIn wsX11_cost wsX4_price := goodIn_r _ [30, 31, 19, 32, 33, 34, 35] (by decide +kernel) (by decide +kernel)
set_option maxRecDepth 20000 in
theorem gX11_cost_X4_price_u313X4 : GoodIn wsX11_cost (va_wsO RX11 313 RX4 "HillsLieDown$Walker" ⟨"HillsLieDown$Walker", "price", "(I)I"⟩ yX4_price wsX4_price) := goodIn_app (goodIn_of _ (by decide +kernel)) ggX11_cost_X4_price
set_option maxRecDepth 20000 in
theorem ggX11_cost_X6_price : GoodIn wsX11_cost wsX6_price := goodIn_r _ [50] (by decide +kernel) (by decide +kernel)
set_option maxRecDepth 20000 in
theorem gX11_cost_X6_price_u313X6 : GoodIn wsX11_cost (va_wsO RX11 313 RX6 "HillsLieDown$Walker" ⟨"HillsLieDown$Walker", "price", "(I)I"⟩ yX6_price wsX6_price) := goodIn_app (goodIn_of _ (by decide +kernel)) ggX11_cost_X6_price
set_option maxRecDepth 20000 in
theorem gX11_cost_X3_price_u313X8 : GoodIn wsX11_cost (va_wsO RX11 313 RX8 "HillsLieDown$Walker" ⟨"HillsLieDown$Walker", "price", "(I)I"⟩ yX3_price wsX3_price) := goodIn_app (goodIn_of _ (by decide +kernel)) ggX11_cost_X3_price
set_option maxRecDepth 20000 in
theorem ggX11_cost_X9_price : GoodIn wsX11_cost wsX9_price := goodIn_r _ [35] (by decide +kernel) (by decide +kernel)
set_option maxRecDepth 20000 in
theorem gX11_cost_X9_price : GoodIn wsX11_cost (wsV RX11 313 RX9 yX9_price wsX9_price) := goodIn_app (goodIn_of _ (by decide +kernel)) ggX11_cost_X9_price
set_option maxRecDepth 20000 in
theorem ggX11_cost_X10_price : GoodIn wsX11_cost wsX10_price := goodIn_r _ [57, 58, 19, 59, 33, 34, 35] (by decide +kernel) (by decide +kernel)
set_option maxRecDepth 20000 in
theorem gX11_cost_X10_price_u313X10 : GoodIn wsX11_cost (va_wsO RX11 313 RX10 "HillsLieDown$Walker" ⟨"HillsLieDown$Walker", "price", "(I)I"⟩ yX10_price wsX10_price) := goodIn_app (goodIn_of _ (by decide +kernel)) ggX11_cost_X10_price
set_option maxRecDepth 20000 in
theorem ggX11_toss_X11_kindRefusal : GoodIn wsX11_toss wsX11_kindRefusal := goodIn_r _ [11, 4, 12, 13, 14, 10, 15, 16, 17, 18, 74, 75, 76, 77, 78, 79, 93, 94, 95, 96, 97, 98] (by decide +kernel) (by decide +kernel)
set_option maxRecDepth 20000 in
theorem gX11_toss_X11_kindRefusal : GoodIn wsX11_toss (wsV RX11 129 RX11 yX11_kindRefusal wsX11_kindRefusal) := goodIn_app (goodIn_of _ (by decide +kernel)) ggX11_toss_X11_kindRefusal
set_option maxRecDepth 20000 in
theorem ggX11_toss_X9_fail : GoodIn wsX11_toss wsX9_fail := goodIn_ca (goodIn_r _ [24, 25, 26] (by decide +kernel) (by decide +kernel)) (goodIn_sub (fun _ h => List.mem_cons_of_mem _ (List.mem_append_right _ h)) (by decide +kernel))
set_option maxRecDepth 20000 in
theorem gX11_toss_X9_fail_u316X0 : GoodIn wsX11_toss (va_wsU RX11 316 RX0 "HillsLieDown$Walker" ⟨"HillsLieDown$Walker", "fail", "(I)V"⟩ yX9_fail wsX9_fail) := goodIn_app (goodIn_of _ (by decide +kernel)) ggX11_toss_X9_fail
set_option maxRecDepth 20000 in
theorem ggX11_toss_X6_fail : GoodIn wsX11_toss wsX6_fail := goodIn_r _ [31] (by decide +kernel) (by decide +kernel)
set_option maxRecDepth 20000 in
theorem gX11_toss_X6_fail_u316X2 : GoodIn wsX11_toss (va_wsO RX11 316 RX2 "HillsLieDown$Walker" ⟨"HillsLieDown$Walker", "fail", "(I)V"⟩ yX6_fail wsX6_fail) := goodIn_app (goodIn_of _ (by decide +kernel)) ggX11_toss_X6_fail
set_option maxRecDepth 20000 in
theorem gX11_toss_X9_fail_u316X3 : GoodIn wsX11_toss (va_wsU RX11 316 RX3 "HillsLieDown$Walker" ⟨"HillsLieDown$Walker", "fail", "(I)V"⟩ yX9_fail wsX9_fail) := goodIn_app (goodIn_of _ (by decide +kernel)) ggX11_toss_X9_fail
set_option maxRecDepth 20000 in
theorem gX11_toss_X9_fail_u316X4 : GoodIn wsX11_toss (va_wsU RX11 316 RX4 "HillsLieDown$Walker" ⟨"HillsLieDown$Walker", "fail", "(I)V"⟩ yX9_fail wsX9_fail) := goodIn_app (goodIn_of _ (by decide +kernel)) ggX11_toss_X9_fail
set_option maxRecDepth 20000 in
theorem gX11_toss_X6_fail_u316X6 : GoodIn wsX11_toss (va_wsO RX11 316 RX6 "HillsLieDown$Walker" ⟨"HillsLieDown$Walker", "fail", "(I)V"⟩ yX6_fail wsX6_fail) := goodIn_app (goodIn_of _ (by decide +kernel)) ggX11_toss_X6_fail
set_option maxRecDepth 20000 in
theorem gX11_toss_X9_fail_u316X8 : GoodIn wsX11_toss (va_wsU RX11 316 RX8 "HillsLieDown$Walker" ⟨"HillsLieDown$Walker", "fail", "(I)V"⟩ yX9_fail wsX9_fail) := goodIn_app (goodIn_of _ (by decide +kernel)) ggX11_toss_X9_fail
set_option maxRecDepth 20000 in
theorem gX11_toss_X9_fail : GoodIn wsX11_toss (wsV RX11 316 RX9 yX9_fail wsX9_fail) := goodIn_app (goodIn_of _ (by decide +kernel)) ggX11_toss_X9_fail
set_option maxRecDepth 20000 in
theorem gX11_toss_X9_fail_u316X10 : GoodIn wsX11_toss (va_wsU RX11 316 RX10 "HillsLieDown$Walker" ⟨"HillsLieDown$Walker", "fail", "(I)V"⟩ yX9_fail wsX9_fail) := goodIn_app (goodIn_of _ (by decide +kernel)) ggX11_toss_X9_fail
set_option maxRecDepth 20000 in
theorem ggX11_toss_X0_failureAsTold : GoodIn wsX11_toss wsX0_failureAsTold := goodIn_r _ [45, 46, 47, 48, 44, 49, 50, 51, 52, 53, 54, 55, 56, 57, 58, 59, 23, 60] (by decide +kernel) (by decide +kernel)
set_option maxRecDepth 20000 in
theorem gX11_toss_X0_failureAsTold_u319X0 : GoodIn wsX11_toss (va_wsO RX11 319 RX0 "HillsLieDown$Walker" ⟨"HillsLieDown$Walker", "failureAsTold", "(I)I"⟩ yX0_failureAsTold wsX0_failureAsTold) := goodIn_app (goodIn_of _ (by decide +kernel)) ggX11_toss_X0_failureAsTold
set_option maxRecDepth 20000 in
theorem ggX11_toss_X9_failureAsTold : GoodIn wsX11_toss wsX9_failureAsTold := goodIn_r _ [61] (by decide +kernel) (by decide +kernel)
set_option maxRecDepth 20000 in
theorem gX11_toss_X9_failureAsTold_u319X2 : GoodIn wsX11_toss (va_wsU RX11 319 RX2 "HillsLieDown$Walker" ⟨"HillsLieDown$Walker", "failureAsTold", "(I)I"⟩ yX9_failureAsTold wsX9_failureAsTold) := goodIn_app (goodIn_of _ (by decide +kernel)) ggX11_toss_X9_failureAsTold
set_option maxRecDepth 20000 in
theorem gX11_toss_X9_failureAsTold_u319X3 : GoodIn wsX11_toss (va_wsU RX11 319 RX3 "HillsLieDown$Walker" ⟨"HillsLieDown$Walker", "failureAsTold", "(I)I"⟩ yX9_failureAsTold wsX9_failureAsTold) := goodIn_app (goodIn_of _ (by decide +kernel)) ggX11_toss_X9_failureAsTold
set_option maxRecDepth 20000 in
theorem ggX11_toss_X4_failureAsTold : GoodIn wsX11_toss wsX4_failureAsTold := goodIn_r _ [67, 68, 40, 58, 63, 23, 61] (by decide +kernel) (by decide +kernel)
set_option maxRecDepth 20000 in
theorem gX11_toss_X4_failureAsTold_u319X4 : GoodIn wsX11_toss (va_wsO RX11 319 RX4 "HillsLieDown$Walker" ⟨"HillsLieDown$Walker", "failureAsTold", "(I)I"⟩ yX4_failureAsTold wsX4_failureAsTold) := goodIn_app (goodIn_of _ (by decide +kernel)) ggX11_toss_X4_failureAsTold
set_option maxRecDepth 20000 in
theorem gX11_toss_X9_failureAsTold_u319X6 : GoodIn wsX11_toss (va_wsU RX11 319 RX6 "HillsLieDown$Walker" ⟨"HillsLieDown$Walker", "failureAsTold", "(I)I"⟩ yX9_failureAsTold wsX9_failureAsTold) := goodIn_app (goodIn_of _ (by decide +kernel)) ggX11_toss_X9_failureAsTold
set_option maxRecDepth 20000 in
theorem gX11_toss_X9_failureAsTold_u319X8 : GoodIn wsX11_toss (va_wsU RX11 319 RX8 "HillsLieDown$Walker" ⟨"HillsLieDown$Walker", "failureAsTold", "(I)I"⟩ yX9_failureAsTold wsX9_failureAsTold) := goodIn_app (goodIn_of _ (by decide +kernel)) ggX11_toss_X9_failureAsTold
set_option maxRecDepth 20000 in
theorem gX11_toss_X9_failureAsTold : GoodIn wsX11_toss (wsV RX11 319 RX9 yX9_failureAsTold wsX9_failureAsTold) := goodIn_app (goodIn_of _ (by decide +kernel)) ggX11_toss_X9_failureAsTold
set_option maxRecDepth 20000 in
theorem gX11_toss_X9_failureAsTold_u319X10 : GoodIn wsX11_toss (va_wsU RX11 319 RX10 "HillsLieDown$Walker" ⟨"HillsLieDown$Walker", "failureAsTold", "(I)I"⟩ yX9_failureAsTold wsX9_failureAsTold) := goodIn_app (goodIn_of _ (by decide +kernel)) ggX11_toss_X9_failureAsTold
set_option maxRecDepth 20000 in
theorem ggX11_isShelf_X11_isWithin : GoodIn wsX11_isShelf wsX11_isWithin := goodIn_r _ [4] (by decide +kernel) (by decide +kernel)
set_option maxRecDepth 20000 in
theorem gX11_isShelf_X11_isWithin : GoodIn wsX11_isShelf (va_wsS RX11 125 yX11_isWithin wsX11_isWithin) := goodIn_app (goodIn_of _ (by decide +kernel)) ggX11_isShelf_X11_isWithin
set_option maxRecDepth 20000 in
theorem ggX11_isCell_X11_isWithin : GoodIn wsX11_isCell wsX11_isWithin := goodIn_r _ [4] (by decide +kernel) (by decide +kernel)
set_option maxRecDepth 20000 in
theorem gX11_isCell_X11_isWithin : GoodIn wsX11_isCell (va_wsS RX11 125 yX11_isWithin wsX11_isWithin) := goodIn_app (goodIn_of _ (by decide +kernel)) ggX11_isCell_X11_isWithin
set_option maxRecDepth 20000 in
theorem ggX11_isCellOrAll_X11_isWithin : GoodIn wsX11_isCellOrAll wsX11_isWithin := goodIn_r _ [4] (by decide +kernel) (by decide +kernel)
set_option maxRecDepth 20000 in
theorem gX11_isCellOrAll_X11_isWithin : GoodIn wsX11_isCellOrAll (va_wsS RX11 125 yX11_isWithin wsX11_isWithin) := goodIn_app (goodIn_of _ (by decide +kernel)) ggX11_isCellOrAll_X11_isWithin
set_option maxRecDepth 20000 in
theorem ggX11_rowRefusal_X11_isShelf : GoodIn wsX11_rowRefusal wsX11_isShelf := goodIn_r _ [6, 7, 8, 5, 9] (by decide +kernel) (by decide +kernel)
set_option maxRecDepth 20000 in
theorem gX11_rowRefusal_X11_isShelf : GoodIn wsX11_rowRefusal (va_wsS RX11 267 yX11_isShelf wsX11_isShelf) := goodIn_app (goodIn_of _ (by decide +kernel)) ggX11_rowRefusal_X11_isShelf
set_option maxRecDepth 20000 in
theorem ggX11_kindRefusal_X11_isShelf : GoodIn wsX11_kindRefusal wsX11_isShelf := goodIn_r _ [6, 7, 8, 5, 9] (by decide +kernel) (by decide +kernel)
set_option maxRecDepth 20000 in
theorem gX11_kindRefusal_X11_isShelf : GoodIn wsX11_kindRefusal (va_wsS RX11 267 yX11_isShelf wsX11_isShelf) := goodIn_app (goodIn_of _ (by decide +kernel)) ggX11_kindRefusal_X11_isShelf
set_option maxRecDepth 20000 in
theorem ggX11_thinkDaysOn_X1_become : GoodIn wsX11_thinkDaysOn wsX1_become := goodIn_r _ [7, 8, 9, 10, 11, 12, 13, 14, 15, 16, 17, 18, 19, 20, 21, 22, 51, 52, 53, 54, 55, 56, 57, 58, 59, 60, 61, 62, 63] (by decide +kernel) (by decide +kernel)
set_option maxRecDepth 20000 in
theorem gX11_thinkDaysOn_X1_become : GoodIn wsX11_thinkDaysOn (wsV RX11 69 RX1 yX1_become wsX1_become) := goodIn_app (goodIn_of _ (by decide +kernel)) ggX11_thinkDaysOn_X1_become
set_option maxRecDepth 20000 in
theorem ggX11_thinkDaysOn_X1_passDays : GoodIn wsX11_thinkDaysOn wsX1_passDays := goodIn_r _ [26, 27, 28, 29, 6, 30, 9, 8, 18, 19, 31, 32, 33, 34, 35, 36, 37, 38, 39, 40, 22, 41, 42, 43, 44, 10, 21, 20, 51, 52, 53, 54, 55, 56, 57, 58, 59, 60, 61, 62, 63] (by decide +kernel) (by decide +kernel)
set_option maxRecDepth 20000 in
theorem gX11_thinkDaysOn_X1_passDays : GoodIn wsX11_thinkDaysOn (wsV RX11 248 RX1 yX1_passDays wsX1_passDays) := goodIn_app (goodIn_of _ (by decide +kernel)) ggX11_thinkDaysOn_X1_passDays
set_option maxRecDepth 20000 in
theorem ggX11_getsThere_X1_become : GoodIn wsX11_getsThere wsX1_become := goodIn_r _ [7, 8, 9, 10, 11, 12, 13, 14, 15, 16, 17, 18, 19, 20, 21, 22, 53, 54, 55, 56, 57, 58, 59, 60, 61, 62, 63, 64, 65] (by decide +kernel) (by decide +kernel)
set_option maxRecDepth 20000 in
theorem gX11_getsThere_X1_become : GoodIn wsX11_getsThere (wsV RX11 69 RX1 yX1_become wsX1_become) := goodIn_app (goodIn_of _ (by decide +kernel)) ggX11_getsThere_X1_become
set_option maxRecDepth 20000 in
theorem ggX11_getsThere_X1_walkTo : GoodIn wsX11_getsThere wsX1_walkTo := goodIn_r _ [26, 18, 27, 28, 29, 6, 30, 8, 31, 32, 33, 34, 35, 36, 37, 22, 38, 39, 40, 41, 42, 43, 44, 45, 46, 10, 21, 20, 53, 54, 55, 56, 57, 58, 59, 60, 61, 62, 63, 64, 65] (by decide +kernel) (by decide +kernel)
set_option maxRecDepth 20000 in
theorem gX11_getsThere_X1_walkTo : GoodIn wsX11_getsThere (wsV RX11 322 RX1 yX1_walkTo wsX1_walkTo) := goodIn_app (goodIn_of _ (by decide +kernel)) ggX11_getsThere_X1_walkTo
set_option maxRecDepth 20000 in
theorem ggX11_waterOfBothInOneCell_X1_become : GoodIn wsX11_waterOfBothInOneCell wsX1_become := goodIn_r _ [12, 13, 14, 15, 16, 17, 18, 19, 20, 21, 22, 23, 24, 25, 26, 27, 51, 52, 53, 54, 55, 56, 57, 58, 59, 60, 61, 62, 63] (by decide +kernel) (by decide +kernel)
set_option maxRecDepth 20000 in
theorem gX11_waterOfBothInOneCell_X1_become : GoodIn wsX11_waterOfBothInOneCell (wsV RX11 69 RX1 yX1_become wsX1_become) := goodIn_app (goodIn_of _ (by decide +kernel)) ggX11_waterOfBothInOneCell_X1_become
set_option maxRecDepth 20000 in
theorem ggX11_waterOfBothInOneCell_X1_allWater : GoodIn wsX11_waterOfBothInOneCell wsX1_allWater := goodIn_r _ [31, 32, 33, 34, 35, 11, 36, 37, 38, 6, 39, 40, 5, 7, 41, 42, 43, 44, 15, 13, 23, 26, 25, 51, 52, 53, 54, 55, 56, 57, 58, 59, 60, 61, 62, 63] (by decide +kernel) (by decide +kernel)
set_option maxRecDepth 20000 in
theorem gX11_waterOfBothInOneCell_X1_allWater : GoodIn wsX11_waterOfBothInOneCell (wsV RX11 156 RX1 yX1_allWater wsX1_allWater) := goodIn_app (goodIn_of _ (by decide +kernel)) ggX11_waterOfBothInOneCell_X1_allWater
set_option maxRecDepth 20000 in
theorem ggX11_waterIfOnly_X1_become : GoodIn wsX11_waterIfOnly wsX1_become := goodIn_r _ [8, 9, 10, 11, 12, 13, 14, 15, 16, 17, 18, 19, 20, 21, 22, 23, 58, 59, 60, 61, 62, 63, 64, 65, 66, 67, 68, 69, 70] (by decide +kernel) (by decide +kernel)
set_option maxRecDepth 20000 in
theorem gX11_waterIfOnly_X1_become : GoodIn wsX11_waterIfOnly (wsV RX11 69 RX1 yX1_become wsX1_become) := goodIn_app (goodIn_of _ (by decide +kernel)) ggX11_waterIfOnly_X1_become
set_option maxRecDepth 20000 in
theorem ggX11_waterIfOnly_X11_isIn : GoodIn wsX11_waterIfOnly wsX11_isIn := goodIn_r _ [27] (by decide +kernel) (by decide +kernel)
set_option maxRecDepth 20000 in
theorem gX11_waterIfOnly_X11_isIn : GoodIn wsX11_waterIfOnly (va_wsS RX11 205 yX11_isIn wsX11_isIn) := goodIn_app (goodIn_of _ (by decide +kernel)) ggX11_waterIfOnly_X11_isIn
set_option maxRecDepth 20000 in
theorem ggX11_waterIfOnly_X1_sendAway : GoodIn wsX11_waterIfOnly wsX1_sendAway := goodIn_r _ [31, 21, 58, 59, 60, 61, 62, 63, 64, 65, 66, 67, 68, 69, 70] (by decide +kernel) (by decide +kernel)
set_option maxRecDepth 20000 in
theorem gX11_waterIfOnly_X1_sendAway : GoodIn wsX11_waterIfOnly (wsV RX11 330 RX1 yX1_sendAway wsX1_sendAway) := goodIn_app (goodIn_of _ (by decide +kernel)) ggX11_waterIfOnly_X1_sendAway
set_option maxRecDepth 20000 in
theorem ggX11_waterIfOnly_X1_allWater : GoodIn wsX11_waterIfOnly wsX1_allWater := goodIn_r _ [35, 36, 37, 38, 39, 7, 40, 41, 42, 43, 44, 45, 46, 47, 48, 49, 50, 51, 11, 9, 19, 22, 21, 58, 59, 60, 61, 62, 63, 64, 65, 66, 67, 68, 69, 70] (by decide +kernel) (by decide +kernel)
set_option maxRecDepth 20000 in
theorem gX11_waterIfOnly_X1_allWater : GoodIn wsX11_waterIfOnly (wsV RX11 156 RX1 yX1_allWater wsX1_allWater) := goodIn_app (goodIn_of _ (by decide +kernel)) ggX11_waterIfOnly_X1_allWater
set_option maxRecDepth 20000 in
theorem ggX11_isAsToldBy_X1_become : GoodIn wsX11_isAsToldBy wsX1_become := goodIn_r _ [11, 12, 13, 14, 15, 16, 17, 18, 19, 20, 21, 22, 23, 24, 25, 26, 156, 157, 158, 159, 160, 161, 162, 163, 164, 165, 166, 167, 168] (by decide +kernel) (by decide +kernel)
set_option maxRecDepth 20000 in
theorem gX11_isAsToldBy_X1_become : GoodIn wsX11_isAsToldBy (wsV RX11 69 RX1 yX1_become wsX1_become) := goodIn_app (goodIn_of _ (by decide +kernel)) ggX11_isAsToldBy_X1_become
set_option maxRecDepth 20000 in
theorem ggX11_isAsToldBy_X1_setNature : GoodIn wsX11_isAsToldBy wsX1_setNature := goodIn_r _ [30, 19, 20, 21, 24, 31, 25, 26, 32, 33, 34, 35, 36, 37, 38, 39, 40, 41, 42, 43, 44, 45, 46, 47, 48, 49, 50, 51, 52, 53, 54, 55, 56, 57, 58, 59, 60, 61, 62, 63, 64, 65, 66, 67, 68, 69, 70, 71, 72, 73, 74, 75, 76, 77, 78, 79, 80, 81, 82, 83, 84, 85, 86, 87, 88, 89, 90, 91, 92, 93, 94, 95, 96, 97, 98, 99, 100, 101, 102, 103, 104, 105, 106, 107, 108, 109, 110, 111, 112, 113, 114, 115, 116, 117, 118, 119, 156, 157, 158, 159, 160, 161, 162, 163, 164, 165, 166, 167, 168] (by decide +kernel) (by decide +kernel)
set_option maxRecDepth 20000 in
theorem gX11_isAsToldBy_X1_setNature : GoodIn wsX11_isAsToldBy (wsV RX11 333 RX1 yX1_setNature wsX1_setNature) := goodIn_app (goodIn_of _ (by decide +kernel)) ggX11_isAsToldBy_X1_setNature
set_option maxRecDepth 20000 in
theorem ggX11_isAsToldBy_X1_passDay : GoodIn wsX11_isAsToldBy wsX1_passDay := goodIn_r _ [123, 13, 12, 22, 23, 124, 33, 125, 126, 32, 34, 127, 128, 129, 10, 130, 26, 131, 132, 133, 134, 14, 25, 24, 156, 157, 158, 159, 160, 161, 162, 163, 164, 165, 166, 167, 168] (by decide +kernel) (by decide +kernel)
set_option maxRecDepth 20000 in
theorem gX11_isAsToldBy_X1_passDay : GoodIn wsX11_isAsToldBy (wsV RX11 194 RX1 yX1_passDay wsX1_passDay) := goodIn_app (goodIn_of _ (by decide +kernel)) ggX11_isAsToldBy_X1_passDay
set_option maxRecDepth 20000 in
theorem ggX11_isAsToldBy_X5_skips : GoodIn wsX11_isAsToldBy wsX5_skips := goodIn_r _ [139, 140, 141, 142, 150, 151, 152, 153, 154, 155] (by decide +kernel) (by decide +kernel)
set_option maxRecDepth 20000 in
theorem gX11_isAsToldBy_X5_skips : GoodIn wsX11_isAsToldBy (wsV RX11 239 RX5 yX5_skips wsX5_skips) := goodIn_app (goodIn_of _ (by decide +kernel)) ggX11_isAsToldBy_X5_skips
set_option maxRecDepth 20000 in
theorem ggX11_isAsToldBy_X1_level : GoodIn wsX11_isAsToldBy wsX1_level := goodIn_r _ [134, 14, 12, 22, 25, 24, 156, 157, 158, 159, 160, 161, 162, 163, 164, 165, 166, 167, 168] (by decide +kernel) (by decide +kernel)
set_option maxRecDepth 20000 in
theorem gX11_isAsToldBy_X1_level : GoodIn wsX11_isAsToldBy (wsV RX11 160 RX1 yX1_level wsX1_level) := goodIn_app (goodIn_of _ (by decide +kernel)) ggX11_isAsToldBy_X1_level
set_option maxRecDepth 20000 in
theorem ggX11_levelUnder_X1_become : GoodIn wsX11_levelUnder wsX1_become := goodIn_r _ [8, 9, 10, 11, 12, 13, 14, 15, 16, 17, 18, 19, 20, 21, 22, 23, 34, 35, 36, 37, 38, 39, 40, 41, 42, 43, 44, 45, 46] (by decide +kernel) (by decide +kernel)
set_option maxRecDepth 20000 in
theorem gX11_levelUnder_X1_become : GoodIn wsX11_levelUnder (wsV RX11 69 RX1 yX1_become wsX1_become) := goodIn_app (goodIn_of _ (by decide +kernel)) ggX11_levelUnder_X1_become
set_option maxRecDepth 20000 in
theorem ggX11_levelUnder_X1_level : GoodIn wsX11_levelUnder wsX1_level := goodIn_r _ [27, 11, 9, 19, 22, 21, 34, 35, 36, 37, 38, 39, 40, 41, 42, 43, 44, 45, 46] (by decide +kernel) (by decide +kernel)
set_option maxRecDepth 20000 in
theorem gX11_levelUnder_X1_level : GoodIn wsX11_levelUnder (wsV RX11 160 RX1 yX1_level wsX1_level) := goodIn_app (goodIn_of _ (by decide +kernel)) ggX11_levelUnder_X1_level
set_option maxRecDepth 20000 in
theorem ggX11_inLeastTerms_X11_commonDivisor : GoodIn wsX11_inLeastTerms wsX11_commonDivisor := goodIn_r _ [8] (by decide +kernel) (by decide +kernel)
set_option maxRecDepth 20000 in
theorem gX11_inLeastTerms_X11_commonDivisor : GoodIn wsX11_inLeastTerms (va_wsS RX11 336 yX11_commonDivisor wsX11_commonDivisor) := goodIn_app (goodIn_of _ (by decide +kernel)) ggX11_inLeastTerms_X11_commonDivisor
set_option maxRecDepth 20000 in
theorem ggX11_drawCountry_X1_become : GoodIn wsX11_drawCountry wsX1_become := goodIn_r _ [10, 11, 12, 13, 14, 15, 16, 17, 18, 19, 20, 21, 22, 23, 24, 25, 41, 42, 43, 44, 45, 46, 47, 48, 49, 50, 51, 52, 53] (by decide +kernel) (by decide +kernel)
set_option maxRecDepth 20000 in
theorem gX11_drawCountry_X1_become : GoodIn wsX11_drawCountry (wsV RX11 69 RX1 yX1_become wsX1_become) := goodIn_app (goodIn_of _ (by decide +kernel)) ggX11_drawCountry_X1_become
set_option maxRecDepth 20000 in
theorem ggX11_drawCountry_X11_drawBelow : GoodIn wsX11_drawCountry wsX11_drawBelow := goodIn_r _ [30, 31, 32, 33, 34, 35, 36, 37, 38, 39, 40] (by decide +kernel) (by decide +kernel)
set_option maxRecDepth 20000 in
theorem gX11_drawCountry_X11_drawBelow : GoodIn wsX11_drawCountry (wsV RX11 343 RX11 yX11_drawBelow wsX11_drawBelow) := goodIn_app (goodIn_of _ (by decide +kernel)) ggX11_drawCountry_X11_drawBelow
