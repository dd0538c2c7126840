set_option maxRecDepth 20000 in
theorem ggL_law_X11_rise : GoodIn wsL_law wsX11_rise := goodIn_r _ [617, 44, 618, 145, 146, 2, 147, 619, 620, 621, 43, 622, 297, 298, 299, 300, 90, 165, 94, 97, 96, 1184, 1185, 1186, 1187, 1188, 1189, 1230, 1231, 1232, 1233, 1234, 1235, 1236, 1237, 1238, 1239, 1240, 1241, 1242] (by decide +kernel) (by decide +kernel)
set_option maxRecDepth 20000 in
theorem gL_law_X11_rise : GoodIn wsL_law (wsV RL 69 RX11 yX11_rise wsX11_rise) := goodIn_app (goodIn_of _ (by decide +kernel)) ggL_law_X11_rise
set_option maxRecDepth 20000 in
theorem ggL_law_X12_rise : GoodIn wsL_law wsX12_rise := goodIn_r _ [626, 130, 627, 628, 317, 318, 5, 319, 399, 400, 401, 402, 352, 113, 403, 121, 109, 404, 405, 406, 407, 408, 409, 410, 411, 412, 413, 110, 414, 415, 416, 417, 112, 111, 418, 419, 420, 629, 630, 631, 632, 1190, 1191, 1192, 1193, 1194, 1195, 1196, 1197, 1198, 1199, 1200, 1201, 1202, 1203, 1204, 1205, 1206, 1207, 1208, 1209, 1210, 1211, 1212, 1213, 1214, 1215, 1216, 1217, 1218, 1219, 1220, 1221, 1222, 1223] (by decide +kernel) (by decide +kernel)
set_option maxRecDepth 20000 in
theorem gL_law_X12_rise : GoodIn wsL_law (wsV RL 72 RX12 yX12_rise wsX12_rise) := goodIn_app (goodIn_of _ (by decide +kernel)) ggL_law_X12_rise
set_option maxRecDepth 20000 in
theorem ggL_law_X11_steepest : GoodIn wsL_law wsX11_steepest := goodIn_r _ [636, 44, 637, 638, 639, 43, 640, 641, 642, 643, 644, 645, 646, 552, 647, 648, 620, 621, 622, 297, 298, 299, 300, 90, 165, 94, 97, 96, 649, 650, 651, 652, 653, 1184, 1185, 1186, 1187, 1188, 1189, 1230, 1231, 1232, 1233, 1234, 1235, 1236, 1237, 1238, 1239, 1240, 1241, 1242] (by decide +kernel) (by decide +kernel)
set_option maxRecDepth 20000 in
theorem gL_law_X11_steepest : GoodIn wsL_law (wsV RL 73 RX11 yX11_steepest wsX11_steepest) := goodIn_app (goodIn_of _ (by decide +kernel)) ggL_law_X11_steepest
set_option maxRecDepth 20000 in
theorem ggL_law_X12_steepest : GoodIn wsL_law wsX12_steepest := goodIn_r _ [657, 130, 658, 317, 318, 5, 319, 399, 400, 401, 402, 352, 113, 403, 121, 109, 404, 405, 406, 407, 408, 409, 410, 411, 412, 413, 110, 414, 415, 416, 417, 112, 111, 418, 419, 420, 629, 630, 631, 632, 1190, 1191, 1192, 1193, 1194, 1195, 1196, 1197, 1198, 1199, 1200, 1201, 1202, 1203, 1204, 1205, 1206, 1207, 1208, 1209, 1210, 1211, 1212, 1213, 1214, 1215, 1216, 1217, 1218, 1219, 1220, 1221, 1222, 1223] (by decide +kernel) (by decide +kernel)
set_option maxRecDepth 20000 in
theorem gL_law_X12_steepest : GoodIn wsL_law (wsV RL 76 RX12 yX12_steepest wsX12_steepest) := goodIn_app (goodIn_of _ (by decide +kernel)) ggL_law_X12_steepest
set_option maxRecDepth 20000 in
theorem ggL_law_X11_behind : GoodIn wsL_law wsX11_behind := goodIn_r _ [662, 44, 45, 436, 441, 274, 275, 43, 276, 165, 146, 2, 147, 145, 663, 664, 665, 666, 161, 162, 163, 164, 166, 90, 167, 168, 169, 170, 91, 92, 93, 94, 95, 96, 97, 98, 667, 286, 287, 288, 289, 290, 291, 292, 181, 182, 293, 294, 295, 296, 297, 298, 299, 300, 1184, 1185, 1186, 1187, 1188, 1189, 1230, 1231, 1232, 1233, 1234, 1235, 1236, 1237, 1238, 1239, 1240, 1241, 1242] (by decide +kernel) (by decide +kernel)
set_option maxRecDepth 20000 in
theorem gL_law_X11_behind : GoodIn wsL_law (wsV RL 77 RX11 yX11_behind wsX11_behind) := goodIn_app (goodIn_of _ (by decide +kernel)) ggL_law_X11_behind
set_option maxRecDepth 20000 in
theorem ggL_law_X12_behind : GoodIn wsL_law wsX12_behind := goodIn_r _ [671, 130, 382, 113, 371, 372, 373, 5, 374, 352, 317, 318, 319, 341, 342, 343, 344, 126, 345, 346, 347, 348, 349, 350, 351, 353, 109, 110, 111, 112, 114, 354, 355, 356, 357, 383, 384, 385, 386, 387, 388, 389, 390, 391, 392, 393, 394, 395, 396, 397, 398, 121, 399, 400, 401, 402, 403, 404, 405, 406, 407, 408, 409, 410, 411, 412, 413, 414, 415, 416, 417, 418, 419, 420, 362, 363, 364, 365, 421, 422, 423, 424, 425, 426, 427, 428, 1190, 1191, 1192, 1193, 1194, 1195, 1196, 1197, 1198, 1199, 1200, 1201, 1202, 1203, 1204, 1205, 1206, 1207, 1208, 1209, 1210, 1211, 1212, 1213, 1214, 1215, 1216, 1217, 1218, 1219, 1220, 1221, 1222, 1223] (by decide +kernel) (by decide +kernel)
set_option maxRecDepth 20000 in
theorem gL_law_X12_behind : GoodIn wsL_law (wsV RL 80 RX12 yX12_behind wsX12_behind) := goodIn_app (goodIn_of _ (by decide +kernel)) ggL_law_X12_behind
set_option maxRecDepth 20000 in
theorem ggL_law_X11_groundThen : GoodIn wsL_law wsX11_groundThen := goodIn_r _ [675, 45, 582, 583, 2, 584, 145, 146, 147, 663, 664, 665, 666, 44, 161, 162, 163, 43, 164, 165, 166, 90, 167, 168, 169, 170, 91, 92, 93, 94, 95, 96, 97, 98, 667, 286, 287, 288, 289, 290, 291, 292, 181, 182, 293, 294, 295, 296, 297, 298, 299, 300, 483, 569, 542, 543, 544, 545, 99, 546, 547, 548, 549, 550, 551, 552, 553, 554, 555, 556, 1184, 1185, 1186, 1187, 1188, 1189, 1230, 1231, 1232, 1233, 1234, 1235, 1236, 1237, 1238, 1239, 1240, 1241, 1242] (by decide +kernel) (by decide +kernel)
set_option maxRecDepth 20000 in
theorem gL_law_X11_groundThen : GoodIn wsL_law (wsV RL 81 RX11 yX11_groundThen wsX11_groundThen) := goodIn_app (goodIn_of _ (by decide +kernel)) ggL_law_X11_groundThen
set_option maxRecDepth 20000 in
theorem ggL_law_X12_groundThen : GoodIn wsL_law wsX12_groundThen := goodIn_r _ [679, 130, 594, 365, 382, 317, 318, 5, 319, 341, 342, 343, 344, 126, 345, 346, 347, 348, 349, 350, 351, 352, 353, 109, 110, 111, 112, 113, 114, 354, 355, 356, 357, 383, 384, 385, 386, 387, 388, 389, 390, 391, 392, 393, 394, 395, 396, 397, 398, 121, 399, 400, 401, 402, 403, 404, 405, 406, 407, 408, 409, 410, 411, 412, 413, 414, 415, 416, 417, 418, 419, 420, 362, 363, 364, 421, 422, 423, 424, 561, 562, 563, 564, 122, 574, 575, 576, 577, 425, 426, 427, 428, 1190, 1191, 1192, 1193, 1194, 1195, 1196, 1197, 1198, 1199, 1200, 1201, 1202, 1203, 1204, 1205, 1206, 1207, 1208, 1209, 1210, 1211, 1212, 1213, 1214, 1215, 1216, 1217, 1218, 1219, 1220, 1221, 1222, 1223] (by decide +kernel) (by decide +kernel)
set_option maxRecDepth 20000 in
theorem gL_law_X12_groundThen : GoodIn wsL_law (wsV RL 84 RX12 yX12_groundThen wsX12_groundThen) := goodIn_app (goodIn_of _ (by decide +kernel)) ggL_law_X12_groundThen
