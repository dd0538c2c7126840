set_option maxRecDepth 20000 in
theorem ggL_law_X11_days : GoodIn wsL_law wsX11_days := goodIn_r _ [540, 44, 145, 146, 2, 147, 541, 282, 283, 43, 284, 166, 285, 286, 287, 288, 289, 290, 291, 292, 165, 94, 95, 181, 182, 293, 294, 295, 296, 98, 297, 298, 299, 300, 90, 97, 96, 542, 543, 544, 545, 99, 546, 547, 548, 549, 550, 551, 552, 553, 554, 555, 556, 1184, 1185, 1186, 1187, 1188, 1189, 1230, 1231, 1232, 1233, 1234, 1235, 1236, 1237, 1238, 1239, 1240, 1241, 1242] (by decide +kernel) (by decide +kernel)
set_option maxRecDepth 20000 in
theorem gL_law_X11_days : GoodIn wsL_law (wsV RL 52 RX11 yX11_days wsX11_days) := goodIn_app (goodIn_of _ (by decide +kernel)) ggL_law_X11_days
set_option maxRecDepth 20000 in
theorem ggL_law_X12_days : GoodIn wsL_law wsX12_days := goodIn_r _ [560, 130, 382, 317, 318, 5, 319, 378, 379, 380, 381, 353, 383, 384, 385, 386, 387, 388, 389, 390, 352, 113, 114, 391, 392, 393, 394, 395, 396, 397, 398, 121, 399, 400, 401, 402, 403, 109, 404, 405, 406, 407, 408, 409, 410, 411, 412, 413, 110, 414, 415, 416, 417, 112, 111, 418, 419, 420, 362, 363, 364, 365, 421, 422, 423, 424, 561, 562, 563, 564, 122, 1190, 1191, 1192, 1193, 1194, 1195, 1196, 1197, 1198, 1199, 1200, 1201, 1202, 1203, 1204, 1205, 1206, 1207, 1208, 1209, 1210, 1211, 1212, 1213, 1214, 1215, 1216, 1217, 1218, 1219, 1220, 1221, 1222, 1223] (by decide +kernel) (by decide +kernel)
set_option maxRecDepth 20000 in
theorem gL_law_X12_days : GoodIn wsL_law (wsV RL 55 RX12 yX12_days wsX12_days) := goodIn_app (goodIn_of _ (by decide +kernel)) ggL_law_X12_days
set_option maxRecDepth 20000 in
theorem ggL_law_X11_ground : GoodIn wsL_law wsX11_ground := goodIn_r _ [568, 44, 483, 181, 2, 182, 145, 146, 147, 569, 298, 299, 43, 300, 90, 165, 94, 97, 96, 1184, 1185, 1186, 1187, 1188, 1189, 1230, 1231, 1232, 1233, 1234, 1235, 1236, 1237, 1238, 1239, 1240, 1241, 1242] (by decide +kernel) (by decide +kernel)
set_option maxRecDepth 20000 in
theorem gL_law_X11_ground : GoodIn wsL_law (wsV RL 56 RX11 yX11_ground wsX11_ground) := goodIn_app (goodIn_of _ (by decide +kernel)) ggL_law_X11_ground
set_option maxRecDepth 20000 in
theorem ggL_law_X12_ground : GoodIn wsL_law wsX12_ground := goodIn_r _ [573, 130, 362, 363, 5, 364, 365, 317, 318, 319, 574, 575, 576, 577, 121, 399, 400, 401, 402, 352, 113, 403, 109, 404, 405, 406, 407, 408, 409, 410, 411, 412, 413, 110, 414, 415, 416, 417, 112, 111, 418, 419, 420, 1190, 1191, 1192, 1193, 1194, 1195, 1196, 1197, 1198, 1199, 1200, 1201, 1202, 1203, 1204, 1205, 1206, 1207, 1208, 1209, 1210, 1211, 1212, 1213, 1214, 1215, 1216, 1217, 1218, 1219, 1220, 1221, 1222, 1223] (by decide +kernel) (by decide +kernel)
set_option maxRecDepth 20000 in
theorem gL_law_X12_ground : GoodIn wsL_law (wsV RL 59 RX12 yX12_ground wsX12_ground) := goodIn_app (goodIn_of _ (by decide +kernel)) ggL_law_X12_ground
set_option maxRecDepth 20000 in
theorem ggL_law_X11_water : GoodIn wsL_law wsX11_water := goodIn_r _ [581, 44, 582, 583, 2, 584, 145, 146, 147, 585, 586, 587, 43, 588, 99, 181, 182, 589, 543, 544, 545, 546, 547, 548, 549, 550, 551, 552, 553, 554, 555, 556, 297, 298, 299, 300, 90, 165, 94, 97, 96, 1184, 1185, 1186, 1187, 1188, 1189, 1230, 1231, 1232, 1233, 1234, 1235, 1236, 1237, 1238, 1239, 1240, 1241, 1242] (by decide +kernel) (by decide +kernel)
set_option maxRecDepth 20000 in
theorem gL_law_X11_water : GoodIn wsL_law (wsV RL 60 RX11 yX11_water wsX11_water) := goodIn_app (goodIn_of _ (by decide +kernel)) ggL_law_X11_water
set_option maxRecDepth 20000 in
theorem ggL_law_X12_water : GoodIn wsL_law wsX12_water := goodIn_r _ [593, 130, 594, 365, 122, 317, 318, 5, 319, 561, 562, 563, 564, 121, 399, 400, 401, 402, 352, 113, 403, 109, 404, 405, 406, 407, 408, 409, 410, 411, 412, 413, 110, 414, 415, 416, 417, 112, 111, 418, 419, 420, 1190, 1191, 1192, 1193, 1194, 1195, 1196, 1197, 1198, 1199, 1200, 1201, 1202, 1203, 1204, 1205, 1206, 1207, 1208, 1209, 1210, 1211, 1212, 1213, 1214, 1215, 1216, 1217, 1218, 1219, 1220, 1221, 1222, 1223] (by decide +kernel) (by decide +kernel)
set_option maxRecDepth 20000 in
theorem gL_law_X12_water : GoodIn wsL_law (wsV RL 63 RX12 yX12_water wsX12_water) := goodIn_app (goodIn_of _ (by decide +kernel)) ggL_law_X12_water
set_option maxRecDepth 20000 in
theorem ggL_law_X11_lakes : GoodIn wsL_law wsX11_lakes := goodIn_r _ [598, 44, 599, 600, 601, 43, 602, 99, 546, 547, 548, 549, 550, 551, 552, 553, 554, 555, 556, 297, 298, 299, 300, 90, 165, 94, 97, 96, 603, 604, 605, 606, 607, 608, 609, 1184, 1185, 1186, 1187, 1188, 1189, 1230, 1231, 1232, 1233, 1234, 1235, 1236, 1237, 1238, 1239, 1240, 1241, 1242] (by decide +kernel) (by decide +kernel)
set_option maxRecDepth 20000 in
theorem gL_law_X11_lakes : GoodIn wsL_law (wsV RL 64 RX11 yX11_lakes wsX11_lakes) := goodIn_app (goodIn_of _ (by decide +kernel)) ggL_law_X11_lakes
set_option maxRecDepth 20000 in
theorem ggL_law_X12_lakes : GoodIn wsL_law wsX12_lakes := goodIn_r _ [613, 130, 122, 561, 562, 563, 5, 564, 121, 399, 400, 401, 402, 352, 113, 403, 109, 404, 405, 406, 407, 408, 409, 410, 411, 412, 413, 110, 414, 415, 416, 417, 112, 111, 418, 419, 420, 1190, 1191, 1192, 1193, 1194, 1195, 1196, 1197, 1198, 1199, 1200, 1201, 1202, 1203, 1204, 1205, 1206, 1207, 1208, 1209, 1210, 1211, 1212, 1213, 1214, 1215, 1216, 1217, 1218, 1219, 1220, 1221, 1222, 1223] (by decide +kernel) (by decide +kernel)
set_option maxRecDepth 20000 in
theorem gL_law_X12_lakes : GoodIn wsL_law (wsV RL 68 RX12 yX12_lakes wsX12_lakes) := goodIn_app (goodIn_of _ (by decide +kernel)) ggL_law_X12_lakes
