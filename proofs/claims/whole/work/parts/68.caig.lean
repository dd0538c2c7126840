set_option maxRecDepth 20000 in
theorem ggL_law_X11_shares : GoodIn wsL_law wsX11_shares := goodIn_r _ [922, 145, 146, 2, 147] (by decide +kernel) (by decide +kernel)
set_option maxRecDepth 20000 in
theorem gL_law_X11_shares : GoodIn wsL_law (wsV RL 151 RX11 yX11_shares wsX11_shares) := goodIn_app (goodIn_of _ (by decide +kernel)) ggL_law_X11_shares
set_option maxRecDepth 20000 in
theorem ggL_law_X12_shares : GoodIn wsL_law wsX12_shares := goodIn_r _ [926, 130, 927, 928, 317, 318, 5, 319, 1190, 1191, 1192, 1193, 1194, 1195, 1196, 1197, 1198, 1199, 1200, 1201, 1202, 1203, 1204, 1205, 1206, 1207, 1208, 1209, 1210, 1211, 1212, 1213, 1214, 1215, 1216, 1217, 1218, 1219, 1220, 1221, 1222, 1223] (by decide +kernel) (by decide +kernel)
set_option maxRecDepth 20000 in
theorem gL_law_X12_shares : GoodIn wsL_law (wsV RL 154 RX12 yX12_shares wsX12_shares) := goodIn_app (goodIn_of _ (by decide +kernel)) ggL_law_X12_shares
set_option maxRecDepth 20000 in
theorem ggL_law_X11_forged : GoodIn wsL_law wsX11_forged := goodIn_r _ [932, 14, 136, 833, 44, 137, 138, 139, 2, 140, 141, 142, 143, 144, 145, 146, 147, 483, 181, 182, 569, 298, 299, 43, 300, 90, 165, 94, 97, 96, 1184, 1185, 1186, 1187, 1188, 1189, 1224, 1225, 1226, 1227, 1228, 1229, 1230, 1231, 1232, 1233, 1234, 1235, 1236, 1237, 1238, 1239, 1240, 1241, 1242] (by decide +kernel) (by decide +kernel)
set_option maxRecDepth 20000 in
theorem gL_law_X11_forged : GoodIn wsL_law (wsV RL 155 RX11 yX11_forged wsX11_forged) := goodIn_app (goodIn_of _ (by decide +kernel)) ggL_law_X11_forged
set_option maxRecDepth 20000 in
theorem ggL_law_X12_forged : GoodIn wsL_law wsX12_forged := goodIn_r _ [936, 130, 119, 120, 121, 312, 313, 314, 5, 315, 316, 115, 317, 318, 319, 399, 400, 401, 402, 352, 113, 403, 109, 404, 405, 406, 407, 408, 409, 410, 411, 412, 413, 110, 414, 415, 416, 417, 112, 111, 418, 419, 420, 1190, 1191, 1192, 1193, 1194, 1195, 1196, 1197, 1198, 1199, 1200, 1201, 1202, 1203, 1204, 1205, 1206, 1207, 1208, 1209, 1210, 1211, 1212, 1213, 1214, 1215, 1216, 1217, 1218, 1219, 1220, 1221, 1222, 1223] (by decide +kernel) (by decide +kernel)
set_option maxRecDepth 20000 in
theorem gL_law_X12_forged : GoodIn wsL_law (wsV RL 158 RX12 yX12_forged wsX12_forged) := goodIn_app (goodIn_of _ (by decide +kernel)) ggL_law_X12_forged
set_option maxRecDepth 20000 in
theorem ggL_law_X11_judge : GoodIn wsL_law wsX11_judge := goodIn_r _ [940, 14, 45, 44, 136, 833, 137, 138, 139, 2, 140, 141, 142, 143, 144, 145, 146, 147, 161, 162, 163, 43, 164, 165, 166, 90, 167, 168, 169, 170, 91, 92, 93, 94, 95, 96, 97, 98, 835, 836, 837, 16, 838, 839, 53, 840, 542, 543, 544, 545, 99, 546, 547, 548, 549, 550, 551, 552, 553, 554, 555, 556, 297, 298, 299, 300, 684, 290, 291, 292, 181, 182, 293, 294, 295, 296, 1184, 1185, 1186, 1187, 1188, 1189, 1224, 1225, 1226, 1227, 1228, 1229, 1230, 1231, 1232, 1233, 1234, 1235, 1236, 1237, 1238, 1239, 1240, 1241, 1242] (by decide +kernel) (by decide +kernel)
set_option maxRecDepth 20000 in
theorem gL_law_X11_judge : GoodIn wsL_law (wsV RL 159 RX11 yX11_judge wsX11_judge) := goodIn_app (goodIn_of _ (by decide +kernel)) ggL_law_X11_judge
set_option maxRecDepth 20000 in
theorem ggL_law_X12_judge : GoodIn wsL_law wsX12_judge := goodIn_r _ [944, 130, 119, 120, 312, 313, 314, 5, 315, 316, 115, 317, 318, 319, 341, 342, 343, 344, 126, 345, 346, 347, 348, 349, 350, 351, 352, 353, 109, 110, 111, 112, 113, 114, 354, 355, 356, 357, 849, 850, 851, 852, 118, 853, 854, 855, 561, 562, 563, 564, 121, 122, 399, 400, 401, 402, 403, 404, 405, 406, 407, 408, 409, 410, 411, 412, 413, 414, 415, 416, 417, 418, 419, 420, 387, 388, 389, 390, 391, 392, 393, 394, 395, 396, 397, 398, 362, 363, 364, 365, 421, 422, 423, 424, 425, 426, 427, 428, 1190, 1191, 1192, 1193, 1194, 1195, 1196, 1197, 1198, 1199, 1200, 1201, 1202, 1203, 1204, 1205, 1206, 1207, 1208, 1209, 1210, 1211, 1212, 1213, 1214, 1215, 1216, 1217, 1218, 1219, 1220, 1221, 1222, 1223] (by decide +kernel) (by decide +kernel)
set_option maxRecDepth 20000 in
theorem gL_law_X12_judge : GoodIn wsL_law (wsV RL 162 RX12 yX12_judge wsX12_judge) := goodIn_app (goodIn_of _ (by decide +kernel)) ggL_law_X12_judge
set_option maxRecDepth 20000 in
theorem ggL_law_X11_countries : GoodIn wsL_law wsX11_countries := goodIn_r _ [948, 949, 45, 145, 146, 2, 147, 950, 951, 952, 953, 44, 494, 436, 437, 161, 162, 163, 43, 164, 165, 166, 90, 167, 168, 169, 170, 91, 92, 93, 94, 95, 96, 97, 98, 954, 955, 956, 957, 958, 959, 960, 667, 286, 287, 288, 289, 290, 291, 292, 181, 182, 293, 294, 295, 296, 297, 298, 299, 300, 542, 543, 544, 545, 99, 546, 547, 548, 549, 550, 551, 552, 553, 554, 555, 556, 961, 962, 963, 964, 1184, 1185, 1186, 1187, 1188, 1189, 1230, 1231, 1232, 1233, 1234, 1235, 1236, 1237, 1238, 1239, 1240, 1241, 1242] (by decide +kernel) (by decide +kernel)
set_option maxRecDepth 20000 in
theorem gL_law_X11_countries : GoodIn wsL_law (wsV RL 163 RX11 yX11_countries wsX11_countries) := goodIn_app (goodIn_of _ (by decide +kernel)) ggL_law_X11_countries
set_option maxRecDepth 20000 in
theorem ggL_law_X12_countries : GoodIn wsL_law wsX12_countries := goodIn_r _ [968, 130, 517, 969, 352, 113, 114, 317, 318, 5, 319, 341, 342, 343, 344, 126, 345, 346, 347, 348, 349, 350, 351, 353, 109, 110, 111, 112, 354, 355, 356, 357, 970, 971, 972, 973, 974, 975, 976, 383, 384, 385, 386, 387, 388, 389, 390, 391, 392, 393, 394, 395, 396, 397, 398, 121, 399, 400, 401, 402, 403, 404, 405, 406, 407, 408, 409, 410, 411, 412, 413, 414, 415, 416, 417, 418, 419, 420, 362, 363, 364, 365, 421, 422, 423, 424, 561, 562, 563, 564, 122, 425, 426, 427, 428, 1190, 1191, 1192, 1193, 1194, 1195, 1196, 1197, 1198, 1199, 1200, 1201, 1202, 1203, 1204, 1205, 1206, 1207, 1208, 1209, 1210, 1211, 1212, 1213, 1214, 1215, 1216, 1217, 1218, 1219, 1220, 1221, 1222, 1223] (by decide +kernel) (by decide +kernel)
set_option maxRecDepth 20000 in
theorem gL_law_X12_countries : GoodIn wsL_law (wsV RL 166 RX12 yX12_countries wsX12_countries) := goodIn_app (goodIn_of _ (by decide +kernel)) ggL_law_X12_countries
