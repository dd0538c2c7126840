set_option maxRecDepth 20000 in
theorem ggL_law_X11_comes : GoodIn wsL_law wsX11_comes := goodIn_r _ [491, 44, 14, 492, 493, 494, 145, 146, 2, 147, 483, 181, 182, 495, 496, 497, 498, 141, 142, 143, 144, 499, 184, 185, 43, 186, 165, 94, 95, 187, 188, 189, 190, 91, 92, 93, 96, 100, 97, 98, 191, 192, 193, 194, 195, 34, 196, 197, 198, 199, 200, 22, 201, 202, 203, 204, 19, 205, 206, 207, 31, 208, 209, 210, 211, 212, 28, 213, 214, 215, 216, 217, 218, 219, 220, 37, 221, 222, 223, 224, 225, 40, 226, 227, 228, 229, 230, 231, 232, 233, 234, 235, 236, 237, 238, 239, 240, 241, 242, 243, 244, 245, 246, 247, 248, 249, 250, 251, 252, 253, 254, 255, 256, 257, 258, 259, 260, 261, 262, 263, 264, 265, 266, 267, 268, 1184, 1185, 1186, 1187, 1188, 1189, 1224, 1225, 1226, 1227, 1228, 1229, 1230, 1231, 1232, 1233, 1234, 1235, 1236, 1237, 1238, 1239, 1240, 1241, 1242] (by decide +kernel) (by decide +kernel)
set_option maxRecDepth 20000 in
theorem gL_law_X11_comes : GoodIn wsL_law (wsV RL 35 RX11 yX11_comes wsX11_comes) := goodIn_app (goodIn_of _ (by decide +kernel)) ggL_law_X11_comes
set_option maxRecDepth 20000 in
theorem ggL_law_X12_comes : GoodIn wsL_law wsX12_comes := goodIn_r _ [503, 130, 370, 116, 117, 352, 317, 318, 5, 319, 362, 363, 364, 365, 504, 505, 506, 507, 316, 115, 366, 367, 368, 369, 110, 111, 112, 113, 114, 1190, 1191, 1192, 1193, 1194, 1195, 1196, 1197, 1198, 1199, 1200, 1201, 1202, 1203, 1204, 1205, 1206, 1207, 1208, 1209, 1210, 1211, 1212, 1213, 1214, 1215, 1216, 1217, 1218, 1219, 1220, 1221, 1222, 1223] (by decide +kernel) (by decide +kernel)
set_option maxRecDepth 20000 in
theorem gL_law_X12_comes : GoodIn wsL_law (wsV RL 39 RX12 yX12_comes wsX12_comes) := goodIn_app (goodIn_of _ (by decide +kernel)) ggL_law_X12_comes
set_option maxRecDepth 20000 in
theorem ggL_law_X11_raises : GoodIn wsL_law wsX11_raises := goodIn_r _ [511, 44, 482, 483, 181, 2, 182, 145, 146, 147, 512, 178, 179, 43, 180, 90, 1184, 1185, 1186, 1187, 1188, 1189, 1230, 1231, 1232, 1233, 1234, 1235, 1236, 1237, 1238, 1239, 1240, 1241, 1242] (by decide +kernel) (by decide +kernel)
set_option maxRecDepth 20000 in
theorem gL_law_X11_raises : GoodIn wsL_law (wsV RL 40 RX11 yX11_raises wsX11_raises) := goodIn_app (goodIn_of _ (by decide +kernel)) ggL_law_X11_raises
set_option maxRecDepth 20000 in
theorem ggL_law_X12_raises : GoodIn wsL_law wsX12_raises := goodIn_r _ [516, 130, 517, 109, 362, 363, 5, 364, 365, 317, 318, 319, 1190, 1191, 1192, 1193, 1194, 1195, 1196, 1197, 1198, 1199, 1200, 1201, 1202, 1203, 1204, 1205, 1206, 1207, 1208, 1209, 1210, 1211, 1212, 1213, 1214, 1215, 1216, 1217, 1218, 1219, 1220, 1221, 1222, 1223] (by decide +kernel) (by decide +kernel)
set_option maxRecDepth 20000 in
theorem gL_law_X12_raises : GoodIn wsL_law (wsV RL 43 RX12 yX12_raises wsX12_raises) := goodIn_app (goodIn_of _ (by decide +kernel)) ggL_law_X12_raises
set_option maxRecDepth 20000 in
theorem ggL_law_X11_moves : GoodIn wsL_law wsX11_moves := goodIn_r _ [521, 44, 436, 441, 274, 275, 43, 276, 165, 146, 2, 147, 522, 270, 271, 272, 94, 273, 181, 182, 145, 1184, 1185, 1186, 1187, 1188, 1189, 1230, 1231, 1232, 1233, 1234, 1235, 1236, 1237, 1238, 1239, 1240, 1241, 1242] (by decide +kernel) (by decide +kernel)
set_option maxRecDepth 20000 in
theorem gL_law_X11_moves : GoodIn wsL_law (wsV RL 44 RX11 yX11_moves wsX11_moves) := goodIn_app (goodIn_of _ (by decide +kernel)) ggL_law_X11_moves
set_option maxRecDepth 20000 in
theorem ggL_law_X12_moves : GoodIn wsL_law wsX12_moves := goodIn_r _ [526, 130, 113, 371, 372, 373, 5, 374, 352, 317, 318, 319, 362, 363, 364, 365, 1190, 1191, 1192, 1193, 1194, 1195, 1196, 1197, 1198, 1199, 1200, 1201, 1202, 1203, 1204, 1205, 1206, 1207, 1208, 1209, 1210, 1211, 1212, 1213, 1214, 1215, 1216, 1217, 1218, 1219, 1220, 1221, 1222, 1223] (by decide +kernel) (by decide +kernel)
set_option maxRecDepth 20000 in
theorem gL_law_X12_moves : GoodIn wsL_law (wsV RL 47 RX12 yX12_moves wsX12_moves) := goodIn_app (goodIn_of _ (by decide +kernel)) ggL_law_X12_moves
set_option maxRecDepth 20000 in
theorem ggL_law_X11_turns : GoodIn wsL_law wsX11_turns := goodIn_r _ [530, 44, 437, 441, 274, 275, 43, 276, 165, 146, 2, 147, 442, 443, 444, 531, 278, 279, 280, 95, 273, 1184, 1185, 1186, 1187, 1188, 1189, 1230, 1231, 1232, 1233, 1234, 1235, 1236, 1237, 1238, 1239, 1240, 1241, 1242] (by decide +kernel) (by decide +kernel)
set_option maxRecDepth 20000 in
theorem gL_law_X11_turns : GoodIn wsL_law (wsV RL 48 RX11 yX11_turns wsX11_turns) := goodIn_app (goodIn_of _ (by decide +kernel)) ggL_law_X11_turns
set_option maxRecDepth 20000 in
theorem ggL_law_X12_turns : GoodIn wsL_law wsX12_turns := goodIn_r _ [535, 130, 536, 114, 371, 372, 373, 5, 374, 352, 317, 318, 319, 375, 376, 377, 1190, 1191, 1192, 1193, 1194, 1195, 1196, 1197, 1198, 1199, 1200, 1201, 1202, 1203, 1204, 1205, 1206, 1207, 1208, 1209, 1210, 1211, 1212, 1213, 1214, 1215, 1216, 1217, 1218, 1219, 1220, 1221, 1222, 1223] (by decide +kernel) (by decide +kernel)
set_option maxRecDepth 20000 in
theorem gL_law_X12_turns : GoodIn wsL_law (wsV RL 51 RX12 yX12_turns wsX12_turns) := goodIn_app (goodIn_of _ (by decide +kernel)) ggL_law_X12_turns
