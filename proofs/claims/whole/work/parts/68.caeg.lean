set_option maxRecDepth 20000 in
theorem ggL_law_X11_arrives : GoodIn wsL_law wsX11_arrives := goodIn_r _ [683, 44, 45, 436, 441, 274, 275, 43, 276, 165, 146, 2, 147, 483, 181, 182, 145, 161, 162, 163, 164, 166, 90, 167, 168, 169, 170, 91, 92, 93, 94, 95, 96, 97, 98, 684, 290, 291, 292, 293, 294, 295, 296, 297, 298, 299, 300, 1184, 1185, 1186, 1187, 1188, 1189, 1230, 1231, 1232, 1233, 1234, 1235, 1236, 1237, 1238, 1239, 1240, 1241, 1242] (by decide +kernel) (by decide +kernel)
set_option maxRecDepth 20000 in
theorem gL_law_X11_arrives : GoodIn wsL_law (wsV RL 85 RX11 yX11_arrives wsX11_arrives) := goodIn_app (goodIn_of _ (by decide +kernel)) ggL_law_X11_arrives
set_option maxRecDepth 20000 in
theorem ggL_law_X12_arrives : GoodIn wsL_law wsX12_arrives := goodIn_r _ [688, 130, 113, 371, 372, 373, 5, 374, 352, 317, 318, 319, 362, 363, 364, 365, 341, 342, 343, 344, 126, 345, 346, 347, 348, 349, 350, 351, 353, 109, 110, 111, 112, 114, 354, 355, 356, 357, 387, 388, 389, 390, 391, 392, 393, 394, 395, 396, 397, 398, 121, 399, 400, 401, 402, 403, 404, 405, 406, 407, 408, 409, 410, 411, 412, 413, 414, 415, 416, 417, 418, 419, 420, 421, 422, 423, 424, 425, 426, 427, 428, 1190, 1191, 1192, 1193, 1194, 1195, 1196, 1197, 1198, 1199, 1200, 1201, 1202, 1203, 1204, 1205, 1206, 1207, 1208, 1209, 1210, 1211, 1212, 1213, 1214, 1215, 1216, 1217, 1218, 1219, 1220, 1221, 1222, 1223] (by decide +kernel) (by decide +kernel)
set_option maxRecDepth 20000 in
theorem gL_law_X12_arrives : GoodIn wsL_law (wsV RL 88 RX12 yX12_arrives wsX12_arrives) := goodIn_app (goodIn_of _ (by decide +kernel)) ggL_law_X12_arrives
set_option maxRecDepth 20000 in
theorem ggL_law_X11_stuck : GoodIn wsL_law wsX11_stuck := goodIn_r _ [692, 44, 45, 436, 441, 274, 275, 43, 276, 165, 146, 2, 147, 161, 162, 163, 164, 166, 90, 167, 168, 169, 170, 91, 92, 93, 94, 95, 96, 97, 98, 684, 290, 291, 292, 181, 182, 145, 293, 294, 295, 296, 297, 298, 299, 300, 1184, 1185, 1186, 1187, 1188, 1189, 1230, 1231, 1232, 1233, 1234, 1235, 1236, 1237, 1238, 1239, 1240, 1241, 1242] (by decide +kernel) (by decide +kernel)
set_option maxRecDepth 20000 in
theorem gL_law_X11_stuck : GoodIn wsL_law (wsV RL 89 RX11 yX11_stuck wsX11_stuck) := goodIn_app (goodIn_of _ (by decide +kernel)) ggL_law_X11_stuck
set_option maxRecDepth 20000 in
theorem ggL_law_X12_stuck : GoodIn wsL_law wsX12_stuck := goodIn_r _ [696, 130, 113, 371, 372, 373, 5, 374, 352, 317, 318, 319, 341, 342, 343, 344, 126, 345, 346, 347, 348, 349, 350, 351, 353, 109, 110, 111, 112, 114, 354, 355, 356, 357, 387, 388, 389, 390, 391, 392, 393, 394, 395, 396, 397, 398, 121, 399, 400, 401, 402, 403, 404, 405, 406, 407, 408, 409, 410, 411, 412, 413, 414, 415, 416, 417, 418, 419, 420, 362, 363, 364, 365, 421, 422, 423, 424, 425, 426, 427, 428, 1190, 1191, 1192, 1193, 1194, 1195, 1196, 1197, 1198, 1199, 1200, 1201, 1202, 1203, 1204, 1205, 1206, 1207, 1208, 1209, 1210, 1211, 1212, 1213, 1214, 1215, 1216, 1217, 1218, 1219, 1220, 1221, 1222, 1223] (by decide +kernel) (by decide +kernel)
set_option maxRecDepth 20000 in
theorem gL_law_X12_stuck : GoodIn wsL_law (wsV RL 92 RX12 yX12_stuck wsX12_stuck) := goodIn_app (goodIn_of _ (by decide +kernel)) ggL_law_X12_stuck
set_option maxRecDepth 20000 in
theorem ggL_law_X11_goes : GoodIn wsL_law wsX11_goes := goodIn_r _ [700, 44, 441, 274, 275, 43, 276, 165, 146, 2, 147, 483, 181, 182, 145, 701, 702, 703, 704, 45, 161, 162, 163, 164, 166, 90, 167, 168, 169, 170, 91, 92, 93, 94, 95, 96, 97, 98, 705, 706, 707, 708, 709, 710, 711, 712, 713, 714, 293, 294, 295, 296, 297, 298, 299, 300, 1184, 1185, 1186, 1187, 1188, 1189, 1230, 1231, 1232, 1233, 1234, 1235, 1236, 1237, 1238, 1239, 1240, 1241, 1242] (by decide +kernel) (by decide +kernel)
set_option maxRecDepth 20000 in
theorem gL_law_X11_goes : GoodIn wsL_law (wsV RL 93 RX11 yX11_goes wsX11_goes) := goodIn_app (goodIn_of _ (by decide +kernel)) ggL_law_X11_goes
set_option maxRecDepth 20000 in
theorem ggL_law_X12_goes : GoodIn wsL_law wsX12_goes := goodIn_r _ [718, 130, 371, 372, 373, 5, 374, 352, 317, 318, 319, 362, 363, 364, 365, 719, 720, 721, 722, 113, 723, 724, 725, 726, 341, 342, 343, 344, 126, 345, 346, 347, 348, 349, 350, 351, 353, 109, 110, 111, 112, 114, 354, 355, 356, 357, 407, 408, 409, 395, 396, 397, 398, 121, 399, 400, 401, 402, 403, 404, 405, 406, 410, 411, 412, 413, 414, 415, 416, 417, 418, 419, 420, 421, 422, 423, 424, 425, 426, 427, 428, 1190, 1191, 1192, 1193, 1194, 1195, 1196, 1197, 1198, 1199, 1200, 1201, 1202, 1203, 1204, 1205, 1206, 1207, 1208, 1209, 1210, 1211, 1212, 1213, 1214, 1215, 1216, 1217, 1218, 1219, 1220, 1221, 1222, 1223] (by decide +kernel) (by decide +kernel)
set_option maxRecDepth 20000 in
theorem gL_law_X12_goes : GoodIn wsL_law (wsV RL 96 RX12 yX12_goes wsX12_goes) := goodIn_app (goodIn_of _ (by decide +kernel)) ggL_law_X12_goes
set_option maxRecDepth 20000 in
theorem ggL_law_X11_far : GoodIn wsL_law wsX11_far := goodIn_r _ [730, 44, 45, 441, 274, 275, 43, 276, 165, 146, 2, 147, 145, 161, 162, 163, 164, 166, 90, 167, 168, 169, 170, 91, 92, 93, 94, 95, 96, 97, 98, 731, 732, 733, 734, 293, 294, 295, 296, 181, 182, 297, 298, 299, 300, 1184, 1185, 1186, 1187, 1188, 1189, 1230, 1231, 1232, 1233, 1234, 1235, 1236, 1237, 1238, 1239, 1240, 1241, 1242] (by decide +kernel) (by decide +kernel)
set_option maxRecDepth 20000 in
theorem gL_law_X11_far : GoodIn wsL_law (wsV RL 97 RX11 yX11_far wsX11_far) := goodIn_app (goodIn_of _ (by decide +kernel)) ggL_law_X11_far
set_option maxRecDepth 20000 in
theorem ggL_law_X12_far : GoodIn wsL_law wsX12_far := goodIn_r _ [738, 130, 371, 372, 373, 5, 374, 352, 317, 318, 319, 723, 724, 725, 726, 113, 341, 342, 343, 344, 126, 345, 346, 347, 348, 349, 350, 351, 353, 109, 110, 111, 112, 114, 354, 355, 356, 357, 407, 408, 409, 395, 396, 397, 398, 121, 399, 400, 401, 402, 403, 404, 405, 406, 410, 411, 412, 413, 414, 415, 416, 417, 418, 419, 420, 362, 363, 364, 365, 421, 422, 423, 424, 425, 426, 427, 428, 1190, 1191, 1192, 1193, 1194, 1195, 1196, 1197, 1198, 1199, 1200, 1201, 1202, 1203, 1204, 1205, 1206, 1207, 1208, 1209, 1210, 1211, 1212, 1213, 1214, 1215, 1216, 1217, 1218, 1219, 1220, 1221, 1222, 1223] (by decide +kernel) (by decide +kernel)
set_option maxRecDepth 20000 in
theorem gL_law_X12_far : GoodIn wsL_law (wsV RL 100 RX12 yX12_far wsX12_far) := goodIn_app (goodIn_of _ (by decide +kernel)) ggL_law_X12_far
