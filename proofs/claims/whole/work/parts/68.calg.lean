set_option maxRecDepth 20000 in
theorem ggL_law_X12_copy : GoodIn wsL_law wsX12_copy := goodIn_r _ [1092, 130, 316, 115, 118, 119, 129, 120, 317, 318, 5, 319, 1190, 1191, 1192, 1193, 1194, 1195, 1196, 1197, 1198, 1199, 1200, 1201, 1202, 1203, 1204, 1205, 1206, 1207, 1208, 1209, 1210, 1211, 1212, 1213, 1214, 1215, 1216, 1217, 1218, 1219, 1220, 1221, 1222, 1223] (by decide +kernel) (by decide +kernel)
set_option maxRecDepth 20000 in
theorem gL_law_X12_copy : GoodIn wsL_law (wsV RL 205 RX12 yX12_copy wsX12_copy) := goodIn_app (goodIn_of _ (by decide +kernel)) ggL_law_X12_copy
set_option maxRecDepth 20000 in
theorem ggL_law_X11_cost : GoodIn wsL_law wsX11_cost := goodIn_r _ [1096, 44, 1097, 14, 492, 493, 495, 496, 497, 2, 498, 141, 142, 143, 144, 145, 146, 147, 1098, 1099, 1100, 1101, 1102, 34, 1103, 1104, 1105, 199, 1106, 22, 1107, 1108, 203, 1109, 19, 1110, 1111, 1112, 31, 1113, 1114, 1115, 25, 1116, 1117, 1118, 1119, 1120, 1121, 28, 1122, 1123, 1124, 1125, 1126, 1127, 40, 1128, 1129, 1130, 1184, 1185, 1186, 1187, 1188, 1189, 1230, 1231, 1232, 1233, 1234, 1235, 1236, 1237, 1238, 1239, 1240, 1241, 1242, 1224, 1225, 1226, 1227, 1228, 1229] (by decide +kernel) (by decide +kernel)
set_option maxRecDepth 20000 in
theorem gL_law_X11_cost : GoodIn wsL_law (wsV RL 206 RX11 yX11_cost wsX11_cost) := goodIn_app (goodIn_of _ (by decide +kernel)) ggL_law_X11_cost
set_option maxRecDepth 20000 in
theorem ggL_law_X12_cost : GoodIn wsL_law wsX12_cost := goodIn_r _ [1134, 130, 116, 117, 504, 505, 506, 5, 507, 316, 115, 317, 318, 319, 1135, 1136, 1137, 1190, 1191, 1192, 1193, 1194, 1195, 1196, 1197, 1198, 1199, 1200, 1201, 1202, 1203, 1204, 1205, 1206, 1207, 1208, 1209, 1210, 1211, 1212, 1213, 1214, 1215, 1216, 1217, 1218, 1219, 1220, 1221, 1222, 1223] (by decide +kernel) (by decide +kernel)
set_option maxRecDepth 20000 in
theorem gL_law_X12_cost : GoodIn wsL_law (wsV RL 209 RX12 yX12_cost wsX12_cost) := goodIn_app (goodIn_of _ (by decide +kernel)) ggL_law_X12_cost
set_option maxRecDepth 20000 in
theorem ggL_law_X11_toss : GoodIn wsL_law wsX11_toss := goodIn_ca (goodIn_r _ [1141, 1074, 44, 1097, 14, 492, 493, 495, 496, 497, 2, 498, 141, 142, 143, 144, 145, 146, 147, 1142, 1143, 1144, 1145, 19, 1146, 1147, 1075, 1148, 1149, 1150, 28, 1151, 1152, 1153, 1154, 1155, 1156, 1157, 1158, 1159, 1160, 1161, 1162, 1163, 34, 1164, 1165, 1102, 1166, 1103, 1104, 1105, 199, 1106, 22, 1107, 1108, 1099, 203, 1109, 1110, 1167, 1168, 1169, 1170, 1171, 1172, 1173, 1174, 1175, 1176, 1177, 1178, 1179, 1184, 1185, 1186, 1187, 1188, 1189, 1230, 1231, 1232, 1233, 1234, 1235, 1236, 1237, 1238, 1239, 1240, 1241, 1242, 1224, 1225, 1226, 1227, 1228, 1229] (by decide +kernel) (by decide +kernel)) (goodIn_sub (fun _ h => List.mem_append_right _ h) (by decide +kernel))
set_option maxRecDepth 20000 in
theorem gL_law_X11_toss : GoodIn wsL_law (wsV RL 210 RX11 yX11_toss wsX11_toss) := goodIn_app (goodIn_of _ (by decide +kernel)) ggL_law_X11_toss
set_option maxRecDepth 20000 in
theorem ggL_law_X12_toss : GoodIn wsL_law wsX12_toss := goodIn_r _ [1183, 130, 116, 117, 504, 505, 506, 5, 507, 316, 115, 317, 318, 319, 1135, 1136, 1137, 1190, 1191, 1192, 1193, 1194, 1195, 1196, 1197, 1198, 1199, 1200, 1201, 1202, 1203, 1204, 1205, 1206, 1207, 1208, 1209, 1210, 1211, 1212, 1213, 1214, 1215, 1216, 1217, 1218, 1219, 1220, 1221, 1222, 1223] (by decide +kernel) (by decide +kernel)
set_option maxRecDepth 20000 in
theorem gL_law_X12_toss : GoodIn wsL_law (wsV RL 213 RX12 yX12_toss wsX12_toss) := goodIn_app (goodIn_of _ (by decide +kernel)) ggL_law_X12_toss
