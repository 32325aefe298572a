set_option maxRecDepth 20000 in
theorem ggL_law_X10_cell : GoodIn wsL_law wsX10_cell := goodIn_r _ [1134, 201, 1135, 1136, 5, 1137, 322, 323, 324, 212, 213, 214, 215, 169, 1238, 1239, 1240, 1241, 1242, 1243, 1244, 1245, 1246, 1247, 1248, 1249, 1250, 1251, 1252, 1253, 1254, 1255, 1256, 1257, 1258, 1259, 1260, 1261, 1262, 1263, 1264, 1265, 1266, 1267, 1268, 1269, 1270, 1271, 1272, 1273, 1274, 1275] (by decide +kernel) (by decide +kernel)
set_option maxRecDepth 20000 in
theorem gL_law_X10_cell : GoodIn wsL_law (wsV RL 282 RX10 yX10_cell wsX10_cell) := goodIn_app (goodIn_of _ (by decide +kernel)) ggL_law_X10_cell
set_option maxRecDepth 20000 in
theorem ggL_law_L_damage : GoodIn wsL_law wsL_damage := goodIn_ca (goodIn_r _ [1140, 274, 1141, 1142, 1143, 2, 1144, 16, 823, 54, 286, 287, 288, 289, 290, 1222, 1223, 1224, 1225, 1226, 1227, 1228, 1229, 1230, 1231, 1232, 1233, 1234, 1235, 1236, 1237, 1276, 1277] (by decide +kernel) (by decide +kernel)) (goodIn_sub (fun _ h => List.mem_append_left _ (List.mem_append_left _ (List.mem_append_right _ h))) (by decide +kernel))
set_option maxRecDepth 20000 in
theorem gL_law_L_damage : GoodIn wsL_law (va_wsS RL 283 yL_damage wsL_damage) := goodIn_app (goodIn_of _ (by decide +kernel)) ggL_law_L_damage
set_option maxRecDepth 20000 in
theorem ggL_law_X10_damage : GoodIn wsL_law wsX10_damage := goodIn_r _ [1148, 201, 188, 169, 1135, 1136, 5, 1137, 322, 323, 324, 212, 213, 214, 215, 1238, 1239, 1240, 1241, 1242, 1243, 1244, 1245, 1246, 1247, 1248, 1249, 1250, 1251, 1252, 1253, 1254, 1255, 1256, 1257, 1258, 1259, 1260, 1261, 1262, 1263, 1264, 1265, 1266, 1267, 1268, 1269, 1270, 1271, 1272, 1273, 1274, 1275] (by decide +kernel) (by decide +kernel)
set_option maxRecDepth 20000 in
theorem gL_law_X10_damage : GoodIn wsL_law (wsV RL 285 RX10 yX10_damage wsX10_damage) := goodIn_app (goodIn_of _ (by decide +kernel)) ggL_law_X10_damage
set_option maxRecDepth 20000 in
theorem ggL_law_L_checksum : GoodIn wsL_law wsL_checksum := goodIn_ca (goodIn_r _ [1151, 274, 1152, 1153, 1154, 2, 1155, 16, 286, 287, 288, 289, 290, 1156, 158, 159, 15, 160, 62, 1222, 1223, 1224, 1225, 1226, 1227, 1228, 1229, 1230, 1231, 1232, 1233, 1234, 1235, 1236, 1237, 1276, 1277] (by decide +kernel) (by decide +kernel)) (goodIn_sub (fun _ h => List.mem_append_left _ (List.mem_append_left _ (List.mem_append_right _ h))) (by decide +kernel))
set_option maxRecDepth 20000 in
theorem gL_law_L_checksum : GoodIn wsL_law (va_wsS RL 286 yL_checksum wsL_checksum) := goodIn_app (goodIn_of _ (by decide +kernel)) ggL_law_L_checksum
set_option maxRecDepth 20000 in
theorem ggL_law_X10_checksum : GoodIn wsL_law wsX10_checksum := goodIn_r _ [1160, 201, 1135, 1136, 5, 1137, 322, 323, 324, 208, 209, 210, 211, 212, 213, 214, 215, 169, 1238, 1239, 1240, 1241, 1242, 1243, 1244, 1245, 1246, 1247, 1248, 1249, 1250, 1251, 1252, 1253, 1254, 1255, 1256, 1257, 1258, 1259, 1260, 1261, 1262, 1263, 1264, 1265, 1266, 1267, 1268, 1269, 1270, 1271, 1272, 1273, 1274, 1275] (by decide +kernel) (by decide +kernel)
set_option maxRecDepth 20000 in
theorem gL_law_X10_checksum : GoodIn wsL_law (wsV RL 288 RX10 yX10_checksum wsX10_checksum) := goodIn_app (goodIn_of _ (by decide +kernel)) ggL_law_X10_checksum
set_option maxRecDepth 20000 in
theorem ggL_law_L_isValid : GoodIn wsL_law wsL_isValid := goodIn_ca (goodIn_r _ [1163, 274, 1164, 1165, 1166, 2, 1167, 16, 286, 287, 288, 289, 290, 1168, 834, 835, 15, 836, 62, 157, 158, 159, 160, 1222, 1223, 1224, 1225, 1226, 1227, 1228, 1229, 1230, 1231, 1232, 1233, 1234, 1235, 1236, 1237, 1276, 1277] (by decide +kernel) (by decide +kernel)) (goodIn_sub (fun _ h => List.mem_append_left _ (List.mem_append_left _ (List.mem_append_right _ h))) (by decide +kernel))
set_option maxRecDepth 20000 in
theorem gL_law_L_isValid : GoodIn wsL_law (va_wsS RL 289 yL_isValid wsL_isValid) := goodIn_app (goodIn_of _ (by decide +kernel)) ggL_law_L_isValid
