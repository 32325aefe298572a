set_option maxRecDepth 20000 in
theorem ggL_law_X10_isValid : GoodIn wsL_law wsX10_isValid := goodIn_r _ [1172, 201, 1135, 1136, 5, 1137, 322, 323, 324, 866, 867, 868, 869, 212, 213, 214, 215, 169, 208, 209, 210, 211, 1238, 1239, 1240, 1241, 1242, 1243, 1244, 1245, 1246, 1247, 1248, 1249, 1250, 1251, 1252, 1253, 1254, 1255, 1256, 1257, 1258, 1259, 1260, 1261, 1262, 1263, 1264, 1265, 1266, 1267, 1268, 1269, 1270, 1271, 1272, 1273, 1274, 1275] (by decide +kernel) (by decide +kernel)
set_option maxRecDepth 20000 in
theorem gL_law_X10_isValid : GoodIn wsL_law (wsV RL 291 RX10 yX10_isValid wsX10_isValid) := goodIn_app (goodIn_of _ (by decide +kernel)) ggL_law_X10_isValid
set_option maxRecDepth 20000 in
theorem ggL_law_X9_salvage : GoodIn wsL_law wsX9_salvage := goodIn_r _ [1176, 53, 16, 1177, 54, 1178, 1179, 1180, 52, 1181, 114, 1182, 1183, 845, 846, 15, 847, 62, 841, 842, 843, 829, 830, 831, 832, 833, 834, 835, 836, 157, 158, 159, 160, 1184, 1185, 1186, 1187, 111, 112, 113, 1188, 682, 19, 683, 306, 2, 307, 1189, 1190, 1191, 1192, 313, 314, 726, 399, 400, 401, 402, 403, 404, 1222, 1223, 1224, 1225, 1226, 1227, 1228, 1229, 1230, 1231, 1232, 1233, 1234, 1235, 1236, 1237, 1302, 1303, 1304, 1305, 1276, 1277] (by decide +kernel) (by decide +kernel)
set_option maxRecDepth 20000 in
theorem gL_law_X9_salvage : GoodIn wsL_law (wsV RL 292 RX9 yX9_salvage wsX9_salvage) := goodIn_app (goodIn_of _ (by decide +kernel)) ggL_law_X9_salvage
set_option maxRecDepth 20000 in
theorem ggL_law_X10_salvage : GoodIn wsL_law wsX10_salvage := goodIn_r _ [1196, 201, 189, 191, 190, 192, 188, 866, 867, 868, 5, 869, 212, 213, 214, 215, 169, 208, 209, 210, 211, 322, 323, 324, 1238, 1239, 1240, 1241, 1242, 1243, 1244, 1245, 1246, 1247, 1248, 1249, 1250, 1251, 1252, 1253, 1254, 1255, 1256, 1257, 1258, 1259, 1260, 1261, 1262, 1263, 1264, 1265, 1266, 1267, 1268, 1269, 1270, 1271, 1272, 1273, 1274, 1275] (by decide +kernel) (by decide +kernel)
set_option maxRecDepth 20000 in
theorem gL_law_X10_salvage : GoodIn wsL_law (wsV RL 295 RX10 yX10_salvage wsX10_salvage) := goodIn_app (goodIn_of _ (by decide +kernel)) ggL_law_X10_salvage
set_option maxRecDepth 20000 in
theorem ggL_law_L_salvaged : GoodIn wsL_law wsL_salvaged := goodIn_ca (goodIn_ca (goodIn_r _ [1199, 274, 275, 1200, 1201, 1202, 2, 1203, 53, 1177, 1204, 1205, 1206, 726, 399, 400, 401, 402, 403, 404, 286, 287, 288, 289, 290, 1025, 1026, 1027, 280, 281, 732, 733, 734, 305, 306, 307, 1222, 1223, 1224, 1225, 1226, 1227, 1228, 1229, 1230, 1231, 1232, 1233, 1234, 1235, 1236, 1237, 1302, 1303, 1304, 1305] (by decide +kernel) (by decide +kernel)) (goodIn_sub (fun _ h => List.mem_append_left _ (List.mem_append_left _ (List.mem_append_right _ h))) (by decide +kernel))) (goodIn_sub (fun _ h => List.mem_append_left _ (List.mem_append_left _ (List.mem_append_left _ (List.mem_append_right _ h)))) (by decide +kernel))
set_option maxRecDepth 20000 in
theorem gL_law_L_salvaged : GoodIn wsL_law (va_wsS RL 296 yL_salvaged wsL_salvaged) := goodIn_app (goodIn_of _ (by decide +kernel)) ggL_law_L_salvaged
set_option maxRecDepth 20000 in
theorem ggL_law_X10_salvaged : GoodIn wsL_law wsX10_salvaged := goodIn_r _ [1210, 189, 201, 190, 191, 192, 322, 323, 5, 324, 1238, 1239, 1240, 1241, 1242, 1243, 1244, 1245, 1246, 1247, 1248, 1249, 1250, 1251, 1252, 1253, 1254, 1255, 1256, 1257, 1258, 1259, 1260, 1261, 1262, 1263, 1264, 1265, 1266, 1267, 1268, 1269, 1270, 1271, 1272, 1273, 1274, 1275] (by decide +kernel) (by decide +kernel)
set_option maxRecDepth 20000 in
theorem gL_law_X10_salvaged : GoodIn wsL_law (wsV RL 298 RX10 yX10_salvaged wsX10_salvaged) := goodIn_app (goodIn_of _ (by decide +kernel)) ggL_law_X10_salvaged
set_option maxRecDepth 20000 in
theorem ggL_law_L_adopt : GoodIn wsL_law wsL_adopt := goodIn_ca (goodIn_ca (goodIn_r _ [1213, 274, 247, 1214, 1215, 1216, 2, 1217, 53, 1177, 31, 282, 1204, 283, 284, 285, 286, 287, 288, 289, 290, 294, 295, 296, 297, 252, 253, 254, 305, 306, 307, 308, 309, 310, 24, 311, 77, 78, 312, 76, 313, 314, 726, 399, 400, 401, 402, 403, 404, 1222, 1223, 1224, 1225, 1226, 1227, 1228, 1229, 1230, 1231, 1232, 1233, 1234, 1235, 1236, 1237, 1302, 1303, 1304, 1305, 1306, 1307, 1308, 1309, 1284, 1285, 1286] (by decide +kernel) (by decide +kernel)) (goodIn_sub (fun _ h => List.mem_append_left _ (List.mem_append_left _ (List.mem_append_right _ h))) (by decide +kernel))) (goodIn_sub (fun _ h => List.mem_append_left _ (List.mem_append_left _ (List.mem_append_left _ (List.mem_append_left _ (List.mem_append_right _ h))))) (by decide +kernel))
set_option maxRecDepth 20000 in
theorem gL_law_L_adopt : GoodIn wsL_law (va_wsS RL 299 yL_adopt wsL_adopt) := goodIn_app (goodIn_of _ (by decide +kernel)) ggL_law_L_adopt
set_option maxRecDepth 20000 in
theorem ggL_law_X10_adopt : GoodIn wsL_law wsX10_adopt := goodIn_r _ [1221, 176, 201, 189, 190, 319, 320, 5, 321, 322, 323, 324, 332, 333, 334, 335, 177, 178, 179, 1238, 1239, 1240, 1241, 1242, 1243, 1244, 1245, 1246, 1247, 1248, 1249, 1250, 1251, 1252, 1253, 1254, 1255, 1256, 1257, 1258, 1259, 1260, 1261, 1262, 1263, 1264, 1265, 1266, 1267, 1268, 1269, 1270, 1271, 1272, 1273, 1274, 1275] (by decide +kernel) (by decide +kernel)
set_option maxRecDepth 20000 in
theorem gL_law_X10_adopt : GoodIn wsL_law (wsV RL 301 RX10 yX10_adopt wsX10_adopt) := goodIn_app (goodIn_of _ (by decide +kernel)) ggL_law_X10_adopt
