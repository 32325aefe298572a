set_option maxRecDepth 20000 in
theorem ggL_law_X10_logged : GoodIn wsL_law wsX10_logged := goodIn_r _ [1031, 807, 201, 187, 322, 323, 5, 324, 1238, 1239, 1240, 1241, 1242, 1243, 1244, 1245, 1246, 1247, 1248, 1249, 1250, 1251, 1252, 1253, 1254, 1255, 1256, 1257, 1258, 1259, 1260, 1261, 1262, 1263, 1264, 1265, 1266, 1267, 1268, 1269, 1270, 1271, 1272, 1273, 1274, 1275] (by decide +kernel) (by decide +kernel)
set_option maxRecDepth 20000 in
theorem gL_law_X10_logged : GoodIn wsL_law (wsV RL 258 RX10 yX10_logged wsX10_logged) := goodIn_app (goodIn_of _ (by decide +kernel)) ggL_law_X10_logged
set_option maxRecDepth 20000 in
theorem ggL_law_L_statistic : GoodIn wsL_law wsL_statistic := goodIn_ca (goodIn_r _ [1034, 275, 1035, 1036, 1037, 2, 1038, 54, 1025, 1026, 1027, 280, 281, 1222, 1223, 1224, 1225, 1226, 1227, 1228, 1229, 1230, 1231, 1232, 1233, 1234, 1235, 1236, 1237] (by decide +kernel) (by decide +kernel)) (goodIn_sub (fun _ h => List.mem_append_left _ (List.mem_append_left _ (List.mem_append_left _ (List.mem_append_right _ h)))) (by decide +kernel))
set_option maxRecDepth 20000 in
theorem gL_law_L_statistic : GoodIn wsL_law (va_wsS RL 259 yL_statistic wsL_statistic) := goodIn_app (goodIn_of _ (by decide +kernel)) ggL_law_L_statistic
set_option maxRecDepth 20000 in
theorem ggL_law_X10_statistic : GoodIn wsL_law wsX10_statistic := goodIn_r _ [1042, 201, 188, 322, 323, 5, 324, 1238, 1239, 1240, 1241, 1242, 1243, 1244, 1245, 1246, 1247, 1248, 1249, 1250, 1251, 1252, 1253, 1254, 1255, 1256, 1257, 1258, 1259, 1260, 1261, 1262, 1263, 1264, 1265, 1266, 1267, 1268, 1269, 1270, 1271, 1272, 1273, 1274, 1275] (by decide +kernel) (by decide +kernel)
set_option maxRecDepth 20000 in
theorem gL_law_X10_statistic : GoodIn wsL_law (wsV RL 261 RX10 yX10_statistic wsX10_statistic) := goodIn_app (goodIn_of _ (by decide +kernel)) ggL_law_X10_statistic
set_option maxRecDepth 20000 in
theorem ggL_law_L_pin : GoodIn wsL_law wsL_pin := goodIn_ca (goodIn_r _ [1045, 247, 1046, 1047, 1048, 2, 1049, 252, 253, 37, 35, 20, 255, 256, 257, 258, 55, 657, 658, 659, 19, 660, 67, 148, 149, 150, 151, 68, 69, 70, 71, 72, 1222, 1223, 1224, 1225, 1226, 1227, 1228, 1229, 1230, 1231, 1232, 1233, 1234, 1235, 1236, 1237, 1278, 1279, 1280, 1281, 1282, 1283] (by decide +kernel) (by decide +kernel)) (goodIn_sub (fun _ h => List.mem_append_left _ (List.mem_append_left _ (List.mem_append_left _ (List.mem_append_left _ (List.mem_append_right _ h))))) (by decide +kernel))
set_option maxRecDepth 20000 in
theorem gL_law_L_pin : GoodIn wsL_law (va_wsS RL 262 yL_pin wsL_pin) := goodIn_app (goodIn_of _ (by decide +kernel)) ggL_law_L_pin
set_option maxRecDepth 20000 in
theorem ggL_law_X10_pin : GoodIn wsL_law wsX10_pin := goodIn_r _ [1053, 201, 202, 175, 170, 171, 172, 445, 149, 150, 151, 173, 174, 263, 264, 265, 5, 266, 1238, 1239, 1240, 1241, 1242, 1243, 1244, 1245, 1246, 1247, 1248, 1249, 1250, 1251, 1252, 1253, 1254, 1255, 1256, 1257, 1258, 1259, 1260, 1261, 1262, 1263, 1264, 1265, 1266, 1267, 1268, 1269, 1270, 1271, 1272, 1273, 1274, 1275] (by decide +kernel) (by decide +kernel)
set_option maxRecDepth 20000 in
theorem gL_law_X10_pin : GoodIn wsL_law (wsV RL 264 RX10 yX10_pin wsX10_pin) := goodIn_app (goodIn_of _ (by decide +kernel)) ggL_law_X10_pin
set_option maxRecDepth 20000 in
theorem ggL_law_L_pinnedValue : GoodIn wsL_law wsL_pinnedValue := goodIn_ca (goodIn_ca (goodIn_ca (goodIn_ca (goodIn_r _ [1056, 274, 275, 247, 339, 1057, 1058, 1059, 2, 1060, 35, 286, 287, 288, 289, 290, 291, 292, 293, 280, 281, 1061, 1062, 1063, 1064, 252, 253, 37, 910, 911, 912, 348, 349, 304, 355, 305, 306, 307, 1222, 1223, 1224, 1225, 1226, 1227, 1228, 1229, 1230, 1231, 1232, 1233, 1234, 1235, 1236, 1237, 1278, 1279, 1280, 1281, 1282, 1283] (by decide +kernel) (by decide +kernel)) (goodIn_sub (fun _ h => List.mem_append_left _ (List.mem_append_left _ (List.mem_append_right _ h))) (by decide +kernel))) (goodIn_sub (fun _ h => List.mem_append_left _ (List.mem_append_left _ (List.mem_append_left _ (List.mem_append_right _ h)))) (by decide +kernel))) (goodIn_sub (fun _ h => List.mem_append_left _ (List.mem_append_left _ (List.mem_append_left _ (List.mem_append_left _ (List.mem_append_right _ h))))) (by decide +kernel))) (goodIn_sub (fun _ h => List.mem_append_left _ (List.mem_append_right _ h)) (by decide +kernel))
set_option maxRecDepth 20000 in
theorem gL_law_L_pinnedValue : GoodIn wsL_law (va_wsS RL 265 yL_pinnedValue wsL_pinnedValue) := goodIn_app (goodIn_of _ (by decide +kernel)) ggL_law_L_pinnedValue
set_option maxRecDepth 20000 in
theorem ggL_law_X10_pinnedValue : GoodIn wsL_law wsX10_pinnedValue := goodIn_r _ [1068, 175, 173, 201, 174, 1069, 1070, 5, 1071, 322, 323, 324, 325, 326, 327, 1238, 1239, 1240, 1241, 1242, 1243, 1244, 1245, 1246, 1247, 1248, 1249, 1250, 1251, 1252, 1253, 1254, 1255, 1256, 1257, 1258, 1259, 1260, 1261, 1262, 1263, 1264, 1265, 1266, 1267, 1268, 1269, 1270, 1271, 1272, 1273, 1274, 1275] (by decide +kernel) (by decide +kernel)
set_option maxRecDepth 20000 in
theorem gL_law_X10_pinnedValue : GoodIn wsL_law (wsV RL 267 RX10 yX10_pinnedValue wsX10_pinnedValue) := goodIn_app (goodIn_of _ (by decide +kernel)) ggL_law_X10_pinnedValue
set_option maxRecDepth 20000 in
theorem ggL_law_L_pinnedCommit : GoodIn wsL_law wsL_pinnedCommit := goodIn_ca (goodIn_ca (goodIn_r _ [1074, 274, 247, 1075, 1076, 1077, 2, 1078, 35, 229, 286, 287, 288, 289, 290, 1061, 1062, 1063, 1064, 252, 253, 37, 1222, 1223, 1224, 1225, 1226, 1227, 1228, 1229, 1230, 1231, 1232, 1233, 1234, 1235, 1236, 1237, 1278, 1279, 1280, 1281, 1282, 1283] (by decide +kernel) (by decide +kernel)) (goodIn_sub (fun _ h => List.mem_append_left _ (List.mem_append_left _ (List.mem_append_right _ h))) (by decide +kernel))) (goodIn_sub (fun _ h => List.mem_append_left _ (List.mem_append_left _ (List.mem_append_left _ (List.mem_append_left _ (List.mem_append_right _ h))))) (by decide +kernel))
set_option maxRecDepth 20000 in
theorem gL_law_L_pinnedCommit : GoodIn wsL_law (va_wsS RL 268 yL_pinnedCommit wsL_pinnedCommit) := goodIn_app (goodIn_of _ (by decide +kernel)) ggL_law_L_pinnedCommit
