set_option maxRecDepth 20000 in
theorem gL_law_X10_commit : GoodIn wsL_law (wsV RL 216 RX10 yX10_commit wsX10_commit) := goodIn_app (goodIn_of _ (by decide +kernel)) ggL_law_X10_commit
set_option maxRecDepth 20000 in
theorem ggL_law_L_reopen : GoodIn wsL_law wsL_reopen := goodIn_ca (goodIn_r _ [814, 247, 815, 816, 817, 2, 818, 252, 253, 55, 54, 20, 16, 229, 230, 231, 232, 233, 31, 34, 37, 234, 235, 236, 57, 237, 123, 122, 120, 238, 239, 240, 24, 241, 77, 78, 819, 820, 821, 822, 823, 824, 825, 826, 15, 827, 62, 828, 829, 830, 831, 832, 833, 834, 835, 836, 157, 158, 159, 160, 837, 838, 839, 840, 841, 842, 843, 844, 845, 846, 847, 848, 849, 850, 19, 851, 71, 852, 70, 72, 69, 67, 853, 854, 855, 856, 857, 68, 306, 307, 688, 682, 683, 313, 314, 1222, 1223, 1224, 1225, 1226, 1227, 1228, 1229, 1230, 1231, 1232, 1233, 1234, 1235, 1236, 1237, 1278, 1279, 1280, 1281, 1282, 1283, 1306, 1307, 1308, 1309, 1284, 1285, 1286, 1276, 1277] (by decide +kernel) (by decide +kernel)) (goodIn_sub (fun _ h => List.mem_append_left _ (List.mem_append_left _ (List.mem_append_left _ (List.mem_append_left _ (List.mem_append_right _ h))))) (by decide +kernel))
set_option maxRecDepth 20000 in
theorem gL_law_L_reopen : GoodIn wsL_law (va_wsS RL 217 yL_reopen wsL_reopen) := goodIn_app (goodIn_of _ (by decide +kernel)) ggL_law_L_reopen
set_option maxRecDepth 20000 in
theorem ggL_law_X10_reopen : GoodIn wsL_law wsX10_reopen := goodIn_r _ [861, 201, 202, 188, 203, 170, 171, 172, 173, 174, 216, 217, 218, 5, 219, 220, 175, 221, 222, 223, 224, 176, 180, 177, 862, 863, 864, 865, 781, 866, 867, 868, 869, 212, 213, 214, 215, 169, 208, 209, 210, 211, 322, 323, 324, 870, 871, 872, 263, 264, 265, 266, 1238, 1239, 1240, 1241, 1242, 1243, 1244, 1245, 1246, 1247, 1248, 1249, 1250, 1251, 1252, 1253, 1254, 1255, 1256, 1257, 1258, 1259, 1260, 1261, 1262, 1263, 1264, 1265, 1266, 1267, 1268, 1269, 1270, 1271, 1272, 1273, 1274, 1275] (by decide +kernel) (by decide +kernel)
set_option maxRecDepth 20000 in
theorem gL_law_X10_reopen : GoodIn wsL_law (wsV RL 219 RX10 yX10_reopen wsX10_reopen) := goodIn_app (goodIn_of _ (by decide +kernel)) ggL_law_X10_reopen
set_option maxRecDepth 20000 in
theorem ggL_law_X9_isOpen : GoodIn wsL_law wsX9_isOpen := goodIn_r _ [876, 55, 1222, 1223, 1224, 1225, 1226, 1227, 1228, 1229, 1230, 1231, 1232, 1233, 1234, 1235, 1236, 1237] (by decide +kernel) (by decide +kernel)
set_option maxRecDepth 20000 in
theorem gL_law_X9_isOpen : GoodIn wsL_law (wsV RL 220 RX9 yX9_isOpen wsX9_isOpen) := goodIn_app (goodIn_of _ (by decide +kernel)) ggL_law_X9_isOpen
set_option maxRecDepth 20000 in
theorem ggL_law_X10_isOpen : GoodIn wsL_law wsX10_isOpen := goodIn_r _ [880, 201, 202, 1238, 1239, 1240, 1241, 1242, 1243, 1244, 1245, 1246, 1247, 1248, 1249, 1250, 1251, 1252, 1253, 1254, 1255, 1256, 1257, 1258, 1259, 1260, 1261, 1262, 1263, 1264, 1265, 1266, 1267, 1268, 1269, 1270, 1271, 1272, 1273, 1274, 1275] (by decide +kernel) (by decide +kernel)
set_option maxRecDepth 20000 in
theorem gL_law_X10_isOpen : GoodIn wsL_law (wsV RL 224 RX10 yX10_isOpen wsX10_isOpen) := goodIn_app (goodIn_of _ (by decide +kernel)) ggL_law_X10_isOpen
set_option maxRecDepth 20000 in
theorem ggL_law_L_commitNumber : GoodIn wsL_law wsL_commitNumber := goodIn_ca (goodIn_r _ [883, 247, 884, 885, 886, 2, 887, 20, 229, 255, 256, 257, 258, 252, 253, 55, 1222, 1223, 1224, 1225, 1226, 1227, 1228, 1229, 1230, 1231, 1232, 1233, 1234, 1235, 1236, 1237, 1278, 1279, 1280, 1281, 1282, 1283] (by decide +kernel) (by decide +kernel)) (goodIn_sub (fun _ h => List.mem_append_left _ (List.mem_append_left _ (List.mem_append_left _ (List.mem_append_left _ (List.mem_append_right _ h))))) (by decide +kernel))
set_option maxRecDepth 20000 in
theorem gL_law_L_commitNumber : GoodIn wsL_law (va_wsS RL 225 yL_commitNumber wsL_commitNumber) := goodIn_app (goodIn_of _ (by decide +kernel)) ggL_law_L_commitNumber
set_option maxRecDepth 20000 in
theorem ggL_law_X10_commitNumber : GoodIn wsL_law wsX10_commitNumber := goodIn_r _ [891, 202, 201, 170, 1238, 1239, 1240, 1241, 1242, 1243, 1244, 1245, 1246, 1247, 1248, 1249, 1250, 1251, 1252, 1253, 1254, 1255, 1256, 1257, 1258, 1259, 1260, 1261, 1262, 1263, 1264, 1265, 1266, 1267, 1268, 1269, 1270, 1271, 1272, 1273, 1274, 1275] (by decide +kernel) (by decide +kernel)
set_option maxRecDepth 20000 in
theorem gL_law_X10_commitNumber : GoodIn wsL_law (wsV RL 227 RX10 yX10_commitNumber wsX10_commitNumber) := goodIn_app (goodIn_of _ (by decide +kernel)) ggL_law_X10_commitNumber
set_option maxRecDepth 20000 in
theorem ggL_law_L_size : GoodIn wsL_law wsL_size := goodIn_ca (goodIn_r _ [894, 247, 895, 896, 897, 2, 898, 20, 304, 255, 256, 257, 258, 252, 253, 55, 726, 399, 400, 401, 402, 403, 404, 1222, 1223, 1224, 1225, 1226, 1227, 1228, 1229, 1230, 1231, 1232, 1233, 1234, 1235, 1236, 1237, 1278, 1279, 1280, 1281, 1282, 1283] (by decide +kernel) (by decide +kernel)) (goodIn_sub (fun _ h => List.mem_append_left _ (List.mem_append_left _ (List.mem_append_left _ (List.mem_append_left _ (List.mem_append_right _ h))))) (by decide +kernel))
set_option maxRecDepth 20000 in
theorem gL_law_L_size : GoodIn wsL_law (va_wsS RL 228 yL_size wsL_size) := goodIn_app (goodIn_of _ (by decide +kernel)) ggL_law_L_size
set_option maxRecDepth 20000 in
theorem ggL_law_X10_size : GoodIn wsL_law wsX10_size := goodIn_r _ [902, 202, 201, 173, 1238, 1239, 1240, 1241, 1242, 1243, 1244, 1245, 1246, 1247, 1248, 1249, 1250, 1251, 1252, 1253, 1254, 1255, 1256, 1257, 1258, 1259, 1260, 1261, 1262, 1263, 1264, 1265, 1266, 1267, 1268, 1269, 1270, 1271, 1272, 1273, 1274, 1275] (by decide +kernel) (by decide +kernel)
set_option maxRecDepth 20000 in
theorem gL_law_X10_size : GoodIn wsL_law (wsV RL 230 RX10 yX10_size wsX10_size) := goodIn_app (goodIn_of _ (by decide +kernel)) ggL_law_X10_size
set_option maxRecDepth 20000 in
theorem ggL_law_L_value : GoodIn wsL_law wsL_value := goodIn_ca (goodIn_ca (goodIn_ca (goodIn_r _ [905, 247, 275, 339, 906, 907, 908, 2, 909, 20, 255, 256, 257, 258, 252, 253, 55, 291, 292, 293, 280, 281, 910, 911, 912, 348, 349, 304, 355, 305, 306, 307, 1222, 1223, 1224, 1225, 1226, 1227, 1228, 1229, 1230, 1231, 1232, 1233, 1234, 1235, 1236, 1237, 1278, 1279, 1280, 1281, 1282, 1283] (by decide +kernel) (by decide +kernel)) (goodIn_sub (fun _ h => List.mem_append_left _ (List.mem_append_left _ (List.mem_append_left _ (List.mem_append_left _ (List.mem_append_right _ h))))) (by decide +kernel))) (goodIn_sub (fun _ h => List.mem_append_left _ (List.mem_append_left _ (List.mem_append_left _ (List.mem_append_right _ h)))) (by decide +kernel))) (goodIn_sub (fun _ h => List.mem_append_left _ (List.mem_append_right _ h)) (by decide +kernel))
set_option maxRecDepth 20000 in
theorem gL_law_L_value : GoodIn wsL_law (va_wsS RL 231 yL_value wsL_value) := goodIn_app (goodIn_of _ (by decide +kernel)) ggL_law_L_value
