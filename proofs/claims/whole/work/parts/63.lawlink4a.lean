set_option maxRecDepth 20000 in
theorem ggL_law_X10_value : GoodIn wsL_law wsX10_value := goodIn_r _ [916, 202, 173, 201, 174, 325, 326, 5, 327, 322, 323, 324, 1238, 1239, 1240, 1241, 1242, 1243, 1244, 1245, 1246, 1247, 1248, 1249, 1250, 1251, 1252, 1253, 1254, 1255, 1256, 1257, 1258, 1259, 1260, 1261, 1262, 1263, 1264, 1265, 1266, 1267, 1268, 1269, 1270, 1271, 1272, 1273, 1274, 1275] (by decide +kernel) (by decide +kernel)
set_option maxRecDepth 20000 in
theorem gL_law_X10_value : GoodIn wsL_law (wsV RL 233 RX10 yX10_value wsX10_value) := goodIn_app (goodIn_of _ (by decide +kernel)) ggL_law_X10_value
set_option maxRecDepth 20000 in
theorem ggL_law_L_keyAt : GoodIn wsL_law wsL_keyAt := goodIn_ca (goodIn_ca (goodIn_r _ [919, 247, 274, 920, 921, 922, 2, 923, 20, 304, 255, 256, 257, 258, 252, 253, 55, 726, 399, 400, 401, 402, 403, 404, 286, 287, 288, 289, 290, 732, 733, 734, 305, 306, 307, 1222, 1223, 1224, 1225, 1226, 1227, 1228, 1229, 1230, 1231, 1232, 1233, 1234, 1235, 1236, 1237, 1278, 1279, 1280, 1281, 1282, 1283] (by decide +kernel) (by decide +kernel)) (goodIn_sub (fun _ h => List.mem_append_left _ (List.mem_append_left _ (List.mem_append_left _ (List.mem_append_left _ (List.mem_append_right _ h))))) (by decide +kernel))) (goodIn_sub (fun _ h => List.mem_append_left _ (List.mem_append_left _ (List.mem_append_right _ h))) (by decide +kernel))
set_option maxRecDepth 20000 in
theorem gL_law_L_keyAt : GoodIn wsL_law (va_wsS RL 234 yL_keyAt wsL_keyAt) := goodIn_app (goodIn_of _ (by decide +kernel)) ggL_law_L_keyAt
set_option maxRecDepth 20000 in
theorem ggL_law_X10_keyAt : GoodIn wsL_law wsX10_keyAt := goodIn_r _ [927, 202, 201, 173, 263, 264, 265, 5, 266, 1238, 1239, 1240, 1241, 1242, 1243, 1244, 1245, 1246, 1247, 1248, 1249, 1250, 1251, 1252, 1253, 1254, 1255, 1256, 1257, 1258, 1259, 1260, 1261, 1262, 1263, 1264, 1265, 1266, 1267, 1268, 1269, 1270, 1271, 1272, 1273, 1274, 1275] (by decide +kernel) (by decide +kernel)
set_option maxRecDepth 20000 in
theorem gL_law_X10_keyAt : GoodIn wsL_law (wsV RL 236 RX10 yX10_keyAt wsX10_keyAt) := goodIn_app (goodIn_of _ (by decide +kernel)) ggL_law_X10_keyAt
set_option maxRecDepth 20000 in
theorem ggL_law_L_sum : GoodIn wsL_law wsL_sum := goodIn_ca (goodIn_ca (goodIn_r _ [930, 247, 275, 931, 932, 933, 2, 934, 280, 281, 20, 304, 355, 255, 256, 257, 258, 252, 253, 55, 291, 292, 293, 305, 306, 307, 1222, 1223, 1224, 1225, 1226, 1227, 1228, 1229, 1230, 1231, 1232, 1233, 1234, 1235, 1236, 1237, 1278, 1279, 1280, 1281, 1282, 1283] (by decide +kernel) (by decide +kernel)) (goodIn_sub (fun _ h => List.mem_append_left _ (List.mem_append_left _ (List.mem_append_left _ (List.mem_append_right _ h)))) (by decide +kernel))) (goodIn_sub (fun _ h => List.mem_append_left _ (List.mem_append_left _ (List.mem_append_left _ (List.mem_append_left _ (List.mem_append_right _ h))))) (by decide +kernel))
set_option maxRecDepth 20000 in
theorem gL_law_L_sum : GoodIn wsL_law (va_wsS RL 237 yL_sum wsL_sum) := goodIn_app (goodIn_of _ (by decide +kernel)) ggL_law_L_sum
set_option maxRecDepth 20000 in
theorem ggL_law_X10_sum : GoodIn wsL_law wsX10_sum := goodIn_r _ [938, 202, 201, 173, 174, 325, 326, 5, 327, 322, 323, 324, 1238, 1239, 1240, 1241, 1242, 1243, 1244, 1245, 1246, 1247, 1248, 1249, 1250, 1251, 1252, 1253, 1254, 1255, 1256, 1257, 1258, 1259, 1260, 1261, 1262, 1263, 1264, 1265, 1266, 1267, 1268, 1269, 1270, 1271, 1272, 1273, 1274, 1275] (by decide +kernel) (by decide +kernel)
set_option maxRecDepth 20000 in
theorem gL_law_X10_sum : GoodIn wsL_law (wsV RL 239 RX10 yX10_sum wsX10_sum) := goodIn_app (goodIn_of _ (by decide +kernel)) ggL_law_X10_sum
set_option maxRecDepth 20000 in
theorem ggL_law_L_pageBlock : GoodIn wsL_law wsL_pageBlock := goodIn_ca (goodIn_ca (goodIn_r _ [941, 247, 274, 942, 943, 944, 2, 945, 20, 731, 255, 256, 257, 258, 252, 253, 55, 286, 287, 288, 289, 290, 1222, 1223, 1224, 1225, 1226, 1227, 1228, 1229, 1230, 1231, 1232, 1233, 1234, 1235, 1236, 1237, 1278, 1279, 1280, 1281, 1282, 1283] (by decide +kernel) (by decide +kernel)) (goodIn_sub (fun _ h => List.mem_append_left _ (List.mem_append_left _ (List.mem_append_left _ (List.mem_append_left _ (List.mem_append_right _ h))))) (by decide +kernel))) (goodIn_sub (fun _ h => List.mem_append_left _ (List.mem_append_left _ (List.mem_append_right _ h))) (by decide +kernel))
set_option maxRecDepth 20000 in
theorem gL_law_L_pageBlock : GoodIn wsL_law (va_wsS RL 240 yL_pageBlock wsL_pageBlock) := goodIn_app (goodIn_of _ (by decide +kernel)) ggL_law_L_pageBlock
set_option maxRecDepth 20000 in
theorem ggL_law_X10_pageBlock : GoodIn wsL_law wsX10_pageBlock := goodIn_r _ [949, 202, 201, 172, 322, 323, 5, 324, 1238, 1239, 1240, 1241, 1242, 1243, 1244, 1245, 1246, 1247, 1248, 1249, 1250, 1251, 1252, 1253, 1254, 1255, 1256, 1257, 1258, 1259, 1260, 1261, 1262, 1263, 1264, 1265, 1266, 1267, 1268, 1269, 1270, 1271, 1272, 1273, 1274, 1275] (by decide +kernel) (by decide +kernel)
set_option maxRecDepth 20000 in
theorem gL_law_X10_pageBlock : GoodIn wsL_law (wsV RL 242 RX10 yX10_pageBlock wsX10_pageBlock) := goodIn_app (goodIn_of _ (by decide +kernel)) ggL_law_X10_pageBlock
set_option maxRecDepth 20000 in
theorem ggL_law_L_freeCount : GoodIn wsL_law wsL_freeCount := goodIn_ca (goodIn_r _ [952, 247, 953, 954, 955, 2, 956, 255, 256, 257, 258, 252, 253, 55, 716, 717, 718, 719, 20, 720, 37, 35, 721, 313, 314, 722, 723, 724, 19, 725, 72, 67, 726, 399, 400, 401, 402, 403, 404, 1222, 1223, 1224, 1225, 1226, 1227, 1228, 1229, 1230, 1231, 1232, 1233, 1234, 1235, 1236, 1237, 1278, 1279, 1280, 1281, 1282, 1283] (by decide +kernel) (by decide +kernel)) (goodIn_sub (fun _ h => List.mem_append_left _ (List.mem_append_left _ (List.mem_append_left _ (List.mem_append_left _ (List.mem_append_right _ h))))) (by decide +kernel))
set_option maxRecDepth 20000 in
theorem gL_law_L_freeCount : GoodIn wsL_law (va_wsS RL 243 yL_freeCount wsL_freeCount) := goodIn_app (goodIn_of _ (by decide +kernel)) ggL_law_L_freeCount
