set_option maxRecDepth 20000 in
theorem ggL_law_X10_freeCount : GoodIn wsL_law wsX10_freeCount := goodIn_r _ [960, 202, 201, 783, 784, 785, 5, 786, 787, 788, 789, 790, 175, 791, 792, 793, 794, 171, 172, 1238, 1239, 1240, 1241, 1242, 1243, 1244, 1245, 1246, 1247, 1248, 1249, 1250, 1251, 1252, 1253, 1254, 1255, 1256, 1257, 1258, 1259, 1260, 1261, 1262, 1263, 1264, 1265, 1266, 1267, 1268, 1269, 1270, 1271, 1272, 1273, 1274, 1275] (by decide +kernel) (by decide +kernel)
set_option maxRecDepth 20000 in
theorem gL_law_X10_freeCount : GoodIn wsL_law (wsV RL 245 RX10 yX10_freeCount wsX10_freeCount) := goodIn_app (goodIn_of _ (by decide +kernel)) ggL_law_X10_freeCount
set_option maxRecDepth 20000 in
theorem ggL_law_L_freeBlock : GoodIn wsL_law wsL_freeBlock := goodIn_ca (goodIn_ca (goodIn_r _ [963, 247, 274, 964, 965, 966, 2, 967, 255, 256, 257, 258, 252, 253, 55, 716, 717, 718, 719, 20, 720, 37, 35, 721, 313, 314, 722, 723, 724, 19, 725, 72, 67, 726, 399, 400, 401, 402, 403, 404, 286, 287, 288, 289, 290, 732, 733, 734, 305, 306, 307, 1222, 1223, 1224, 1225, 1226, 1227, 1228, 1229, 1230, 1231, 1232, 1233, 1234, 1235, 1236, 1237, 1278, 1279, 1280, 1281, 1282, 1283] (by decide +kernel) (by decide +kernel)) (goodIn_sub (fun _ h => List.mem_append_left _ (List.mem_append_left _ (List.mem_append_left _ (List.mem_append_left _ (List.mem_append_right _ h))))) (by decide +kernel))) (goodIn_sub (fun _ h => List.mem_append_left _ (List.mem_append_left _ (List.mem_append_right _ h))) (by decide +kernel))
set_option maxRecDepth 20000 in
theorem gL_law_L_freeBlock : GoodIn wsL_law (va_wsS RL 246 yL_freeBlock wsL_freeBlock) := goodIn_app (goodIn_of _ (by decide +kernel)) ggL_law_L_freeBlock
set_option maxRecDepth 20000 in
theorem ggL_law_X10_freeBlock : GoodIn wsL_law wsX10_freeBlock := goodIn_r _ [971, 202, 201, 787, 788, 789, 5, 790, 175, 791, 792, 793, 794, 171, 172, 263, 264, 265, 266, 1238, 1239, 1240, 1241, 1242, 1243, 1244, 1245, 1246, 1247, 1248, 1249, 1250, 1251, 1252, 1253, 1254, 1255, 1256, 1257, 1258, 1259, 1260, 1261, 1262, 1263, 1264, 1265, 1266, 1267, 1268, 1269, 1270, 1271, 1272, 1273, 1274, 1275] (by decide +kernel) (by decide +kernel)
set_option maxRecDepth 20000 in
theorem gL_law_X10_freeBlock : GoodIn wsL_law (wsV RL 248 RX10 yX10_freeBlock wsX10_freeBlock) := goodIn_app (goodIn_of _ (by decide +kernel)) ggL_law_X10_freeBlock
set_option maxRecDepth 20000 in
theorem ggL_law_L_wrongBlock : GoodIn wsL_law wsL_wrongBlock := goodIn_ca (goodIn_r _ [974, 247, 975, 976, 977, 2, 978, 20, 16, 255, 256, 257, 258, 252, 253, 55, 979, 980, 981, 19, 982, 852, 71, 72, 67, 983, 830, 831, 15, 832, 62, 833, 834, 835, 836, 157, 158, 159, 160, 984, 985, 986, 987, 70, 988, 989, 990, 991, 992, 993, 994, 995, 69, 68, 688, 682, 683, 306, 307, 1222, 1223, 1224, 1225, 1226, 1227, 1228, 1229, 1230, 1231, 1232, 1233, 1234, 1235, 1236, 1237, 1276, 1277, 1278, 1279, 1280, 1281, 1282, 1283] (by decide +kernel) (by decide +kernel)) (goodIn_sub (fun _ h => List.mem_append_left _ (List.mem_append_left _ (List.mem_append_left _ (List.mem_append_left _ (List.mem_append_right _ h))))) (by decide +kernel))
set_option maxRecDepth 20000 in
theorem gL_law_L_wrongBlock : GoodIn wsL_law (va_wsS RL 249 yL_wrongBlock wsL_wrongBlock) := goodIn_app (goodIn_of _ (by decide +kernel)) ggL_law_L_wrongBlock
set_option maxRecDepth 20000 in
theorem ggL_law_X10_wrongBlock : GoodIn wsL_law wsX10_wrongBlock := goodIn_r _ [999, 202, 201, 1000, 1001, 1002, 5, 1003, 203, 170, 171, 172, 791, 792, 793, 794, 866, 867, 868, 869, 212, 213, 214, 215, 169, 208, 209, 210, 211, 1004, 1005, 1006, 1007, 173, 174, 1238, 1239, 1240, 1241, 1242, 1243, 1244, 1245, 1246, 1247, 1248, 1249, 1250, 1251, 1252, 1253, 1254, 1255, 1256, 1257, 1258, 1259, 1260, 1261, 1262, 1263, 1264, 1265, 1266, 1267, 1268, 1269, 1270, 1271, 1272, 1273, 1274, 1275] (by decide +kernel) (by decide +kernel)
set_option maxRecDepth 20000 in
theorem gL_law_X10_wrongBlock : GoodIn wsL_law (wsV RL 251 RX10 yX10_wrongBlock wsX10_wrongBlock) := goodIn_app (goodIn_of _ (by decide +kernel)) ggL_law_X10_wrongBlock
set_option maxRecDepth 20000 in
theorem ggL_law_X9_logSize : GoodIn wsL_law wsX9_logSize := goodIn_r _ [1011, 49, 1012, 1222, 1223, 1224, 1225, 1226, 1227, 1228, 1229, 1230, 1231, 1232, 1233, 1234, 1235, 1236, 1237, 1300, 1301] (by decide +kernel) (by decide +kernel)
set_option maxRecDepth 20000 in
theorem gL_law_X9_logSize : GoodIn wsL_law (wsV RL 252 RX9 yX9_logSize wsX9_logSize) := goodIn_app (goodIn_of _ (by decide +kernel)) ggL_law_X9_logSize
set_option maxRecDepth 20000 in
theorem ggL_law_X10_logSize : GoodIn wsL_law wsX10_logSize := goodIn_r _ [1016, 201, 807, 1238, 1239, 1240, 1241, 1242, 1243, 1244, 1245, 1246, 1247, 1248, 1249, 1250, 1251, 1252, 1253, 1254, 1255, 1256, 1257, 1258, 1259, 1260, 1261, 1262, 1263, 1264, 1265, 1266, 1267, 1268, 1269, 1270, 1271, 1272, 1273, 1274, 1275] (by decide +kernel) (by decide +kernel)
set_option maxRecDepth 20000 in
theorem gL_law_X10_logSize : GoodIn wsL_law (wsV RL 255 RX10 yX10_logSize wsX10_logSize) := goodIn_app (goodIn_of _ (by decide +kernel)) ggL_law_X10_logSize
set_option maxRecDepth 20000 in
theorem ggL_law_L_logged : GoodIn wsL_law wsL_logged := goodIn_ca (goodIn_ca (goodIn_r _ [1019, 274, 275, 1020, 1021, 1022, 2, 1023, 49, 1012, 1024, 286, 287, 288, 289, 290, 1025, 1026, 1027, 280, 281, 1222, 1223, 1224, 1225, 1226, 1227, 1228, 1229, 1230, 1231, 1232, 1233, 1234, 1235, 1236, 1237, 1300, 1301] (by decide +kernel) (by decide +kernel)) (goodIn_sub (fun _ h => List.mem_append_left _ (List.mem_append_left _ (List.mem_append_right _ h))) (by decide +kernel))) (goodIn_sub (fun _ h => List.mem_append_left _ (List.mem_append_left _ (List.mem_append_left _ (List.mem_append_right _ h)))) (by decide +kernel))
set_option maxRecDepth 20000 in
theorem gL_law_L_logged : GoodIn wsL_law (va_wsS RL 256 yL_logged wsL_logged) := goodIn_app (goodIn_of _ (by decide +kernel)) ggL_law_L_logged
