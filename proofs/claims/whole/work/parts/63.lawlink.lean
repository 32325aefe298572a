set_option maxRecDepth 20000 in
theorem ggL_law_X9_init : GoodIn wsL_law wsX9_init := goodIn_r _ [9, 10, 11, 12, 13, 14, 15, 16, 17, 18, 19, 20, 21, 22, 23, 24, 25, 26, 27, 28, 29, 30, 31, 32, 33, 34, 35, 36, 37, 38, 39, 40, 41, 42, 43, 44, 45, 46, 47, 48, 49, 50, 51, 52, 53, 54, 55, 56, 57, 58, 59, 60, 61, 62, 63, 64, 65, 66, 67, 68, 69, 70, 71, 72, 73, 74, 75, 76, 77, 78, 79, 80, 81, 82, 83, 84, 85, 86, 87, 88, 89, 90, 91, 92, 93, 94, 95, 96, 97, 98, 99, 100, 101, 102, 103, 104, 105, 106, 107, 108, 109, 110, 111, 112, 113, 114, 115, 116, 117, 118, 119, 120, 121, 122, 123, 124, 125, 126, 2, 127, 128, 129, 130, 131, 132, 133, 134, 135, 136, 137, 138, 139, 140, 141, 142, 143, 144, 145, 146, 147, 148, 149, 150, 151, 152, 153, 154, 155, 156, 157, 158, 159, 160, 161, 162, 163, 164, 1276, 1277, 1222, 1223, 1224, 1225, 1226, 1227, 1228, 1229, 1230, 1231, 1232, 1233, 1234, 1235, 1236, 1237, 1278, 1279, 1280, 1281, 1282, 1283, 1284, 1285, 1286, 1287, 1288, 1289, 1290, 1291, 1292, 1293, 1294, 1295, 1296, 1297, 1298, 1299, 1300, 1301, 1302, 1303, 1304, 1305, 1306, 1307, 1308, 1309] (by decide +kernel) (by decide +kernel)
set_option maxRecDepth 20000 in
theorem gL_law_X9_init : GoodIn wsL_law (wsX9_init) := ggL_law_X9_init
set_option maxRecDepth 20000 in
theorem ggL_law_X10_init : GoodIn wsL_law wsX10_init := goodIn_r _ [167, 168, 11, 12, 32, 169, 170, 171, 172, 36, 173, 174, 175, 176, 177, 178, 179, 180, 181, 182, 183, 184, 88, 185, 186, 187, 188, 189, 190, 191, 192, 193, 194, 195, 196, 197, 198, 199, 5, 200, 201, 202, 203, 204, 205, 206, 207, 208, 209, 210, 211, 212, 213, 214, 215, 216, 217, 218, 219, 220, 221, 222, 223, 224, 1238, 1239, 1240, 1241, 1242, 1243, 1244, 1245, 1246, 1247, 1248, 1249, 1250, 1251, 1252, 1253, 1254, 1255, 1256, 1257, 1258, 1259, 1260, 1261, 1262, 1263, 1264, 1265, 1266, 1267, 1268, 1269, 1270, 1271, 1272, 1273, 1274, 1275] (by decide +kernel) (by decide +kernel)
set_option maxRecDepth 20000 in
theorem gL_law_X10_init : GoodIn wsL_law (wsX10_init) := ggL_law_X10_init
set_option maxRecDepth 20000 in
theorem ggL_law_X9_format : GoodIn wsL_law wsX9_format := goodIn_r _ [228, 55, 20, 229, 230, 231, 232, 2, 233, 31, 34, 37, 234, 235, 236, 57, 237, 123, 122, 120, 238, 239, 240, 24, 241, 77, 78, 124, 125, 126, 127, 16, 128, 129, 130, 131, 132, 133, 15, 134, 62, 135, 136, 137, 138, 139, 140, 141, 19, 142, 67, 69, 70, 71, 72, 143, 144, 145, 146, 147, 148, 149, 150, 151, 152, 153, 154, 155, 63, 156, 157, 158, 159, 160, 161, 162, 163, 164, 1222, 1223, 1224, 1225, 1226, 1227, 1228, 1229, 1230, 1231, 1232, 1233, 1234, 1235, 1236, 1237, 1278, 1279, 1280, 1281, 1282, 1283, 1306, 1307, 1308, 1309, 1284, 1285, 1286, 1276, 1277] (by decide +kernel) (by decide +kernel)
set_option maxRecDepth 20000 in
theorem gL_law_X9_format : GoodIn wsL_law (wsV RL 151 RX9 yX9_format wsX9_format) := goodIn_app (goodIn_of _ (by decide +kernel)) ggL_law_X9_format
set_option maxRecDepth 20000 in
theorem ggL_law_X10_format : GoodIn wsL_law wsX10_format := goodIn_r _ [200, 201, 202, 170, 169, 171, 172, 173, 203, 204, 205, 206, 5, 207, 208, 209, 210, 211, 212, 213, 214, 215, 216, 217, 218, 219, 220, 175, 221, 222, 223, 224, 176, 180, 177, 1238, 1239, 1240, 1241, 1242, 1243, 1244, 1245, 1246, 1247, 1248, 1249, 1250, 1251, 1252, 1253, 1254, 1255, 1256, 1257, 1258, 1259, 1260, 1261, 1262, 1263, 1264, 1265, 1266, 1267, 1268, 1269, 1270, 1271, 1272, 1273, 1274, 1275] (by decide +kernel) (by decide +kernel)
set_option maxRecDepth 20000 in
theorem gL_law_X10_format : GoodIn wsL_law (wsV RL 154 RX10 yX10_format wsX10_format) := goodIn_app (goodIn_of _ (by decide +kernel)) ggL_law_X10_format
set_option maxRecDepth 20000 in
theorem ggL_law_L_begin : GoodIn wsL_law wsL_begin := goodIn_ca (goodIn_r _ [246, 247, 248, 249, 250, 2, 251, 252, 253, 31, 254, 255, 256, 257, 258, 55, 234, 235, 236, 57, 237, 123, 122, 120, 238, 239, 240, 24, 241, 77, 78, 1222, 1223, 1224, 1225, 1226, 1227, 1228, 1229, 1230, 1231, 1232, 1233, 1234, 1235, 1236, 1237, 1306, 1307, 1308, 1309, 1284, 1285, 1286] (by decide +kernel) (by decide +kernel)) (goodIn_sub (fun _ h => List.mem_append_left _ (List.mem_append_left _ (List.mem_append_left _ (List.mem_append_left _ (List.mem_append_right _ h))))) (by decide +kernel))
set_option maxRecDepth 20000 in
theorem gL_law_L_begin : GoodIn wsL_law (va_wsS RL 155 yL_begin wsL_begin) := goodIn_app (goodIn_of _ (by decide +kernel)) ggL_law_L_begin
set_option maxRecDepth 20000 in
theorem ggL_law_X10_begin : GoodIn wsL_law wsX10_begin := goodIn_r _ [262, 201, 202, 176, 263, 264, 265, 5, 266, 1238, 1239, 1240, 1241, 1242, 1243, 1244, 1245, 1246, 1247, 1248, 1249, 1250, 1251, 1252, 1253, 1254, 1255, 1256, 1257, 1258, 1259, 1260, 1261, 1262, 1263, 1264, 1265, 1266, 1267, 1268, 1269, 1270, 1271, 1272, 1273, 1274, 1275] (by decide +kernel) (by decide +kernel)
set_option maxRecDepth 20000 in
theorem gL_law_X10_begin : GoodIn wsL_law (wsV RL 160 RX10 yX10_begin wsX10_begin) := goodIn_app (goodIn_of _ (by decide +kernel)) ggL_law_X10_begin
set_option maxRecDepth 20000 in
theorem ggL_law_X10_thrown : GoodIn wsL_law wsX10_thrown := goodIn_r _ [270, 201, 1238, 1239, 1240, 1241, 1242, 1243, 1244, 1245, 1246, 1247, 1248, 1249, 1250, 1251, 1252, 1253, 1254, 1255, 1256, 1257, 1258, 1259, 1260, 1261, 1262, 1263, 1264, 1265, 1266, 1267, 1268, 1269, 1270, 1271, 1272, 1273, 1274, 1275] (by decide +kernel) (by decide +kernel)
set_option maxRecDepth 20000 in
theorem gL_law_X10_thrown : GoodIn wsL_law (wsV RL 161 RX10 yX10_thrown wsX10_thrown) := goodIn_app (goodIn_of _ (by decide +kernel)) ggL_law_X10_thrown
set_option maxRecDepth 20000 in
theorem ggL_law_L_put : GoodIn wsL_law wsL_put := goodIn_ca (goodIn_ca (goodIn_ca (goodIn_r _ [273, 274, 275, 247, 276, 277, 278, 2, 279, 280, 281, 31, 282, 283, 284, 285, 286, 287, 288, 289, 290, 291, 292, 293, 294, 295, 296, 297, 252, 253, 254, 298, 299, 300, 301, 302, 303, 20, 304, 305, 306, 307, 308, 309, 310, 24, 311, 77, 78, 312, 76, 313, 314, 1222, 1223, 1224, 1225, 1226, 1227, 1228, 1229, 1230, 1231, 1232, 1233, 1234, 1235, 1236, 1237, 1306, 1307, 1308, 1309, 1284, 1285, 1286, 1278, 1279, 1280, 1281, 1282, 1283] (by decide +kernel) (by decide +kernel)) (goodIn_sub (fun _ h => List.mem_append_left _ (List.mem_append_left _ (List.mem_append_left _ (List.mem_append_right _ h)))) (by decide +kernel))) (goodIn_sub (fun _ h => List.mem_append_left _ (List.mem_append_left _ (List.mem_append_right _ h))) (by decide +kernel))) (goodIn_sub (fun _ h => List.mem_append_left _ (List.mem_append_left _ (List.mem_append_left _ (List.mem_append_left _ (List.mem_append_right _ h))))) (by decide +kernel))
set_option maxRecDepth 20000 in
theorem gL_law_L_put : GoodIn wsL_law (va_wsS RL 164 yL_put wsL_put) := goodIn_app (goodIn_of _ (by decide +kernel)) ggL_law_L_put
set_option maxRecDepth 20000 in
theorem ggL_law_X10_put : GoodIn wsL_law wsX10_put := goodIn_r _ [318, 176, 201, 319, 320, 5, 321, 322, 323, 324, 325, 326, 327, 328, 329, 330, 331, 177, 178, 173, 332, 333, 334, 335, 179, 1238, 1239, 1240, 1241, 1242, 1243, 1244, 1245, 1246, 1247, 1248, 1249, 1250, 1251, 1252, 1253, 1254, 1255, 1256, 1257, 1258, 1259, 1260, 1261, 1262, 1263, 1264, 1265, 1266, 1267, 1268, 1269, 1270, 1271, 1272, 1273, 1274, 1275] (by decide +kernel) (by decide +kernel)
set_option maxRecDepth 20000 in
theorem gL_law_X10_put : GoodIn wsL_law (wsV RL 167 RX10 yX10_put wsX10_put) := goodIn_app (goodIn_of _ (by decide +kernel)) ggL_law_X10_put
set_option maxRecDepth 20000 in
theorem ggL_law_L_remove : GoodIn wsL_law wsL_remove := goodIn_ca (goodIn_ca (goodIn_ca (goodIn_ca (goodIn_r _ [338, 274, 275, 247, 339, 340, 341, 342, 2, 343, 31, 282, 283, 284, 285, 286, 287, 288, 289, 290, 291, 292, 293, 280, 281, 294, 295, 296, 297, 252, 253, 254, 344, 345, 346, 347, 348, 349, 298, 299, 300, 301, 302, 303, 20, 304, 305, 306, 307, 350, 351, 352, 353, 354, 355, 356, 357, 358, 24, 359, 77, 78, 313, 314, 1222, 1223, 1224, 1225, 1226, 1227, 1228, 1229, 1230, 1231, 1232, 1233, 1234, 1235, 1236, 1237, 1306, 1307, 1308, 1309, 1284, 1285, 1286, 1278, 1279, 1280, 1281, 1282, 1283] (by decide +kernel) (by decide +kernel)) (goodIn_sub (fun _ h => List.mem_append_left _ (List.mem_append_left _ (List.mem_append_right _ h))) (by decide +kernel))) (goodIn_sub (fun _ h => List.mem_append_left _ (List.mem_append_left _ (List.mem_append_left _ (List.mem_append_right _ h)))) (by decide +kernel))) (goodIn_sub (fun _ h => List.mem_append_left _ (List.mem_append_left _ (List.mem_append_left _ (List.mem_append_left _ (List.mem_append_right _ h))))) (by decide +kernel))) (goodIn_sub (fun _ h => List.mem_append_left _ (List.mem_append_right _ h)) (by decide +kernel))
set_option maxRecDepth 20000 in
theorem gL_law_L_remove : GoodIn wsL_law (va_wsS RL 168 yL_remove wsL_remove) := goodIn_app (goodIn_of _ (by decide +kernel)) ggL_law_L_remove
set_option maxRecDepth 20000 in
theorem ggL_law_X10_remove : GoodIn wsL_law wsX10_remove := goodIn_r _ [363, 176, 201, 319, 320, 5, 321, 322, 323, 324, 325, 326, 327, 328, 329, 330, 331, 177, 178, 173, 364, 365, 366, 367, 179, 174, 368, 369, 370, 371, 1238, 1239, 1240, 1241, 1242, 1243, 1244, 1245, 1246, 1247, 1248, 1249, 1250, 1251, 1252, 1253, 1254, 1255, 1256, 1257, 1258, 1259, 1260, 1261, 1262, 1263, 1264, 1265, 1266, 1267, 1268, 1269, 1270, 1271, 1272, 1273, 1274, 1275] (by decide +kernel) (by decide +kernel)
set_option maxRecDepth 20000 in
theorem gL_law_X10_remove : GoodIn wsL_law (wsV RL 171 RX10 yX10_remove wsX10_remove) := goodIn_app (goodIn_of _ (by decide +kernel)) ggL_law_X10_remove
set_option maxRecDepth 20000 in
theorem ggL_law_L_get : GoodIn wsL_law wsL_get := goodIn_ca (goodIn_ca (goodIn_ca (goodIn_ca (goodIn_r _ [374, 274, 275, 247, 339, 375, 376, 377, 2, 378, 283, 284, 285, 286, 287, 288, 289, 290, 291, 292, 293, 280, 281, 379, 380, 381, 382, 252, 253, 31, 254, 344, 345, 346, 347, 348, 349, 298, 299, 300, 301, 282, 302, 303, 20, 304, 305, 306, 307, 350, 351, 352, 353, 354, 355, 1222, 1223, 1224, 1225, 1226, 1227, 1228, 1229, 1230, 1231, 1232, 1233, 1234, 1235, 1236, 1237, 1306, 1307, 1308, 1309, 1284, 1285, 1286, 1278, 1279, 1280, 1281, 1282, 1283] (by decide +kernel) (by decide +kernel)) (goodIn_sub (fun _ h => List.mem_append_left _ (List.mem_append_left _ (List.mem_append_right _ h))) (by decide +kernel))) (goodIn_sub (fun _ h => List.mem_append_left _ (List.mem_append_left _ (List.mem_append_left _ (List.mem_append_right _ h)))) (by decide +kernel))) (goodIn_sub (fun _ h => List.mem_append_left _ (List.mem_append_left _ (List.mem_append_left _ (List.mem_append_left _ (List.mem_append_right _ h))))) (by decide +kernel))) (goodIn_sub (fun _ h => List.mem_append_left _ (List.mem_append_right _ h)) (by decide +kernel))
set_option maxRecDepth 20000 in
theorem gL_law_L_get : GoodIn wsL_law (va_wsS RL 172 yL_get wsL_get) := goodIn_app (goodIn_of _ (by decide +kernel)) ggL_law_L_get
set_option maxRecDepth 20000 in
theorem ggL_law_X10_get : GoodIn wsL_law wsX10_get := goodIn_r _ [386, 176, 201, 319, 320, 5, 321, 322, 323, 324, 325, 326, 327, 328, 329, 330, 331, 177, 178, 173, 364, 365, 366, 367, 179, 174, 1238, 1239, 1240, 1241, 1242, 1243, 1244, 1245, 1246, 1247, 1248, 1249, 1250, 1251, 1252, 1253, 1254, 1255, 1256, 1257, 1258, 1259, 1260, 1261, 1262, 1263, 1264, 1265, 1266, 1267, 1268, 1269, 1270, 1271, 1272, 1273, 1274, 1275] (by decide +kernel) (by decide +kernel)
set_option maxRecDepth 20000 in
theorem gL_law_X10_get : GoodIn wsL_law (wsV RL 174 RX10 yX10_get wsX10_get) := goodIn_app (goodIn_of _ (by decide +kernel)) ggL_law_X10_get
set_option maxRecDepth 20000 in
theorem ggL_law_L_changes : GoodIn wsL_law wsL_changes := goodIn_ca (goodIn_r _ [389, 274, 390, 391, 392, 2, 393, 31, 282, 283, 284, 285, 286, 287, 288, 289, 290, 394, 395, 396, 24, 397, 77, 398, 399, 400, 401, 402, 403, 404, 1222, 1223, 1224, 1225, 1226, 1227, 1228, 1229, 1230, 1231, 1232, 1233, 1234, 1235, 1236, 1237, 1306, 1307, 1308, 1309, 1284, 1285, 1286] (by decide +kernel) (by decide +kernel)) (goodIn_sub (fun _ h => List.mem_append_left _ (List.mem_append_left _ (List.mem_append_right _ h))) (by decide +kernel))
set_option maxRecDepth 20000 in
theorem gL_law_L_changes : GoodIn wsL_law (va_wsS RL 175 yL_changes wsL_changes) := goodIn_app (goodIn_of _ (by decide +kernel)) ggL_law_L_changes
set_option maxRecDepth 20000 in
theorem ggL_law_X10_changes : GoodIn wsL_law wsX10_changes := goodIn_r _ [408, 201, 319, 320, 5, 321, 322, 323, 324, 409, 410, 411, 412, 177, 1238, 1239, 1240, 1241, 1242, 1243, 1244, 1245, 1246, 1247, 1248, 1249, 1250, 1251, 1252, 1253, 1254, 1255, 1256, 1257, 1258, 1259, 1260, 1261, 1262, 1263, 1264, 1265, 1266, 1267, 1268, 1269, 1270, 1271, 1272, 1273, 1274, 1275] (by decide +kernel) (by decide +kernel)
set_option maxRecDepth 20000 in
theorem gL_law_X10_changes : GoodIn wsL_law (wsV RL 178 RX10 yX10_changes wsX10_changes) := goodIn_app (goodIn_of _ (by decide +kernel)) ggL_law_X10_changes
set_option maxRecDepth 20000 in
theorem ggL_law_L_slotState : GoodIn wsL_law wsL_slotState := goodIn_ca (goodIn_r _ [415, 274, 416, 417, 418, 2, 419, 31, 254, 283, 284, 285, 286, 287, 288, 289, 290, 1222, 1223, 1224, 1225, 1226, 1227, 1228, 1229, 1230, 1231, 1232, 1233, 1234, 1235, 1236, 1237, 1306, 1307, 1308, 1309] (by decide +kernel) (by decide +kernel)) (goodIn_sub (fun _ h => List.mem_append_left _ (List.mem_append_left _ (List.mem_append_right _ h))) (by decide +kernel))
set_option maxRecDepth 20000 in
theorem gL_law_L_slotState : GoodIn wsL_law (va_wsS RL 179 yL_slotState wsL_slotState) := goodIn_app (goodIn_of _ (by decide +kernel)) ggL_law_L_slotState
set_option maxRecDepth 20000 in
theorem ggL_law_X10_slotState : GoodIn wsL_law wsX10_slotState := goodIn_r _ [423, 201, 176, 319, 320, 5, 321, 322, 323, 324, 1238, 1239, 1240, 1241, 1242, 1243, 1244, 1245, 1246, 1247, 1248, 1249, 1250, 1251, 1252, 1253, 1254, 1255, 1256, 1257, 1258, 1259, 1260, 1261, 1262, 1263, 1264, 1265, 1266, 1267, 1268, 1269, 1270, 1271, 1272, 1273, 1274, 1275] (by decide +kernel) (by decide +kernel)
set_option maxRecDepth 20000 in
theorem gL_law_X10_slotState : GoodIn wsL_law (wsV RL 181 RX10 yX10_slotState wsX10_slotState) := goodIn_app (goodIn_of _ (by decide +kernel)) ggL_law_X10_slotState
set_option maxRecDepth 20000 in
theorem ggL_law_L_mark : GoodIn wsL_law wsL_mark := goodIn_ca (goodIn_ca (goodIn_r _ [426, 274, 247, 427, 428, 429, 2, 430, 252, 253, 31, 431, 283, 284, 285, 286, 287, 288, 289, 290, 294, 295, 296, 297, 254, 432, 433, 434, 57, 435, 122, 121, 120, 436, 437, 438, 24, 439, 76, 440, 149, 150, 151, 77, 78, 1222, 1223, 1224, 1225, 1226, 1227, 1228, 1229, 1230, 1231, 1232, 1233, 1234, 1235, 1236, 1237, 1306, 1307, 1308, 1309, 1284, 1285, 1286] (by decide +kernel) (by decide +kernel)) (goodIn_sub (fun _ h => List.mem_append_left _ (List.mem_append_left _ (List.mem_append_left _ (List.mem_append_left _ (List.mem_append_right _ h))))) (by decide +kernel))) (goodIn_sub (fun _ h => List.mem_append_left _ (List.mem_append_left _ (List.mem_append_right _ h))) (by decide +kernel))
set_option maxRecDepth 20000 in
theorem gL_law_L_mark : GoodIn wsL_law (va_wsS RL 182 yL_mark wsL_mark) := goodIn_app (goodIn_of _ (by decide +kernel)) ggL_law_L_mark
set_option maxRecDepth 20000 in
theorem ggL_law_X10_mark : GoodIn wsL_law wsX10_mark := goodIn_r _ [444, 176, 180, 201, 177, 181, 445, 149, 150, 151, 178, 182, 179, 183, 319, 320, 5, 321, 322, 323, 324, 1238, 1239, 1240, 1241, 1242, 1243, 1244, 1245, 1246, 1247, 1248, 1249, 1250, 1251, 1252, 1253, 1254, 1255, 1256, 1257, 1258, 1259, 1260, 1261, 1262, 1263, 1264, 1265, 1266, 1267, 1268, 1269, 1270, 1271, 1272, 1273, 1274, 1275] (by decide +kernel) (by decide +kernel)
set_option maxRecDepth 20000 in
theorem gL_law_X10_mark : GoodIn wsL_law (wsV RL 184 RX10 yX10_mark wsX10_mark) := goodIn_app (goodIn_of _ (by decide +kernel)) ggL_law_X10_mark
set_option maxRecDepth 20000 in
theorem ggL_law_L_goBack : GoodIn wsL_law wsL_goBack := goodIn_ca (goodIn_ca (goodIn_ca (goodIn_r _ [448, 274, 247, 339, 449, 450, 451, 2, 452, 348, 349, 31, 431, 282, 283, 284, 285, 286, 287, 288, 289, 290, 294, 295, 296, 297, 252, 253, 254, 453, 454, 455, 57, 456, 122, 120, 121, 436, 437, 438, 24, 439, 76, 440, 149, 150, 151, 77, 78, 394, 395, 396, 397, 398, 399, 400, 401, 402, 403, 404, 1222, 1223, 1224, 1225, 1226, 1227, 1228, 1229, 1230, 1231, 1232, 1233, 1234, 1235, 1236, 1237, 1306, 1307, 1308, 1309, 1284, 1285, 1286] (by decide +kernel) (by decide +kernel)) (goodIn_sub (fun _ h => List.mem_append_left _ (List.mem_append_right _ h)) (by decide +kernel))) (goodIn_sub (fun _ h => List.mem_append_left _ (List.mem_append_left _ (List.mem_append_right _ h))) (by decide +kernel))) (goodIn_sub (fun _ h => List.mem_append_left _ (List.mem_append_left _ (List.mem_append_left _ (List.mem_append_left _ (List.mem_append_right _ h))))) (by decide +kernel))
set_option maxRecDepth 20000 in
theorem gL_law_L_goBack : GoodIn wsL_law (va_wsS RL 185 yL_goBack wsL_goBack) := goodIn_app (goodIn_of _ (by decide +kernel)) ggL_law_L_goBack
set_option maxRecDepth 20000 in
theorem ggL_law_X10_goBack : GoodIn wsL_law wsX10_goBack := goodIn_r _ [460, 176, 180, 201, 181, 177, 445, 149, 150, 151, 182, 178, 183, 179, 319, 320, 5, 321, 322, 323, 324, 409, 410, 411, 412, 1238, 1239, 1240, 1241, 1242, 1243, 1244, 1245, 1246, 1247, 1248, 1249, 1250, 1251, 1252, 1253, 1254, 1255, 1256, 1257, 1258, 1259, 1260, 1261, 1262, 1263, 1264, 1265, 1266, 1267, 1268, 1269, 1270, 1271, 1272, 1273, 1274, 1275] (by decide +kernel) (by decide +kernel)
set_option maxRecDepth 20000 in
theorem gL_law_X10_goBack : GoodIn wsL_law (wsV RL 187 RX10 yX10_goBack wsX10_goBack) := goodIn_app (goodIn_of _ (by decide +kernel)) ggL_law_X10_goBack
set_option maxRecDepth 20000 in
theorem ggL_law_L_ready : GoodIn wsL_law wsL_ready := goodIn_ca (goodIn_ca (goodIn_r _ [463, 274, 247, 464, 465, 466, 2, 467, 31, 254, 431, 34, 33, 283, 284, 285, 286, 287, 288, 289, 290, 294, 295, 296, 297, 252, 253, 1222, 1223, 1224, 1225, 1226, 1227, 1228, 1229, 1230, 1231, 1232, 1233, 1234, 1235, 1236, 1237, 1306, 1307, 1308, 1309] (by decide +kernel) (by decide +kernel)) (goodIn_sub (fun _ h => List.mem_append_left _ (List.mem_append_left _ (List.mem_append_right _ h))) (by decide +kernel))) (goodIn_sub (fun _ h => List.mem_append_left _ (List.mem_append_left _ (List.mem_append_left _ (List.mem_append_left _ (List.mem_append_right _ h))))) (by decide +kernel))
set_option maxRecDepth 20000 in
theorem gL_law_L_ready : GoodIn wsL_law (va_wsS RL 188 yL_ready wsL_ready) := goodIn_app (goodIn_of _ (by decide +kernel)) ggL_law_L_ready
set_option maxRecDepth 20000 in
theorem ggL_law_X10_ready : GoodIn wsL_law wsX10_ready := goodIn_r _ [471, 176, 201, 180, 184, 220, 319, 320, 5, 321, 322, 323, 324, 1238, 1239, 1240, 1241, 1242, 1243, 1244, 1245, 1246, 1247, 1248, 1249, 1250, 1251, 1252, 1253, 1254, 1255, 1256, 1257, 1258, 1259, 1260, 1261, 1262, 1263, 1264, 1265, 1266, 1267, 1268, 1269, 1270, 1271, 1272, 1273, 1274, 1275] (by decide +kernel) (by decide +kernel)
set_option maxRecDepth 20000 in
theorem gL_law_X10_ready : GoodIn wsL_law (wsV RL 190 RX10 yX10_ready wsX10_ready) := goodIn_app (goodIn_of _ (by decide +kernel)) ggL_law_X10_ready
set_option maxRecDepth 20000 in
theorem ggL_law_L_abandon : GoodIn wsL_law wsL_abandon := goodIn_ca (goodIn_ca (goodIn_r _ [474, 274, 247, 475, 476, 477, 2, 478, 31, 282, 283, 284, 285, 286, 287, 288, 289, 290, 379, 380, 381, 382, 252, 253, 254, 394, 395, 396, 24, 397, 77, 398, 399, 400, 401, 402, 403, 404, 479, 480, 481, 482, 34, 33, 234, 235, 236, 57, 237, 123, 122, 120, 238, 239, 240, 241, 78, 1222, 1223, 1224, 1225, 1226, 1227, 1228, 1229, 1230, 1231, 1232, 1233, 1234, 1235, 1236, 1237, 1306, 1307, 1308, 1309, 1284, 1285, 1286] (by decide +kernel) (by decide +kernel)) (goodIn_sub (fun _ h => List.mem_append_left _ (List.mem_append_left _ (List.mem_append_right _ h))) (by decide +kernel))) (goodIn_sub (fun _ h => List.mem_append_left _ (List.mem_append_left _ (List.mem_append_left _ (List.mem_append_left _ (List.mem_append_right _ h))))) (by decide +kernel))
set_option maxRecDepth 20000 in
theorem gL_law_L_abandon : GoodIn wsL_law (va_wsS RL 191 yL_abandon wsL_abandon) := goodIn_app (goodIn_of _ (by decide +kernel)) ggL_law_L_abandon
set_option maxRecDepth 20000 in
theorem ggL_law_X10_abandon : GoodIn wsL_law wsX10_abandon := goodIn_r _ [486, 176, 201, 184, 220, 319, 320, 5, 321, 322, 323, 324, 409, 410, 411, 412, 177, 221, 222, 223, 224, 180, 1238, 1239, 1240, 1241, 1242, 1243, 1244, 1245, 1246, 1247, 1248, 1249, 1250, 1251, 1252, 1253, 1254, 1255, 1256, 1257, 1258, 1259, 1260, 1261, 1262, 1263, 1264, 1265, 1266, 1267, 1268, 1269, 1270, 1271, 1272, 1273, 1274, 1275] (by decide +kernel) (by decide +kernel)
set_option maxRecDepth 20000 in
theorem gL_law_X10_abandon : GoodIn wsL_law (wsV RL 193 RX10 yX10_abandon wsX10_abandon) := goodIn_app (goodIn_of _ (by decide +kernel)) ggL_law_X10_abandon
set_option maxRecDepth 20000 in
theorem ggL_law_L_feed : GoodIn wsL_law wsL_feed := goodIn_ca (goodIn_r _ [489, 247, 490, 491, 492, 2, 493, 252, 253, 41, 494, 495, 496, 497, 40, 498, 90, 89, 1222, 1223, 1224, 1225, 1226, 1227, 1228, 1229, 1230, 1231, 1232, 1233, 1234, 1235, 1236, 1237, 1290, 1291, 1292, 1293, 1294, 1295, 1296] (by decide +kernel) (by decide +kernel)) (goodIn_sub (fun _ h => List.mem_append_left _ (List.mem_append_left _ (List.mem_append_left _ (List.mem_append_left _ (List.mem_append_right _ h))))) (by decide +kernel))
set_option maxRecDepth 20000 in
theorem gL_law_L_feed : GoodIn wsL_law (va_wsS RL 194 yL_feed wsL_feed) := goodIn_app (goodIn_of _ (by decide +kernel)) ggL_law_L_feed
set_option maxRecDepth 20000 in
theorem ggL_law_X10_feed : GoodIn wsL_law wsX10_feed := goodIn_r _ [502, 503, 201, 185, 1238, 1239, 1240, 1241, 1242, 1243, 1244, 1245, 1246, 1247, 1248, 1249, 1250, 1251, 1252, 1253, 1254, 1255, 1256, 1257, 1258, 1259, 1260, 1261, 1262, 1263, 1264, 1265, 1266, 1267, 1268, 1269, 1270, 1271, 1272, 1273, 1274, 1275] (by decide +kernel) (by decide +kernel)
set_option maxRecDepth 20000 in
theorem gL_law_X10_feed : GoodIn wsL_law (wsV RL 197 RX10 yX10_feed wsX10_feed) := goodIn_app (goodIn_of _ (by decide +kernel)) ggL_law_X10_feed
set_option maxRecDepth 20000 in
theorem ggL_law_L_readChanges : GoodIn wsL_law wsL_readChanges := goodIn_ca (goodIn_ca (goodIn_r _ [506, 274, 247, 507, 508, 509, 2, 510, 41, 494, 31, 282, 511, 512, 513, 514, 40, 515, 95, 90, 89, 516, 517, 518, 519, 520, 521, 522, 523, 524, 525, 526, 527, 528, 529, 530, 531, 91, 92, 93, 94, 532, 533, 534, 535, 283, 284, 285, 286, 287, 288, 289, 290, 294, 295, 296, 297, 252, 253, 254, 536, 537, 538, 539, 540, 357, 358, 24, 359, 77, 78, 313, 314, 541, 309, 310, 311, 312, 76, 1222, 1223, 1224, 1225, 1226, 1227, 1228, 1229, 1230, 1231, 1232, 1233, 1234, 1235, 1236, 1237, 1290, 1291, 1292, 1293, 1294, 1295, 1296, 1306, 1307, 1308, 1309, 1284, 1285, 1286] (by decide +kernel) (by decide +kernel)) (goodIn_sub (fun _ h => List.mem_append_left _ (List.mem_append_left _ (List.mem_append_right _ h))) (by decide +kernel))) (goodIn_sub (fun _ h => List.mem_append_left _ (List.mem_append_left _ (List.mem_append_left _ (List.mem_append_left _ (List.mem_append_right _ h))))) (by decide +kernel))
set_option maxRecDepth 20000 in
theorem gL_law_L_readChanges : GoodIn wsL_law (va_wsS RL 198 yL_readChanges wsL_readChanges) := goodIn_app (goodIn_of _ (by decide +kernel)) ggL_law_L_readChanges
set_option maxRecDepth 20000 in
theorem ggL_law_X10_readChanges : GoodIn wsL_law wsX10_readChanges := goodIn_r _ [545, 176, 201, 546, 547, 503, 319, 320, 5, 321, 322, 323, 324, 548, 549, 550, 551, 552, 553, 554, 555, 185, 556, 557, 558, 559, 560, 561, 562, 563, 564, 565, 566, 567, 368, 369, 370, 371, 177, 178, 332, 333, 334, 335, 179, 1238, 1239, 1240, 1241, 1242, 1243, 1244, 1245, 1246, 1247, 1248, 1249, 1250, 1251, 1252, 1253, 1254, 1255, 1256, 1257, 1258, 1259, 1260, 1261, 1262, 1263, 1264, 1265, 1266, 1267, 1268, 1269, 1270, 1271, 1272, 1273, 1274, 1275] (by decide +kernel) (by decide +kernel)
set_option maxRecDepth 20000 in
theorem gL_law_X10_readChanges : GoodIn wsL_law (wsV RL 200 RX10 yX10_readChanges wsX10_readChanges) := goodIn_app (goodIn_of _ (by decide +kernel)) ggL_law_X10_readChanges
set_option maxRecDepth 20000 in
theorem ggL_law_L_writeChanges : GoodIn wsL_law wsL_writeChanges := goodIn_ca (goodIn_ca (goodIn_r _ [570, 274, 247, 571, 572, 573, 2, 574, 31, 282, 45, 575, 303, 302, 354, 283, 284, 285, 286, 287, 288, 289, 290, 379, 380, 381, 382, 252, 253, 254, 305, 306, 307, 576, 577, 578, 44, 579, 580, 581, 582, 583, 101, 584, 585, 586, 587, 99, 588, 589, 590, 591, 100, 592, 593, 594, 595, 596, 597, 1222, 1223, 1224, 1225, 1226, 1227, 1228, 1229, 1230, 1231, 1232, 1233, 1234, 1235, 1236, 1237, 1306, 1307, 1308, 1309, 1297, 1298, 1299, 1284, 1285, 1286] (by decide +kernel) (by decide +kernel)) (goodIn_sub (fun _ h => List.mem_append_left _ (List.mem_append_left _ (List.mem_append_right _ h))) (by decide +kernel))) (goodIn_sub (fun _ h => List.mem_append_left _ (List.mem_append_left _ (List.mem_append_left _ (List.mem_append_left _ (List.mem_append_right _ h))))) (by decide +kernel))
set_option maxRecDepth 20000 in
theorem gL_law_L_writeChanges : GoodIn wsL_law (va_wsS RL 201 yL_writeChanges wsL_writeChanges) := goodIn_app (goodIn_of _ (by decide +kernel)) ggL_law_L_writeChanges
set_option maxRecDepth 20000 in
theorem ggL_law_X10_writeChanges : GoodIn wsL_law wsX10_writeChanges := goodIn_r _ [601, 176, 201, 602, 177, 178, 179, 319, 320, 5, 321, 322, 323, 324, 603, 604, 605, 606, 607, 608, 609, 610, 186, 611, 612, 613, 614, 615, 616, 617, 618, 1238, 1239, 1240, 1241, 1242, 1243, 1244, 1245, 1246, 1247, 1248, 1249, 1250, 1251, 1252, 1253, 1254, 1255, 1256, 1257, 1258, 1259, 1260, 1261, 1262, 1263, 1264, 1265, 1266, 1267, 1268, 1269, 1270, 1271, 1272, 1273, 1274, 1275] (by decide +kernel) (by decide +kernel)
set_option maxRecDepth 20000 in
theorem gL_law_X10_writeChanges : GoodIn wsL_law (wsV RL 203 RX10 yX10_writeChanges wsX10_writeChanges) := goodIn_app (goodIn_of _ (by decide +kernel)) ggL_law_X10_writeChanges
set_option maxRecDepth 20000 in
theorem ggL_law_L_writeRecords : GoodIn wsL_law wsL_writeRecords := goodIn_ca (goodIn_r _ [621, 247, 622, 623, 624, 2, 625, 45, 575, 20, 304, 355, 255, 256, 257, 258, 252, 253, 55, 305, 306, 307, 594, 595, 596, 44, 597, 580, 581, 582, 583, 101, 584, 585, 586, 587, 99, 588, 589, 590, 591, 100, 592, 593, 1222, 1223, 1224, 1225, 1226, 1227, 1228, 1229, 1230, 1231, 1232, 1233, 1234, 1235, 1236, 1237, 1297, 1298, 1299, 1278, 1279, 1280, 1281, 1282, 1283] (by decide +kernel) (by decide +kernel)) (goodIn_sub (fun _ h => List.mem_append_left _ (List.mem_append_left _ (List.mem_append_left _ (List.mem_append_left _ (List.mem_append_right _ h))))) (by decide +kernel))
set_option maxRecDepth 20000 in
theorem gL_law_L_writeRecords : GoodIn wsL_law (va_wsS RL 204 yL_writeRecords wsL_writeRecords) := goodIn_app (goodIn_of _ (by decide +kernel)) ggL_law_L_writeRecords
set_option maxRecDepth 20000 in
theorem ggL_law_X10_writeRecords : GoodIn wsL_law wsX10_writeRecords := goodIn_r _ [629, 202, 201, 602, 173, 174, 603, 604, 605, 5, 606, 607, 608, 609, 610, 186, 611, 612, 613, 614, 615, 616, 617, 618, 1238, 1239, 1240, 1241, 1242, 1243, 1244, 1245, 1246, 1247, 1248, 1249, 1250, 1251, 1252, 1253, 1254, 1255, 1256, 1257, 1258, 1259, 1260, 1261, 1262, 1263, 1264, 1265, 1266, 1267, 1268, 1269, 1270, 1271, 1272, 1273, 1274, 1275] (by decide +kernel) (by decide +kernel)
set_option maxRecDepth 20000 in
theorem gL_law_X10_writeRecords : GoodIn wsL_law (wsV RL 206 RX10 yX10_writeRecords wsX10_writeRecords) := goodIn_app (goodIn_of _ (by decide +kernel)) ggL_law_X10_writeRecords
set_option maxRecDepth 20000 in
theorem ggL_law_L_outputAt : GoodIn wsL_law wsL_outputAt := goodIn_ca (goodIn_r _ [632, 274, 633, 634, 635, 2, 636, 289, 290, 45, 575, 637, 1222, 1223, 1224, 1225, 1226, 1227, 1228, 1229, 1230, 1231, 1232, 1233, 1234, 1235, 1236, 1237, 1297, 1298, 1299] (by decide +kernel) (by decide +kernel)) (goodIn_sub (fun _ h => List.mem_append_left _ (List.mem_append_left _ (List.mem_append_right _ h))) (by decide +kernel))
set_option maxRecDepth 20000 in
theorem gL_law_L_outputAt : GoodIn wsL_law (va_wsS RL 207 yL_outputAt wsL_outputAt) := goodIn_app (goodIn_of _ (by decide +kernel)) ggL_law_L_outputAt
set_option maxRecDepth 20000 in
theorem ggL_law_X10_outputAt : GoodIn wsL_law wsX10_outputAt := goodIn_r _ [641, 602, 201, 186, 322, 323, 5, 324, 1238, 1239, 1240, 1241, 1242, 1243, 1244, 1245, 1246, 1247, 1248, 1249, 1250, 1251, 1252, 1253, 1254, 1255, 1256, 1257, 1258, 1259, 1260, 1261, 1262, 1263, 1264, 1265, 1266, 1267, 1268, 1269, 1270, 1271, 1272, 1273, 1274, 1275] (by decide +kernel) (by decide +kernel)
set_option maxRecDepth 20000 in
theorem gL_law_X10_outputAt : GoodIn wsL_law (wsV RL 209 RX10 yX10_outputAt wsX10_outputAt) := goodIn_app (goodIn_of _ (by decide +kernel)) ggL_law_X10_outputAt
set_option maxRecDepth 20000 in
theorem ggL_law_X9_blocksToWrite : GoodIn wsL_law wsX9_blocksToWrite := goodIn_r _ [645, 34, 646, 647, 648, 2, 649, 25, 31, 33, 282, 21, 20, 229, 130, 650, 239, 240, 24, 241, 77, 78, 651, 652, 653, 654, 76, 306, 307, 655, 357, 358, 359, 313, 314, 656, 309, 310, 311, 312, 657, 658, 659, 19, 660, 67, 148, 149, 150, 151, 68, 69, 70, 71, 72, 661, 662, 663, 664, 665, 666, 667, 668, 669, 670, 671, 672, 673, 674, 675, 676, 677, 678, 679, 680, 681, 682, 683, 684, 685, 686, 687, 688, 1222, 1223, 1224, 1225, 1226, 1227, 1228, 1229, 1230, 1231, 1232, 1233, 1234, 1235, 1236, 1237, 1306, 1307, 1308, 1309, 1278, 1279, 1280, 1281, 1282, 1283, 1284, 1285, 1286] (by decide +kernel) (by decide +kernel)
set_option maxRecDepth 20000 in
theorem gL_law_X9_blocksToWrite : GoodIn wsL_law (wsV RL 210 RX9 yX9_blocksToWrite wsX9_blocksToWrite) := goodIn_app (goodIn_of _ (by decide +kernel)) ggL_law_X9_blocksToWrite
set_option maxRecDepth 20000 in
theorem ggL_law_X10_blocksToWrite : GoodIn wsL_law wsX10_blocksToWrite := goodIn_r _ [692, 201, 220, 693, 694, 695, 5, 696, 697, 698, 699, 700, 193, 194, 173, 195, 174, 184, 177, 178, 179, 701, 702, 703, 704, 1238, 1239, 1240, 1241, 1242, 1243, 1244, 1245, 1246, 1247, 1248, 1249, 1250, 1251, 1252, 1253, 1254, 1255, 1256, 1257, 1258, 1259, 1260, 1261, 1262, 1263, 1264, 1265, 1266, 1267, 1268, 1269, 1270, 1271, 1272, 1273, 1274, 1275] (by decide +kernel) (by decide +kernel)
set_option maxRecDepth 20000 in
theorem gL_law_X10_blocksToWrite : GoodIn wsL_law (wsV RL 213 RX10 yX10_blocksToWrite wsX10_blocksToWrite) := goodIn_app (goodIn_of _ (by decide +kernel)) ggL_law_X10_blocksToWrite
set_option maxRecDepth 20000 in
theorem ggL_law_L_commit : GoodIn wsL_law wsL_commit := goodIn_ca (goodIn_ca (goodIn_ca (goodIn_r _ [707, 275, 247, 708, 709, 710, 711, 2, 712, 280, 281, 252, 253, 713, 714, 34, 20, 229, 715, 255, 256, 257, 258, 55, 646, 647, 648, 649, 25, 31, 33, 282, 21, 130, 650, 239, 240, 24, 241, 77, 78, 651, 652, 653, 654, 76, 306, 307, 655, 357, 358, 359, 313, 314, 656, 309, 310, 311, 312, 657, 658, 659, 19, 660, 67, 148, 149, 150, 151, 68, 69, 70, 71, 72, 661, 662, 663, 664, 665, 666, 667, 668, 716, 717, 718, 719, 720, 37, 35, 721, 722, 723, 724, 725, 726, 399, 400, 401, 402, 403, 404, 669, 670, 671, 672, 673, 674, 675, 676, 677, 678, 679, 680, 681, 682, 683, 684, 685, 686, 687, 688, 727, 728, 729, 730, 731, 129, 732, 733, 734, 305, 735, 736, 737, 738, 29, 16, 128, 739, 740, 741, 28, 742, 82, 83, 84, 743, 744, 745, 746, 143, 136, 137, 138, 747, 748, 749, 750, 751, 752, 153, 154, 15, 155, 63, 62, 156, 157, 158, 159, 160, 753, 754, 755, 756, 144, 145, 146, 147, 161, 162, 163, 164, 757, 758, 759, 760, 761, 49, 762, 54, 763, 764, 765, 766, 767, 768, 769, 770, 48, 771, 106, 772, 107, 230, 231, 232, 233, 234, 235, 236, 57, 237, 123, 122, 120, 238, 773, 774, 775, 776, 1222, 1223, 1224, 1225, 1226, 1227, 1228, 1229, 1230, 1231, 1232, 1233, 1234, 1235, 1236, 1237, 1278, 1279, 1280, 1281, 1282, 1283, 1306, 1307, 1308, 1309, 1284, 1285, 1286, 1276, 1277, 1287, 1288, 1289, 1300, 1301] (by decide +kernel) (by decide +kernel)) (goodIn_sub (fun _ h => List.mem_append_left _ (List.mem_append_left _ (List.mem_append_left _ (List.mem_append_right _ h)))) (by decide +kernel))) (goodIn_sub (fun _ h => List.mem_append_left _ (List.mem_append_left _ (List.mem_append_left _ (List.mem_append_left _ (List.mem_append_right _ h))))) (by decide +kernel))) (goodIn_sub (fun _ h => List.mem_append_right _ h) (by decide +kernel))
set_option maxRecDepth 20000 in
theorem gL_law_L_commit : GoodIn wsL_law (va_wsS RL 214 yL_commit wsL_commit) := goodIn_app (goodIn_of _ (by decide +kernel)) ggL_law_L_commit
set_option maxRecDepth 20000 in
theorem ggL_law_X10_commit : GoodIn wsL_law wsX10_commit := goodIn_r _ [780, 202, 220, 170, 781, 201, 782, 32, 193, 172, 196, 194, 195, 445, 149, 150, 151, 203, 171, 173, 174, 184, 693, 694, 695, 5, 696, 697, 698, 699, 700, 177, 178, 179, 701, 702, 703, 704, 783, 784, 785, 786, 787, 788, 789, 790, 175, 791, 792, 793, 794, 795, 796, 797, 798, 799, 800, 801, 802, 169, 803, 804, 805, 806, 187, 807, 808, 809, 810, 811, 188, 216, 217, 218, 219, 221, 222, 223, 224, 176, 180, 1238, 1239, 1240, 1241, 1242, 1243, 1244, 1245, 1246, 1247, 1248, 1249, 1250, 1251, 1252, 1253, 1254, 1255, 1256, 1257, 1258, 1259, 1260, 1261, 1262, 1263, 1264, 1265, 1266, 1267, 1268, 1269, 1270, 1271, 1272, 1273, 1274, 1275] (by decide +kernel) (by decide +kernel)
set_option maxRecDepth 20000 in
theorem gL_law_X10_commit : GoodIn wsL_law (wsV RL 216 RX10 yX10_commit wsX10_commit) := goodIn_app (goodIn_of _ (by decide +kernel)) ggL_law_X10_commit
set_option maxRecDepth 20000 in
theorem ggL_law_L_reopen : GoodIn wsL_law wsL_reopen := goodIn_ca (goodIn_r _ [814, 247, 815, 816, 817, 2, 818, 252, 253, 55, 54, 20, 16, 229, 230, 231, 232, 233, 31, 34, 37, 234, 235, 236, 57, 237, 123, 122, 120, 238, 239, 240, 24, 241, 77, 78, 819, 820, 821, 822, 823, 824, 825, 826, 15, 827, 62, 828, 829, 830, 831, 832, 833, 834, 835, 836, 157, 158, 159, 160, 837, 838, 839, 840, 841, 842, 843, 844, 845, 846, 847, 848, 849, 850, 19, 851, 71, 852, 70, 72, 69, 67, 853, 854, 855, 856, 857, 68, 306, 307, 688, 682, 683, 313, 314, 1222, 1223, 1224, 1225, 1226, 1227, 1228, 1229, 1230, 1231, 1232, 1233, 1234, 1235, 1236, 1237, 1278, 1279, 1280, 1281, 1282, 1283, 1306, 1307, 1308, 1309, 1284, 1285, 1286, 1276, 1277] (by decide +kernel) (by decide +kernel)) (goodIn_sub (fun _ h => List.mem_append_left _ (List.mem_append_left _ (List.mem_append_left _ (List.mem_append_left _ (List.mem_append_right _ h))))) (by decide +kernel))
set_option maxRecDepth 20000 in
theorem gL_law_L_reopen : GoodIn wsL_law (va_wsS RL 217 yL_reopen wsL_reopen) := goodIn_app (goodIn_of _ (by decide +kernel)) ggL_law_L_reopen
set_option maxRecDepth 20000 in
theorem ggL_law_X10_reopen : GoodIn wsL_law wsX10_reopen := goodIn_r _ [861, 201, 202, 188, 203, 170, 171, 172, 173, 174, 216, 217, 218, 5, 219, 220, 175, 221, 222, 223, 224, 176, 180, 177, 862, 863, 864, 865, 781, 866, 867, 868, 869, 212, 213, 214, 215, 169, 208, 209, 210, 211, 322, 323, 324, 870, 871, 872, 263, 264, 265, 266, 1238, 1239, 1240, 1241, 1242, 1243, 1244, 1245, 1246, 1247, 1248, 1249, 1250, 1251, 1252, 1253, 1254, 1255, 1256, 1257, 1258, 1259, 1260, 1261, 1262, 1263, 1264, 1265, 1266, 1267, 1268, 1269, 1270, 1271, 1272, 1273, 1274, 1275] (by decide +kernel) (by decide +kernel)
set_option maxRecDepth 20000 in
theorem gL_law_X10_reopen : GoodIn wsL_law (wsV RL 219 RX10 yX10_reopen wsX10_reopen) := goodIn_app (goodIn_of _ (by decide +kernel)) ggL_law_X10_reopen
set_option maxRecDepth 20000 in
theorem ggL_law_X9_isOpen : GoodIn wsL_law wsX9_isOpen := goodIn_r _ [876, 55, 1222, 1223, 1224, 1225, 1226, 1227, 1228, 1229, 1230, 1231, 1232, 1233, 1234, 1235, 1236, 1237] (by decide +kernel) (by decide +kernel)
set_option maxRecDepth 20000 in
theorem gL_law_X9_isOpen : GoodIn wsL_law (wsV RL 220 RX9 yX9_isOpen wsX9_isOpen) := goodIn_app (goodIn_of _ (by decide +kernel)) ggL_law_X9_isOpen
set_option maxRecDepth 20000 in
theorem ggL_law_X10_isOpen : GoodIn wsL_law wsX10_isOpen := goodIn_r _ [880, 201, 202, 1238, 1239, 1240, 1241, 1242, 1243, 1244, 1245, 1246, 1247, 1248, 1249, 1250, 1251, 1252, 1253, 1254, 1255, 1256, 1257, 1258, 1259, 1260, 1261, 1262, 1263, 1264, 1265, 1266, 1267, 1268, 1269, 1270, 1271, 1272, 1273, 1274, 1275] (by decide +kernel) (by decide +kernel)
set_option maxRecDepth 20000 in
theorem gL_law_X10_isOpen : GoodIn wsL_law (wsV RL 224 RX10 yX10_isOpen wsX10_isOpen) := goodIn_app (goodIn_of _ (by decide +kernel)) ggL_law_X10_isOpen
set_option maxRecDepth 20000 in
theorem ggL_law_L_commitNumber : GoodIn wsL_law wsL_commitNumber := goodIn_ca (goodIn_r _ [883, 247, 884, 885, 886, 2, 887, 20, 229, 255, 256, 257, 258, 252, 253, 55, 1222, 1223, 1224, 1225, 1226, 1227, 1228, 1229, 1230, 1231, 1232, 1233, 1234, 1235, 1236, 1237, 1278, 1279, 1280, 1281, 1282, 1283] (by decide +kernel) (by decide +kernel)) (goodIn_sub (fun _ h => List.mem_append_left _ (List.mem_append_left _ (List.mem_append_left _ (List.mem_append_left _ (List.mem_append_right _ h))))) (by decide +kernel))
set_option maxRecDepth 20000 in
theorem gL_law_L_commitNumber : GoodIn wsL_law (va_wsS RL 225 yL_commitNumber wsL_commitNumber) := goodIn_app (goodIn_of _ (by decide +kernel)) ggL_law_L_commitNumber
set_option maxRecDepth 20000 in
theorem ggL_law_X10_commitNumber : GoodIn wsL_law wsX10_commitNumber := goodIn_r _ [891, 202, 201, 170, 1238, 1239, 1240, 1241, 1242, 1243, 1244, 1245, 1246, 1247, 1248, 1249, 1250, 1251, 1252, 1253, 1254, 1255, 1256, 1257, 1258, 1259, 1260, 1261, 1262, 1263, 1264, 1265, 1266, 1267, 1268, 1269, 1270, 1271, 1272, 1273, 1274, 1275] (by decide +kernel) (by decide +kernel)
set_option maxRecDepth 20000 in
theorem gL_law_X10_commitNumber : GoodIn wsL_law (wsV RL 227 RX10 yX10_commitNumber wsX10_commitNumber) := goodIn_app (goodIn_of _ (by decide +kernel)) ggL_law_X10_commitNumber
set_option maxRecDepth 20000 in
theorem ggL_law_L_size : GoodIn wsL_law wsL_size := goodIn_ca (goodIn_r _ [894, 247, 895, 896, 897, 2, 898, 20, 304, 255, 256, 257, 258, 252, 253, 55, 726, 399, 400, 401, 402, 403, 404, 1222, 1223, 1224, 1225, 1226, 1227, 1228, 1229, 1230, 1231, 1232, 1233, 1234, 1235, 1236, 1237, 1278, 1279, 1280, 1281, 1282, 1283] (by decide +kernel) (by decide +kernel)) (goodIn_sub (fun _ h => List.mem_append_left _ (List.mem_append_left _ (List.mem_append_left _ (List.mem_append_left _ (List.mem_append_right _ h))))) (by decide +kernel))
set_option maxRecDepth 20000 in
theorem gL_law_L_size : GoodIn wsL_law (va_wsS RL 228 yL_size wsL_size) := goodIn_app (goodIn_of _ (by decide +kernel)) ggL_law_L_size
set_option maxRecDepth 20000 in
theorem ggL_law_X10_size : GoodIn wsL_law wsX10_size := goodIn_r _ [902, 202, 201, 173, 1238, 1239, 1240, 1241, 1242, 1243, 1244, 1245, 1246, 1247, 1248, 1249, 1250, 1251, 1252, 1253, 1254, 1255, 1256, 1257, 1258, 1259, 1260, 1261, 1262, 1263, 1264, 1265, 1266, 1267, 1268, 1269, 1270, 1271, 1272, 1273, 1274, 1275] (by decide +kernel) (by decide +kernel)
set_option maxRecDepth 20000 in
theorem gL_law_X10_size : GoodIn wsL_law (wsV RL 230 RX10 yX10_size wsX10_size) := goodIn_app (goodIn_of _ (by decide +kernel)) ggL_law_X10_size
set_option maxRecDepth 20000 in
theorem ggL_law_L_value : GoodIn wsL_law wsL_value := goodIn_ca (goodIn_ca (goodIn_ca (goodIn_r _ [905, 247, 275, 339, 906, 907, 908, 2, 909, 20, 255, 256, 257, 258, 252, 253, 55, 291, 292, 293, 280, 281, 910, 911, 912, 348, 349, 304, 355, 305, 306, 307, 1222, 1223, 1224, 1225, 1226, 1227, 1228, 1229, 1230, 1231, 1232, 1233, 1234, 1235, 1236, 1237, 1278, 1279, 1280, 1281, 1282, 1283] (by decide +kernel) (by decide +kernel)) (goodIn_sub (fun _ h => List.mem_append_left _ (List.mem_append_left _ (List.mem_append_left _ (List.mem_append_left _ (List.mem_append_right _ h))))) (by decide +kernel))) (goodIn_sub (fun _ h => List.mem_append_left _ (List.mem_append_left _ (List.mem_append_left _ (List.mem_append_right _ h)))) (by decide +kernel))) (goodIn_sub (fun _ h => List.mem_append_left _ (List.mem_append_right _ h)) (by decide +kernel))
set_option maxRecDepth 20000 in
theorem gL_law_L_value : GoodIn wsL_law (va_wsS RL 231 yL_value wsL_value) := goodIn_app (goodIn_of _ (by decide +kernel)) ggL_law_L_value
set_option maxRecDepth 20000 in
theorem ggL_law_X10_value : GoodIn wsL_law wsX10_value := goodIn_r _ [916, 202, 173, 201, 174, 325, 326, 5, 327, 322, 323, 324, 1238, 1239, 1240, 1241, 1242, 1243, 1244, 1245, 1246, 1247, 1248, 1249, 1250, 1251, 1252, 1253, 1254, 1255, 1256, 1257, 1258, 1259, 1260, 1261, 1262, 1263, 1264, 1265, 1266, 1267, 1268, 1269, 1270, 1271, 1272, 1273, 1274, 1275] (by decide +kernel) (by decide +kernel)
set_option maxRecDepth 20000 in
theorem gL_law_X10_value : GoodIn wsL_law (wsV RL 233 RX10 yX10_value wsX10_value) := goodIn_app (goodIn_of _ (by decide +kernel)) ggL_law_X10_value
set_option maxRecDepth 20000 in
theorem ggL_law_L_keyAt : GoodIn wsL_law wsL_keyAt := goodIn_ca (goodIn_ca (goodIn_r _ [919, 247, 274, 920, 921, 922, 2, 923, 20, 304, 255, 256, 257, 258, 252, 253, 55, 726, 399, 400, 401, 402, 403, 404, 286, 287, 288, 289, 290, 732, 733, 734, 305, 306, 307, 1222, 1223, 1224, 1225, 1226, 1227, 1228, 1229, 1230, 1231, 1232, 1233, 1234, 1235, 1236, 1237, 1278, 1279, 1280, 1281, 1282, 1283] (by decide +kernel) (by decide +kernel)) (goodIn_sub (fun _ h => List.mem_append_left _ (List.mem_append_left _ (List.mem_append_left _ (List.mem_append_left _ (List.mem_append_right _ h))))) (by decide +kernel))) (goodIn_sub (fun _ h => List.mem_append_left _ (List.mem_append_left _ (List.mem_append_right _ h))) (by decide +kernel))
set_option maxRecDepth 20000 in
theorem gL_law_L_keyAt : GoodIn wsL_law (va_wsS RL 234 yL_keyAt wsL_keyAt) := goodIn_app (goodIn_of _ (by decide +kernel)) ggL_law_L_keyAt
set_option maxRecDepth 20000 in
theorem ggL_law_X10_keyAt : GoodIn wsL_law wsX10_keyAt := goodIn_r _ [927, 202, 201, 173, 263, 264, 265, 5, 266, 1238, 1239, 1240, 1241, 1242, 1243, 1244, 1245, 1246, 1247, 1248, 1249, 1250, 1251, 1252, 1253, 1254, 1255, 1256, 1257, 1258, 1259, 1260, 1261, 1262, 1263, 1264, 1265, 1266, 1267, 1268, 1269, 1270, 1271, 1272, 1273, 1274, 1275] (by decide +kernel) (by decide +kernel)
set_option maxRecDepth 20000 in
theorem gL_law_X10_keyAt : GoodIn wsL_law (wsV RL 236 RX10 yX10_keyAt wsX10_keyAt) := goodIn_app (goodIn_of _ (by decide +kernel)) ggL_law_X10_keyAt
set_option maxRecDepth 20000 in
theorem ggL_law_L_sum : GoodIn wsL_law wsL_sum := goodIn_ca (goodIn_ca (goodIn_r _ [930, 247, 275, 931, 932, 933, 2, 934, 280, 281, 20, 304, 355, 255, 256, 257, 258, 252, 253, 55, 291, 292, 293, 305, 306, 307, 1222, 1223, 1224, 1225, 1226, 1227, 1228, 1229, 1230, 1231, 1232, 1233, 1234, 1235, 1236, 1237, 1278, 1279, 1280, 1281, 1282, 1283] (by decide +kernel) (by decide +kernel)) (goodIn_sub (fun _ h => List.mem_append_left _ (List.mem_append_left _ (List.mem_append_left _ (List.mem_append_right _ h)))) (by decide +kernel))) (goodIn_sub (fun _ h => List.mem_append_left _ (List.mem_append_left _ (List.mem_append_left _ (List.mem_append_left _ (List.mem_append_right _ h))))) (by decide +kernel))
set_option maxRecDepth 20000 in
theorem gL_law_L_sum : GoodIn wsL_law (va_wsS RL 237 yL_sum wsL_sum) := goodIn_app (goodIn_of _ (by decide +kernel)) ggL_law_L_sum
set_option maxRecDepth 20000 in
theorem ggL_law_X10_sum : GoodIn wsL_law wsX10_sum := goodIn_r _ [938, 202, 201, 173, 174, 325, 326, 5, 327, 322, 323, 324, 1238, 1239, 1240, 1241, 1242, 1243, 1244, 1245, 1246, 1247, 1248, 1249, 1250, 1251, 1252, 1253, 1254, 1255, 1256, 1257, 1258, 1259, 1260, 1261, 1262, 1263, 1264, 1265, 1266, 1267, 1268, 1269, 1270, 1271, 1272, 1273, 1274, 1275] (by decide +kernel) (by decide +kernel)
set_option maxRecDepth 20000 in
theorem gL_law_X10_sum : GoodIn wsL_law (wsV RL 239 RX10 yX10_sum wsX10_sum) := goodIn_app (goodIn_of _ (by decide +kernel)) ggL_law_X10_sum
set_option maxRecDepth 20000 in
theorem ggL_law_L_pageBlock : GoodIn wsL_law wsL_pageBlock := goodIn_ca (goodIn_ca (goodIn_r _ [941, 247, 274, 942, 943, 944, 2, 945, 20, 731, 255, 256, 257, 258, 252, 253, 55, 286, 287, 288, 289, 290, 1222, 1223, 1224, 1225, 1226, 1227, 1228, 1229, 1230, 1231, 1232, 1233, 1234, 1235, 1236, 1237, 1278, 1279, 1280, 1281, 1282, 1283] (by decide +kernel) (by decide +kernel)) (goodIn_sub (fun _ h => List.mem_append_left _ (List.mem_append_left _ (List.mem_append_left _ (List.mem_append_left _ (List.mem_append_right _ h))))) (by decide +kernel))) (goodIn_sub (fun _ h => List.mem_append_left _ (List.mem_append_left _ (List.mem_append_right _ h))) (by decide +kernel))
set_option maxRecDepth 20000 in
theorem gL_law_L_pageBlock : GoodIn wsL_law (va_wsS RL 240 yL_pageBlock wsL_pageBlock) := goodIn_app (goodIn_of _ (by decide +kernel)) ggL_law_L_pageBlock
set_option maxRecDepth 20000 in
theorem ggL_law_X10_pageBlock : GoodIn wsL_law wsX10_pageBlock := goodIn_r _ [949, 202, 201, 172, 322, 323, 5, 324, 1238, 1239, 1240, 1241, 1242, 1243, 1244, 1245, 1246, 1247, 1248, 1249, 1250, 1251, 1252, 1253, 1254, 1255, 1256, 1257, 1258, 1259, 1260, 1261, 1262, 1263, 1264, 1265, 1266, 1267, 1268, 1269, 1270, 1271, 1272, 1273, 1274, 1275] (by decide +kernel) (by decide +kernel)
set_option maxRecDepth 20000 in
theorem gL_law_X10_pageBlock : GoodIn wsL_law (wsV RL 242 RX10 yX10_pageBlock wsX10_pageBlock) := goodIn_app (goodIn_of _ (by decide +kernel)) ggL_law_X10_pageBlock
set_option maxRecDepth 20000 in
theorem ggL_law_L_freeCount : GoodIn wsL_law wsL_freeCount := goodIn_ca (goodIn_r _ [952, 247, 953, 954, 955, 2, 956, 255, 256, 257, 258, 252, 253, 55, 716, 717, 718, 719, 20, 720, 37, 35, 721, 313, 314, 722, 723, 724, 19, 725, 72, 67, 726, 399, 400, 401, 402, 403, 404, 1222, 1223, 1224, 1225, 1226, 1227, 1228, 1229, 1230, 1231, 1232, 1233, 1234, 1235, 1236, 1237, 1278, 1279, 1280, 1281, 1282, 1283] (by decide +kernel) (by decide +kernel)) (goodIn_sub (fun _ h => List.mem_append_left _ (List.mem_append_left _ (List.mem_append_left _ (List.mem_append_left _ (List.mem_append_right _ h))))) (by decide +kernel))
set_option maxRecDepth 20000 in
theorem gL_law_L_freeCount : GoodIn wsL_law (va_wsS RL 243 yL_freeCount wsL_freeCount) := goodIn_app (goodIn_of _ (by decide +kernel)) ggL_law_L_freeCount
set_option maxRecDepth 20000 in
theorem ggL_law_X10_freeCount : GoodIn wsL_law wsX10_freeCount := goodIn_r _ [960, 202, 201, 783, 784, 785, 5, 786, 787, 788, 789, 790, 175, 791, 792, 793, 794, 171, 172, 1238, 1239, 1240, 1241, 1242, 1243, 1244, 1245, 1246, 1247, 1248, 1249, 1250, 1251, 1252, 1253, 1254, 1255, 1256, 1257, 1258, 1259, 1260, 1261, 1262, 1263, 1264, 1265, 1266, 1267, 1268, 1269, 1270, 1271, 1272, 1273, 1274, 1275] (by decide +kernel) (by decide +kernel)
set_option maxRecDepth 20000 in
theorem gL_law_X10_freeCount : GoodIn wsL_law (wsV RL 245 RX10 yX10_freeCount wsX10_freeCount) := goodIn_app (goodIn_of _ (by decide +kernel)) ggL_law_X10_freeCount
set_option maxRecDepth 20000 in
theorem ggL_law_L_freeBlock : GoodIn wsL_law wsL_freeBlock := goodIn_ca (goodIn_ca (goodIn_r _ [963, 247, 274, 964, 965, 966, 2, 967, 255, 256, 257, 258, 252, 253, 55, 716, 717, 718, 719, 20, 720, 37, 35, 721, 313, 314, 722, 723, 724, 19, 725, 72, 67, 726, 399, 400, 401, 402, 403, 404, 286, 287, 288, 289, 290, 732, 733, 734, 305, 306, 307, 1222, 1223, 1224, 1225, 1226, 1227, 1228, 1229, 1230, 1231, 1232, 1233, 1234, 1235, 1236, 1237, 1278, 1279, 1280, 1281, 1282, 1283] (by decide +kernel) (by decide +kernel)) (goodIn_sub (fun _ h => List.mem_append_left _ (List.mem_append_left _ (List.mem_append_left _ (List.mem_append_left _ (List.mem_append_right _ h))))) (by decide +kernel))) (goodIn_sub (fun _ h => List.mem_append_left _ (List.mem_append_left _ (List.mem_append_right _ h))) (by decide +kernel))
set_option maxRecDepth 20000 in
theorem gL_law_L_freeBlock : GoodIn wsL_law (va_wsS RL 246 yL_freeBlock wsL_freeBlock) := goodIn_app (goodIn_of _ (by decide +kernel)) ggL_law_L_freeBlock
set_option maxRecDepth 20000 in
theorem ggL_law_X10_freeBlock : GoodIn wsL_law wsX10_freeBlock := goodIn_r _ [971, 202, 201, 787, 788, 789, 5, 790, 175, 791, 792, 793, 794, 171, 172, 263, 264, 265, 266, 1238, 1239, 1240, 1241, 1242, 1243, 1244, 1245, 1246, 1247, 1248, 1249, 1250, 1251, 1252, 1253, 1254, 1255, 1256, 1257, 1258, 1259, 1260, 1261, 1262, 1263, 1264, 1265, 1266, 1267, 1268, 1269, 1270, 1271, 1272, 1273, 1274, 1275] (by decide +kernel) (by decide +kernel)
set_option maxRecDepth 20000 in
theorem gL_law_X10_freeBlock : GoodIn wsL_law (wsV RL 248 RX10 yX10_freeBlock wsX10_freeBlock) := goodIn_app (goodIn_of _ (by decide +kernel)) ggL_law_X10_freeBlock
set_option maxRecDepth 20000 in
theorem ggL_law_L_wrongBlock : GoodIn wsL_law wsL_wrongBlock := goodIn_ca (goodIn_r _ [974, 247, 975, 976, 977, 2, 978, 20, 16, 255, 256, 257, 258, 252, 253, 55, 979, 980, 981, 19, 982, 852, 71, 72, 67, 983, 830, 831, 15, 832, 62, 833, 834, 835, 836, 157, 158, 159, 160, 984, 985, 986, 987, 70, 988, 989, 990, 991, 992, 993, 994, 995, 69, 68, 688, 682, 683, 306, 307, 1222, 1223, 1224, 1225, 1226, 1227, 1228, 1229, 1230, 1231, 1232, 1233, 1234, 1235, 1236, 1237, 1276, 1277, 1278, 1279, 1280, 1281, 1282, 1283] (by decide +kernel) (by decide +kernel)) (goodIn_sub (fun _ h => List.mem_append_left _ (List.mem_append_left _ (List.mem_append_left _ (List.mem_append_left _ (List.mem_append_right _ h))))) (by decide +kernel))
set_option maxRecDepth 20000 in
theorem gL_law_L_wrongBlock : GoodIn wsL_law (va_wsS RL 249 yL_wrongBlock wsL_wrongBlock) := goodIn_app (goodIn_of _ (by decide +kernel)) ggL_law_L_wrongBlock
set_option maxRecDepth 20000 in
theorem ggL_law_X10_wrongBlock : GoodIn wsL_law wsX10_wrongBlock := goodIn_r _ [999, 202, 201, 1000, 1001, 1002, 5, 1003, 203, 170, 171, 172, 791, 792, 793, 794, 866, 867, 868, 869, 212, 213, 214, 215, 169, 208, 209, 210, 211, 1004, 1005, 1006, 1007, 173, 174, 1238, 1239, 1240, 1241, 1242, 1243, 1244, 1245, 1246, 1247, 1248, 1249, 1250, 1251, 1252, 1253, 1254, 1255, 1256, 1257, 1258, 1259, 1260, 1261, 1262, 1263, 1264, 1265, 1266, 1267, 1268, 1269, 1270, 1271, 1272, 1273, 1274, 1275] (by decide +kernel) (by decide +kernel)
set_option maxRecDepth 20000 in
theorem gL_law_X10_wrongBlock : GoodIn wsL_law (wsV RL 251 RX10 yX10_wrongBlock wsX10_wrongBlock) := goodIn_app (goodIn_of _ (by decide +kernel)) ggL_law_X10_wrongBlock
set_option maxRecDepth 20000 in
theorem ggL_law_X9_logSize : GoodIn wsL_law wsX9_logSize := goodIn_r _ [1011, 49, 1012, 1222, 1223, 1224, 1225, 1226, 1227, 1228, 1229, 1230, 1231, 1232, 1233, 1234, 1235, 1236, 1237, 1300, 1301] (by decide +kernel) (by decide +kernel)
set_option maxRecDepth 20000 in
theorem gL_law_X9_logSize : GoodIn wsL_law (wsV RL 252 RX9 yX9_logSize wsX9_logSize) := goodIn_app (goodIn_of _ (by decide +kernel)) ggL_law_X9_logSize
set_option maxRecDepth 20000 in
theorem ggL_law_X10_logSize : GoodIn wsL_law wsX10_logSize := goodIn_r _ [1016, 201, 807, 1238, 1239, 1240, 1241, 1242, 1243, 1244, 1245, 1246, 1247, 1248, 1249, 1250, 1251, 1252, 1253, 1254, 1255, 1256, 1257, 1258, 1259, 1260, 1261, 1262, 1263, 1264, 1265, 1266, 1267, 1268, 1269, 1270, 1271, 1272, 1273, 1274, 1275] (by decide +kernel) (by decide +kernel)
set_option maxRecDepth 20000 in
theorem gL_law_X10_logSize : GoodIn wsL_law (wsV RL 255 RX10 yX10_logSize wsX10_logSize) := goodIn_app (goodIn_of _ (by decide +kernel)) ggL_law_X10_logSize
set_option maxRecDepth 20000 in
theorem ggL_law_L_logged : GoodIn wsL_law wsL_logged := goodIn_ca (goodIn_ca (goodIn_r _ [1019, 274, 275, 1020, 1021, 1022, 2, 1023, 49, 1012, 1024, 286, 287, 288, 289, 290, 1025, 1026, 1027, 280, 281, 1222, 1223, 1224, 1225, 1226, 1227, 1228, 1229, 1230, 1231, 1232, 1233, 1234, 1235, 1236, 1237, 1300, 1301] (by decide +kernel) (by decide +kernel)) (goodIn_sub (fun _ h => List.mem_append_left _ (List.mem_append_left _ (List.mem_append_right _ h))) (by decide +kernel))) (goodIn_sub (fun _ h => List.mem_append_left _ (List.mem_append_left _ (List.mem_append_left _ (List.mem_append_right _ h)))) (by decide +kernel))
set_option maxRecDepth 20000 in
theorem gL_law_L_logged : GoodIn wsL_law (va_wsS RL 256 yL_logged wsL_logged) := goodIn_app (goodIn_of _ (by decide +kernel)) ggL_law_L_logged
set_option maxRecDepth 20000 in
theorem ggL_law_X10_logged : GoodIn wsL_law wsX10_logged := goodIn_r _ [1031, 807, 201, 187, 322, 323, 5, 324, 1238, 1239, 1240, 1241, 1242, 1243, 1244, 1245, 1246, 1247, 1248, 1249, 1250, 1251, 1252, 1253, 1254, 1255, 1256, 1257, 1258, 1259, 1260, 1261, 1262, 1263, 1264, 1265, 1266, 1267, 1268, 1269, 1270, 1271, 1272, 1273, 1274, 1275] (by decide +kernel) (by decide +kernel)
set_option maxRecDepth 20000 in
theorem gL_law_X10_logged : GoodIn wsL_law (wsV RL 258 RX10 yX10_logged wsX10_logged) := goodIn_app (goodIn_of _ (by decide +kernel)) ggL_law_X10_logged
set_option maxRecDepth 20000 in
theorem ggL_law_L_statistic : GoodIn wsL_law wsL_statistic := goodIn_ca (goodIn_r _ [1034, 275, 1035, 1036, 1037, 2, 1038, 54, 1025, 1026, 1027, 280, 281, 1222, 1223, 1224, 1225, 1226, 1227, 1228, 1229, 1230, 1231, 1232, 1233, 1234, 1235, 1236, 1237] (by decide +kernel) (by decide +kernel)) (goodIn_sub (fun _ h => List.mem_append_left _ (List.mem_append_left _ (List.mem_append_left _ (List.mem_append_right _ h)))) (by decide +kernel))
set_option maxRecDepth 20000 in
theorem gL_law_L_statistic : GoodIn wsL_law (va_wsS RL 259 yL_statistic wsL_statistic) := goodIn_app (goodIn_of _ (by decide +kernel)) ggL_law_L_statistic
set_option maxRecDepth 20000 in
theorem ggL_law_X10_statistic : GoodIn wsL_law wsX10_statistic := goodIn_r _ [1042, 201, 188, 322, 323, 5, 324, 1238, 1239, 1240, 1241, 1242, 1243, 1244, 1245, 1246, 1247, 1248, 1249, 1250, 1251, 1252, 1253, 1254, 1255, 1256, 1257, 1258, 1259, 1260, 1261, 1262, 1263, 1264, 1265, 1266, 1267, 1268, 1269, 1270, 1271, 1272, 1273, 1274, 1275] (by decide +kernel) (by decide +kernel)
set_option maxRecDepth 20000 in
theorem gL_law_X10_statistic : GoodIn wsL_law (wsV RL 261 RX10 yX10_statistic wsX10_statistic) := goodIn_app (goodIn_of _ (by decide +kernel)) ggL_law_X10_statistic
set_option maxRecDepth 20000 in
theorem ggL_law_L_pin : GoodIn wsL_law wsL_pin := goodIn_ca (goodIn_r _ [1045, 247, 1046, 1047, 1048, 2, 1049, 252, 253, 37, 35, 20, 255, 256, 257, 258, 55, 657, 658, 659, 19, 660, 67, 148, 149, 150, 151, 68, 69, 70, 71, 72, 1222, 1223, 1224, 1225, 1226, 1227, 1228, 1229, 1230, 1231, 1232, 1233, 1234, 1235, 1236, 1237, 1278, 1279, 1280, 1281, 1282, 1283] (by decide +kernel) (by decide +kernel)) (goodIn_sub (fun _ h => List.mem_append_left _ (List.mem_append_left _ (List.mem_append_left _ (List.mem_append_left _ (List.mem_append_right _ h))))) (by decide +kernel))
set_option maxRecDepth 20000 in
theorem gL_law_L_pin : GoodIn wsL_law (va_wsS RL 262 yL_pin wsL_pin) := goodIn_app (goodIn_of _ (by decide +kernel)) ggL_law_L_pin
set_option maxRecDepth 20000 in
theorem ggL_law_X10_pin : GoodIn wsL_law wsX10_pin := goodIn_r _ [1053, 201, 202, 175, 170, 171, 172, 445, 149, 150, 151, 173, 174, 263, 264, 265, 5, 266, 1238, 1239, 1240, 1241, 1242, 1243, 1244, 1245, 1246, 1247, 1248, 1249, 1250, 1251, 1252, 1253, 1254, 1255, 1256, 1257, 1258, 1259, 1260, 1261, 1262, 1263, 1264, 1265, 1266, 1267, 1268, 1269, 1270, 1271, 1272, 1273, 1274, 1275] (by decide +kernel) (by decide +kernel)
set_option maxRecDepth 20000 in
theorem gL_law_X10_pin : GoodIn wsL_law (wsV RL 264 RX10 yX10_pin wsX10_pin) := goodIn_app (goodIn_of _ (by decide +kernel)) ggL_law_X10_pin
set_option maxRecDepth 20000 in
theorem ggL_law_L_pinnedValue : GoodIn wsL_law wsL_pinnedValue := goodIn_ca (goodIn_ca (goodIn_ca (goodIn_ca (goodIn_r _ [1056, 274, 275, 247, 339, 1057, 1058, 1059, 2, 1060, 35, 286, 287, 288, 289, 290, 291, 292, 293, 280, 281, 1061, 1062, 1063, 1064, 252, 253, 37, 910, 911, 912, 348, 349, 304, 355, 305, 306, 307, 1222, 1223, 1224, 1225, 1226, 1227, 1228, 1229, 1230, 1231, 1232, 1233, 1234, 1235, 1236, 1237, 1278, 1279, 1280, 1281, 1282, 1283] (by decide +kernel) (by decide +kernel)) (goodIn_sub (fun _ h => List.mem_append_left _ (List.mem_append_left _ (List.mem_append_right _ h))) (by decide +kernel))) (goodIn_sub (fun _ h => List.mem_append_left _ (List.mem_append_left _ (List.mem_append_left _ (List.mem_append_right _ h)))) (by decide +kernel))) (goodIn_sub (fun _ h => List.mem_append_left _ (List.mem_append_left _ (List.mem_append_left _ (List.mem_append_left _ (List.mem_append_right _ h))))) (by decide +kernel))) (goodIn_sub (fun _ h => List.mem_append_left _ (List.mem_append_right _ h)) (by decide +kernel))
set_option maxRecDepth 20000 in
theorem gL_law_L_pinnedValue : GoodIn wsL_law (va_wsS RL 265 yL_pinnedValue wsL_pinnedValue) := goodIn_app (goodIn_of _ (by decide +kernel)) ggL_law_L_pinnedValue
set_option maxRecDepth 20000 in
theorem ggL_law_X10_pinnedValue : GoodIn wsL_law wsX10_pinnedValue := goodIn_r _ [1068, 175, 173, 201, 174, 1069, 1070, 5, 1071, 322, 323, 324, 325, 326, 327, 1238, 1239, 1240, 1241, 1242, 1243, 1244, 1245, 1246, 1247, 1248, 1249, 1250, 1251, 1252, 1253, 1254, 1255, 1256, 1257, 1258, 1259, 1260, 1261, 1262, 1263, 1264, 1265, 1266, 1267, 1268, 1269, 1270, 1271, 1272, 1273, 1274, 1275] (by decide +kernel) (by decide +kernel)
set_option maxRecDepth 20000 in
theorem gL_law_X10_pinnedValue : GoodIn wsL_law (wsV RL 267 RX10 yX10_pinnedValue wsX10_pinnedValue) := goodIn_app (goodIn_of _ (by decide +kernel)) ggL_law_X10_pinnedValue
set_option maxRecDepth 20000 in
theorem ggL_law_L_pinnedCommit : GoodIn wsL_law wsL_pinnedCommit := goodIn_ca (goodIn_ca (goodIn_r _ [1074, 274, 247, 1075, 1076, 1077, 2, 1078, 35, 229, 286, 287, 288, 289, 290, 1061, 1062, 1063, 1064, 252, 253, 37, 1222, 1223, 1224, 1225, 1226, 1227, 1228, 1229, 1230, 1231, 1232, 1233, 1234, 1235, 1236, 1237, 1278, 1279, 1280, 1281, 1282, 1283] (by decide +kernel) (by decide +kernel)) (goodIn_sub (fun _ h => List.mem_append_left _ (List.mem_append_left _ (List.mem_append_right _ h))) (by decide +kernel))) (goodIn_sub (fun _ h => List.mem_append_left _ (List.mem_append_left _ (List.mem_append_left _ (List.mem_append_left _ (List.mem_append_right _ h))))) (by decide +kernel))
set_option maxRecDepth 20000 in
theorem gL_law_L_pinnedCommit : GoodIn wsL_law (va_wsS RL 268 yL_pinnedCommit wsL_pinnedCommit) := goodIn_app (goodIn_of _ (by decide +kernel)) ggL_law_L_pinnedCommit
set_option maxRecDepth 20000 in
theorem ggL_law_X10_pinnedCommit : GoodIn wsL_law wsX10_pinnedCommit := goodIn_r _ [1082, 175, 201, 170, 1069, 1070, 5, 1071, 322, 323, 324, 1238, 1239, 1240, 1241, 1242, 1243, 1244, 1245, 1246, 1247, 1248, 1249, 1250, 1251, 1252, 1253, 1254, 1255, 1256, 1257, 1258, 1259, 1260, 1261, 1262, 1263, 1264, 1265, 1266, 1267, 1268, 1269, 1270, 1271, 1272, 1273, 1274, 1275] (by decide +kernel) (by decide +kernel)
set_option maxRecDepth 20000 in
theorem gL_law_X10_pinnedCommit : GoodIn wsL_law (wsV RL 270 RX10 yX10_pinnedCommit wsX10_pinnedCommit) := goodIn_app (goodIn_of _ (by decide +kernel)) ggL_law_X10_pinnedCommit
set_option maxRecDepth 20000 in
theorem ggL_law_L_unpin : GoodIn wsL_law wsL_unpin := goodIn_ca (goodIn_ca (goodIn_r _ [1085, 274, 247, 1086, 1087, 1088, 2, 1089, 37, 286, 287, 288, 289, 290, 1061, 1062, 1063, 1064, 252, 253, 716, 717, 718, 719, 20, 720, 35, 721, 313, 314, 722, 723, 724, 19, 725, 72, 67, 726, 399, 400, 401, 402, 403, 404, 1222, 1223, 1224, 1225, 1226, 1227, 1228, 1229, 1230, 1231, 1232, 1233, 1234, 1235, 1236, 1237, 1278, 1279, 1280, 1281, 1282, 1283] (by decide +kernel) (by decide +kernel)) (goodIn_sub (fun _ h => List.mem_append_left _ (List.mem_append_left _ (List.mem_append_right _ h))) (by decide +kernel))) (goodIn_sub (fun _ h => List.mem_append_left _ (List.mem_append_left _ (List.mem_append_left _ (List.mem_append_left _ (List.mem_append_right _ h))))) (by decide +kernel))
set_option maxRecDepth 20000 in
theorem gL_law_L_unpin : GoodIn wsL_law (va_wsS RL 271 yL_unpin wsL_unpin) := goodIn_app (goodIn_of _ (by decide +kernel)) ggL_law_L_unpin
set_option maxRecDepth 20000 in
theorem ggL_law_X10_unpin : GoodIn wsL_law wsX10_unpin := goodIn_r _ [1093, 175, 201, 1069, 1070, 5, 1071, 322, 323, 324, 783, 784, 785, 786, 787, 788, 789, 790, 791, 792, 793, 794, 171, 172, 1238, 1239, 1240, 1241, 1242, 1243, 1244, 1245, 1246, 1247, 1248, 1249, 1250, 1251, 1252, 1253, 1254, 1255, 1256, 1257, 1258, 1259, 1260, 1261, 1262, 1263, 1264, 1265, 1266, 1267, 1268, 1269, 1270, 1271, 1272, 1273, 1274, 1275] (by decide +kernel) (by decide +kernel)
set_option maxRecDepth 20000 in
theorem gL_law_X10_unpin : GoodIn wsL_law (wsV RL 273 RX10 yX10_unpin wsX10_unpin) := goodIn_app (goodIn_of _ (by decide +kernel)) ggL_law_X10_unpin
set_option maxRecDepth 20000 in
theorem ggL_law_L_differences : GoodIn wsL_law wsL_differences := goodIn_ca (goodIn_ca (goodIn_r _ [1096, 274, 247, 1097, 1098, 1099, 2, 1100, 20, 35, 286, 287, 288, 289, 290, 1061, 1062, 1063, 1064, 252, 253, 37, 1101, 1102, 1103, 19, 1104, 69, 68, 306, 307, 313, 314, 726, 399, 400, 401, 402, 403, 404, 1222, 1223, 1224, 1225, 1226, 1227, 1228, 1229, 1230, 1231, 1232, 1233, 1234, 1235, 1236, 1237, 1278, 1279, 1280, 1281, 1282, 1283] (by decide +kernel) (by decide +kernel)) (goodIn_sub (fun _ h => List.mem_append_left _ (List.mem_append_left _ (List.mem_append_right _ h))) (by decide +kernel))) (goodIn_sub (fun _ h => List.mem_append_left _ (List.mem_append_left _ (List.mem_append_left _ (List.mem_append_left _ (List.mem_append_right _ h))))) (by decide +kernel))
set_option maxRecDepth 20000 in
theorem gL_law_L_differences : GoodIn wsL_law (va_wsS RL 274 yL_differences wsL_differences) := goodIn_app (goodIn_of _ (by decide +kernel)) ggL_law_L_differences
set_option maxRecDepth 20000 in
theorem ggL_law_X10_differences : GoodIn wsL_law wsX10_differences := goodIn_r _ [1108, 175, 201, 1069, 1070, 5, 1071, 322, 323, 324, 1109, 1110, 1111, 1112, 173, 174, 1238, 1239, 1240, 1241, 1242, 1243, 1244, 1245, 1246, 1247, 1248, 1249, 1250, 1251, 1252, 1253, 1254, 1255, 1256, 1257, 1258, 1259, 1260, 1261, 1262, 1263, 1264, 1265, 1266, 1267, 1268, 1269, 1270, 1271, 1272, 1273, 1274, 1275] (by decide +kernel) (by decide +kernel)
set_option maxRecDepth 20000 in
theorem gL_law_X10_differences : GoodIn wsL_law (wsV RL 276 RX10 yX10_differences wsX10_differences) := goodIn_app (goodIn_of _ (by decide +kernel)) ggL_law_X10_differences
set_option maxRecDepth 20000 in
theorem ggL_law_L_differentKey : GoodIn wsL_law wsL_differentKey := goodIn_ca (goodIn_ca (goodIn_ca (goodIn_r _ [1115, 274, 247, 339, 1116, 1117, 1118, 2, 1119, 348, 349, 20, 35, 286, 287, 288, 289, 290, 1061, 1062, 1063, 1064, 252, 253, 37, 1101, 1102, 1103, 19, 1104, 69, 68, 306, 307, 313, 314, 726, 399, 400, 401, 402, 403, 404, 732, 733, 734, 305, 1222, 1223, 1224, 1225, 1226, 1227, 1228, 1229, 1230, 1231, 1232, 1233, 1234, 1235, 1236, 1237, 1278, 1279, 1280, 1281, 1282, 1283] (by decide +kernel) (by decide +kernel)) (goodIn_sub (fun _ h => List.mem_append_left _ (List.mem_append_right _ h)) (by decide +kernel))) (goodIn_sub (fun _ h => List.mem_append_left _ (List.mem_append_left _ (List.mem_append_right _ h))) (by decide +kernel))) (goodIn_sub (fun _ h => List.mem_append_left _ (List.mem_append_left _ (List.mem_append_left _ (List.mem_append_left _ (List.mem_append_right _ h))))) (by decide +kernel))
set_option maxRecDepth 20000 in
theorem gL_law_L_differentKey : GoodIn wsL_law (va_wsS RL 277 yL_differentKey wsL_differentKey) := goodIn_app (goodIn_of _ (by decide +kernel)) ggL_law_L_differentKey
set_option maxRecDepth 20000 in
theorem ggL_law_X10_differentKey : GoodIn wsL_law wsX10_differentKey := goodIn_r _ [1123, 175, 201, 1069, 1070, 5, 1071, 322, 323, 324, 1109, 1110, 1111, 1112, 173, 174, 263, 264, 265, 266, 1238, 1239, 1240, 1241, 1242, 1243, 1244, 1245, 1246, 1247, 1248, 1249, 1250, 1251, 1252, 1253, 1254, 1255, 1256, 1257, 1258, 1259, 1260, 1261, 1262, 1263, 1264, 1265, 1266, 1267, 1268, 1269, 1270, 1271, 1272, 1273, 1274, 1275] (by decide +kernel) (by decide +kernel)
set_option maxRecDepth 20000 in
theorem gL_law_X10_differentKey : GoodIn wsL_law (wsV RL 279 RX10 yX10_differentKey wsX10_differentKey) := goodIn_app (goodIn_of _ (by decide +kernel)) ggL_law_X10_differentKey
set_option maxRecDepth 20000 in
theorem ggL_law_L_cell : GoodIn wsL_law wsL_cell := goodIn_ca (goodIn_r _ [1126, 274, 1127, 1128, 1129, 2, 1130, 16, 823, 286, 287, 288, 289, 290, 1222, 1223, 1224, 1225, 1226, 1227, 1228, 1229, 1230, 1231, 1232, 1233, 1234, 1235, 1236, 1237, 1276, 1277] (by decide +kernel) (by decide +kernel)) (goodIn_sub (fun _ h => List.mem_append_left _ (List.mem_append_left _ (List.mem_append_right _ h))) (by decide +kernel))
set_option maxRecDepth 20000 in
theorem gL_law_L_cell : GoodIn wsL_law (va_wsS RL 280 yL_cell wsL_cell) := goodIn_app (goodIn_of _ (by decide +kernel)) ggL_law_L_cell
set_option maxRecDepth 20000 in
theorem ggL_law_X10_cell : GoodIn wsL_law wsX10_cell := goodIn_r _ [1134, 201, 1135, 1136, 5, 1137, 322, 323, 324, 212, 213, 214, 215, 169, 1238, 1239, 1240, 1241, 1242, 1243, 1244, 1245, 1246, 1247, 1248, 1249, 1250, 1251, 1252, 1253, 1254, 1255, 1256, 1257, 1258, 1259, 1260, 1261, 1262, 1263, 1264, 1265, 1266, 1267, 1268, 1269, 1270, 1271, 1272, 1273, 1274, 1275] (by decide +kernel) (by decide +kernel)
set_option maxRecDepth 20000 in
theorem gL_law_X10_cell : GoodIn wsL_law (wsV RL 282 RX10 yX10_cell wsX10_cell) := goodIn_app (goodIn_of _ (by decide +kernel)) ggL_law_X10_cell
set_option maxRecDepth 20000 in
theorem ggL_law_L_damage : GoodIn wsL_law wsL_damage := goodIn_ca (goodIn_r _ [1140, 274, 1141, 1142, 1143, 2, 1144, 16, 823, 54, 286, 287, 288, 289, 290, 1222, 1223, 1224, 1225, 1226, 1227, 1228, 1229, 1230, 1231, 1232, 1233, 1234, 1235, 1236, 1237, 1276, 1277] (by decide +kernel) (by decide +kernel)) (goodIn_sub (fun _ h => List.mem_append_left _ (List.mem_append_left _ (List.mem_append_right _ h))) (by decide +kernel))
set_option maxRecDepth 20000 in
theorem gL_law_L_damage : GoodIn wsL_law (va_wsS RL 283 yL_damage wsL_damage) := goodIn_app (goodIn_of _ (by decide +kernel)) ggL_law_L_damage
set_option maxRecDepth 20000 in
theorem ggL_law_X10_damage : GoodIn wsL_law wsX10_damage := goodIn_r _ [1148, 201, 188, 169, 1135, 1136, 5, 1137, 322, 323, 324, 212, 213, 214, 215, 1238, 1239, 1240, 1241, 1242, 1243, 1244, 1245, 1246, 1247, 1248, 1249, 1250, 1251, 1252, 1253, 1254, 1255, 1256, 1257, 1258, 1259, 1260, 1261, 1262, 1263, 1264, 1265, 1266, 1267, 1268, 1269, 1270, 1271, 1272, 1273, 1274, 1275] (by decide +kernel) (by decide +kernel)
set_option maxRecDepth 20000 in
theorem gL_law_X10_damage : GoodIn wsL_law (wsV RL 285 RX10 yX10_damage wsX10_damage) := goodIn_app (goodIn_of _ (by decide +kernel)) ggL_law_X10_damage
set_option maxRecDepth 20000 in
theorem ggL_law_L_checksum : GoodIn wsL_law wsL_checksum := goodIn_ca (goodIn_r _ [1151, 274, 1152, 1153, 1154, 2, 1155, 16, 286, 287, 288, 289, 290, 1156, 158, 159, 15, 160, 62, 1222, 1223, 1224, 1225, 1226, 1227, 1228, 1229, 1230, 1231, 1232, 1233, 1234, 1235, 1236, 1237, 1276, 1277] (by decide +kernel) (by decide +kernel)) (goodIn_sub (fun _ h => List.mem_append_left _ (List.mem_append_left _ (List.mem_append_right _ h))) (by decide +kernel))
set_option maxRecDepth 20000 in
theorem gL_law_L_checksum : GoodIn wsL_law (va_wsS RL 286 yL_checksum wsL_checksum) := goodIn_app (goodIn_of _ (by decide +kernel)) ggL_law_L_checksum
set_option maxRecDepth 20000 in
theorem ggL_law_X10_checksum : GoodIn wsL_law wsX10_checksum := goodIn_r _ [1160, 201, 1135, 1136, 5, 1137, 322, 323, 324, 208, 209, 210, 211, 212, 213, 214, 215, 169, 1238, 1239, 1240, 1241, 1242, 1243, 1244, 1245, 1246, 1247, 1248, 1249, 1250, 1251, 1252, 1253, 1254, 1255, 1256, 1257, 1258, 1259, 1260, 1261, 1262, 1263, 1264, 1265, 1266, 1267, 1268, 1269, 1270, 1271, 1272, 1273, 1274, 1275] (by decide +kernel) (by decide +kernel)
set_option maxRecDepth 20000 in
theorem gL_law_X10_checksum : GoodIn wsL_law (wsV RL 288 RX10 yX10_checksum wsX10_checksum) := goodIn_app (goodIn_of _ (by decide +kernel)) ggL_law_X10_checksum
set_option maxRecDepth 20000 in
theorem ggL_law_L_isValid : GoodIn wsL_law wsL_isValid := goodIn_ca (goodIn_r _ [1163, 274, 1164, 1165, 1166, 2, 1167, 16, 286, 287, 288, 289, 290, 1168, 834, 835, 15, 836, 62, 157, 158, 159, 160, 1222, 1223, 1224, 1225, 1226, 1227, 1228, 1229, 1230, 1231, 1232, 1233, 1234, 1235, 1236, 1237, 1276, 1277] (by decide +kernel) (by decide +kernel)) (goodIn_sub (fun _ h => List.mem_append_left _ (List.mem_append_left _ (List.mem_append_right _ h))) (by decide +kernel))
set_option maxRecDepth 20000 in
theorem gL_law_L_isValid : GoodIn wsL_law (va_wsS RL 289 yL_isValid wsL_isValid) := goodIn_app (goodIn_of _ (by decide +kernel)) ggL_law_L_isValid
set_option maxRecDepth 20000 in
theorem ggL_law_X10_isValid : GoodIn wsL_law wsX10_isValid := goodIn_r _ [1172, 201, 1135, 1136, 5, 1137, 322, 323, 324, 866, 867, 868, 869, 212, 213, 214, 215, 169, 208, 209, 210, 211, 1238, 1239, 1240, 1241, 1242, 1243, 1244, 1245, 1246, 1247, 1248, 1249, 1250, 1251, 1252, 1253, 1254, 1255, 1256, 1257, 1258, 1259, 1260, 1261, 1262, 1263, 1264, 1265, 1266, 1267, 1268, 1269, 1270, 1271, 1272, 1273, 1274, 1275] (by decide +kernel) (by decide +kernel)
set_option maxRecDepth 20000 in
theorem gL_law_X10_isValid : GoodIn wsL_law (wsV RL 291 RX10 yX10_isValid wsX10_isValid) := goodIn_app (goodIn_of _ (by decide +kernel)) ggL_law_X10_isValid
set_option maxRecDepth 20000 in
theorem ggL_law_X9_salvage : GoodIn wsL_law wsX9_salvage := goodIn_r _ [1176, 53, 16, 1177, 54, 1178, 1179, 1180, 52, 1181, 114, 1182, 1183, 845, 846, 15, 847, 62, 841, 842, 843, 829, 830, 831, 832, 833, 834, 835, 836, 157, 158, 159, 160, 1184, 1185, 1186, 1187, 111, 112, 113, 1188, 682, 19, 683, 306, 2, 307, 1189, 1190, 1191, 1192, 313, 314, 726, 399, 400, 401, 402, 403, 404, 1222, 1223, 1224, 1225, 1226, 1227, 1228, 1229, 1230, 1231, 1232, 1233, 1234, 1235, 1236, 1237, 1302, 1303, 1304, 1305, 1276, 1277] (by decide +kernel) (by decide +kernel)
set_option maxRecDepth 20000 in
theorem gL_law_X9_salvage : GoodIn wsL_law (wsV RL 292 RX9 yX9_salvage wsX9_salvage) := goodIn_app (goodIn_of _ (by decide +kernel)) ggL_law_X9_salvage
set_option maxRecDepth 20000 in
theorem ggL_law_X10_salvage : GoodIn wsL_law wsX10_salvage := goodIn_r _ [1196, 201, 189, 191, 190, 192, 188, 866, 867, 868, 5, 869, 212, 213, 214, 215, 169, 208, 209, 210, 211, 322, 323, 324, 1238, 1239, 1240, 1241, 1242, 1243, 1244, 1245, 1246, 1247, 1248, 1249, 1250, 1251, 1252, 1253, 1254, 1255, 1256, 1257, 1258, 1259, 1260, 1261, 1262, 1263, 1264, 1265, 1266, 1267, 1268, 1269, 1270, 1271, 1272, 1273, 1274, 1275] (by decide +kernel) (by decide +kernel)
set_option maxRecDepth 20000 in
theorem gL_law_X10_salvage : GoodIn wsL_law (wsV RL 295 RX10 yX10_salvage wsX10_salvage) := goodIn_app (goodIn_of _ (by decide +kernel)) ggL_law_X10_salvage
set_option maxRecDepth 20000 in
theorem ggL_law_L_salvaged : GoodIn wsL_law wsL_salvaged := goodIn_ca (goodIn_ca (goodIn_r _ [1199, 274, 275, 1200, 1201, 1202, 2, 1203, 53, 1177, 1204, 1205, 1206, 726, 399, 400, 401, 402, 403, 404, 286, 287, 288, 289, 290, 1025, 1026, 1027, 280, 281, 732, 733, 734, 305, 306, 307, 1222, 1223, 1224, 1225, 1226, 1227, 1228, 1229, 1230, 1231, 1232, 1233, 1234, 1235, 1236, 1237, 1302, 1303, 1304, 1305] (by decide +kernel) (by decide +kernel)) (goodIn_sub (fun _ h => List.mem_append_left _ (List.mem_append_left _ (List.mem_append_right _ h))) (by decide +kernel))) (goodIn_sub (fun _ h => List.mem_append_left _ (List.mem_append_left _ (List.mem_append_left _ (List.mem_append_right _ h)))) (by decide +kernel))
set_option maxRecDepth 20000 in
theorem gL_law_L_salvaged : GoodIn wsL_law (va_wsS RL 296 yL_salvaged wsL_salvaged) := goodIn_app (goodIn_of _ (by decide +kernel)) ggL_law_L_salvaged
set_option maxRecDepth 20000 in
theorem ggL_law_X10_salvaged : GoodIn wsL_law wsX10_salvaged := goodIn_r _ [1210, 189, 201, 190, 191, 192, 322, 323, 5, 324, 1238, 1239, 1240, 1241, 1242, 1243, 1244, 1245, 1246, 1247, 1248, 1249, 1250, 1251, 1252, 1253, 1254, 1255, 1256, 1257, 1258, 1259, 1260, 1261, 1262, 1263, 1264, 1265, 1266, 1267, 1268, 1269, 1270, 1271, 1272, 1273, 1274, 1275] (by decide +kernel) (by decide +kernel)
set_option maxRecDepth 20000 in
theorem gL_law_X10_salvaged : GoodIn wsL_law (wsV RL 298 RX10 yX10_salvaged wsX10_salvaged) := goodIn_app (goodIn_of _ (by decide +kernel)) ggL_law_X10_salvaged
set_option maxRecDepth 20000 in
theorem ggL_law_L_adopt : GoodIn wsL_law wsL_adopt := goodIn_ca (goodIn_ca (goodIn_r _ [1213, 274, 247, 1214, 1215, 1216, 2, 1217, 53, 1177, 31, 282, 1204, 283, 284, 285, 286, 287, 288, 289, 290, 294, 295, 296, 297, 252, 253, 254, 305, 306, 307, 308, 309, 310, 24, 311, 77, 78, 312, 76, 313, 314, 726, 399, 400, 401, 402, 403, 404, 1222, 1223, 1224, 1225, 1226, 1227, 1228, 1229, 1230, 1231, 1232, 1233, 1234, 1235, 1236, 1237, 1302, 1303, 1304, 1305, 1306, 1307, 1308, 1309, 1284, 1285, 1286] (by decide +kernel) (by decide +kernel)) (goodIn_sub (fun _ h => List.mem_append_left _ (List.mem_append_left _ (List.mem_append_right _ h))) (by decide +kernel))) (goodIn_sub (fun _ h => List.mem_append_left _ (List.mem_append_left _ (List.mem_append_left _ (List.mem_append_left _ (List.mem_append_right _ h))))) (by decide +kernel))
set_option maxRecDepth 20000 in
theorem gL_law_L_adopt : GoodIn wsL_law (va_wsS RL 299 yL_adopt wsL_adopt) := goodIn_app (goodIn_of _ (by decide +kernel)) ggL_law_L_adopt
set_option maxRecDepth 20000 in
theorem ggL_law_X10_adopt : GoodIn wsL_law wsX10_adopt := goodIn_r _ [1221, 176, 201, 189, 190, 319, 320, 5, 321, 322, 323, 324, 332, 333, 334, 335, 177, 178, 179, 1238, 1239, 1240, 1241, 1242, 1243, 1244, 1245, 1246, 1247, 1248, 1249, 1250, 1251, 1252, 1253, 1254, 1255, 1256, 1257, 1258, 1259, 1260, 1261, 1262, 1263, 1264, 1265, 1266, 1267, 1268, 1269, 1270, 1271, 1272, 1273, 1274, 1275] (by decide +kernel) (by decide +kernel)
set_option maxRecDepth 20000 in
theorem gL_law_X10_adopt : GoodIn wsL_law (wsV RL 301 RX10 yX10_adopt wsX10_adopt) := goodIn_app (goodIn_of _ (by decide +kernel)) ggL_law_X10_adopt
