set_option maxRecDepth 20000 in
theorem gcc_0 : GoodIn wsL_law ([Cond.code yX10_commit cX10_commit 10 (some .int)]) := goodIn_r _ [780] (by decide +kernel) (by decide +kernel)
set_option maxRecDepth 20000 in
theorem gcc_1 : GoodIn wsL_law (wsX10_commit_r1) := goodIn_r _ [202, 220, 170, 781, 201, 782, 32, 193, 172, 196, 194, 195, 445, 149, 150, 151, 203, 171, 173, 174, 184, 693, 694, 695] (by decide +kernel) (by decide +kernel)
set_option maxRecDepth 20000 in
theorem gcc_2 : GoodIn wsL_law (wsX10_commit_r2) := goodIn_r _ [5, 696, 697, 698, 699, 700, 177, 178, 179, 701, 702, 703, 704, 783, 784, 785, 786, 787, 788, 789, 790, 175, 791, 792] (by decide +kernel) (by decide +kernel)
set_option maxRecDepth 20000 in
theorem gcc_3 : GoodIn wsL_law (wsX10_commit_r3) := goodIn_r _ [793, 794, 795, 796, 797, 798, 799, 800, 801, 802, 169, 803, 804, 805, 806, 187, 807, 808, 809, 810, 811, 188, 216, 217] (by decide +kernel) (by decide +kernel)
set_option maxRecDepth 20000 in
theorem gcc_4 : GoodIn wsL_law (wsX10_commit_r4) := goodIn_r _ [218, 219, 221, 222, 223, 224, 176, 180] (by decide +kernel) (by decide +kernel)
set_option maxRecDepth 20000 in
theorem gcc_5 : GoodIn wsL_law (wsX100) := goodIn_r _ [1238, 1239, 1240, 1241, 1242, 1243, 1244, 1245, 1246, 1247, 1248, 1249, 1250, 1251, 1252, 1253, 1254, 1255, 1256, 1257, 1258, 1259, 1260, 1261, 1262, 1263, 1264, 1265, 1266, 1267, 1268, 1269, 1270, 1271, 1272, 1273, 1274, 1275] (by decide +kernel) (by decide +kernel)
theorem ggL_law_X10_commit : GoodIn wsL_law wsX10_commit := goodIn_app gcc_0 (goodIn_app (goodIn_app gcc_1 (goodIn_app gcc_2 (goodIn_app gcc_3 gcc_4))) gcc_5)
