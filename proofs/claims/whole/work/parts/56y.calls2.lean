set_option maxRecDepth 20000 in
theorem ggL_law_X11_light : GoodIn wsL_law wsX11_light := goodIn_r _ [772, 23, 709, 711, 104, 105, 21, 106, 100, 33, 66, 67, 68, 2, 69, 18, 716, 378, 379, 1255, 1256, 1257, 1258, 1259, 1260, 1261, 1262, 1304, 1305, 1306, 1307, 1308, 1309, 1310, 1311, 1312, 1313, 1314, 1315, 1316, 1317, 1318, 1319, 1320, 1321, 1322, 1323, 1324, 1325, 1326, 1327, 1328, 1329, 1330, 1331, 1332, 1333, 1334, 1335, 1336, 1337, 1338, 1298, 1299, 1300, 1301, 1302, 1303] (by decide +kernel) (by decide +kernel)
set_option maxRecDepth 20000 in
theorem gL_law_X11_light : GoodIn wsL_law (wsV RL 44 RX11 yX11_light wsX11_light) := goodIn_app (goodIn_of _ (by decide +kernel)) ggL_law_X11_light
set_option maxRecDepth 20000 in
theorem ggL_law_X12_light : GoodIn wsL_law wsX12_light := goodIn_r _ [776, 44, 700, 701, 702, 5, 703, 61, 589, 590, 591, 87, 88, 89, 90, 39, 1263, 1264, 1265, 1266, 1267, 1268, 1269, 1270, 1271, 1272, 1273, 1274, 1275, 1276, 1277, 1278, 1279, 1280, 1281, 1282, 1283, 1284, 1285, 1286, 1287, 1288, 1289, 1290, 1291, 1292, 1293, 1294, 1295] (by decide +kernel) (by decide +kernel)
set_option maxRecDepth 20000 in
theorem gL_law_X12_light : GoodIn wsL_law (wsV RL 47 RX12 yX12_light wsX12_light) := goodIn_app (goodIn_of _ (by decide +kernel)) ggL_law_X12_light
set_option maxRecDepth 20000 in
theorem ggL_law_X11_steps : GoodIn wsL_law wsX11_steps := goodIn_r _ [780, 23, 781, 348, 349, 350, 66, 67, 68, 2, 69, 18, 782, 393, 394, 21, 395, 396, 99, 397, 783, 399, 400, 366, 361, 362, 401, 364, 365, 402, 403, 404, 405, 406, 1255, 1256, 1257, 1258, 1259, 1260, 1261, 1262, 1298, 1299, 1300, 1301, 1302, 1303] (by decide +kernel) (by decide +kernel)
set_option maxRecDepth 20000 in
theorem gL_law_X11_steps : GoodIn wsL_law (wsV RL 48 RX11 yX11_steps wsX11_steps) := goodIn_app (goodIn_of _ (by decide +kernel)) ggL_law_X11_steps
set_option maxRecDepth 20000 in
theorem ggL_law_X12_steps : GoodIn wsL_law wsX12_steps := goodIn_r _ [787, 616, 617, 5, 618, 643, 644, 645, 646, 55, 647, 648, 649, 650, 56, 40, 651, 652, 653, 654, 655, 57, 656, 657, 658, 659, 660, 661, 662, 87, 88, 89, 90, 39, 1263, 1264, 1265, 1266, 1267, 1268, 1269, 1270, 1271, 1272, 1273, 1274, 1275, 1276, 1277, 1278, 1279, 1280, 1281, 1282, 1283, 1284, 1285, 1286, 1287, 1288, 1289, 1290, 1291, 1292, 1293, 1294, 1295] (by decide +kernel) (by decide +kernel)
set_option maxRecDepth 20000 in
theorem gL_law_X12_steps : GoodIn wsL_law (wsV RL 51 RX12 yX12_steps wsX12_steps) := goodIn_app (goodIn_of _ (by decide +kernel)) ggL_law_X12_steps
set_option maxRecDepth 20000 in
theorem ggL_law_X11_lights : GoodIn wsL_law wsX11_lights := goodIn_r _ [791, 23, 711, 104, 105, 21, 106, 100, 33, 781, 348, 349, 350, 66, 67, 68, 2, 69, 18, 717, 419, 420, 421, 111, 422, 114, 423, 424, 425, 426, 427, 113, 428, 429, 430, 128, 431, 432, 433, 434, 190, 191, 192, 101, 34, 435, 436, 437, 438, 439, 440, 441, 393, 394, 395, 396, 99, 397, 442, 408, 409, 366, 361, 362, 402, 403, 404, 405, 406, 443, 444, 445, 718, 447, 448, 449, 792, 364, 365, 716, 378, 379, 1255, 1256, 1257, 1258, 1259, 1260, 1261, 1262, 1298, 1299, 1300, 1301, 1302, 1303, 1304, 1305, 1306, 1307, 1308, 1309, 1310, 1311, 1312, 1313, 1314, 1315, 1316, 1317, 1318, 1319, 1320, 1321, 1322, 1323, 1324, 1325, 1326, 1327, 1328, 1329, 1330, 1331, 1332, 1333, 1334, 1335, 1336, 1337, 1338] (by decide +kernel) (by decide +kernel)
set_option maxRecDepth 20000 in
theorem gL_law_X11_lights : GoodIn wsL_law (wsV RL 52 RX11 yX11_lights wsX11_lights) := goodIn_app (goodIn_of _ (by decide +kernel)) ggL_law_X11_lights
set_option maxRecDepth 20000 in
theorem ggL_law_X12_lights : GoodIn wsL_law wsX12_lights := goodIn_r _ [796, 58, 700, 701, 702, 5, 703, 61, 616, 617, 618, 87, 88, 89, 90, 39, 671, 672, 673, 674, 43, 55, 675, 676, 677, 678, 42, 41, 598, 49, 679, 680, 681, 682, 40, 647, 648, 649, 650, 56, 651, 652, 653, 654, 655, 57, 656, 657, 658, 659, 660, 661, 662, 1263, 1264, 1265, 1266, 1267, 1268, 1269, 1270, 1271, 1272, 1273, 1274, 1275, 1276, 1277, 1278, 1279, 1280, 1281, 1282, 1283, 1284, 1285, 1286, 1287, 1288, 1289, 1290, 1291, 1292, 1293, 1294, 1295] (by decide +kernel) (by decide +kernel)
set_option maxRecDepth 20000 in
theorem gL_law_X12_lights : GoodIn wsL_law (wsV RL 55 RX12 yX12_lights wsX12_lights) := goodIn_app (goodIn_of _ (by decide +kernel)) ggL_law_X12_lights
set_option maxRecDepth 20000 in
theorem ggL_law_X11_shown : GoodIn wsL_law wsX11_shown := goodIn_r _ [800, 23, 710, 711, 104, 105, 21, 106, 100, 33, 66, 67, 68, 2, 69, 18, 801, 802, 803, 804, 111, 805, 116, 806, 807, 808, 809, 810, 811, 812, 813, 814, 815, 136, 816, 817, 818, 819, 820, 821, 822, 823, 471, 472, 117, 824, 825, 826, 827, 828, 829, 830, 831, 832, 833, 834, 835, 836, 837, 838, 839, 476, 840, 841, 475, 477, 842, 843, 844, 1255, 1256, 1257, 1258, 1259, 1260, 1261, 1262, 1304, 1305, 1306, 1307, 1308, 1309, 1310, 1311, 1312, 1313, 1314, 1315, 1316, 1317, 1318, 1319, 1320, 1321, 1322, 1323, 1324, 1325, 1326, 1327, 1328, 1329, 1330, 1331, 1332, 1333, 1334, 1335, 1336, 1337, 1338, 1298, 1299, 1300, 1301, 1302, 1303] (by decide +kernel) (by decide +kernel)
set_option maxRecDepth 20000 in
theorem gL_law_X11_shown : GoodIn wsL_law (wsV RL 56 RX11 yX11_shown wsX11_shown) := goodIn_app (goodIn_of _ (by decide +kernel)) ggL_law_X11_shown
set_option maxRecDepth 20000 in
theorem ggL_law_X12_shown : GoodIn wsL_law wsX12_shown := goodIn_r _ [848, 45, 41, 46, 47, 48, 700, 701, 702, 5, 703, 61, 589, 590, 591, 87, 88, 89, 90, 39, 1263, 1264, 1265, 1266, 1267, 1268, 1269, 1270, 1271, 1272, 1273, 1274, 1275, 1276, 1277, 1278, 1279, 1280, 1281, 1282, 1283, 1284, 1285, 1286, 1287, 1288, 1289, 1290, 1291, 1292, 1293, 1294, 1295] (by decide +kernel) (by decide +kernel)
set_option maxRecDepth 20000 in
theorem gL_law_X12_shown : GoodIn wsL_law (wsV RL 60 RX12 yX12_shown wsX12_shown) := goodIn_app (goodIn_of _ (by decide +kernel)) ggL_law_X12_shown
set_option maxRecDepth 20000 in
theorem ggL_law_X11_seen : GoodIn wsL_law wsX11_seen := goodIn_r _ [852, 23, 711, 104, 105, 21, 106, 100, 33, 66, 67, 68, 2, 69, 18, 853, 854, 855, 856, 111, 857, 116, 821, 822, 823, 471, 472, 117, 824, 825, 826, 827, 828, 829, 830, 858, 839, 476, 840, 859, 860, 861, 862, 863, 864, 865, 1255, 1256, 1257, 1258, 1259, 1260, 1261, 1262, 1298, 1299, 1300, 1301, 1302, 1303, 1304, 1305, 1306, 1307, 1308, 1309, 1310, 1311, 1312, 1313, 1314, 1315, 1316, 1317, 1318, 1319, 1320, 1321, 1322, 1323, 1324, 1325, 1326, 1327, 1328, 1329, 1330, 1331, 1332, 1333, 1334, 1335, 1336, 1337, 1338] (by decide +kernel) (by decide +kernel)
set_option maxRecDepth 20000 in
theorem gL_law_X11_seen : GoodIn wsL_law (wsV RL 61 RX11 yX11_seen wsX11_seen) := goodIn_app (goodIn_of _ (by decide +kernel)) ggL_law_X11_seen
set_option maxRecDepth 20000 in
theorem ggL_law_X12_seen : GoodIn wsL_law wsX12_seen := goodIn_r _ [869, 45, 46, 700, 701, 702, 5, 703, 61, 87, 88, 89, 90, 39, 1263, 1264, 1265, 1266, 1267, 1268, 1269, 1270, 1271, 1272, 1273, 1274, 1275, 1276, 1277, 1278, 1279, 1280, 1281, 1282, 1283, 1284, 1285, 1286, 1287, 1288, 1289, 1290, 1291, 1292, 1293, 1294, 1295] (by decide +kernel) (by decide +kernel)
set_option maxRecDepth 20000 in
theorem gL_law_X12_seen : GoodIn wsL_law (wsV RL 64 RX12 yX12_seen wsX12_seen) := goodIn_app (goodIn_of _ (by decide +kernel)) ggL_law_X12_seen
set_option maxRecDepth 20000 in
theorem ggL_law_X11_by : GoodIn wsL_law wsX11_by := goodIn_r _ [873, 23, 874, 875, 876, 877, 2, 878, 754, 389, 390, 21, 391, 101, 879, 880, 881, 66, 67, 68, 69, 18, 711, 104, 105, 106, 100, 33, 882, 883, 884, 885, 111, 886, 887, 888, 889, 890, 891, 116, 821, 822, 823, 471, 472, 117, 824, 825, 826, 827, 828, 829, 830, 892, 843, 476, 844, 893, 894, 895, 896, 897, 898, 899, 858, 839, 840, 900, 901, 902, 903, 904, 905, 906, 1255, 1256, 1257, 1258, 1259, 1260, 1261, 1262, 1298, 1299, 1300, 1301, 1302, 1303, 1304, 1305, 1306, 1307, 1308, 1309, 1310, 1311, 1312, 1313, 1314, 1315, 1316, 1317, 1318, 1319, 1320, 1321, 1322, 1323, 1324, 1325, 1326, 1327, 1328, 1329, 1330, 1331, 1332, 1333, 1334, 1335, 1336, 1337, 1338] (by decide +kernel) (by decide +kernel)
set_option maxRecDepth 20000 in
theorem gL_law_X11_by : GoodIn wsL_law (wsV RL 65 RX11 yX11_by wsX11_by) := goodIn_app (goodIn_of _ (by decide +kernel)) ggL_law_X11_by
set_option maxRecDepth 20000 in
theorem ggL_law_X12_by : GoodIn wsL_law wsX12_by := goodIn_r _ [910, 61, 46, 639, 640, 641, 5, 642, 598, 84, 85, 86, 87, 88, 89, 90, 39, 911, 912, 913, 914, 45, 48, 1263, 1264, 1265, 1266, 1267, 1268, 1269, 1270, 1271, 1272, 1273, 1274, 1275, 1276, 1277, 1278, 1279, 1280, 1281, 1282, 1283, 1284, 1285, 1286, 1287, 1288, 1289, 1290, 1291, 1292, 1293, 1294, 1295] (by decide +kernel) (by decide +kernel)
set_option maxRecDepth 20000 in
theorem gL_law_X12_by : GoodIn wsL_law (wsV RL 68 RX12 yX12_by wsX12_by) := goodIn_app (goodIn_of _ (by decide +kernel)) ggL_law_X12_by
set_option maxRecDepth 20000 in
theorem ggL_law_X11_unlit : GoodIn wsL_law wsX11_unlit := goodIn_r _ [918, 23, 919, 781, 348, 349, 350, 66, 67, 68, 2, 69, 18, 879, 880, 881, 782, 393, 394, 21, 395, 396, 99, 397, 920, 921, 922, 923, 924, 925, 926, 927, 100, 417, 103, 104, 105, 106, 33, 928, 929, 930, 931, 418, 419, 420, 421, 111, 422, 114, 423, 424, 425, 426, 427, 113, 428, 429, 430, 128, 431, 432, 433, 434, 190, 191, 192, 101, 34, 435, 436, 437, 438, 439, 440, 441, 442, 408, 409, 366, 361, 362, 402, 403, 404, 405, 406, 443, 444, 445, 446, 447, 448, 449, 783, 399, 400, 401, 364, 365, 1255, 1256, 1257, 1258, 1259, 1260, 1261, 1262, 1298, 1299, 1300, 1301, 1302, 1303, 1304, 1305, 1306, 1307, 1308, 1309, 1310, 1311, 1312, 1313, 1314, 1315, 1316, 1317, 1318, 1319, 1320, 1321, 1322, 1323, 1324, 1325, 1326, 1327, 1328, 1329, 1330, 1331, 1332, 1333, 1334, 1335, 1336, 1337, 1338] (by decide +kernel) (by decide +kernel)
set_option maxRecDepth 20000 in
theorem gL_law_X11_unlit : GoodIn wsL_law (wsV RL 69 RX11 yX11_unlit wsX11_unlit) := goodIn_app (goodIn_of _ (by decide +kernel)) ggL_law_X11_unlit
set_option maxRecDepth 20000 in
theorem ggL_law_X12_unlit : GoodIn wsL_law wsX12_unlit := goodIn_r _ [935, 56, 40, 58, 55, 616, 617, 5, 618, 84, 85, 86, 87, 88, 89, 90, 39, 671, 672, 673, 674, 61, 43, 675, 676, 677, 678, 42, 41, 598, 49, 679, 680, 681, 682, 647, 648, 649, 650, 651, 652, 653, 654, 655, 57, 656, 657, 658, 659, 660, 661, 662, 936, 937, 938, 939, 44, 1263, 1264, 1265, 1266, 1267, 1268, 1269, 1270, 1271, 1272, 1273, 1274, 1275, 1276, 1277, 1278, 1279, 1280, 1281, 1282, 1283, 1284, 1285, 1286, 1287, 1288, 1289, 1290, 1291, 1292, 1293, 1294, 1295] (by decide +kernel) (by decide +kernel)
set_option maxRecDepth 20000 in
theorem gL_law_X12_unlit : GoodIn wsL_law (wsV RL 72 RX12 yX12_unlit wsX12_unlit) := goodIn_app (goodIn_of _ (by decide +kernel)) ggL_law_X12_unlit
set_option maxRecDepth 20000 in
theorem ggL_law_X11_forget : GoodIn wsL_law wsX11_forget := goodIn_r _ [943, 23, 710, 711, 104, 105, 21, 106, 100, 33, 66, 67, 68, 2, 69, 18, 879, 880, 881, 944, 888, 889, 890, 111, 891, 116, 821, 822, 823, 471, 472, 117, 824, 825, 826, 827, 828, 829, 830, 892, 843, 476, 844, 893, 894, 895, 945, 897, 898, 899, 946, 495, 496, 497, 498, 123, 499, 500, 501, 502, 503, 504, 947, 506, 507, 508, 143, 509, 510, 1255, 1256, 1257, 1258, 1259, 1260, 1261, 1262, 1304, 1305, 1306, 1307, 1308, 1309, 1310, 1311, 1312, 1313, 1314, 1315, 1316, 1317, 1318, 1319, 1320, 1321, 1322, 1323, 1324, 1325, 1326, 1327, 1328, 1329, 1330, 1331, 1332, 1333, 1334, 1335, 1336, 1337, 1338, 1298, 1299, 1300, 1301, 1302, 1303] (by decide +kernel) (by decide +kernel)
set_option maxRecDepth 20000 in
theorem gL_law_X11_forget : GoodIn wsL_law (wsV RL 73 RX11 yX11_forget wsX11_forget) := goodIn_app (goodIn_of _ (by decide +kernel)) ggL_law_X11_forget
set_option maxRecDepth 20000 in
theorem ggL_law_X12_forget : GoodIn wsL_law wsX12_forget := goodIn_r _ [951, 41, 45, 700, 701, 702, 5, 703, 61, 84, 85, 86, 87, 88, 89, 90, 39, 911, 912, 913, 914, 48, 690, 691, 692, 1263, 1264, 1265, 1266, 1267, 1268, 1269, 1270, 1271, 1272, 1273, 1274, 1275, 1276, 1277, 1278, 1279, 1280, 1281, 1282, 1283, 1284, 1285, 1286, 1287, 1288, 1289, 1290, 1291, 1292, 1293, 1294, 1295] (by decide +kernel) (by decide +kernel)
set_option maxRecDepth 20000 in
theorem gL_law_X12_forget : GoodIn wsL_law (wsV RL 76 RX12 yX12_forget wsX12_forget) := goodIn_app (goodIn_of _ (by decide +kernel)) ggL_law_X12_forget
