theorem sj_mem_r {big : List Cond} (ws : List Cond) (ps : List Nat) (hp : ws = ps.filterMap (fun i => big[i]?)) : ∀ w ∈ ws, w ∈ big := by
  intro w hw
  rw [hp] at hw
  obtain ⟨i, -, hi⟩ := List.mem_filterMap.mp hw
  first | exact List.mem_of_getElem? hi | exact List.getElem?_mem hi
set_option maxRecDepth 100000 in
theorem wsL_r1 : ∀ w ∈ wsL_law0_r1, w ∈ lw_tbl := sj_mem_r _ [148, 149, 121, 1475, 1299, 133, 540, 1932, 150, 151, 152, 153, 154, 155, 156, 157, 122, 561, 180, 181, 123, 562, 334, 335] (by decide +kernel)
set_option maxRecDepth 100000 in
theorem wsL_r2 : ∀ w ∈ wsL_law0_r2, w ∈ lw_tbl := sj_mem_r _ [126, 563, 392, 393, 128, 564, 408, 409, 129, 565, 496, 566, 498, 131, 237, 567, 541, 569, 543, 132, 604, 570, 571, 573] (by decide +kernel)
set_option maxRecDepth 100000 in
theorem wsL_r3 : ∀ w ∈ wsL_law0_r3, w ∈ lw_tbl := sj_mem_r _ [574, 158, 159, 160, 161, 179, 162, 182, 183, 184, 185, 186, 264, 268, 270, 188, 275, 190, 124, 278, 282, 285, 238, 288] (by decide +kernel)
set_option maxRecDepth 100000 in
theorem wsL_r4 : ∀ w ∈ wsL_law0_r4, w ∈ lw_tbl := sj_mem_r _ [240, 125, 293, 294, 187, 192, 193, 194, 241, 242, 243, 244, 245, 248, 336, 337, 338, 339, 369, 340, 370, 373, 342, 376] (by decide +kernel)
set_option maxRecDepth 100000 in
theorem wsL_r5 : ∀ w ∈ wsL_law0_r5, w ∈ lw_tbl := sj_mem_r _ [344, 127, 341, 346, 347, 348, 394, 395, 396, 397, 398, 399, 400, 410, 411, 412, 413, 414, 458, 416, 130, 462, 470, 417] (by decide +kernel)
set_option maxRecDepth 100000 in
theorem wsL_r6 : ∀ w ∈ wsL_law0_r6, w ∈ lw_tbl := sj_mem_r _ [418, 419, 420, 421, 423, 499, 500, 501, 502, 503, 504, 506, 507, 510, 511, 513, 516, 544, 545, 546, 547, 548, 1476, 1477] (by decide +kernel)
set_option maxRecDepth 100000 in
theorem wsL_r7 : ∀ w ∈ wsL_law0_r7, w ∈ lw_tbl := sj_mem_r _ [1478, 1479, 1481, 1483, 1485, 1492, 1494, 1495, 1496, 1499, 1500, 1501, 1502, 1504, 1505, 1508, 1509, 1510, 1511, 1512, 1514, 1515, 1516, 1517] (by decide +kernel)
set_option maxRecDepth 100000 in
theorem wsL_r8 : ∀ w ∈ wsL_law0_r8, w ∈ lw_tbl := sj_mem_r _ [1518, 1519, 1522, 1523, 1524, 1526, 1527, 1528, 1530, 1531, 1533, 1536, 1538, 1539, 1540, 1541, 1542, 1543, 1544, 1548, 1549, 1550, 1551, 1552] (by decide +kernel)
set_option maxRecDepth 100000 in
theorem wsL_r9 : ∀ w ∈ wsL_law0_r9, w ∈ lw_tbl := sj_mem_r _ [1739, 1553, 1562, 1563, 1564, 1565, 605, 606, 607, 608, 169, 609, 610, 611, 612, 167, 1287, 1288, 1289, 1290, 1480, 1482, 1291, 868] (by decide +kernel)
set_option maxRecDepth 100000 in
theorem wsL_r10 : ∀ w ∈ wsL_law0_r10, w ∈ lw_tbl := sj_mem_r _ [869, 120, 870, 871, 872, 873, 874, 875, 876, 137, 469, 274, 940, 941, 942, 943, 163, 170, 948, 950, 949, 138, 291, 292] (by decide +kernel)
set_option maxRecDepth 100000 in
theorem wsL_r11 : ∀ w ∈ wsL_law0_r11, w ∈ lw_tbl := sj_mem_r _ [944, 946, 26, 947, 266, 273, 277, 281, 284, 287, 290, 951, 953, 27, 954, 955, 957, 28, 958, 959, 698, 699, 700, 960] (by decide +kernel)
set_option maxRecDepth 100000 in
theorem wsL_r12 : ∀ w ∈ wsL_law0_r12, w ∈ lw_tbl := sj_mem_r _ [962, 29, 963, 964, 966, 30, 967, 970, 971, 972, 139, 973, 974, 975, 976, 977, 1935, 978, 979, 980, 981, 982, 1934, 984] (by decide +kernel)
set_option maxRecDepth 100000 in
theorem wsL_r13 : ∀ w ∈ wsL_law0_r13, w ∈ lw_tbl := sj_mem_r _ [985, 986, 987, 988, 989, 990, 991, 992, 993, 140, 994, 998, 766, 141, 767, 999, 769, 770, 995, 996, 997, 1000, 1001, 1002] (by decide +kernel)
set_option maxRecDepth 100000 in
theorem wsL_r14 : ∀ w ∈ wsL_law0_r14, w ∈ lw_tbl := sj_mem_r _ [1003, 1004, 142, 1005, 1006, 1007, 1008, 1009, 1010, 1011, 1012, 1013, 1014, 1015, 1016, 1017, 1018, 1019, 1020, 1021, 1023, 1024, 143, 1025] (by decide +kernel)
set_option maxRecDepth 100000 in
theorem wsL_r15 : ∀ w ∈ wsL_law0_r15, w ∈ lw_tbl := sj_mem_r _ [1026, 1027, 1028, 1029, 1030, 1031, 1032, 1034, 1036, 1038, 1039, 1040, 1041, 1042, 144, 1043, 1044, 1045, 1046, 1047, 1048, 1049, 1050, 1051] (by decide +kernel)
set_option maxRecDepth 100000 in
theorem wsL_r16 : ∀ w ∈ wsL_law0_r16, w ∈ lw_tbl := sj_mem_r _ [1054, 1056, 31, 1057, 1058, 205, 201, 252, 1060, 1062, 32, 1063, 1064, 1066, 33, 1067, 1068, 1070, 34, 1071, 1072, 1074, 35, 1075] (by decide +kernel)
set_option maxRecDepth 100000 in
theorem wsL_r17 : ∀ w ∈ wsL_law0_r17, w ∈ lw_tbl := sj_mem_r _ [1076, 1078, 36, 1079, 254, 247, 250, 1080, 1081, 1083, 37, 1084, 208, 210, 1085, 1086, 1087, 1088, 195, 197, 199, 202, 215, 1089] (by decide +kernel)
set_option maxRecDepth 100000 in
theorem wsL_r18 : ∀ w ∈ wsL_law0_r18, w ∈ lw_tbl := sj_mem_r _ [1091, 38, 1092, 212, 214, 217, 1093, 1094, 1095, 1096, 379, 272, 280, 279, 216, 286, 213, 1097, 1099, 39, 1100, 349, 351, 352] (by decide +kernel)
set_option maxRecDepth 100000 in
theorem wsL_r19 : ∀ w ∈ wsL_law0_r19, w ∈ lw_tbl := sj_mem_r _ [276, 198, 211, 354, 356, 1101, 1103, 40, 1104, 203, 289, 200, 1292, 1293, 1294, 1295, 1484, 1487, 1491, 1490, 1486, 1296, 1298, 50] (by decide +kernel)
set_option maxRecDepth 100000 in
theorem wsL_r20 : ∀ w ∈ wsL_law0_r20, w ∈ lw_tbl := sj_mem_r _ [1300, 1556, 1301, 1303, 51, 1304, 1305, 1307, 52, 1308, 1488, 1489, 1493, 1497, 1503, 1506, 1513, 1309, 1311, 53, 1312, 1313, 1314, 1315] (by decide +kernel)
set_option maxRecDepth 100000 in
theorem wsL_r21 : ∀ w ∈ wsL_law0_r21, w ∈ lw_tbl := sj_mem_r _ [1316, 1317, 1318, 1319, 1321, 54, 1322, 1498, 1323, 1325, 55, 1326, 1327, 1329, 56, 1330, 1331, 1332, 1333, 1334, 1335, 1336, 1337, 1339] (by decide +kernel)
set_option maxRecDepth 100000 in
theorem wsL_r22 : ∀ w ∈ wsL_law0_r22, w ∈ lw_tbl := sj_mem_r _ [57, 1340, 1341, 1342, 1343, 1344, 1345, 1346, 1348, 58, 1349, 1350, 1352, 59, 1353, 1507, 1354, 1356, 60, 1357, 1358, 1359, 1360, 1361] (by decide +kernel)
set_option maxRecDepth 100000 in
theorem wsL_r23 : ∀ w ∈ wsL_law0_r23, w ∈ lw_tbl := sj_mem_r _ [1363, 61, 1364, 1365, 1367, 62, 1368, 1369, 1371, 63, 1372, 1373, 1375, 64, 1376, 1377, 1379, 65, 1380, 1381, 1383, 66, 1384, 1283] (by decide +kernel)
set_option maxRecDepth 100000 in
theorem wsL_r24 : ∀ w ∈ wsL_law0_r24, w ∈ lw_tbl := sj_mem_r _ [1284, 1285, 1286, 1106, 1107, 1108, 1109, 1110, 1111, 1112, 1113, 1114, 145, 269, 271, 1385, 1386, 1387, 1388, 1129, 1130, 1131, 1132, 1133] (by decide +kernel)
set_option maxRecDepth 100000 in
theorem wsL_r25 : ∀ w ∈ wsL_law0_r25, w ∈ lw_tbl := sj_mem_r _ [1134, 1135, 1136, 1137, 1177, 146, 1192, 147, 568, 1138, 1139, 1140, 1141, 508, 505, 509, 171, 1142, 1144, 41, 1145, 165, 1146, 1148] (by decide +kernel)
set_option maxRecDepth 100000 in
theorem wsL_r26 : ∀ w ∈ wsL_law0_r26, w ∈ lw_tbl := sj_mem_r _ [42, 1149, 701, 1151, 1152, 1154, 43, 1155, 1156, 1158, 44, 1159, 1160, 1162, 45, 1163, 805, 807, 18, 808, 1164, 1166, 46, 1167] (by decide +kernel)
set_option maxRecDepth 100000 in
theorem wsL_r27 : ∀ w ∈ wsL_law0_r27, w ∈ lw_tbl := sj_mem_r _ [1168, 1170, 47, 1171, 1172, 1174, 48, 1175, 1176, 622, 623, 624, 1389, 1390, 1391, 1392, 1521, 1393, 1395, 67, 1396, 1525, 1529, 1532] (by decide +kernel)
