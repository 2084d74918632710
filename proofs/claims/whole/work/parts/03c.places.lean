/-- words of a list by their places in another -/
theorem in_places {big ws : List Cond} (ps : List Nat) (h : ws.map some = ps.map (fun i => big[i]?)) : ∀ w ∈ ws, w ∈ big := by
  intro w hw
  have h1 : some w ∈ ws.map some := List.mem_map.mpr ⟨w, hw, rfl⟩
  rw [h] at h1
  obtain ⟨i, -, hi⟩ := List.mem_map.mp h1
  exact List.mem_of_getElem? hi
set_option maxRecDepth 20000 in
theorem wsL_law0_r1_pl : ∀ w ∈ wsL_law0_r1, w ∈ lw_tbl := in_places [129, 130, 105, 1124, 1125, 113, 288, 131, 132, 133, 134, 135, 136, 165, 398, 399, 400, 137, 138, 106, 401, 402, 289, 290] (by decide +kernel)
set_option maxRecDepth 20000 in
theorem wsL_law0_r2_pl : ∀ w ∈ wsL_law0_r2, w ∈ lw_tbl := in_places [110, 403, 308, 309, 111, 404, 352, 353, 112, 405, 139, 140, 141, 142, 143, 144, 107, 236, 240, 241, 243, 246, 248, 249] (by decide +kernel)
set_option maxRecDepth 20000 in
theorem wsL_law0_r3_pl : ∀ w ∈ wsL_law0_r3, w ∈ lw_tbl := in_places [250, 254, 260, 146, 147, 148, 166, 170, 149, 150, 108, 173, 152, 153, 154, 155, 156, 213, 214, 215, 216, 255, 257, 258] (by decide +kernel)
set_option maxRecDepth 20000 in
theorem wsL_law0_r4_pl : ∀ w ∈ wsL_law0_r4, w ∈ lw_tbl := in_places [217, 218, 219, 220, 176, 180, 184, 188, 192, 221, 222, 109, 223, 224, 225, 226, 227, 157, 228, 229, 230, 231, 232, 233] (by decide +kernel)
set_option maxRecDepth 20000 in
theorem wsL_law0_r5_pl : ∀ w ∈ wsL_law0_r5, w ∈ lw_tbl := in_places [234, 235, 291, 292, 293, 294, 295, 298, 299, 300, 297, 311, 312, 313, 314, 316, 318, 320, 315, 355, 356, 357, 364, 365] (by decide +kernel)
set_option maxRecDepth 20000 in
theorem wsL_law0_r6_pl : ∀ w ∈ wsL_law0_r6, w ∈ lw_tbl := in_places [366, 367, 1126, 1127, 1128, 1129, 1142, 1148, 1149, 1150, 1151, 1130, 1152, 1159, 1160, 1161, 1132, 1133, 1134, 1135, 1136, 1137, 1138, 1139] (by decide +kernel)
set_option maxRecDepth 20000 in
theorem wsL_law0_r7_pl : ∀ w ∈ wsL_law0_r7, w ∈ lw_tbl := in_places [1140, 423, 424, 425, 426, 427, 429, 0, 430, 1209, 1210, 1211, 1212, 1141, 1143, 625, 626, 104, 627, 628, 629, 630, 631, 632] (by decide +kernel)
set_option maxRecDepth 20000 in
theorem wsL_law0_r8_pl : ∀ w ∈ wsL_law0_r8, w ∈ lw_tbl := in_places [633, 117, 319, 317, 702, 703, 704, 705, 706, 707, 118, 708, 321, 709, 502, 501, 119, 322, 323, 326, 327, 328, 710, 711] (by decide +kernel)
set_option maxRecDepth 20000 in
theorem wsL_law0_r9_pl : ∀ w ∈ wsL_law0_r9, w ∈ lw_tbl := in_places [713, 14, 714, 325, 715, 717, 15, 718, 719, 721, 16, 722, 723, 724, 120, 725, 726, 728, 17, 729, 731, 733, 18, 734] (by decide +kernel)
set_option maxRecDepth 20000 in
theorem wsL_law0_r10_pl : ∀ w ∈ wsL_law0_r10, w ∈ lw_tbl := in_places [735, 736, 737, 121, 738, 1629, 739, 740, 741, 742, 743, 1630, 745, 746, 747, 748, 749, 750, 751, 752, 753, 754, 122, 755] (by decide +kernel)
set_option maxRecDepth 20000 in
theorem wsL_law0_r11_pl : ∀ w ∈ wsL_law0_r11, w ∈ lw_tbl := in_places [756, 757, 758, 759, 761, 762, 123, 763, 764, 765, 124, 766, 767, 768, 769, 770, 771, 772, 773, 774, 775, 776, 777, 779] (by decide +kernel)
set_option maxRecDepth 20000 in
theorem wsL_law0_r12_pl : ∀ w ∈ wsL_law0_r12, w ∈ lw_tbl := in_places [781, 783, 785, 19, 786, 239, 178, 169, 324, 787, 788, 789, 790, 792, 20, 793, 794, 795, 797, 21, 798, 799, 801, 22] (by decide +kernel)
set_option maxRecDepth 20000 in
theorem wsL_law0_r13_pl : ∀ w ∈ wsL_law0_r13, w ∈ lw_tbl := in_places [802, 174, 804, 806, 23, 807, 182, 808, 810, 24, 811, 813, 815, 25, 816, 187, 818, 820, 26, 821, 191, 823, 825, 27] (by decide +kernel)
set_option maxRecDepth 20000 in
theorem wsL_law0_r14_pl : ∀ w ∈ wsL_law0_r14, w ∈ lw_tbl := in_places [826, 195, 828, 830, 28, 831, 172, 833, 835, 29, 836, 252, 837, 838, 839, 840, 841, 842, 843, 845, 846, 847, 848, 849] (by decide +kernel)
set_option maxRecDepth 20000 in
theorem wsL_law0_r15_pl : ∀ w ∈ wsL_law0_r15, w ∈ lw_tbl := in_places [851, 30, 852, 853, 855, 31, 857, 867, 869, 33, 870, 856, 858, 860, 32, 861, 871, 872, 873, 874, 572, 493, 494, 495] (by decide +kernel)
set_option maxRecDepth 20000 in
theorem wsL_law0_r16_pl : ∀ w ∈ wsL_law0_r16, w ∈ lw_tbl := in_places [508, 496, 497, 498, 499, 500, 503, 504, 505, 506, 507, 492, 875, 549, 550, 551, 181, 1213, 1214, 1215, 1216, 1144, 1145, 1146] (by decide +kernel)
set_option maxRecDepth 20000 in
theorem wsL_law0_r17_pl : ∀ w ∈ wsL_law0_r17, w ∈ lw_tbl := in_places [1147, 1155, 1156, 1157, 1158, 1217, 1218, 1219, 1220, 1222, 42, 1223, 1224, 1226, 43, 1227, 1154, 1229, 1231, 44, 1232, 1233, 1235, 45] (by decide +kernel)
set_option maxRecDepth 20000 in
theorem wsL_law0_r18_pl : ∀ w ∈ wsL_law0_r18, w ∈ lw_tbl := in_places [1236, 1237, 1239, 46, 1240, 1241, 1243, 47, 1244, 1245, 1246, 1247, 1249, 48, 1250, 1251, 1253, 49, 1254, 1258, 1255, 1256, 1257, 1259] (by decide +kernel)
set_option maxRecDepth 20000 in
theorem wsL_law0_r19_pl : ∀ w ∈ wsL_law0_r19, w ∈ lw_tbl := in_places [1260, 1261, 1262, 1264, 50, 1265, 1266, 1268, 51, 1269, 1271, 1273, 52, 1274, 1275, 1277, 53, 1278, 1283, 1285, 54, 1286, 1287, 1288] (by decide +kernel)
set_option maxRecDepth 20000 in
theorem wsL_law0_r20_pl : ∀ w ∈ wsL_law0_r20, w ∈ lw_tbl := in_places [1289, 1291, 1293, 55, 1294, 1295, 1297, 56, 1298, 1299, 1300, 1301, 1302, 1303, 1304, 1306, 1308, 57, 1309, 1310, 1312, 58, 1323, 1325] (by decide +kernel)
set_option maxRecDepth 20000 in
theorem wsL_law0_r21_pl : ∀ w ∈ wsL_law0_r21, w ∈ lw_tbl := in_places [60, 1326, 1317, 1313, 1314, 1316, 59, 1327, 1329, 61, 1330, 1153, 1331, 1332, 1333, 1334, 1336, 62, 1337, 1338, 1340, 63, 1341, 1205] (by decide +kernel)
set_option maxRecDepth 20000 in
theorem wsL_law0_r22_pl : ∀ w ∈ wsL_law0_r22, w ∈ lw_tbl := in_places [1206, 1207, 1208, 431, 432, 433, 434, 1342, 1343, 1344, 1345, 876, 877, 878, 879, 880, 881, 882, 578, 579, 580, 581, 177, 186] (by decide +kernel)
set_option maxRecDepth 20000 in
theorem wsL_law0_r23_pl : ∀ w ∈ wsL_law0_r23, w ∈ lw_tbl := in_places [190, 194, 582, 584, 6, 585, 586, 588, 7, 589, 458, 459, 460, 461, 167, 590, 592, 8, 593, 443, 444, 445, 446, 447] (by decide +kernel)
set_option maxRecDepth 20000 in
theorem wsL_law0_r24_pl : ∀ w ∈ wsL_law0_r24, w ∈ lw_tbl := in_places [448, 449, 450, 451, 452, 453, 454, 455, 456, 457, 462, 463, 464, 465, 466, 548, 1346, 1347, 1348, 1349, 1350, 1352, 64, 1353] (by decide +kernel)
set_option maxRecDepth 20000 in
theorem wsL_law0_r25_pl : ∀ w ∈ wsL_law0_r25, w ∈ lw_tbl := in_places [1354, 1356, 65, 1357, 1358, 1360, 66, 1361, 1362, 1364, 67, 1365, 1366, 1368, 68, 1369, 1370, 1372, 69, 1373, 1374, 1376, 70, 1377] (by decide +kernel)
set_option maxRecDepth 20000 in
theorem wsL_law0_r26_pl : ∀ w ∈ wsL_law0_r26, w ∈ lw_tbl := in_places [1378, 1380, 71, 1381, 1382, 1384, 72, 1385, 1386, 1388, 73, 1389, 1390, 1392, 74, 1393, 1394, 1396, 75, 1397, 1398, 1400, 76, 1401] (by decide +kernel)
set_option maxRecDepth 20000 in
theorem wsL_law0_r27_pl : ∀ w ∈ wsL_law0_r27, w ∈ lw_tbl := in_places [1402, 1404, 77, 1405, 1406, 1408, 78, 1409, 1410, 1412, 79, 1413, 884, 885, 886, 887, 888, 889, 890, 891, 892, 894, 34, 895] (by decide +kernel)
set_option maxRecDepth 20000 in
theorem wsL_law0_r28_pl : ∀ w ∈ wsL_law0_r28, w ∈ lw_tbl := in_places [896, 125, 238, 179, 598, 599, 600, 601, 1414, 1415, 1416, 1417, 1418, 1420, 80, 1421, 1422, 1424, 81, 1425, 913, 914, 915, 916] (by decide +kernel)
set_option maxRecDepth 20000 in
theorem wsL_law0_r29_pl : ∀ w ∈ wsL_law0_r29, w ∈ lw_tbl := in_places [917, 918, 919, 920, 921, 126, 168, 602, 603, 604, 605, 1426, 1427, 1428, 1429, 1430, 1432, 82, 1433, 937, 938, 939, 940, 941] (by decide +kernel)
set_option maxRecDepth 20000 in
theorem wsL_law0_r30_pl : ∀ w ∈ wsL_law0_r30, w ∈ lw_tbl := in_places [942, 943, 944, 946, 35, 947, 183, 610, 611, 612, 613, 614, 616, 11, 617, 618, 620, 12, 621, 1434, 1435, 1436, 1437, 1438] (by decide +kernel)
set_option maxRecDepth 20000 in
theorem wsL_law0_r31_pl : ∀ w ∈ wsL_law0_r31, w ∈ lw_tbl := in_places [1440, 83, 1441, 1442, 1444, 84, 1445, 1446, 1448, 85, 1449, 1450, 1452, 86, 1453, 950, 951, 952, 953, 954, 955, 956, 957, 959] (by decide +kernel)
set_option maxRecDepth 20000 in
theorem wsL_law0_r32_pl : ∀ w ∈ wsL_law0_r32, w ∈ lw_tbl := in_places [36, 960, 253, 622, 623, 624, 540, 541, 543, 542, 1454, 1455, 1456, 1457, 1458, 1460, 87, 1461, 963, 964, 965, 966, 967, 968] (by decide +kernel)
set_option maxRecDepth 20000 in
theorem wsL_law0_r33_pl : ∀ w ∈ wsL_law0_r33, w ∈ lw_tbl := in_places [969, 171, 1462, 1463, 1464, 1465, 971, 972, 973, 974, 975, 976, 977, 245, 247, 978, 1466, 1467, 1468, 1469, 979, 980, 981, 982] (by decide +kernel)
set_option maxRecDepth 20000 in
theorem wsL_law0_r34_pl : ∀ w ∈ wsL_law0_r34, w ∈ lw_tbl := in_places [983, 984, 985, 256, 986, 1470, 1471, 1472, 1473, 1474, 1476, 88, 1477, 987, 988, 989, 990, 991, 992, 993, 996, 475, 476, 477] (by decide +kernel)
set_option maxRecDepth 20000 in
theorem wsL_law0_r35_pl : ∀ w ∈ wsL_law0_r35, w ∈ lw_tbl := in_places [997, 468, 469, 470, 175, 471, 472, 473, 474, 478, 479, 480, 481, 482, 483, 484, 485, 486, 487, 1478, 1479, 1480, 1481, 1482] (by decide +kernel)
set_option maxRecDepth 20000 in
theorem wsL_law0_r36_pl : ∀ w ∈ wsL_law0_r36, w ∈ lw_tbl := in_places [1484, 89, 1485, 1486, 1488, 90, 1489, 1490, 1492, 91, 1493, 1494, 1496, 92, 1497, 1498, 1499, 1500, 1501, 1502, 1503, 1504, 1505, 435] (by decide +kernel)
set_option maxRecDepth 20000 in
theorem wsL_law0_r37_pl : ∀ w ∈ wsL_law0_r37, w ∈ lw_tbl := in_places [436, 437, 438, 439, 440, 441, 442, 467, 1506, 1507, 1508, 1509, 1510, 1512, 93, 1513, 998, 999, 1000, 1001, 1002, 1003, 1004, 359] (by decide +kernel)
set_option maxRecDepth 20000 in
theorem wsL_law0_r38_pl : ∀ w ∈ wsL_law0_r38, w ∈ lw_tbl := in_places [1005, 1006, 1007, 1008, 358, 360, 362, 368, 1009, 1010, 1012, 37, 1013, 251, 369, 244, 370, 237, 189, 371, 193, 372, 185, 1014] (by decide +kernel)
set_option maxRecDepth 20000 in
theorem wsL_law0_r39_pl : ∀ w ∈ wsL_law0_r39, w ∈ lw_tbl := in_places [1015, 1016, 1017, 1018, 1019, 1020, 1022, 38, 1023, 1024, 1025, 1026, 1027, 1028, 127, 1029, 1030, 1031, 1032, 1033, 1035, 39, 1036, 1037] (by decide +kernel)
set_option maxRecDepth 20000 in
theorem wsL_law0_r40_pl : ∀ w ∈ wsL_law0_r40, w ∈ lw_tbl := in_places [1039, 40, 1040, 1514, 1515, 1516, 1517, 1518, 1520, 94, 1521, 1522, 1524, 95, 1525, 1526, 1528, 96, 1529, 1530, 1531, 1532, 1533, 1535] (by decide +kernel)
set_option maxRecDepth 20000 in
theorem wsL_law0_r41_pl : ∀ w ∈ wsL_law0_r41, w ∈ lw_tbl := in_places [97, 1536, 1537, 1538, 1539, 1041, 1042, 1043, 1044, 1045, 1046, 1047, 361, 1540, 1541, 1542, 1543, 1048, 1049, 1050, 1051, 1052, 1053, 1054] (by decide +kernel)
set_option maxRecDepth 20000 in
theorem wsL_law0_r42_pl : ∀ w ∈ wsL_law0_r42, w ∈ lw_tbl := in_places [363, 1055, 1544, 1545, 1546, 1547, 1056, 1057, 1058, 1059, 1060, 1061, 1062, 1063, 1064, 1065, 1066, 1548, 1549, 1550, 1551, 488, 489, 490] (by decide +kernel)
set_option maxRecDepth 20000 in
theorem wsL_law0_r43_pl : ∀ w ∈ wsL_law0_r43, w ∈ lw_tbl := in_places [491, 509, 510, 511, 512, 513, 514, 516, 1, 517, 518, 519, 520, 521, 522, 523, 525, 2, 526, 527, 529, 3, 530, 531] (by decide +kernel)
set_option maxRecDepth 20000 in
theorem wsL_law0_r44_pl : ∀ w ∈ wsL_law0_r44, w ∈ lw_tbl := in_places [532, 533, 534, 535, 537, 4, 538, 539, 544, 546, 5, 547, 552, 553, 554, 555, 1552, 1553, 1554, 1555, 1556, 1557, 1559, 98] (by decide +kernel)
set_option maxRecDepth 20000 in
theorem wsL_law0_r45_pl : ∀ w ∈ wsL_law0_r45, w ∈ lw_tbl := in_places [1560, 1561, 1563, 99, 1564, 1565, 1567, 100, 1568, 1569, 1571, 101, 1572, 1573, 1575, 102, 1576, 556, 557, 558, 559, 1577, 1578, 1579] (by decide +kernel)
set_option maxRecDepth 20000 in
theorem wsL_law0_r46_pl : ∀ w ∈ wsL_law0_r46, w ∈ lw_tbl := in_places [1580, 560, 561, 562, 563, 242, 1581, 1582, 1583, 1584, 1067, 1068, 1069, 1070, 1071, 1072, 1073, 1074, 1075, 128, 1090, 1585, 1586, 1587] (by decide +kernel)
set_option maxRecDepth 20000 in
theorem wsL_law0_r47_pl : ∀ w ∈ wsL_law0_r47, w ∈ lw_tbl := in_places [1588, 1091, 1092, 1093, 1094, 1095, 1096, 1097, 259, 1099, 1589, 1590, 1591, 1592, 1100, 1101, 1102, 1103, 1104, 1105, 1106, 1593, 1594, 1595] (by decide +kernel)
set_option maxRecDepth 20000 in
theorem wsL_law0_r48_pl : ∀ w ∈ wsL_law0_r48, w ∈ lw_tbl := in_places [1596, 1108, 1109, 1110, 1111, 1112, 1113, 1114, 1115, 1117, 41, 1118, 1119, 1122, 1123, 1597, 1598, 1599, 1600, 1601, 1603, 103, 1604, 564] (by decide +kernel)
set_option maxRecDepth 20000 in
theorem wsL_law0_r49_pl : ∀ w ∈ wsL_law0_r49, w ∈ lw_tbl := in_places [565, 566, 567, 568, 569, 570, 571, 1605, 1606, 1607, 1608, 573, 574, 575, 576, 577, 594, 596, 9, 597, 606, 608, 10, 609] (by decide +kernel)
set_option maxRecDepth 20000 in
theorem wsL_law0_r50_pl : ∀ w ∈ wsL_law0_r50, w ∈ lw_tbl := in_places [1609, 1610, 1611, 1612, 1613] (by decide +kernel)
set_option maxRecDepth 20000 in
theorem wsX70_pl : ∀ w ∈ wsX70, w ∈ lw_tbl := in_places [406, 408, 410, 412, 414, 416, 418, 420] (by decide +kernel)
set_option maxRecDepth 20000 in
theorem wsX80_pl : ∀ w ∈ wsX80, w ∈ lw_tbl := in_places [1162, 1164, 1166, 1168, 1170, 1172, 1174, 1176, 1178, 1180, 1182, 1184, 1186, 1188, 1190, 1192, 1194, 1196, 1198, 1200, 1202] (by decide +kernel)
set_option maxRecDepth 20000 in
theorem wsX10_pl : ∀ w ∈ wsX10, w ∈ lw_tbl := in_places [261, 263, 265, 267, 269, 271, 273, 275, 277, 279, 281, 283, 285] (by decide +kernel)
set_option maxRecDepth 20000 in
theorem wsX20_pl : ∀ w ∈ wsX20, w ∈ lw_tbl := in_places [301, 303, 305] (by decide +kernel)
set_option maxRecDepth 20000 in
theorem wsX50_pl : ∀ w ∈ wsX50, w ∈ lw_tbl := in_places [329, 331, 333, 335, 337, 339, 341, 343, 345, 347, 349] (by decide +kernel)
set_option maxRecDepth 20000 in
theorem wsX00_pl : ∀ w ∈ wsX00, w ∈ lw_tbl := in_places [373, 375, 377, 379, 381, 383, 385, 387, 389, 391, 393, 395] (by decide +kernel)
set_option maxRecDepth 20000 in
theorem wsX40_pl : ∀ w ∈ wsX40, w ∈ lw_tbl := in_places [196, 198, 200, 202, 204, 206, 208, 210] (by decide +kernel)
set_option maxRecDepth 20000 in
theorem wsX30_pl : ∀ w ∈ wsX30, w ∈ lw_tbl := in_places [158, 160, 162] (by decide +kernel)
theorem mem_or {a b : List Cond} {P : Cond → Prop} (ha : ∀ w ∈ a, P w) (hb : ∀ w ∈ b, P w) : ∀ w ∈ a ++ b, P w := fun w h => (List.mem_append.mp h).elim (ha w) (hb w)
set_option maxRecDepth 20000 in
theorem wsL_law_in0 : ∀ w ∈ wsL_law0, w ∈ lw_tbl := mem_or (mem_or (mem_or (mem_or (mem_or (mem_or (mem_or (mem_or (mem_or (mem_or wsL_law0_r1_pl (mem_or wsL_law0_r2_pl (mem_or wsL_law0_r3_pl (mem_or wsL_law0_r4_pl (mem_or wsL_law0_r5_pl (mem_or wsL_law0_r6_pl (mem_or wsL_law0_r7_pl (mem_or wsL_law0_r8_pl (mem_or wsL_law0_r9_pl (mem_or wsL_law0_r10_pl (mem_or wsL_law0_r11_pl (mem_or wsL_law0_r12_pl (mem_or wsL_law0_r13_pl (mem_or wsL_law0_r14_pl (mem_or wsL_law0_r15_pl (mem_or wsL_law0_r16_pl (mem_or wsL_law0_r17_pl (mem_or wsL_law0_r18_pl (mem_or wsL_law0_r19_pl (mem_or wsL_law0_r20_pl (mem_or wsL_law0_r21_pl (mem_or wsL_law0_r22_pl (mem_or wsL_law0_r23_pl (mem_or wsL_law0_r24_pl (mem_or wsL_law0_r25_pl (mem_or wsL_law0_r26_pl (mem_or wsL_law0_r27_pl (mem_or wsL_law0_r28_pl (mem_or wsL_law0_r29_pl (mem_or wsL_law0_r30_pl (mem_or wsL_law0_r31_pl (mem_or wsL_law0_r32_pl (mem_or wsL_law0_r33_pl (mem_or wsL_law0_r34_pl (mem_or wsL_law0_r35_pl (mem_or wsL_law0_r36_pl (mem_or wsL_law0_r37_pl (mem_or wsL_law0_r38_pl (mem_or wsL_law0_r39_pl (mem_or wsL_law0_r40_pl (mem_or wsL_law0_r41_pl (mem_or wsL_law0_r42_pl (mem_or wsL_law0_r43_pl (mem_or wsL_law0_r44_pl (mem_or wsL_law0_r45_pl (mem_or wsL_law0_r46_pl (mem_or wsL_law0_r47_pl (mem_or wsL_law0_r48_pl (mem_or wsL_law0_r49_pl (wsL_law0_r50_pl)))))))))))))))))))))))))))))))))))))))))))))))))) wsX70_pl) wsX80_pl) wsX10_pl) wsX20_pl) wsX50_pl) wsX00_pl) wsX40_pl) wsX30_pl) (fun _ h => absurd h List.not_mem_nil)
