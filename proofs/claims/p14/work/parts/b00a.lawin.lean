theorem app_in {a b c : List Cond} (h1 : ∀ w ∈ a, w ∈ c) (h2 : ∀ w ∈ b, w ∈ c) : ∀ w ∈ a ++ b, w ∈ c := fun w h => (List.mem_append.mp h).elim (h1 w) (h2 w)
set_option maxRecDepth 20000 in
theorem wsL_i1 : ∀ w ∈ wsL_law0_r1, w ∈ lw_tbl := fun w h => (goodIn_r wsL_law0_r1 [152, 153, 127, 1096, 1097, 137, 1340, 154, 155, 156, 157, 158, 159, 195, 456, 457, 458, 160, 161, 128, 460, 461, 273, 274] (by decide +kernel) (by decide +kernel) w h).1
set_option maxRecDepth 20000 in
theorem wsL_i2 : ∀ w ∈ wsL_law0_r2, w ∈ lw_tbl := fun w h => (goodIn_r wsL_law0_r2 [130, 459, 334, 335, 134, 462, 463, 464, 388, 389, 135, 465, 196, 466, 163, 164, 165, 227, 230, 234, 236, 166, 167, 129] (by decide +kernel) (by decide +kernel) w h).1
set_option maxRecDepth 20000 in
theorem wsL_i3 : ∀ w ∈ wsL_law0_r3, w ∈ lw_tbl := fun w h => (goodIn_r wsL_law0_r3 [240, 243, 169, 170, 171, 176, 177, 178, 172, 174, 0, 175, 179, 180, 197, 199, 1, 200, 202, 205, 207, 211, 214, 217] (by decide +kernel) (by decide +kernel) w h).1
set_option maxRecDepth 20000 in
theorem wsL_i4 : ∀ w ∈ wsL_law0_r4, w ∈ lw_tbl := fun w h => (goodIn_r wsL_law0_r4 [220, 223, 276, 277, 278, 279, 280, 131, 317, 318, 319, 320, 321, 282, 283, 284, 287, 288, 289, 291, 292, 285, 294, 296] (by decide +kernel) (by decide +kernel) w h).1
set_option maxRecDepth 20000 in
theorem wsL_i5 : ∀ w ∈ wsL_law0_r5, w ∈ lw_tbl := fun w h => (goodIn_r wsL_law0_r5 [298, 337, 338, 339, 350, 352, 354, 356, 358, 359, 361, 391, 392, 393, 394, 395, 396, 400, 405, 406, 397, 398, 399, 401] (by decide +kernel) (by decide +kernel) w h).1
set_option maxRecDepth 20000 in
theorem wsL_i6 : ∀ w ∈ wsL_law0_r6, w ∈ lw_tbl := fun w h => (goodIn_r wsL_law0_r6 [402, 403, 404, 407, 408, 442, 2, 443, 444, 446, 136, 447, 448, 450, 451, 454, 3, 455, 340, 342, 344, 346, 348, 1098] (by decide +kernel) (by decide +kernel) w h).1
set_option maxRecDepth 20000 in
theorem wsL_i7 : ∀ w ∈ wsL_law0_r7, w ∈ lw_tbl := fun w h => (goodIn_r wsL_law0_r7 [1099, 1100, 1101, 1102, 1126, 1127, 1129, 1130, 1131, 1132, 1133, 1134, 1135, 1136, 1137, 1142, 1152, 1158, 1159, 1160, 1161, 1162, 1163, 1164] (by decide +kernel) (by decide +kernel) w h).1
set_option maxRecDepth 20000 in
theorem wsL_i8 : ∀ w ∈ wsL_law0_r8, w ∈ lw_tbl := fun w h => (goodIn_r wsL_law0_r8 [1165, 1166, 1170, 1171, 1172, 1173, 1174, 1341, 1175, 1179, 1180, 1183, 1189, 1190, 1191, 1192, 1193, 1194, 1195, 1196, 1122, 1124, 73, 1125] (by decide +kernel) (by decide +kernel) w h).1
set_option maxRecDepth 20000 in
theorem wsL_i9 : ∀ w ∈ wsL_law0_r9, w ∈ lw_tbl := fun w h => (goodIn_r wsL_law0_r9 [490, 491, 492, 493, 494, 496, 4, 497, 1346, 1347, 1348, 1349, 1128, 1143, 649, 650, 126, 651, 652, 653, 654, 655, 656, 657] (by decide +kernel) (by decide +kernel) w h).1
set_option maxRecDepth 20000 in
theorem wsL_i10 : ∀ w ∈ wsL_law0_r10, w ∈ lw_tbl := fun w h => (goodIn_r wsL_law0_r10 [141, 725, 27, 726, 730, 28, 731, 732, 734, 29, 735, 736, 738, 30, 739, 740, 742, 31, 743, 744, 746, 32, 747, 748] (by decide +kernel) (by decide +kernel) w h).1
set_option maxRecDepth 20000 in
theorem wsL_i11 : ∀ w ∈ wsL_law0_r11, w ∈ lw_tbl := fun w h => (goodIn_r wsL_law0_r11 [750, 751, 752, 142, 753, 1701, 754, 755, 756, 757, 758, 1702, 760, 761, 762, 763, 764, 765, 766, 767, 768, 769, 143, 770] (by decide +kernel) (by decide +kernel) w h).1
set_option maxRecDepth 20000 in
theorem wsL_i12 : ∀ w ∈ wsL_law0_r12, w ∈ lw_tbl := fun w h => (goodIn_r wsL_law0_r12 [771, 772, 773, 774, 776, 777, 144, 778, 779, 780, 145, 781, 782, 783, 784, 785, 786, 787, 788, 789, 790, 791, 792, 794] (by decide +kernel) (by decide +kernel) w h).1
set_option maxRecDepth 20000 in
theorem wsL_i13 : ∀ w ∈ wsL_law0_r13, w ∈ lw_tbl := fun w h => (goodIn_r wsL_law0_r13 [796, 798, 800, 33, 801, 802, 804, 34, 805, 806, 808, 35, 809, 810, 812, 813, 815, 816, 132, 817, 1703, 818, 820, 36] (by decide +kernel) (by decide +kernel) w h).1
set_option maxRecDepth 20000 in
theorem wsL_i14 : ∀ w ∈ wsL_law0_r14, w ∈ lw_tbl := fun w h => (goodIn_r wsL_law0_r14 [821, 822, 824, 37, 825, 828, 830, 38, 831, 832, 834, 39, 835, 836, 838, 40, 839, 840, 846, 842, 844, 41, 845, 848] (by decide +kernel) (by decide +kernel) w h).1
set_option maxRecDepth 20000 in
theorem wsL_i15 : ∀ w ∈ wsL_law0_r15, w ∈ lw_tbl := fun w h => (goodIn_r wsL_law0_r15 [850, 42, 851, 852, 854, 43, 855, 856, 858, 44, 863, 866, 46, 867, 868, 870, 47, 871, 874, 48, 875, 876, 878, 49] (by decide +kernel) (by decide +kernel) w h).1
set_option maxRecDepth 20000 in
theorem wsL_i16 : ∀ w ∈ wsL_law0_r16, w ∈ lw_tbl := fun w h => (goodIn_r wsL_law0_r16 [879, 859, 860, 862, 45, 880, 882, 50, 883, 884, 886, 888, 51, 889, 890, 892, 896, 52, 897, 900, 53, 901, 904, 54] (by decide +kernel) (by decide +kernel) w h).1
set_option maxRecDepth 20000 in
theorem wsL_i17 : ∀ w ∈ wsL_law0_r17, w ∈ lw_tbl := fun w h => (goodIn_r wsL_law0_r17 [905, 906, 578, 147, 579, 1350, 1351, 1352, 1353, 1145, 1144, 1150, 1153, 1140, 1141, 1146, 1151, 1354, 1356, 74, 1357, 1358, 1360, 75] (by decide +kernel) (by decide +kernel) w h).1
set_option maxRecDepth 20000 in
theorem wsL_i18 : ∀ w ∈ wsL_law0_r18, w ∈ lw_tbl := fun w h => (goodIn_r wsL_law0_r18 [1361, 1148, 1147, 1372, 1373, 1374, 148, 1375, 1149, 1362, 1364, 76, 1365, 1366, 1367, 1368, 1369, 1370, 1371, 1376, 1377, 1378, 1379, 1381] (by decide +kernel) (by decide +kernel) w h).1
set_option maxRecDepth 20000 in
theorem wsL_i19 : ∀ w ∈ wsL_law0_r19, w ∈ lw_tbl := fun w h => (goodIn_r wsL_law0_r19 [77, 1382, 1383, 1385, 78, 1386, 1387, 1389, 79, 1390, 1391, 1392, 1393, 1395, 80, 1396, 1397, 1398, 1399, 1400, 1402, 81, 1403, 1404] (by decide +kernel) (by decide +kernel) w h).1
set_option maxRecDepth 20000 in
theorem wsL_i20 : ∀ w ∈ wsL_law0_r20, w ∈ lw_tbl := fun w h => (goodIn_r wsL_law0_r20 [1406, 82, 1407, 1408, 1410, 83, 1411, 1412, 1414, 84, 1415, 1417, 1419, 85, 1420, 1422, 1424, 86, 1425, 1426, 1428, 87, 1429, 1430] (by decide +kernel) (by decide +kernel) w h).1
set_option maxRecDepth 20000 in
theorem wsL_i21 : ∀ w ∈ wsL_law0_r21, w ∈ lw_tbl := fun w h => (goodIn_r wsL_law0_r21 [1432, 88, 1433, 1434, 1436, 89, 1455, 1457, 94, 1458, 1437, 1438, 1440, 90, 1441, 1443, 1445, 91, 1454, 1459, 1461, 95, 1462, 1450] (by decide +kernel) (by decide +kernel) w h).1
set_option maxRecDepth 20000 in
theorem wsL_i22 : ∀ w ∈ wsL_law0_r22, w ∈ lw_tbl := fun w h => (goodIn_r wsL_law0_r22 [1451, 1453, 93, 1446, 1447, 1449, 92, 1465, 1467, 96, 1468, 1138, 1139, 1154, 1155, 1156, 1157, 1184, 498, 499, 500, 501, 1469, 1470] (by decide +kernel) (by decide +kernel) w h).1
set_option maxRecDepth 20000 in
theorem wsL_i23 : ∀ w ∈ wsL_law0_r23, w ∈ lw_tbl := fun w h => (goodIn_r wsL_law0_r23 [1471, 1472, 907, 908, 909, 910, 911, 912, 913, 914, 915, 149, 526, 527, 1473, 1474, 1475, 1476, 1477, 1479, 97, 1480, 931, 932] (by decide +kernel) (by decide +kernel) w h).1
set_option maxRecDepth 20000 in
theorem wsL_i24 : ∀ w ∈ wsL_law0_r24, w ∈ lw_tbl := fun w h => (goodIn_r wsL_law0_r24 [933, 934, 935, 936, 937, 512, 6, 513, 530, 9, 531, 515, 516, 521, 523, 8, 524, 550, 551, 552, 519, 7, 520, 1481] (by decide +kernel) (by decide +kernel) w h).1
set_option maxRecDepth 20000 in
theorem wsL_i25 : ∀ w ∈ wsL_law0_r25, w ∈ lw_tbl := fun w h => (goodIn_r wsL_law0_r25 [1482, 1483, 1484, 1485, 1487, 98, 1488, 1489, 1491, 99, 1492, 1493, 1495, 100, 1496, 1497, 1499, 101, 1500, 944, 945, 946, 947, 948] (by decide +kernel) (by decide +kernel) w h).1
set_option maxRecDepth 20000 in
theorem wsL_i26 : ∀ w ∈ wsL_law0_r26, w ∈ lw_tbl := fun w h => (goodIn_r wsL_law0_r26 [949, 950, 571, 16, 572, 955, 956, 575, 17, 576, 577, 582, 18, 583, 584, 585, 586, 1501, 1502, 1503, 1504, 1505, 1506, 1507] (by decide +kernel) (by decide +kernel) w h).1
set_option maxRecDepth 20000 in
theorem wsL_i27 : ∀ w ∈ wsL_law0_r27, w ∈ lw_tbl := fun w h => (goodIn_r wsL_law0_r27 [1508, 1510, 102, 1511, 1512, 1514, 103, 1515, 1516, 1518, 104, 1519, 1520, 1522, 105, 1523, 1524, 1526, 106, 1527, 1528, 1529, 1530, 502] (by decide +kernel) (by decide +kernel) w h).1
set_option maxRecDepth 20000 in
theorem wsL_i28 : ∀ w ∈ wsL_law0_r28, w ∈ lw_tbl := fun w h => (goodIn_r wsL_law0_r28 [503, 504, 505, 508, 5, 509, 510, 517, 528, 532, 534, 10, 535, 539, 11, 540, 1531, 1532, 1533, 1534, 1535, 1537, 107, 1538] (by decide +kernel) (by decide +kernel) w h).1
set_option maxRecDepth 20000 in
theorem wsL_i29 : ∀ w ∈ wsL_law0_r29, w ∈ lw_tbl := fun w h => (goodIn_r wsL_law0_r29 [1539, 1541, 108, 1542, 541, 542, 543, 544, 547, 12, 548, 555, 13, 556, 1543, 1544, 1545, 1546, 1547, 1549, 109, 1550, 557, 558] (by decide +kernel) (by decide +kernel) w h).1
set_option maxRecDepth 20000 in
theorem wsL_i30 : ∀ w ∈ wsL_law0_r30, w ∈ lw_tbl := fun w h => (goodIn_r wsL_law0_r30 [559, 560, 563, 14, 564, 565, 567, 15, 568, 569, 573, 587, 589, 19, 590, 591, 593, 20, 594, 597, 21, 598, 599, 601] (by decide +kernel) (by decide +kernel) w h).1
set_option maxRecDepth 20000 in
theorem wsL_i31 : ∀ w ∈ wsL_law0_r31, w ∈ lw_tbl := fun w h => (goodIn_r wsL_law0_r31 [22, 602, 1551, 1552, 1553, 1554, 1169, 1555, 1557, 110, 1558, 1559, 1561, 111, 1562, 1563, 1565, 112, 1566, 1567, 1569, 113, 1570, 1571] (by decide +kernel) (by decide +kernel) w h).1
set_option maxRecDepth 20000 in
theorem wsL_i32 : ∀ w ∈ wsL_law0_r32, w ∈ lw_tbl := fun w h => (goodIn_r wsL_law0_r32 [1167, 1572, 1168, 1573, 1574, 1575, 1576, 1578, 114, 1579, 604, 605, 606, 607, 1580, 1581, 1582, 1583, 610, 611, 612, 613, 1584, 1585] (by decide +kernel) (by decide +kernel) w h).1
set_option maxRecDepth 20000 in
theorem wsL_i33 : ∀ w ∈ wsL_law0_r33, w ∈ lw_tbl := fun w h => (goodIn_r wsL_law0_r33 [1586, 1587, 614, 615, 616, 617, 620, 23, 621, 1588, 1589, 1590, 1591, 959, 960, 961, 962, 963, 964, 965, 1592, 1593, 1594, 1595] (by decide +kernel) (by decide +kernel) w h).1
set_option maxRecDepth 20000 in
theorem wsL_i34 : ∀ w ∈ wsL_law0_r34, w ∈ lw_tbl := fun w h => (goodIn_r wsL_law0_r34 [1342, 1343, 1344, 1345, 622, 623, 624, 625, 1596, 1597, 1598, 1599, 968, 969, 970, 971, 972, 973, 974, 978, 55, 979, 980, 982] (by decide +kernel) (by decide +kernel) w h).1
set_option maxRecDepth 20000 in
theorem wsL_i35 : ∀ w ∈ wsL_law0_r35, w ∈ lw_tbl := fun w h => (goodIn_r wsL_law0_r35 [56, 983, 984, 985, 987, 57, 988, 989, 991, 58, 992, 993, 995, 59, 996, 1002, 1004, 60, 1005, 1024, 1006, 1008, 61, 1009] (by decide +kernel) (by decide +kernel) w h).1
set_option maxRecDepth 20000 in
theorem wsL_i36 : ∀ w ∈ wsL_law0_r36, w ∈ lw_tbl := fun w h => (goodIn_r wsL_law0_r36 [1012, 1014, 62, 1015, 1020, 63, 1021, 1028, 64, 1029, 1032, 65, 1033, 1600, 1601, 1602, 1603, 1604, 1606, 115, 1607, 1176, 1178, 1177] (by decide +kernel) (by decide +kernel) w h).1
set_option maxRecDepth 20000 in
theorem wsL_i37 : ∀ w ∈ wsL_law0_r37, w ∈ lw_tbl := fun w h => (goodIn_r wsL_law0_r37 [1182, 1608, 1609, 1610, 1611, 1612, 1614, 116, 1615, 1616, 1617, 1618, 1619, 1620, 1622, 117, 1623, 1624, 1626, 118, 1627, 1181, 1628, 1630] (by decide +kernel) (by decide +kernel) w h).1
set_option maxRecDepth 20000 in
theorem wsL_i38 : ∀ w ∈ wsL_law0_r38, w ∈ lw_tbl := fun w h => (goodIn_r wsL_law0_r38 [119, 1631, 1632, 1634, 120, 1635, 1636, 1638, 121, 1639, 1640, 1642, 122, 1643, 1034, 1035, 1036, 1037, 1038, 1039, 1040, 1043, 66, 1044] (by decide +kernel) (by decide +kernel) w h).1
set_option maxRecDepth 20000 in
theorem wsL_i39 : ∀ w ∈ wsL_law0_r39, w ∈ lw_tbl := fun w h => (goodIn_r wsL_law0_r39 [1644, 1645, 1646, 1647, 1648, 1650, 123, 1651, 1045, 1046, 1047, 1048, 1049, 1050, 1051, 1053, 1054, 150, 1055, 1056, 1057, 1058, 1059, 1061] (by decide +kernel) (by decide +kernel) w h).1
set_option maxRecDepth 20000 in
theorem wsL_i40 : ∀ w ∈ wsL_law0_r40, w ∈ lw_tbl := fun w h => (goodIn_r wsL_law0_r40 [67, 1062, 1064, 1065, 1066, 1069, 68, 1070, 1073, 69, 1074, 1652, 1653, 1654, 1655, 1656, 1657, 1658, 626, 627, 628, 629, 632, 24] (by decide +kernel) (by decide +kernel) w h).1
set_option maxRecDepth 20000 in
theorem wsL_i41 : ∀ w ∈ wsL_law0_r41, w ∈ lw_tbl := fun w h => (goodIn_r wsL_law0_r41 [633, 1659, 1660, 1661, 1662, 1076, 1077, 1078, 1079, 1080, 1081, 1082, 1086, 70, 1087, 1088, 1090, 71, 1091, 1094, 72, 1095, 1663, 1664] (by decide +kernel) (by decide +kernel) w h).1
set_option maxRecDepth 20000 in
theorem wsL_i42 : ∀ w ∈ wsL_law0_r42, w ∈ lw_tbl := fun w h => (goodIn_r wsL_law0_r42 [1665, 1666, 1667, 1669, 124, 1670, 1671, 1673, 125, 1674, 634, 635, 636, 637, 640, 25, 641, 642, 644, 643, 151, 1675, 1676, 1677] (by decide +kernel) (by decide +kernel) w h).1
set_option maxRecDepth 20000 in
theorem wsL_i43 : ∀ w ∈ wsL_law0_r43, w ∈ lw_tbl := fun w h => (goodIn_r wsL_law0_r43 [1678, 1185, 1186, 1187, 1188, 1679, 1680, 1681, 645, 646, 647, 648, 1682, 1683, 1684, 1685] (by decide +kernel) (by decide +kernel) w h).1
