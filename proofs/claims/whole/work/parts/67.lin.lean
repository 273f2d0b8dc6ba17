theorem nv_places {big : List Cond} (ws : List Cond) (ps : List Nat) (hp : ws = ps.filterMap (fun i => big[i]?)) : ∀ w ∈ ws, w ∈ big := by
  intro w hw
  rw [hp] at hw
  obtain ⟨i, -, hi⟩ := List.mem_filterMap.mp hw
  first | exact List.mem_of_getElem? hi | exact List.getElem?_mem hi
set_option maxRecDepth 20000 in
theorem wl_in_1 : ∀ w ∈ wsL_law0_r1, w ∈ lw_tbl := nv_places _ [106, 107, 80, 1317, 1318, 91, 1761, 1762, 108, 109, 110, 111, 112, 113, 114, 115, 81, 353, 354, 275, 276, 87, 355, 295] rfl
set_option maxRecDepth 20000 in
theorem wl_in_2 : ∀ w ∈ wsL_law0_r2, w ∈ lw_tbl := nv_places _ [296, 88, 356, 308, 309, 89, 357, 324, 325, 90, 358, 359, 360, 361, 362, 363, 116, 117, 118, 119, 120, 227, 178, 229] rfl
set_option maxRecDepth 20000 in
theorem wl_in_3 : ∀ w ∈ wsL_law0_r3, w ∈ lw_tbl := nv_places _ [231, 232, 233, 122, 82, 124, 125, 126, 142, 179, 180, 181, 182, 234, 237, 239, 241, 243, 245, 247, 183, 184, 185, 187] rfl
set_option maxRecDepth 20000 in
theorem wl_in_4 : ∀ w ∈ wsL_law0_r4, w ∈ lw_tbl := nv_places _ [188, 189, 83, 190, 1783, 191, 192, 193, 194, 195, 1782, 197, 198, 84, 199, 200, 201, 202, 203, 205, 206, 85, 207, 208] rfl
set_option maxRecDepth 20000 in
theorem wl_in_5 : ∀ w ∈ wsL_law0_r5, w ∈ lw_tbl := nv_places _ [209, 86, 210, 211, 212, 213, 214, 215, 216, 217, 218, 219, 220, 221, 223, 225, 277, 278, 279, 280, 281, 284, 285, 286] rfl
set_option maxRecDepth 20000 in
theorem wl_in_6 : ∀ w ∈ wsL_law0_r6, w ∈ lw_tbl := nv_places _ [283, 298, 299, 300, 301, 302, 311, 312, 313, 323, 314, 327, 328, 329, 330, 338, 1319, 1320, 1321, 1322, 1333, 1334, 1335, 1337] rfl
set_option maxRecDepth 20000 in
theorem wl_in_7 : ∀ w ∈ wsL_law0_r7, w ∈ lw_tbl := nv_places _ [1339, 1341, 1342, 1345, 1350, 1323, 1325, 30, 1326, 1327, 1328, 1329, 1330, 1331, 1332, 387, 388, 389, 390, 235, 391, 392, 393, 394] rfl
set_option maxRecDepth 20000 in
theorem wl_in_8 : ∀ w ∈ wsL_law0_r8, w ∈ lw_tbl := nv_places _ [395, 1392, 1393, 1394, 1395, 1336, 1396, 1398, 31, 1399, 1347, 486, 487, 79, 488, 489, 490, 569, 570, 571, 572, 573, 574, 576] rfl
set_option maxRecDepth 20000 in
theorem wl_in_9 : ∀ w ∈ wsL_law0_r9, w ∈ lw_tbl := nv_places _ [5, 577, 578, 419, 420, 579, 581, 6, 582, 583, 584, 585, 586, 97, 602, 95, 615, 98, 631, 632, 633, 634, 635, 636] rfl
set_option maxRecDepth 20000 in
theorem wl_in_10 : ∀ w ∈ wsL_law0_r10, w ∈ lw_tbl := nv_places _ [637, 638, 639, 640, 641, 642, 643, 644, 99, 645, 646, 476, 477, 478, 483, 485, 484, 100, 479, 480, 481, 482, 127, 130] rfl
set_option maxRecDepth 20000 in
theorem wl_in_11 : ∀ w ∈ wsL_law0_r11, w ∈ lw_tbl := nv_places _ [133, 136, 139, 145, 148, 151, 154, 647, 648, 649, 650, 651, 652, 653, 654, 655, 656, 657, 658, 659, 660, 661, 1400, 1401] rfl
set_option maxRecDepth 20000 in
theorem wl_in_12 : ∀ w ∈ wsL_law0_r12, w ∈ lw_tbl := nv_places _ [1402, 1403, 1404, 1406, 32, 1407, 1408, 1409, 1410, 1411, 1413, 33, 1414, 1415, 1416, 1417, 1418, 1419, 1420, 1421, 1423, 34, 1424, 1425] rfl
set_option maxRecDepth 20000 in
theorem wl_in_13 : ∀ w ∈ wsL_law0_r13, w ∈ lw_tbl := nv_places _ [1426, 1427, 1428, 1430, 35, 1431, 1343, 1344, 1432, 1434, 36, 1435, 1388, 1389, 1390, 1391, 662, 663, 664, 665, 666, 667, 668, 669] rfl
set_option maxRecDepth 20000 in
theorem wl_in_14 : ∀ w ∈ wsL_law0_r14, w ∈ lw_tbl := nv_places _ [671, 7, 672, 238, 673, 674, 675, 676, 1436, 1437, 1438, 1439, 1440, 1442, 37, 1443, 1444, 1445, 1446, 677, 678, 679, 680, 681] rfl
set_option maxRecDepth 20000 in
theorem wl_in_15 : ∀ w ∈ wsL_law0_r15, w ∈ lw_tbl := nv_places _ [682, 683, 684, 686, 8, 687, 230, 688, 689, 690, 691, 1447, 1448, 1449, 1450, 1451, 1453, 38, 1454, 1455, 1457, 39, 1458, 692] rfl
set_option maxRecDepth 20000 in
theorem wl_in_16 : ∀ w ∈ wsL_law0_r16, w ∈ lw_tbl := nv_places _ [693, 694, 695, 696, 697, 698, 699, 701, 9, 702, 228, 144, 703, 704, 705, 706, 707, 708, 709, 710, 143, 414, 415, 416] rfl
set_option maxRecDepth 20000 in
theorem wl_in_17 : ∀ w ∈ wsL_law0_r17, w ∈ lw_tbl := nv_places _ [417, 1459, 1460, 1461, 1462, 1463, 1465, 40, 1466, 1467, 1469, 41, 1470, 1471, 1473, 42, 1474, 711, 712, 713, 714, 715, 716, 717] rfl
set_option maxRecDepth 20000 in
theorem wl_in_18 : ∀ w ∈ wsL_law0_r18, w ∈ lw_tbl := nv_places _ [718, 720, 10, 721, 722, 426, 427, 428, 723, 724, 725, 726, 425, 1475, 1476, 1477, 1478, 1479, 1481, 43, 1482, 727, 728, 729] rfl
set_option maxRecDepth 20000 in
theorem wl_in_19 : ∀ w ∈ wsL_law0_r19, w ∈ lw_tbl := nv_places _ [730, 731, 732, 733, 734, 736, 11, 737, 240, 738, 739, 740, 741, 742, 743, 744, 745, 1483, 1484, 1485, 1486, 1487, 1489, 44] rfl
set_option maxRecDepth 20000 in
theorem wl_in_20 : ∀ w ∈ wsL_law0_r20, w ∈ lw_tbl := nv_places _ [1490, 1491, 1493, 45, 1494, 1495, 1497, 46, 1498, 746, 747, 748, 749, 750, 751, 752, 128, 131, 134, 146, 152, 155, 137, 140] rfl
set_option maxRecDepth 20000 in
theorem wl_in_21 : ∀ w ∈ wsL_law0_r21, w ∈ lw_tbl := nv_places _ [149, 753, 755, 12, 756, 466, 1499, 1500, 1501, 1502, 759, 760, 761, 762, 763, 764, 765, 767, 768, 769, 770, 1503, 1504, 1505] rfl
set_option maxRecDepth 20000 in
theorem wl_in_22 : ∀ w ∈ wsL_law0_r22, w ∈ lw_tbl := nv_places _ [1506, 1507, 1509, 47, 1510, 772, 773, 774, 775, 776, 777, 778, 780, 422, 423, 424, 1511, 1512, 1513, 1514, 781, 782, 783, 784] rfl
set_option maxRecDepth 20000 in
theorem wl_in_23 : ∀ w ∈ wsL_law0_r23, w ∈ lw_tbl := nv_places _ [785, 786, 787, 429, 430, 431, 432, 132, 135, 433, 434, 435, 436, 129, 404, 405, 406, 407, 408, 409, 410, 411, 421, 1515] rfl
set_option maxRecDepth 20000 in
theorem wl_in_24 : ∀ w ∈ wsL_law0_r24, w ∈ lw_tbl := nv_places _ [1516, 1517, 1518, 1519, 1521, 48, 1522, 1523, 1525, 49, 1526, 788, 789, 790, 791, 792, 793, 794, 467, 468, 469, 470, 1527, 1528] rfl
set_option maxRecDepth 20000 in
theorem wl_in_25 : ∀ w ∈ wsL_law0_r25, w ∈ lw_tbl := nv_places _ [1529, 1530, 795, 796, 797, 798, 799, 800, 801, 1531, 1532, 1533, 1534, 802, 803, 804, 805, 806, 807, 808, 809, 810, 811, 813] rfl
set_option maxRecDepth 20000 in
theorem wl_in_26 : ∀ w ∈ wsL_law0_r26, w ∈ lw_tbl := nv_places _ [814, 815, 816, 1535, 1536, 1537, 1538, 817, 818, 819, 820, 821, 822, 823, 825, 826, 827, 828, 1539, 1540, 1541, 1542, 1543, 1545] rfl
set_option maxRecDepth 20000 in
theorem wl_in_27 : ∀ w ∈ wsL_law0_r27, w ∈ lw_tbl := nv_places _ [50, 1546, 829, 830, 831, 832, 833, 834, 835, 836, 838, 13, 839, 840, 841, 842, 843, 156, 844, 845, 846, 847, 153, 848] rfl
set_option maxRecDepth 20000 in
theorem wl_in_28 : ∀ w ∈ wsL_law0_r28, w ∈ lw_tbl := nv_places _ [849, 850, 851, 150, 147, 852, 853, 854, 855, 1547, 1548, 1549, 1550, 1551, 1553, 51, 1554, 1555, 1557, 52, 1558, 1559, 1561, 53] rfl
set_option maxRecDepth 20000 in
theorem wl_in_29 : ∀ w ∈ wsL_law0_r29, w ∈ lw_tbl := nv_places _ [1562, 1563, 1565, 54, 1566, 856, 857, 858, 859, 860, 861, 862, 863, 865, 14, 866, 867, 868, 869, 870, 871, 1567, 1568, 1569] rfl
set_option maxRecDepth 20000 in
theorem wl_in_30 : ∀ w ∈ wsL_law0_r30, w ∈ lw_tbl := nv_places _ [1570, 1571, 1573, 55, 1574, 872, 873, 874, 875, 876, 877, 878, 879, 881, 15, 882, 883, 884, 885, 886, 887, 888, 889, 890] rfl
set_option maxRecDepth 20000 in
theorem wl_in_31 : ∀ w ∈ wsL_law0_r31, w ∈ lw_tbl := nv_places _ [891, 1575, 1576, 1577, 1578, 1579, 1581, 56, 1582, 1583, 1585, 57, 1586, 892, 893, 894, 895, 896, 897, 898, 900, 1587, 1588, 1589] rfl
set_option maxRecDepth 20000 in
theorem wl_in_32 : ∀ w ∈ wsL_law0_r32, w ∈ lw_tbl := nv_places _ [1590, 901, 902, 903, 904, 905, 906, 907, 1591, 1592, 1593, 1594, 908, 909, 910, 911, 912, 913, 914, 915, 920, 101, 916, 917] rfl
set_option maxRecDepth 20000 in
theorem wl_in_33 : ∀ w ∈ wsL_law0_r33, w ∈ lw_tbl := nv_places _ [918, 454, 455, 456, 457, 458, 459, 460, 461, 138, 141, 441, 442, 443, 444, 445, 447, 2, 448, 236, 449, 450, 451, 452] rfl
set_option maxRecDepth 20000 in
theorem wl_in_34 : ∀ w ∈ wsL_law0_r34, w ∈ lw_tbl := nv_places _ [1595, 1596, 1597, 1598, 1599, 1601, 58, 1602, 936, 937, 938, 939, 940, 941, 942, 943, 944, 945, 946, 1603, 1604, 1605, 1606, 1607] rfl
set_option maxRecDepth 20000 in
theorem wl_in_35 : ∀ w ∈ wsL_law0_r35, w ∈ lw_tbl := nv_places _ [1609, 59, 1610, 947, 948, 949, 950, 951, 952, 953, 954, 955, 102, 956, 957, 958, 959, 1611, 1612, 1613, 1614, 1615, 1616, 1617] rfl
set_option maxRecDepth 20000 in
theorem wl_in_36 : ∀ w ∈ wsL_law0_r36, w ∈ lw_tbl := nv_places _ [961, 962, 963, 964, 965, 966, 967, 969, 970, 971, 972, 973, 974, 975, 976, 1618, 1619, 1620, 1621, 396, 397, 398, 399, 400] rfl
set_option maxRecDepth 20000 in
theorem wl_in_37 : ∀ w ∈ wsL_law0_r37, w ∈ lw_tbl := nv_places _ [402, 0, 403, 437, 439, 1, 440, 462, 464, 3, 465, 1622, 1623, 1624, 1625, 978, 979, 980, 981, 982, 983, 984, 317, 985] rfl
set_option maxRecDepth 20000 in
theorem wl_in_38 : ∀ w ∈ wsL_law0_r38, w ∈ lw_tbl := nv_places _ [986, 987, 988, 316, 989, 990, 991, 992, 993, 994, 995, 996, 997, 998, 1626, 1627, 1628, 1629, 1346, 1630, 1632, 60, 1633, 1634] rfl
set_option maxRecDepth 20000 in
theorem wl_in_39 : ∀ w ∈ wsL_law0_r39, w ∈ lw_tbl := nv_places _ [1636, 61, 1637, 999, 1000, 1001, 1002, 1003, 1004, 1005, 1638, 1639, 1640, 1641, 1642, 1644, 62, 1645, 1006, 1007, 1008, 1009, 1010, 1011] rfl
set_option maxRecDepth 20000 in
theorem wl_in_40 : ∀ w ∈ wsL_law0_r40, w ∈ lw_tbl := nv_places _ [1012, 315, 1646, 1647, 1648, 1649, 1014, 1015, 1016, 1017, 1018, 1019, 1020, 1021, 1022, 103, 1650, 1651, 1652, 1653, 1038, 1039, 1040, 1041] rfl
set_option maxRecDepth 20000 in
theorem wl_in_41 : ∀ w ∈ wsL_law0_r41, w ∈ lw_tbl := nv_places _ [1042, 1043, 1044, 242, 244, 246, 248, 337, 287, 1045, 1046, 1047, 1048, 1049, 1654, 1655, 1656, 1657, 1340, 1658, 1660, 63, 1661, 1051] rfl
set_option maxRecDepth 20000 in
theorem wl_in_42 : ∀ w ∈ wsL_law0_r42, w ∈ lw_tbl := nv_places _ [1052, 1053, 1054, 1068, 1069, 1070, 1071, 1072, 104, 1075, 1076, 1077, 1078, 1662, 1663, 1664, 1665, 1079, 1080, 1081, 1082, 1083, 1084, 1085] rfl
set_option maxRecDepth 20000 in
theorem wl_in_43 : ∀ w ∈ wsL_law0_r43, w ∈ lw_tbl := nv_places _ [1666, 1667, 1668, 1669, 1087, 1088, 1089, 1090, 1091, 1092, 1093, 1096, 1097, 1098, 1099, 336, 1670, 1671, 1672, 1673, 1674, 1675, 1676, 1100] rfl
set_option maxRecDepth 20000 in
theorem wl_in_44 : ∀ w ∈ wsL_law0_r44, w ∈ lw_tbl := nv_places _ [1101, 1102, 1103, 1104, 1105, 1106, 335, 1107, 1108, 1109, 1110, 334, 1111, 1112, 1113, 1114, 1115, 1116, 1117, 1118, 332, 1220, 1175, 99] rfl
set_option maxRecDepth 20000 in
theorem wl_in_45 : ∀ w ∈ wsL_law0_r45, w ∈ lw_tbl := nv_places _ [1176, 1119, 1120, 1121, 1131, 1133, 16, 1134, 339, 1135, 1136, 1137, 1138, 1139, 1140, 1141, 1142, 1143, 1144, 1146, 17, 1147, 1148, 1149] rfl
set_option maxRecDepth 20000 in
theorem wl_in_46 : ∀ w ∈ wsL_law0_r46, w ∈ lw_tbl := nv_places _ [1150, 1151, 1153, 18, 1154, 1156, 1157, 1158, 1159, 1160, 1161, 1162, 1163, 1164, 1165, 1166, 1167, 1168, 1169, 1170, 1174, 1177, 1178, 1179] rfl
set_option maxRecDepth 20000 in
theorem wl_in_47 : ∀ w ∈ wsL_law0_r47, w ∈ lw_tbl := nv_places _ [1171, 1172, 1173, 1180, 1181, 1182, 1183, 1184, 1185, 1186, 1187, 1188, 1189, 1190, 1191, 1192, 1193, 1194, 1195, 1196, 1197, 1198, 1199, 1200] rfl
set_option maxRecDepth 20000 in
theorem wl_in_48 : ∀ w ∈ wsL_law0_r48, w ∈ lw_tbl := nv_places _ [1201, 1202, 1203, 1204, 1205, 1206, 1207, 1208, 105, 1209, 1210, 1211, 1212, 1213, 1214, 1215, 1216, 1217, 1221, 1222, 1223, 1224, 1225, 1226] rfl
set_option maxRecDepth 20000 in
theorem wl_in_49 : ∀ w ∈ wsL_law0_r49, w ∈ lw_tbl := nv_places _ [1227, 1228, 1230, 1231, 1233, 19, 1234, 1235, 1236, 1237, 1238, 1240, 20, 1241, 331, 333, 1242, 1244, 21, 1245, 1246, 1248, 22, 1249] rfl
set_option maxRecDepth 20000 in
theorem wl_in_50 : ∀ w ∈ wsL_law0_r50, w ∈ lw_tbl := nv_places _ [1250, 1252, 23, 1253, 1254, 1256, 24, 1257, 1258, 1260, 25, 1261, 1262, 1264, 26, 1265, 1266, 1268, 27, 1269, 1270, 1272, 28, 1273] rfl
set_option maxRecDepth 20000 in
theorem wl_in_51 : ∀ w ∈ wsL_law0_r51, w ∈ lw_tbl := nv_places _ [1274, 1276, 29, 1277, 1278, 475, 1280, 1677, 1678, 1679, 1680, 1348, 1349, 1681, 1683, 64, 1684, 1685, 1687, 65, 1688, 1689, 1691, 66] rfl
set_option maxRecDepth 20000 in
theorem wl_in_52 : ∀ w ∈ wsL_law0_r52, w ∈ lw_tbl := nv_places _ [1692, 1693, 1695, 67, 1696, 1697, 1699, 68, 1700, 1701, 1703, 69, 1704, 1705, 1707, 70, 1708, 1709, 1711, 71, 1712, 1713, 1715, 72] rfl
set_option maxRecDepth 20000 in
theorem wl_in_53 : ∀ w ∈ wsL_law0_r53, w ∈ lw_tbl := nv_places _ [1716, 1717, 1719, 73, 1720, 1721, 1723, 74, 1724, 1725, 1727, 75, 1728, 1729, 1731, 76, 1732, 1733, 1735, 77, 1736, 1737, 1739, 78] rfl
set_option maxRecDepth 20000 in
theorem wl_in_54 : ∀ w ∈ wsL_law0_r54, w ∈ lw_tbl := nv_places _ [1740, 1281, 1282, 1283, 1284, 1285, 1286, 1287, 1741, 1742, 1743, 1744, 1289, 1290, 1291, 1292, 1293, 1294, 1295, 1745, 1746, 1747, 1748, 1297] rfl
set_option maxRecDepth 20000 in
theorem wl_in_55 : ∀ w ∈ wsL_law0_r55, w ∈ lw_tbl := nv_places _ [1298, 1299, 1300, 1301, 1302, 1303, 1305, 1306, 1307, 1308, 1749, 1750, 1751, 1752, 471, 472, 473, 474, 1753, 1754, 1755, 1756, 1338, 1309] rfl
set_option maxRecDepth 20000 in
theorem wl_in_56 : ∀ w ∈ wsL_law0_r56, w ∈ lw_tbl := nv_places _ [1310, 1311, 1312, 1313, 1314, 1315, 1757, 1758, 1759, 1760] rfl
set_option maxRecDepth 20000 in
theorem wl_in_wsX60 : ∀ w ∈ wsX60, w ∈ lw_tbl := nv_places _ [364, 366, 368, 370, 372, 374, 376, 378, 380, 382, 384] (by decide +kernel)
set_option maxRecDepth 20000 in
theorem wl_in_wsX70 : ∀ w ∈ wsX70, w ∈ lw_tbl := nv_places _ [1351, 1353, 1355, 1357, 1359, 1361, 1363, 1365, 1367, 1369, 1371, 1373, 1375, 1377, 1379, 1381, 1383, 1385] (by decide +kernel)
set_option maxRecDepth 20000 in
theorem wl_in_wsX10 : ∀ w ∈ wsX10, w ∈ lw_tbl := nv_places _ [249, 251, 253, 255, 257, 259, 261, 263, 265, 267, 269, 271] (by decide +kernel)
set_option maxRecDepth 20000 in
theorem wl_in_wsX30 : ∀ w ∈ wsX30, w ∈ lw_tbl := nv_places _ [288, 290, 292] (by decide +kernel)
set_option maxRecDepth 20000 in
theorem wl_in_wsX50 : ∀ w ∈ wsX50, w ∈ lw_tbl := nv_places _ [303, 305] (by decide +kernel)
set_option maxRecDepth 20000 in
theorem wl_in_wsX40 : ∀ w ∈ wsX40, w ∈ lw_tbl := nv_places _ [318, 320] (by decide +kernel)
set_option maxRecDepth 20000 in
theorem wl_in_wsX20 : ∀ w ∈ wsX20, w ∈ lw_tbl := nv_places _ [340, 342, 344, 346, 348, 350] (by decide +kernel)
set_option maxRecDepth 20000 in
theorem wl_in_wsX00 : ∀ w ∈ wsX00, w ∈ lw_tbl := nv_places _ [157, 159, 161, 163, 165, 167, 169, 171, 173, 175] (by decide +kernel)
set_option maxRecDepth 20000 in
theorem wl_in_wsJ00 : ∀ w ∈ wsJ00, w ∈ lw_tbl := nv_places _ [565, 567] (by decide +kernel)
theorem wsL_law_x0 : ∀ w ∈ (vx_atM "java/lang/ArrayIndexOutOfBoundsException" ["java/lang/IndexOutOfBoundsException", "java/lang/RuntimeException", "java/lang/Exception"]).filter goodWord, w ∈ lw_tbl := by decide +kernel
theorem wsL_law_x1 : ∀ w ∈ (vx_atS RX6 172 "java/lang/IllegalArgumentException" ["java/lang/RuntimeException", "java/lang/Exception"]).filter goodWord, w ∈ lw_tbl := by decide +kernel
theorem wsL_law_x2 : ∀ w ∈ (vx_atS RX6 186 "java/lang/IndexOutOfBoundsException" ["java/lang/RuntimeException", "java/lang/Exception"]).filter goodWord, w ∈ lw_tbl := by decide +kernel
theorem wsL_law_x3 : ∀ w ∈ (vx_atS RX6 394 "java/lang/UnsupportedOperationException" ["java/lang/RuntimeException", "java/lang/Exception"]).filter goodWord, w ∈ lw_tbl := by decide +kernel
theorem wsL_law_x4 : ∀ w ∈ (nxAt RX6 267 "java/util/NoSuchElementException" 13 rxNSE "java/lang/RuntimeException" ["java/lang/Exception"]).filter goodWord, w ∈ lw_tbl := by decide +kernel
theorem wsL_law_x5 : ∀ w ∈ (vx_atS RX6 322 "java/lang/IllegalStateException" ["java/lang/RuntimeException", "java/lang/Exception"]).filter goodWord, w ∈ lw_tbl := by decide +kernel
theorem wsL_law_x6 : ∀ w ∈ (vx_atS RX6 353 "java/lang/ArithmeticException" ["java/lang/RuntimeException", "java/lang/Exception"]).filter goodWord, w ∈ lw_tbl := by decide +kernel
theorem goodIn_c {big : List Cond} (CH : List (List Cond)) (hC : ∀ l ∈ CH, ∀ w ∈ l, w ∈ big) (ws : List Cond) (ps : List (Nat × Nat)) (hp : ws = ps.filterMap (fun q => (CH[q.1]?).bind (fun l => l[q.2]?))) (h : ws.all goodWord = true) : GoodIn big ws := by
  intro w hw
  have h1 := List.all_eq_true.mp h w hw
  rw [hp] at hw
  obtain ⟨q, -, hq⟩ := List.mem_filterMap.mp hw
  obtain ⟨l, h2, h3⟩ := Option.bind_eq_some_iff.mp hq
  have hm : l ∈ CH := by first | exact List.mem_of_getElem? h2 | exact List.getElem?_mem h2
  have hn : w ∈ l := by first | exact List.mem_of_getElem? h3 | exact List.getElem?_mem h3
  exact ⟨hC l hm w hn, good_of_word h1⟩
def lCH : List (List Cond) := [wsL_law0_r1, wsL_law0_r2, wsL_law0_r3, wsL_law0_r4, wsL_law0_r5, wsL_law0_r6, wsL_law0_r7, wsL_law0_r8, wsL_law0_r9, wsL_law0_r10, wsL_law0_r11, wsL_law0_r12, wsL_law0_r13, wsL_law0_r14, wsL_law0_r15, wsL_law0_r16, wsL_law0_r17, wsL_law0_r18, wsL_law0_r19, wsL_law0_r20, wsL_law0_r21, wsL_law0_r22, wsL_law0_r23, wsL_law0_r24, wsL_law0_r25, wsL_law0_r26, wsL_law0_r27, wsL_law0_r28, wsL_law0_r29, wsL_law0_r30, wsL_law0_r31, wsL_law0_r32, wsL_law0_r33, wsL_law0_r34, wsL_law0_r35, wsL_law0_r36, wsL_law0_r37, wsL_law0_r38, wsL_law0_r39, wsL_law0_r40, wsL_law0_r41, wsL_law0_r42, wsL_law0_r43, wsL_law0_r44, wsL_law0_r45, wsL_law0_r46, wsL_law0_r47, wsL_law0_r48, wsL_law0_r49, wsL_law0_r50, wsL_law0_r51, wsL_law0_r52, wsL_law0_r53, wsL_law0_r54, wsL_law0_r55, wsL_law0_r56, wsX60, wsX70, wsX10, wsX30, wsX50, wsX40, wsX20, wsX00, wsJ00]
theorem lCH_in : ∀ l ∈ lCH, ∀ w ∈ l, w ∈ lw_tbl := List.forall_mem_cons.mpr ⟨wl_in_1, List.forall_mem_cons.mpr ⟨wl_in_2, List.forall_mem_cons.mpr ⟨wl_in_3, List.forall_mem_cons.mpr ⟨wl_in_4, List.forall_mem_cons.mpr ⟨wl_in_5, List.forall_mem_cons.mpr ⟨wl_in_6, List.forall_mem_cons.mpr ⟨wl_in_7, List.forall_mem_cons.mpr ⟨wl_in_8, List.forall_mem_cons.mpr ⟨wl_in_9, List.forall_mem_cons.mpr ⟨wl_in_10, List.forall_mem_cons.mpr ⟨wl_in_11, List.forall_mem_cons.mpr ⟨wl_in_12, List.forall_mem_cons.mpr ⟨wl_in_13, List.forall_mem_cons.mpr ⟨wl_in_14, List.forall_mem_cons.mpr ⟨wl_in_15, List.forall_mem_cons.mpr ⟨wl_in_16, List.forall_mem_cons.mpr ⟨wl_in_17, List.forall_mem_cons.mpr ⟨wl_in_18, List.forall_mem_cons.mpr ⟨wl_in_19, List.forall_mem_cons.mpr ⟨wl_in_20, List.forall_mem_cons.mpr ⟨wl_in_21, List.forall_mem_cons.mpr ⟨wl_in_22, List.forall_mem_cons.mpr ⟨wl_in_23, List.forall_mem_cons.mpr ⟨wl_in_24, List.forall_mem_cons.mpr ⟨wl_in_25, List.forall_mem_cons.mpr ⟨wl_in_26, List.forall_mem_cons.mpr ⟨wl_in_27, List.forall_mem_cons.mpr ⟨wl_in_28, List.forall_mem_cons.mpr ⟨wl_in_29, List.forall_mem_cons.mpr ⟨wl_in_30, List.forall_mem_cons.mpr ⟨wl_in_31, List.forall_mem_cons.mpr ⟨wl_in_32, List.forall_mem_cons.mpr ⟨wl_in_33, List.forall_mem_cons.mpr ⟨wl_in_34, List.forall_mem_cons.mpr ⟨wl_in_35, List.forall_mem_cons.mpr ⟨wl_in_36, List.forall_mem_cons.mpr ⟨wl_in_37, List.forall_mem_cons.mpr ⟨wl_in_38, List.forall_mem_cons.mpr ⟨wl_in_39, List.forall_mem_cons.mpr ⟨wl_in_40, List.forall_mem_cons.mpr ⟨wl_in_41, List.forall_mem_cons.mpr ⟨wl_in_42, List.forall_mem_cons.mpr ⟨wl_in_43, List.forall_mem_cons.mpr ⟨wl_in_44, List.forall_mem_cons.mpr ⟨wl_in_45, List.forall_mem_cons.mpr ⟨wl_in_46, List.forall_mem_cons.mpr ⟨wl_in_47, List.forall_mem_cons.mpr ⟨wl_in_48, List.forall_mem_cons.mpr ⟨wl_in_49, List.forall_mem_cons.mpr ⟨wl_in_50, List.forall_mem_cons.mpr ⟨wl_in_51, List.forall_mem_cons.mpr ⟨wl_in_52, List.forall_mem_cons.mpr ⟨wl_in_53, List.forall_mem_cons.mpr ⟨wl_in_54, List.forall_mem_cons.mpr ⟨wl_in_55, List.forall_mem_cons.mpr ⟨wl_in_56, List.forall_mem_cons.mpr ⟨wl_in_wsX60, List.forall_mem_cons.mpr ⟨wl_in_wsX70, List.forall_mem_cons.mpr ⟨wl_in_wsX10, List.forall_mem_cons.mpr ⟨wl_in_wsX30, List.forall_mem_cons.mpr ⟨wl_in_wsX50, List.forall_mem_cons.mpr ⟨wl_in_wsX40, List.forall_mem_cons.mpr ⟨wl_in_wsX20, List.forall_mem_cons.mpr ⟨wl_in_wsX00, List.forall_mem_cons.mpr ⟨wl_in_wsJ00, fun _ h => nomatch h⟩⟩⟩⟩⟩⟩⟩⟩⟩⟩⟩⟩⟩⟩⟩⟩⟩⟩⟩⟩⟩⟩⟩⟩⟩⟩⟩⟩⟩⟩⟩⟩⟩⟩⟩⟩⟩⟩⟩⟩⟩⟩⟩⟩⟩⟩⟩⟩⟩⟩⟩⟩⟩⟩⟩⟩⟩⟩⟩⟩⟩⟩⟩⟩⟩
