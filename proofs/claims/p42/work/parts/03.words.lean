/-! ===== the words of the abstract machine stand among the tables of the claim ===== -/
theorem a_gnil {big : List Cond} : GoodIn big [] := fun _ h => nomatch h
set_option maxRecDepth 100000 in
theorem g_AWF_0 : GoodIn lw_tbl (AWF_of 0) := goodIn_r _ [226, 227, 228, 229, 230, 231] (by decide +kernel) (by decide +kernel)
set_option maxRecDepth 100000 in
theorem g_AWF_1 : GoodIn lw_tbl (AWF_of 1) := goodIn_r _ [160, 161, 162, 163, 165, 313] (by decide +kernel) (by decide +kernel)
set_option maxRecDepth 100000 in
theorem g_AWF_2 : GoodIn lw_tbl (AWF_of 2) := goodIn_r _ [248, 251, 255, 258, 261, 263, 265, 267, 268, 271, 273, 274, 276] (by decide +kernel) (by decide +kernel)
set_option maxRecDepth 100000 in
theorem g_AWF_3 : GoodIn lw_tbl (AWF_of 3) := goodIn_r _ [185, 186, 187, 189, 191, 249, 252, 256] (by decide +kernel) (by decide +kernel)
set_option maxRecDepth 100000 in
theorem g_AWF_4 : GoodIn lw_tbl (AWF_of 4) := goodIn_r _ [246, 260, 266, 270, 278, 312, 315] (by decide +kernel) (by decide +kernel)
set_option maxRecDepth 100000 in
theorem g_AWF_5 : GoodIn lw_tbl (AWF_of 5) := goodIn_r _ [131, 132, 133, 134, 136, 138] (by decide +kernel) (by decide +kernel)
set_option maxRecDepth 100000 in
theorem g_AWF_6 : GoodIn lw_tbl (AWF_of 6) := goodIn_r _ [210, 245, 250, 254, 316] (by decide +kernel) (by decide +kernel)
set_option maxRecDepth 100000 in
theorem g_AWF_7 : GoodIn lw_tbl (AWF_of 7) := goodIn_r _ [135, 137, 139, 164, 166, 188, 190, 192, 247, 253, 257, 259, 262, 264, 269, 272, 275, 277, 314, 322, 323, 324, 325, 326, 327, 328, 329, 330, 331, 332, 333, 334, 335] (by decide +kernel) (by decide +kernel)
set_option maxRecDepth 100000 in
theorem g_AWF_8 : GoodIn lw_tbl (AWF_of 8) := goodIn_r _ [1230, 1231, 1232, 1233, 1234, 1235, 1236, 1237, 1238, 1239, 1240, 1241, 1242, 1243, 1244, 1245, 1246, 1247, 1248, 1249, 1250, 1251, 1252, 1253, 1254, 1255, 1256, 1257, 1258, 1259, 1260, 1261, 1262, 1263, 1264, 1265, 1266, 1267, 1268, 1269, 1270, 1271, 1272, 1273, 1274, 1275, 1276, 1277, 1278, 1279, 1280, 1281, 1282] (by decide +kernel) (by decide +kernel)
set_option maxRecDepth 100000 in
theorem g_AWF_9 : GoodIn lw_tbl (AWF_of 9) := a_gnil
set_option maxRecDepth 100000 in
theorem g_AWM_0 : GoodIn lw_tbl (AWM_of 0) := goodIn_r _ [225, 418, 421, 698, 702, 706, 710, 711, 712, 716, 718, 720, 721, 722, 724, 730, 735] (by decide +kernel) (by decide +kernel)
set_option maxRecDepth 100000 in
theorem g_AWM_1 : GoodIn lw_tbl (AWM_of 1) := goodIn_r _ [159, 437, 781] (by decide +kernel) (by decide +kernel)
set_option maxRecDepth 100000 in
theorem g_AWM_2 : GoodIn lw_tbl (AWM_of 2) := goodIn_r _ [219, 561, 565, 569, 581, 583, 643, 647, 648, 649, 653, 656, 666, 869] (by decide +kernel) (by decide +kernel)
set_option maxRecDepth 100000 in
theorem g_AWM_3 : GoodIn lw_tbl (AWM_of 3) := goodIn_r _ [184, 751, 755, 756, 760, 762, 763, 764, 765, 769, 770, 774, 786, 787, 790, 794, 802, 831, 840, 841, 846, 854] (by decide +kernel) (by decide +kernel)
set_option maxRecDepth 100000 in
theorem g_AWM_4 : GoodIn lw_tbl (AWM_of 4) := goodIn_r _ [311, 390, 402, 406, 410, 414, 798, 806, 810, 814, 818, 822, 826, 830, 835, 839, 845, 850, 985] (by decide +kernel) (by decide +kernel)
set_option maxRecDepth 100000 in
theorem g_AWM_5 : GoodIn lw_tbl (AWM_of 5) := goodIn_r _ [130, 377, 556, 573, 577, 587, 597, 635, 639, 660, 670, 734] (by decide +kernel) (by decide +kernel)
set_option maxRecDepth 100000 in
theorem g_AWM_6 : GoodIn lw_tbl (AWM_of 6) := goodIn_r _ [209, 1195, 1200, 1201, 1202, 1203] (by decide +kernel) (by decide +kernel)
set_option maxRecDepth 100000 in
theorem g_AWM_7 : GoodIn lw_tbl (AWM_of 7) := goodIn_r _ [122, 308, 369, 373, 386, 398, 428, 433, 444, 452, 472, 476, 479, 482, 552, 557, 674, 675, 679, 683, 694, 743, 747, 777, 782, 865, 877, 888, 892, 904, 908, 928, 929, 933, 941, 945, 953, 957, 965, 973, 981, 986, 994, 995, 1010, 1014, 1022, 1026, 1030, 1041, 1045, 1049, 1060, 1064, 1075, 1079, 1083, 1091, 1094, 1105, 1115, 1133, 1141, 1191] (by decide +kernel) (by decide +kernel)
set_option maxRecDepth 100000 in
theorem g_AWM_8 : GoodIn lw_tbl (AWM_of 8) := goodIn_r _ [1217, 1218, 1222, 1226, 1403, 1407, 1411, 1415, 1419, 1423, 1427, 1430, 1434, 1437, 1438, 1442, 1446, 1450, 1454, 1458, 1462, 1465, 1469, 1477, 1481, 1485, 1489, 1493, 1498, 1503, 1518, 1522, 1532, 1536, 1540, 1544, 1548, 1552, 1556, 1560, 1564, 1568, 1572, 1576, 1580, 1584, 1588, 1592, 1596, 1600, 1604, 1608, 1612, 1615, 1623, 1639, 1642, 1646, 1650, 1658, 1662, 1702, 1706, 1710, 1714, 1722, 1730, 1738, 1747, 1754, 1761, 1765, 1821, 1824, 1828, 1841, 1845] (by decide +kernel) (by decide +kernel)
set_option maxRecDepth 100000 in
theorem g_AWM_9 : GoodIn lw_tbl (AWM_of 9) := goodIn_r _ [119, 365, 378, 382, 394, 424, 429, 440, 448, 456, 460, 464, 468, 687, 690, 736, 739, 858, 861, 870, 873, 881, 884, 896, 900, 934, 937, 946, 949, 958, 961, 966, 969, 974, 977, 987, 990, 996, 999, 1003, 1006, 1015, 1018, 1033, 1036, 1053, 1056, 1068, 1071, 1084, 1087, 1098, 1101, 1108, 1111, 1119, 1122, 1126, 1129, 1134, 1137, 1142, 1145, 1149, 1152, 1156, 1159, 1163, 1166, 1170, 1173, 1177, 1180, 1184, 1187, 1204, 1207, 1214, 1391, 1395, 1399, 1473, 1514, 1619, 1627, 1631, 1635, 1654, 1666, 1670, 1674, 1678, 1682, 1686, 1690, 1694, 1698, 1717, 1726, 1734, 1742, 1750, 1757, 1769, 1773, 1777, 1781, 1785, 1789, 1793, 1797, 1801, 1805, 1809, 1813, 1817, 1833, 1837, 1849, 1853, 1857] (by decide +kernel) (by decide +kernel)
set_option maxRecDepth 100000 in
theorem g_AWD_0 : GoodIn lw_tbl (AWD_of 0 15) := goodIn_r _ [224, 223, 568, 566, 567, 576, 574, 575, 580, 578, 579, 673, 671, 672, 715, 714, 11, 663, 661, 662, 642, 640, 641, 659, 657, 658, 638, 637, 4, 586, 584, 585, 669, 667, 668, 705, 704, 9, 701, 700, 8, 709, 708, 10] (by decide +kernel) (by decide +kernel)
set_option maxRecDepth 100000 in
theorem g_AWD_15 : GoodIn lw_tbl (AWD_of 15 15) := goodIn_r _ [572, 570, 571, 733, 731, 732, 697, 695, 696, 420, 419, 423, 422, 417, 415, 416, 158, 157, 682, 680, 681, 746, 744, 745, 780, 778, 779, 436, 434, 435, 447, 445, 446, 455, 453, 454, 218, 217, 801, 799, 800] (by decide +kernel) (by decide +kernel)
set_option maxRecDepth 100000 in
theorem g_AWD_30 : GoodIn lw_tbl (AWD_of 30 15) := goodIn_r _ [564, 563, 3, 646, 645, 5, 655, 654, 652, 651, 6, 560, 558, 559, 868, 866, 867, 880, 878, 879, 183, 182, 772, 771, 759, 757, 758, 768, 767, 13, 754, 753, 12, 750, 748, 749, 405, 403, 404, 797, 795, 796] (by decide +kernel) (by decide +kernel)
set_option maxRecDepth 100000 in
theorem g_AWD_45 : GoodIn lw_tbl (AWD_of 45 15) := goodIn_r _ [393, 391, 392, 821, 819, 820, 817, 815, 816, 813, 811, 812, 809, 807, 808, 825, 824, 15, 413, 411, 412, 829, 828, 16, 805, 803, 804, 838, 836, 837, 834, 832, 833, 409, 407, 408, 401, 399, 400, 844, 842, 843, 853, 851, 852] (by decide +kernel) (by decide +kernel)
set_option maxRecDepth 100000 in
theorem g_AWD_60 : GoodIn lw_tbl (AWD_of 60 15) := goodIn_r _ [849, 847, 848, 857, 855, 856, 793, 792, 14, 785, 783, 784, 310, 309, 678, 676, 677, 984, 982, 983, 389, 387, 388, 932, 930, 931, 891, 889, 890, 895, 893, 894, 129, 128, 372, 370, 371, 376, 374, 375, 555, 553, 554] (by decide +kernel) (by decide +kernel)
set_option maxRecDepth 100000 in
theorem g_AWD_75 : GoodIn lw_tbl (AWD_of 75 15) := goodIn_r _ [208, 207, 1198, 1197, 32, 1194, 1192, 1193, 121, 120, 368, 366, 367, 481, 480, 485, 484, 1, 475, 474, 0, 686, 685, 7, 471, 469, 470, 693, 691, 692, 742, 740, 741, 864, 862, 863, 876, 874, 875, 381, 379, 380] (by decide +kernel) (by decide +kernel)
set_option maxRecDepth 100000 in
theorem g_AWD_90 : GoodIn lw_tbl (AWD_of 90 15) := goodIn_r _ [887, 885, 886, 911, 910, 18, 907, 906, 17, 903, 901, 902, 944, 943, 19, 940, 938, 939, 956, 955, 20, 952, 950, 951, 1148, 1146, 1147, 1155, 1153, 1154, 1169, 1167, 1168, 385, 383, 384, 1176, 1174, 1175, 964, 962, 963, 972, 970, 971] (by decide +kernel) (by decide +kernel)
set_option maxRecDepth 100000 in
theorem g_AWD_105 : GoodIn lw_tbl (AWD_of 105 15) := goodIn_r _ [1125, 1123, 1124, 397, 395, 396, 427, 425, 426, 1132, 1130, 1131, 1140, 1138, 1139, 980, 978, 979, 993, 991, 992, 1002, 1000, 1001, 1013, 1012, 21, 1009, 1007, 1008, 1162, 1160, 1161, 1183, 1181, 1182, 1025, 1024, 22, 1029, 1028, 23, 1021, 1019, 1020] (by decide +kernel) (by decide +kernel)
set_option maxRecDepth 100000 in
theorem g_AWD_120 : GoodIn lw_tbl (AWD_of 120 15) := goodIn_r _ [1044, 1043, 24, 1052, 1051, 26, 1048, 1047, 25, 1039, 1037, 1038, 1118, 1117, 31, 1114, 1112, 1113, 1067, 1066, 28, 1063, 1062, 27, 1059, 1057, 1058, 1082, 1081, 30, 1078, 1077, 29, 1074, 1072, 1073, 1093, 1092, 1096, 1095, 1090, 1088, 1089] (by decide +kernel) (by decide +kernel)
set_option maxRecDepth 100000 in
theorem g_AWD_135 : GoodIn lw_tbl (AWD_of 135 15) := goodIn_r _ [1107, 1106, 1104, 1102, 1103, 1190, 1188, 1189, 1210, 1208, 1209, 432, 430, 431, 443, 441, 442, 451, 449, 450, 459, 457, 458, 463, 461, 462, 1406, 1405, 36, 1406, 1405, 36, 1641, 1640, 1221, 1220, 33, 1229, 1228, 35, 1225, 1224, 34] (by decide +kernel) (by decide +kernel)
set_option maxRecDepth 100000 in
theorem g_AWD_150 : GoodIn lw_tbl (AWD_of 150 15) := goodIn_r _ [1216, 1215, 1394, 1392, 1393, 1414, 1413, 38, 1445, 1444, 42, 1422, 1421, 40, 1429, 1428, 1464, 1463, 1426, 1425, 41, 1436, 1435, 1453, 1452, 44, 1461, 1460, 46, 1468, 1467, 47, 1418, 1417, 39, 1410, 1409, 37, 1472, 1471, 48] (by decide +kernel) (by decide +kernel)
set_option maxRecDepth 100000 in
theorem g_AWD_165 : GoodIn lw_tbl (AWD_of 165 15) := goodIn_r _ [1398, 1396, 1397, 1432, 1431, 1449, 1448, 43, 1457, 1456, 45, 1402, 1400, 1401, 1496, 1495, 53, 1492, 1491, 52, 1506, 1505, 55, 1484, 1483, 50, 1480, 1479, 49, 1501, 1500, 54, 1488, 1487, 51, 1476, 1474, 1475, 1614, 1613, 1611, 1610, 76] (by decide +kernel) (by decide +kernel)
set_option maxRecDepth 100000 in
theorem g_AWD_180 : GoodIn lw_tbl (AWD_of 180 15) := goodIn_r _ [1607, 1606, 75, 1539, 1538, 58, 1524, 1523, 1543, 1542, 59, 1535, 1534, 57, 1521, 1520, 56, 1547, 1546, 60, 1563, 1562, 64, 1559, 1558, 63, 1575, 1574, 67, 1571, 1570, 66, 1579, 1578, 68, 1583, 1582, 69, 1567, 1566, 65, 1587, 1586, 70] (by decide +kernel) (by decide +kernel)
set_option maxRecDepth 100000 in
theorem g_AWD_195 : GoodIn lw_tbl (AWD_of 195 15) := goodIn_r _ [1603, 1602, 74, 1599, 1598, 73, 1595, 1594, 72, 1591, 1590, 71, 1618, 1617, 77, 1555, 1554, 62, 1551, 1550, 61, 1517, 1515, 1516, 1645, 1644, 79, 1665, 1664, 83, 1626, 1625, 78, 1622, 1620, 1621, 1630, 1628, 1629, 1634, 1632, 1633, 1649, 1648, 80] (by decide +kernel) (by decide +kernel)
set_option maxRecDepth 100000 in
theorem g_AWD_210 : GoodIn lw_tbl (AWD_of 210 15) := goodIn_r _ [1653, 1652, 81, 1638, 1636, 1637, 1661, 1660, 82, 1657, 1655, 1656, 1669, 1667, 1668, 1673, 1671, 1672, 1677, 1675, 1676, 1681, 1679, 1680, 1685, 1683, 1684, 1689, 1687, 1688, 1693, 1691, 1692, 1697, 1695, 1696, 1705, 1704, 84, 1713, 1712, 86, 1725, 1724, 87] (by decide +kernel) (by decide +kernel)
set_option maxRecDepth 100000 in
theorem g_AWD_225 : GoodIn lw_tbl (AWD_of 225 15) := goodIn_r _ [1716, 1715, 1709, 1708, 85, 1701, 1699, 1700, 1720, 1718, 1719, 1733, 1732, 88, 1729, 1727, 1728, 1741, 1740, 89, 1737, 1735, 1736, 1749, 1748, 1745, 1743, 1744, 1756, 1755, 1753, 1751, 1752, 1768, 1767, 91, 1764, 1763, 90, 1760, 1758, 1759] (by decide +kernel) (by decide +kernel)
set_option maxRecDepth 100000 in
theorem g_AWD_240 : GoodIn lw_tbl (AWD_of 240 15) := goodIn_r _ [1772, 1770, 1771, 1776, 1774, 1775, 1780, 1778, 1779, 1784, 1782, 1783, 1788, 1786, 1787, 1792, 1790, 1791, 1796, 1794, 1795, 1800, 1798, 1799, 1804, 1802, 1803, 1808, 1806, 1807, 1812, 1810, 1811, 1816, 1814, 1815, 1831, 1830, 93, 1827, 1826, 92, 1823, 1822] (by decide +kernel) (by decide +kernel)
set_option maxRecDepth 100000 in
theorem g_AWD_255 : GoodIn lw_tbl (AWD_of 255 15) := goodIn_r _ [1820, 1818, 1819, 1836, 1834, 1835, 1848, 1847, 95, 1844, 1843, 94, 1840, 1838, 1839, 1852, 1850, 1851, 1856, 1854, 1855, 1860, 1858, 1859, 466, 465, 689, 688, 738, 737, 860, 859, 872, 871, 883, 882, 898, 897] (by decide +kernel) (by decide +kernel)
set_option maxRecDepth 100000 in
theorem g_AWD_270 : GoodIn lw_tbl (AWD_of 270 15) := goodIn_r _ [936, 935, 948, 947, 960, 959, 968, 967, 976, 975, 989, 988, 998, 997, 1005, 1004, 1017, 1016, 1035, 1034, 1055, 1054, 1070, 1069, 1086, 1085, 1100, 1099, 1110, 1109] (by decide +kernel) (by decide +kernel)
set_option maxRecDepth 100000 in
theorem g_AWD_285 : GoodIn lw_tbl (AWD_of 285 11) := goodIn_r _ [1121, 1120, 1128, 1127, 1136, 1135, 1144, 1143, 1151, 1150, 1158, 1157, 1165, 1164, 1172, 1171, 1179, 1178, 1186, 1185, 1206, 1205] (by decide +kernel) (by decide +kernel)
set_option maxRecDepth 100000 in
theorem g_AWC : GoodIn lw_tbl AWC := goodIn_r _ [103, 99, 102, 100, 104, 98, 101, 97, 105, 96, 221, 232, 234, 236, 238, 240, 242, 155, 167, 169, 171, 173, 175, 215, 279, 281, 283, 285, 287, 289, 291, 293, 295, 297, 299, 301, 303, 180, 193, 195, 197, 199, 201, 307, 317, 319, 126, 140, 142, 144, 146, 148, 150, 205, 211, 118, 336, 338, 340, 342, 344, 346, 348, 350, 352, 354, 356, 358, 360, 362, 1213, 1283, 1285, 1287, 1289, 1291, 1293, 1295, 1297, 1299, 1301, 1303, 1305, 1307, 1309, 1311, 1313, 1315, 1317, 1319, 1321, 1323, 1325, 1327, 1329, 1331, 1333, 1335, 1337, 1339, 1341, 1343, 1345, 1347, 1349, 1351, 1353, 1355, 1357, 1359, 1361, 1363, 1365, 1367, 1369, 1371, 1373, 1375, 1377, 1379, 1381, 1383, 1385, 1387] (by decide +kernel) (by decide +kernel)
set_option maxRecDepth 100000 in
theorem g_AWK : GoodIn lw_tbl AWK := goodIn_r _ [220, 664, 1199, 125, 154, 179, 204, 214, 306, 486, 912, 1040, 1211, 1097, 1721, 1832, 1746, 117, 467, 899, 1212] (by decide +kernel) (by decide +kernel)
set_option maxRecDepth 100000 in
theorem g_AWB : GoodIn lw_tbl AWB := goodIn_r _ [123, 124, 788, 477, 1031, 789, 478, 1032, 106, 439, 438, 115, 178, 153, 1390] (by decide +kernel) (by decide +kernel)
set_option maxRecDepth 100000 in
theorem g_AWJ : GoodIn lw_tbl AWJ := goodIn_r _ [588, 589, 598, 599, 111, 590, 1875, 591, 592, 593, 111, 594, 595, 1876, 600, 1875, 601, 602, 603, 111, 604, 595, 1876, 605, 606, 112, 607, 608, 609, 610, 611, 613, 614, 113, 615, 616, 617, 114, 618, 619, 620, 621, 622, 623, 624, 625, 626, 627, 628, 629, 631, 633] (by decide +kernel) (by decide +kernel)
set_option maxRecDepth 100000 in
theorem g_AWX0 : ∀ w ∈ (a_xw 100).filter goodWord, w ∈ lw_tbl := by decide +kernel
set_option maxRecDepth 100000 in
theorem g_AWX1 : ∀ w ∈ (a_xw 101).filter goodWord, w ∈ lw_tbl := by decide +kernel
set_option maxRecDepth 100000 in
theorem g_AWX2 : GoodIn lw_tbl [.initialized (xNm 100), .initialized (xNm 101)] := goodIn_of _ (by decide +kernel)
theorem g_AWX : GoodIn lw_tbl AWX := goodIn_app g_AWX2 (goodIn_app (fun w h => ⟨g_AWX0 w h, good_of_word (List.mem_filter.mp h).2⟩) (fun w h => ⟨g_AWX1 w h, good_of_word (List.mem_filter.mp h).2⟩))
set_option maxRecDepth 100000 in
theorem g_AWN : ∀ w ∈ AWN, w ∈ lw_tbl := by decide +kernel
set_option maxRecDepth 100000 in
theorem AWN_hw : AWN.all a_hw = true := by decide +kernel
theorem a_gflat {α : Type} {big : List Cond} {l : List α} {f : α → List Cond} (h : ∀ a ∈ l, GoodIn big (f a)) : GoodIn big (l.flatMap f) := fun w hw => by
  obtain ⟨a, h1, h2⟩ := List.mem_flatMap.mp hw
  exact h a h1 w h2
theorem g_AWF : GoodIn lw_tbl AWF := a_gflat fun a h => by
  have h := List.mem_range.mp h
  match a, h with
  | 0, _ => exact g_AWF_0
  | 1, _ => exact g_AWF_1
  | 2, _ => exact g_AWF_2
  | 3, _ => exact g_AWF_3
  | 4, _ => exact g_AWF_4
  | 5, _ => exact g_AWF_5
  | 6, _ => exact g_AWF_6
  | 7, _ => exact g_AWF_7
  | 8, _ => exact g_AWF_8
  | 9, _ => exact g_AWF_9
theorem g_AWM : GoodIn lw_tbl AWM := a_gflat fun a h => by
  have h := List.mem_range.mp h
  match a, h with
  | 0, _ => exact g_AWM_0
  | 1, _ => exact g_AWM_1
  | 2, _ => exact g_AWM_2
  | 3, _ => exact g_AWM_3
  | 4, _ => exact g_AWM_4
  | 5, _ => exact g_AWM_5
  | 6, _ => exact g_AWM_6
  | 7, _ => exact g_AWM_7
  | 8, _ => exact g_AWM_8
  | 9, _ => exact g_AWM_9
def AWD : List Cond := AWD_of 0 15 ++ (AWD_of 15 15 ++ (AWD_of 30 15 ++ (AWD_of 45 15 ++ (AWD_of 60 15 ++ (AWD_of 75 15 ++ (AWD_of 90 15 ++ (AWD_of 105 15 ++ (AWD_of 120 15 ++ (AWD_of 135 15 ++ (AWD_of 150 15 ++ (AWD_of 165 15 ++ (AWD_of 180 15 ++ (AWD_of 195 15 ++ (AWD_of 210 15 ++ (AWD_of 225 15 ++ (AWD_of 240 15 ++ (AWD_of 255 15 ++ (AWD_of 270 15 ++ (AWD_of 285 11)))))))))))))))))))
theorem g_AWD : GoodIn lw_tbl AWD := goodIn_app g_AWD_0 (goodIn_app g_AWD_15 (goodIn_app g_AWD_30 (goodIn_app g_AWD_45 (goodIn_app g_AWD_60 (goodIn_app g_AWD_75 (goodIn_app g_AWD_90 (goodIn_app g_AWD_105 (goodIn_app g_AWD_120 (goodIn_app g_AWD_135 (goodIn_app g_AWD_150 (goodIn_app g_AWD_165 (goodIn_app g_AWD_180 (goodIn_app g_AWD_195 (goodIn_app g_AWD_210 (goodIn_app g_AWD_225 (goodIn_app g_AWD_240 (goodIn_app g_AWD_255 (goodIn_app g_AWD_270 (g_AWD_285)))))))))))))))))))
def ALLW : List Cond := AWF ++ (AWM ++ (AWD ++ (AWC ++ (AWK ++ (AWB ++ (AWJ ++ AWX))))))
theorem g_ALLW : GoodIn lw_tbl ALLW := goodIn_app g_AWF (goodIn_app g_AWM (goodIn_app g_AWD (goodIn_app g_AWC (goodIn_app g_AWK (goodIn_app g_AWB (goodIn_app g_AWJ g_AWX))))))
theorem a_inD {k : Nat} (h : k < 296) : ∀ w ∈ wD k, w ∈ AWD := by
  intro w hw
  have key : ∀ a n : Nat, a ≤ k → k < a + n → w ∈ AWD_of a n := fun a n h1 h2 => List.mem_flatMap.mpr ⟨k - a, List.mem_range.mpr (by omega), by rw [show a + (k - a) = k from by omega]; exact hw⟩
  unfold AWD
  by_cases h0 : k < 15
  · exact List.mem_append_left _ (key 0 15 (by omega) (by omega))
  by_cases h15 : k < 30
  · exact List.mem_append_right _ (List.mem_append_left _ (key 15 15 (by omega) (by omega)))
  by_cases h30 : k < 45
  · exact List.mem_append_right _ (List.mem_append_right _ (List.mem_append_left _ (key 30 15 (by omega) (by omega))))
  by_cases h45 : k < 60
  · exact List.mem_append_right _ (List.mem_append_right _ (List.mem_append_right _ (List.mem_append_left _ (key 45 15 (by omega) (by omega)))))
  by_cases h60 : k < 75
  · exact List.mem_append_right _ (List.mem_append_right _ (List.mem_append_right _ (List.mem_append_right _ (List.mem_append_left _ (key 60 15 (by omega) (by omega))))))
  by_cases h75 : k < 90
  · exact List.mem_append_right _ (List.mem_append_right _ (List.mem_append_right _ (List.mem_append_right _ (List.mem_append_right _ (List.mem_append_left _ (key 75 15 (by omega) (by omega)))))))
  by_cases h90 : k < 105
  · exact List.mem_append_right _ (List.mem_append_right _ (List.mem_append_right _ (List.mem_append_right _ (List.mem_append_right _ (List.mem_append_right _ (List.mem_append_left _ (key 90 15 (by omega) (by omega))))))))
  by_cases h105 : k < 120
  · exact List.mem_append_right _ (List.mem_append_right _ (List.mem_append_right _ (List.mem_append_right _ (List.mem_append_right _ (List.mem_append_right _ (List.mem_append_right _ (List.mem_append_left _ (key 105 15 (by omega) (by omega)))))))))
  by_cases h120 : k < 135
  · exact List.mem_append_right _ (List.mem_append_right _ (List.mem_append_right _ (List.mem_append_right _ (List.mem_append_right _ (List.mem_append_right _ (List.mem_append_right _ (List.mem_append_right _ (List.mem_append_left _ (key 120 15 (by omega) (by omega))))))))))
  by_cases h135 : k < 150
  · exact List.mem_append_right _ (List.mem_append_right _ (List.mem_append_right _ (List.mem_append_right _ (List.mem_append_right _ (List.mem_append_right _ (List.mem_append_right _ (List.mem_append_right _ (List.mem_append_right _ (List.mem_append_left _ (key 135 15 (by omega) (by omega)))))))))))
  by_cases h150 : k < 165
  · exact List.mem_append_right _ (List.mem_append_right _ (List.mem_append_right _ (List.mem_append_right _ (List.mem_append_right _ (List.mem_append_right _ (List.mem_append_right _ (List.mem_append_right _ (List.mem_append_right _ (List.mem_append_right _ (List.mem_append_left _ (key 150 15 (by omega) (by omega))))))))))))
  by_cases h165 : k < 180
  · exact List.mem_append_right _ (List.mem_append_right _ (List.mem_append_right _ (List.mem_append_right _ (List.mem_append_right _ (List.mem_append_right _ (List.mem_append_right _ (List.mem_append_right _ (List.mem_append_right _ (List.mem_append_right _ (List.mem_append_right _ (List.mem_append_left _ (key 165 15 (by omega) (by omega)))))))))))))
  by_cases h180 : k < 195
  · exact List.mem_append_right _ (List.mem_append_right _ (List.mem_append_right _ (List.mem_append_right _ (List.mem_append_right _ (List.mem_append_right _ (List.mem_append_right _ (List.mem_append_right _ (List.mem_append_right _ (List.mem_append_right _ (List.mem_append_right _ (List.mem_append_right _ (List.mem_append_left _ (key 180 15 (by omega) (by omega))))))))))))))
  by_cases h195 : k < 210
  · exact List.mem_append_right _ (List.mem_append_right _ (List.mem_append_right _ (List.mem_append_right _ (List.mem_append_right _ (List.mem_append_right _ (List.mem_append_right _ (List.mem_append_right _ (List.mem_append_right _ (List.mem_append_right _ (List.mem_append_right _ (List.mem_append_right _ (List.mem_append_right _ (List.mem_append_left _ (key 195 15 (by omega) (by omega)))))))))))))))
  by_cases h210 : k < 225
  · exact List.mem_append_right _ (List.mem_append_right _ (List.mem_append_right _ (List.mem_append_right _ (List.mem_append_right _ (List.mem_append_right _ (List.mem_append_right _ (List.mem_append_right _ (List.mem_append_right _ (List.mem_append_right _ (List.mem_append_right _ (List.mem_append_right _ (List.mem_append_right _ (List.mem_append_right _ (List.mem_append_left _ (key 210 15 (by omega) (by omega))))))))))))))))
  by_cases h225 : k < 240
  · exact List.mem_append_right _ (List.mem_append_right _ (List.mem_append_right _ (List.mem_append_right _ (List.mem_append_right _ (List.mem_append_right _ (List.mem_append_right _ (List.mem_append_right _ (List.mem_append_right _ (List.mem_append_right _ (List.mem_append_right _ (List.mem_append_right _ (List.mem_append_right _ (List.mem_append_right _ (List.mem_append_right _ (List.mem_append_left _ (key 225 15 (by omega) (by omega)))))))))))))))))
  by_cases h240 : k < 255
  · exact List.mem_append_right _ (List.mem_append_right _ (List.mem_append_right _ (List.mem_append_right _ (List.mem_append_right _ (List.mem_append_right _ (List.mem_append_right _ (List.mem_append_right _ (List.mem_append_right _ (List.mem_append_right _ (List.mem_append_right _ (List.mem_append_right _ (List.mem_append_right _ (List.mem_append_right _ (List.mem_append_right _ (List.mem_append_right _ (List.mem_append_left _ (key 240 15 (by omega) (by omega))))))))))))))))))
  by_cases h255 : k < 270
  · exact List.mem_append_right _ (List.mem_append_right _ (List.mem_append_right _ (List.mem_append_right _ (List.mem_append_right _ (List.mem_append_right _ (List.mem_append_right _ (List.mem_append_right _ (List.mem_append_right _ (List.mem_append_right _ (List.mem_append_right _ (List.mem_append_right _ (List.mem_append_right _ (List.mem_append_right _ (List.mem_append_right _ (List.mem_append_right _ (List.mem_append_right _ (List.mem_append_left _ (key 255 15 (by omega) (by omega)))))))))))))))))))
  by_cases h270 : k < 285
  · exact List.mem_append_right _ (List.mem_append_right _ (List.mem_append_right _ (List.mem_append_right _ (List.mem_append_right _ (List.mem_append_right _ (List.mem_append_right _ (List.mem_append_right _ (List.mem_append_right _ (List.mem_append_right _ (List.mem_append_right _ (List.mem_append_right _ (List.mem_append_right _ (List.mem_append_right _ (List.mem_append_right _ (List.mem_append_right _ (List.mem_append_right _ (List.mem_append_right _ (List.mem_append_left _ (key 270 15 (by omega) (by omega))))))))))))))))))))
  exact List.mem_append_right _ (List.mem_append_right _ (List.mem_append_right _ (List.mem_append_right _ (List.mem_append_right _ (List.mem_append_right _ (List.mem_append_right _ (List.mem_append_right _ (List.mem_append_right _ (List.mem_append_right _ (List.mem_append_right _ (List.mem_append_right _ (List.mem_append_right _ (List.mem_append_right _ (List.mem_append_right _ (List.mem_append_right _ (List.mem_append_right _ (List.mem_append_right _ (List.mem_append_right _ (key 285 11 (by omega) (by omega))))))))))))))))))))
