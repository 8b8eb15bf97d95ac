theorem mem_pl {big ws : List Cond} (ps : List Nat) (h : ps.map (fun i => big[i]?) = ws.map some) : ∀ w ∈ ws, w ∈ big := fun w hw => by
  have h1 : some w ∈ ws.map some := List.mem_map.mpr ⟨w, hw, rfl⟩
  rw [← h] at h1
  obtain ⟨i, -, hi⟩ := List.mem_map.mp h1
  exact List.mem_of_getElem? hi
theorem mem_ap {big a b : List Cond} (h1 : ∀ w ∈ a, w ∈ big) (h2 : ∀ w ∈ b, w ∈ big) : ∀ w ∈ a ++ b, w ∈ big := fun w hw => by
  rcases List.mem_append.mp hw with h | h
  · exact h1 w h
  · exact h2 w h
set_option maxRecDepth 100000 in
theorem li_r1 : ∀ w ∈ wsL_law_r1, w ∈ lw_tbl := mem_pl [107, 108, 88, 1162, 1163, 101, 109, 110, 111, 112, 113, 114, 115, 116, 89, 553, 149, 150, 90, 554, 171, 172, 91, 173] rfl
set_option maxRecDepth 100000 in
theorem li_r2 : ∀ w ∈ wsL_law_r2, w ∈ lw_tbl := mem_pl [174, 92, 555, 563, 323, 324, 94, 556, 400, 401, 96, 557, 426, 427, 97, 558, 559, 560, 463, 464, 98, 561, 482, 483] rfl
set_option maxRecDepth 100000 in
theorem li_r3 : ∀ w ∈ wsL_law_r3, w ∈ lw_tbl := mem_pl [99, 562, 117, 118, 119, 120, 148, 121, 122, 151, 152, 153, 154, 170, 160, 159, 155, 157, 175, 176, 177, 178, 205, 208] rfl
set_option maxRecDepth 100000 in
theorem li_r4 : ∀ w ∈ wsL_law_r4, w ∈ lw_tbl := mem_pl [212, 215, 218, 221, 225, 228, 231, 234, 237, 240, 242, 289, 246, 247, 179, 180, 181, 182, 186, 188, 194, 197, 202, 183] rfl
set_option maxRecDepth 100000 in
theorem li_r5 : ∀ w ∈ wsL_law_r5, w ∈ lw_tbl := mem_pl [184, 93, 185, 290, 291, 292, 293, 299, 302, 305, 306, 307, 294, 325, 326, 327, 328, 329, 330, 95, 375, 376, 377, 378] rfl
set_option maxRecDepth 100000 in
theorem li_r6 : ∀ w ∈ wsL_law_r6, w ∈ lw_tbl := mem_pl [379, 374, 331, 332, 333, 334, 335, 402, 403, 404, 405, 406, 408, 410, 414, 412, 413, 407, 428, 429, 430, 431, 443, 446] rfl
set_option maxRecDepth 100000 in
theorem li_r7 : ∀ w ∈ wsL_law_r7, w ∈ lw_tbl := mem_pl [432, 465, 466, 467, 468, 472, 471, 484, 485, 486, 487, 492, 494, 495, 516, 518, 0, 519, 298, 445, 434, 564, 520, 521] rfl
set_option maxRecDepth 100000 in
theorem li_r8 : ∀ w ∈ wsL_law_r8, w ∈ lw_tbl := mem_pl [522, 523, 200, 238, 235, 524, 525, 526, 527, 241, 528, 530, 529, 100, 531, 532, 533, 534, 206, 535, 537, 1, 538, 540] rfl
set_option maxRecDepth 100000 in
theorem li_r9 : ∀ w ∈ wsL_law_r9, w ∈ lw_tbl := mem_pl [541, 542, 543, 544, 545, 435, 438, 441, 189, 216, 546, 547, 548, 549, 550, 551, 552, 1164, 1165, 1166, 1167, 1168, 1177, 1181] rfl
set_option maxRecDepth 100000 in
theorem li_r10 : ∀ w ∈ wsL_law_r10, w ∈ lw_tbl := mem_pl [1182, 1188, 1189, 1190, 1191, 1192, 1193, 1194, 1195, 1196, 1197, 1198, 1199, 1200, 1201, 1202, 1203, 1204, 1205, 1206, 1207, 1208, 1209, 1210] rfl
set_option maxRecDepth 100000 in
theorem li_r11 : ∀ w ∈ wsL_law_r11, w ∈ lw_tbl := mem_pl [1211, 1212, 1213, 1214, 1215, 1216, 1217, 1218, 1220, 1221, 1222, 1223, 1225, 1397, 1226, 1227, 1228, 1230, 1231, 1233, 1234, 1235, 1236, 1237] rfl
set_option maxRecDepth 100000 in
theorem li_r12 : ∀ w ∈ wsL_law_r12, w ∈ lw_tbl := mem_pl [1239, 1240, 1241, 590, 591, 592, 593, 123, 594, 595, 596, 597, 1398, 1399, 1400, 1401, 1169, 1402, 1404, 31, 1405, 598, 599, 600] rfl
set_option maxRecDepth 100000 in
theorem li_r13 : ∀ w ∈ wsL_law_r13, w ∈ lw_tbl := mem_pl [601, 1406, 1407, 1408, 1409, 1410, 1411, 1412, 602, 603, 604, 605, 187, 606, 607, 608, 609, 124, 610, 611, 613, 2, 614, 127] rfl
set_option maxRecDepth 100000 in
theorem li_r14 : ∀ w ∈ wsL_law_r14, w ∈ lw_tbl := mem_pl [615, 616, 617, 618, 132, 619, 620, 621, 622, 126, 125, 623, 624, 625, 626, 628, 3, 629, 130, 630, 631, 632, 633, 635] rfl
set_option maxRecDepth 100000 in
theorem li_r15 : ∀ w ∈ wsL_law_r15, w ∈ lw_tbl := mem_pl [4, 636, 128, 637, 639, 5, 640, 131, 641, 642, 643, 654, 655, 656, 657, 658, 659, 102, 660, 1828, 661, 662, 663, 664] rfl
set_option maxRecDepth 100000 in
theorem li_r16 : ∀ w ∈ wsL_law_r16, w ∈ lw_tbl := mem_pl [665, 1829, 667, 668, 669, 670, 671, 672, 673, 674, 675, 676, 103, 677, 678, 679, 680, 681, 683, 684, 104, 685, 686, 687] rfl
set_option maxRecDepth 100000 in
theorem li_r17 : ∀ w ∈ wsL_law_r17, w ∈ lw_tbl := mem_pl [105, 688, 689, 690, 691, 692, 693, 694, 695, 696, 697, 698, 699, 701, 703, 705, 706, 707, 708, 709, 710, 711, 712, 713] rfl
set_option maxRecDepth 100000 in
theorem li_r18 : ∀ w ∈ wsL_law_r18, w ∈ lw_tbl := mem_pl [715, 6, 716, 717, 718, 719, 732, 734, 7, 735, 736, 737, 738, 739, 740, 742, 8, 743, 744, 745, 746, 747, 748, 749] rfl
set_option maxRecDepth 100000 in
theorem li_r19 : ∀ w ∈ wsL_law_r19, w ∈ lw_tbl := mem_pl [750, 751, 752, 753, 755, 9, 756, 129, 757, 758, 759, 760, 761, 762, 763, 764, 765, 766, 767, 769, 10, 770, 771, 773] rfl
set_option maxRecDepth 100000 in
theorem li_r20 : ∀ w ∈ wsL_law_r20, w ∈ lw_tbl := mem_pl [11, 774, 775, 777, 12, 778, 779, 781, 13, 782, 783, 785, 14, 786, 787, 789, 15, 790, 1413, 1414, 1415, 1416, 1183, 1178] rfl
set_option maxRecDepth 100000 in
theorem li_r21 : ∀ w ∈ wsL_law_r21, w ∈ lw_tbl := mem_pl [1184, 1179, 1185, 1186, 1187, 1180, 1229, 1417, 1419, 32, 1420, 1170, 1172, 1176, 1421, 1423, 33, 1424, 1171, 1173, 1174, 1425, 1427, 34] rfl
set_option maxRecDepth 100000 in
theorem li_r22 : ∀ w ∈ wsL_law_r22, w ∈ lw_tbl := mem_pl [1428, 1429, 1430, 1431, 1432, 1433, 1434, 1435, 1437, 35, 1438, 1219, 1439, 1441, 36, 1442, 1444, 1446, 37, 1447, 1448, 1449, 1450, 1452] rfl
set_option maxRecDepth 100000 in
theorem li_r23 : ∀ w ∈ wsL_law_r23, w ∈ lw_tbl := mem_pl [38, 1453, 1175, 1454, 1456, 39, 1457, 1458, 1460, 40, 1461, 1462, 1464, 41, 1465, 1467, 1469, 42, 1470, 1471, 1473, 43, 1474, 1475] rfl
set_option maxRecDepth 100000 in
theorem li_r24 : ∀ w ∈ wsL_law_r24, w ∈ lw_tbl := mem_pl [1477, 44, 1478, 1479, 1481, 45, 1482, 1484, 1486, 46, 1487, 1489, 1491, 47, 1492, 1493, 1495, 48, 1496, 1498, 1500, 49, 1501, 1503] rfl
set_option maxRecDepth 100000 in
theorem li_r25 : ∀ w ∈ wsL_law_r25, w ∈ lw_tbl := mem_pl [1505, 50, 1506, 1508, 1510, 51, 1511, 1513, 1515, 52, 1516, 1517, 1519, 53, 1520, 1523, 1525, 54, 1526, 1527, 1528, 1529, 1530, 1532] rfl
set_option maxRecDepth 100000 in
theorem li_r26 : ∀ w ∈ wsL_law_r26, w ∈ lw_tbl := mem_pl [55, 1533, 1534, 1536, 56, 1537, 791, 792, 793, 794, 156, 158, 1538, 1539, 1540, 1541, 795, 796, 797, 798, 193, 195, 199, 204] rfl
set_option maxRecDepth 100000 in
theorem li_r27 : ∀ w ∈ wsL_law_r27, w ∈ lw_tbl := mem_pl [207, 236, 239, 799, 800, 801, 211, 214, 217, 220, 1542, 1543, 1544, 1545, 1546, 1547, 1548, 1549, 1550, 1551, 802, 803, 804, 805] rfl
set_option maxRecDepth 100000 in
theorem li_r28 : ∀ w ∈ wsL_law_r28, w ∈ lw_tbl := mem_pl [224, 806, 808, 16, 809, 810, 811, 812, 1552, 1553, 1554, 1555, 1556, 1558, 57, 1559, 1560, 1561, 1562, 1563, 813, 814, 815, 816] rfl
set_option maxRecDepth 100000 in
theorem li_r29 : ∀ w ∈ wsL_law_r29, w ∈ lw_tbl := mem_pl [301, 817, 819, 17, 820, 1564, 1565, 1566, 1567, 1568, 1570, 58, 1571, 821, 822, 823, 824, 244, 1572, 1573, 1574, 1575, 825, 826] rfl
set_option maxRecDepth 100000 in
theorem li_r30 : ∀ w ∈ wsL_law_r30, w ∈ lw_tbl := mem_pl [827, 828, 227, 230, 233, 1576, 1577, 1578, 1579, 1580, 829, 830, 831, 832, 833, 834, 835, 836, 837, 838, 839, 840, 841, 842] rfl
set_option maxRecDepth 100000 in
theorem li_r31 : ∀ w ∈ wsL_law_r31, w ∈ lw_tbl := mem_pl [1581, 1582, 1583, 1584, 1585, 1586, 1587, 1588, 1589, 1590, 1591, 1592, 1594, 59, 1595, 1603, 915, 106, 916, 1596, 1597, 1598, 1599, 1601] rfl
set_option maxRecDepth 100000 in
theorem li_r32 : ∀ w ∈ wsL_law_r32, w ∈ lw_tbl := mem_pl [60, 1602, 843, 844, 845, 846, 409, 847, 849, 18, 850, 851, 852, 853, 854, 295, 201, 219, 226, 229, 337, 232, 339, 300] rfl
set_option maxRecDepth 100000 in
theorem li_r33 : ∀ w ∈ wsL_law_r33, w ∈ lw_tbl := mem_pl [342, 344, 346, 348, 350, 303, 351, 855, 856, 857, 858, 859, 860, 861, 862, 863, 864, 865, 866, 1604, 1605, 1606, 1607, 1608] rfl
set_option maxRecDepth 100000 in
theorem li_r34 : ∀ w ∈ wsL_law_r34, w ∈ lw_tbl := mem_pl [1609, 1611, 61, 1612, 1613, 1615, 62, 1616, 1617, 1619, 63, 1620, 867, 868, 869, 870, 372, 871, 872, 873, 874, 223, 875, 876] rfl
set_option maxRecDepth 100000 in
theorem li_r35 : ∀ w ∈ wsL_law_r35, w ∈ lw_tbl := mem_pl [877, 878, 879, 880, 881, 297, 222, 380, 373, 882, 883, 884, 885, 886, 888, 19, 889, 890, 891, 892, 893, 894, 895, 897] rfl
set_option maxRecDepth 100000 in
theorem li_r36 : ∀ w ∈ wsL_law_r36, w ∈ lw_tbl := mem_pl [20, 898, 349, 347, 338, 899, 345, 343, 900, 902, 21, 903, 308, 904, 905, 906, 908, 22, 909, 213, 371, 914, 910, 912] rfl
set_option maxRecDepth 100000 in
theorem li_r37 : ∀ w ∈ wsL_law_r37, w ∈ lw_tbl := mem_pl [23, 913, 341, 1621, 1622, 1623, 1624, 1625, 1627, 64, 1628, 1629, 1630, 1632, 65, 1633, 1634, 1636, 66, 1637, 1638, 1639, 1641, 67] rfl
set_option maxRecDepth 100000 in
theorem li_r38 : ∀ w ∈ wsL_law_r38, w ∈ lw_tbl := mem_pl [1642, 1224, 1643, 1645, 68, 1646, 1647, 1649, 69, 1650, 917, 918, 919, 920, 1651, 1652, 1653, 1654, 921, 922, 923, 924, 925, 926] rfl
set_option maxRecDepth 100000 in
theorem li_r39 : ∀ w ∈ wsL_law_r39, w ∈ lw_tbl := mem_pl [927, 928, 929, 930, 931, 932, 934, 935, 1655, 1656, 1657, 1658, 1659, 1660, 1661, 1662, 1663, 1665, 70, 1666, 1667, 1669, 71, 1670] rfl
set_option maxRecDepth 100000 in
theorem li_r40 : ∀ w ∈ wsL_law_r40, w ∈ lw_tbl := mem_pl [1671, 1672, 1673, 936, 937, 938, 939, 1674, 1675, 1676, 1677, 940, 941, 942, 943, 944, 945, 946, 947, 433, 296, 243, 956, 190] rfl
set_option maxRecDepth 100000 in
theorem li_r41 : ∀ w ∈ wsL_law_r41, w ∈ lw_tbl := mem_pl [948, 949, 106, 950, 951, 953, 24, 954, 198, 209, 436, 447, 955, 957, 959, 25, 960, 444, 336, 203, 439, 442, 340, 961] rfl
set_option maxRecDepth 100000 in
theorem li_r42 : ∀ w ∈ wsL_law_r42, w ∈ lw_tbl := mem_pl [962, 963, 964, 965, 967, 26, 968, 969, 970, 972, 27, 973, 304, 309, 975, 1678, 1679, 1680, 1681, 1682, 1683, 1685, 72, 1686] rfl
set_option maxRecDepth 100000 in
theorem li_r43 : ∀ w ∈ wsL_law_r43, w ∈ lw_tbl := mem_pl [1232, 1691, 1687, 1689, 73, 1690, 1692, 1694, 74, 1695, 1696, 1698, 75, 1699, 1700, 1702, 76, 1703, 1704, 1706, 77, 1707, 1708, 1710] rfl
set_option maxRecDepth 100000 in
theorem li_r44 : ∀ w ∈ wsL_law_r44, w ∈ lw_tbl := mem_pl [78, 1711, 976, 977, 978, 979, 448, 1712, 1713, 1714, 1715, 980, 981, 982, 983, 437, 440, 984, 985, 986, 987, 988, 989, 994] rfl
set_option maxRecDepth 100000 in
theorem li_r45 : ∀ w ∈ wsL_law_r45, w ∈ lw_tbl := mem_pl [995, 996, 990, 991, 992, 993, 1716, 1717, 1718, 1719, 1720, 1721, 1723, 79, 1724, 997, 998, 999, 1000, 1725, 1726, 1727, 1728, 1001] rfl
set_option maxRecDepth 100000 in
theorem li_r46 : ∀ w ∈ wsL_law_r46, w ∈ lw_tbl := mem_pl [1002, 1003, 1004, 1005, 1006, 1007, 1008, 1009, 1729, 1730, 1731, 1732, 1733, 1734, 1735, 1010, 1011, 1012, 1013, 1736, 1737, 1738, 1739, 1014] rfl
set_option maxRecDepth 100000 in
theorem li_r47 : ∀ w ∈ wsL_law_r47, w ∈ lw_tbl := mem_pl [1015, 1016, 1017, 1018, 1019, 1020, 1021, 1023, 28, 1024, 1025, 1026, 1027, 1028, 1029, 1030, 1740, 1741, 1742, 1743, 1744, 1745, 1747, 80] rfl
set_option maxRecDepth 100000 in
theorem li_r48 : ∀ w ∈ wsL_law_r48, w ∈ lw_tbl := mem_pl [1748, 1749, 1751, 81, 1752, 1031, 1032, 1033, 1034, 1753, 1754, 1755, 1756, 1035, 1036, 1037, 1038, 1039, 1040, 1042, 29, 1043, 411, 1044] rfl
set_option maxRecDepth 100000 in
theorem li_r49 : ∀ w ∈ wsL_law_r49, w ∈ lw_tbl := mem_pl [1045, 1046, 1047, 196, 245, 1757, 1758, 1759, 1760, 1761, 1763, 82, 1764, 1048, 1049, 1050, 1051, 1765, 1766, 1767, 1768, 1052, 1053, 1054] rfl
set_option maxRecDepth 100000 in
theorem li_r50 : ∀ w ∈ wsL_law_r50, w ∈ lw_tbl := mem_pl [1055, 1086, 1056, 1057, 1058, 1059, 469, 470, 1060, 1061, 1062, 1063, 1076, 1064, 1065, 1066, 1067, 1068, 1069, 1070, 1071, 1072, 1074, 30] rfl
set_option maxRecDepth 100000 in
theorem li_r51 : ∀ w ∈ wsL_law_r51, w ∈ lw_tbl := mem_pl [1075, 1077, 1078, 1079, 1080, 1081, 1082, 1083, 1084, 1085, 1769, 1770, 1771, 1772, 1773, 1774, 1238, 1775, 1777, 83, 1778, 1779, 1781, 84] rfl
set_option maxRecDepth 100000 in
theorem li_r52 : ∀ w ∈ wsL_law_r52, w ∈ lw_tbl := mem_pl [1782, 1087, 1088, 1089, 1090, 1091, 1092, 1093, 1094, 1783, 1784, 1785, 1786, 1787, 1788, 1095, 1096, 1097, 1098, 1099, 1100, 1101, 1102, 1103] rfl
set_option maxRecDepth 100000 in
theorem li_r53 : ∀ w ∈ wsL_law_r53, w ∈ lw_tbl := mem_pl [1789, 1790, 1791, 1792, 1104, 1105, 1106, 1107, 493, 1108, 1109, 1110, 1111, 191, 1112, 1113, 1114, 1115, 1116, 1793, 1794, 1795, 1796, 1117] rfl
set_option maxRecDepth 100000 in
theorem li_r54 : ∀ w ∈ wsL_law_r54, w ∈ lw_tbl := mem_pl [1118, 1119, 1120, 1124, 489, 491, 1121, 1122, 1123, 1125, 1126, 1127, 1128, 192, 210, 496, 497, 498, 1129, 1130, 1131, 1132, 1133, 488] rfl
set_option maxRecDepth 100000 in
theorem li_r55 : ∀ w ∈ wsL_law_r55, w ∈ lw_tbl := mem_pl [490, 1134, 1135, 1136, 1797, 1798, 1799, 1800, 1806, 1242, 1243, 1801, 1802, 1803, 1804, 1805, 1807, 1809, 85, 1810, 1811, 1137, 1138, 1139] rfl
set_option maxRecDepth 100000 in
theorem li_r56 : ∀ w ∈ wsL_law_r56, w ∈ lw_tbl := mem_pl [1140, 1141, 1142, 1143, 1144, 1145, 1812, 1813, 1814, 1815, 1146, 1147, 1148, 1149, 1150, 1151, 1152, 1153, 1154, 1155, 1156, 1157, 1816, 1817] rfl
set_option maxRecDepth 100000 in
theorem li_r57 : ∀ w ∈ wsL_law_r57, w ∈ lw_tbl := mem_pl [1818, 1819, 1820, 1822, 86, 1823, 1158, 1159, 1160, 1161, 1824, 1825, 1826, 1827] rfl
set_option maxRecDepth 100000 in
theorem li_wsX100 : ∀ w ∈ wsX100, w ∈ lw_tbl := mem_pl [565, 567, 569, 571, 573, 575, 577, 579, 581, 583, 585, 587] rfl
set_option maxRecDepth 100000 in
theorem li_wsX110 : ∀ w ∈ wsX110, w ∈ lw_tbl := mem_pl [1244, 1246, 1248, 1250, 1252, 1254, 1256, 1258, 1260, 1262, 1264, 1266, 1268, 1270, 1272, 1274, 1276, 1278, 1280, 1282, 1284, 1286, 1288, 1290, 1292, 1294, 1296, 1298, 1300, 1302, 1304, 1306, 1308, 1310, 1312, 1314, 1316, 1318, 1320, 1322, 1324, 1326, 1328, 1330, 1332, 1334, 1336, 1338, 1340, 1342, 1344, 1346, 1348, 1350, 1352, 1354, 1356, 1358, 1360, 1362, 1364, 1366, 1368, 1370, 1372, 1374, 1376, 1378, 1380, 1382, 1384, 1386, 1388, 1390, 1392, 1394] rfl
set_option maxRecDepth 100000 in
theorem li_wsX50 : ∀ w ∈ wsX50, w ∈ lw_tbl := mem_pl [133, 135, 137, 139, 141, 143, 145] rfl
set_option maxRecDepth 100000 in
theorem li_wsX30 : ∀ w ∈ wsX30, w ∈ lw_tbl := mem_pl [161, 163, 165, 167] rfl
set_option maxRecDepth 100000 in
theorem li_wsX00 : ∀ w ∈ wsX00, w ∈ lw_tbl := mem_pl [310, 312, 314, 316, 318, 320] rfl
set_option maxRecDepth 100000 in
theorem li_wsX70 : ∀ w ∈ wsX70, w ∈ lw_tbl := mem_pl [248, 250, 252, 254, 256, 258, 260, 262, 264, 266, 268, 270, 272, 274, 276, 278, 280, 282, 284, 286] rfl
set_option maxRecDepth 100000 in
theorem li_wsX20 : ∀ w ∈ wsX20, w ∈ lw_tbl := mem_pl [381, 383, 385, 387, 389, 391, 393, 395, 397] rfl
set_option maxRecDepth 100000 in
theorem li_wsX90 : ∀ w ∈ wsX90, w ∈ lw_tbl := mem_pl [415, 417, 419, 421, 423] rfl
set_option maxRecDepth 100000 in
theorem li_wsX40 : ∀ w ∈ wsX40, w ∈ lw_tbl := mem_pl [449, 451, 453, 455, 457, 459] rfl
set_option maxRecDepth 100000 in
theorem li_wsX80 : ∀ w ∈ wsX80, w ∈ lw_tbl := mem_pl [473, 475, 477, 479] rfl
set_option maxRecDepth 100000 in
theorem li_wsX10 : ∀ w ∈ wsX10, w ∈ lw_tbl := mem_pl [499, 501, 503, 505, 507, 509, 511, 513] rfl
set_option maxRecDepth 100000 in
theorem li_wsX60 : ∀ w ∈ wsX60, w ∈ lw_tbl := mem_pl [352, 354, 356, 358, 360, 362, 364, 366, 368] rfl
set_option maxRecDepth 100000 in
theorem wsL_law_in : ∀ w ∈ wsL_law, w ∈ lw_tbl := (mem_ap (mem_ap (mem_ap (mem_ap (mem_ap (mem_ap (mem_ap (mem_ap (mem_ap (mem_ap (mem_ap (mem_ap (mem_ap (mem_ap li_r1 (mem_ap li_r2 (mem_ap li_r3 (mem_ap li_r4 (mem_ap li_r5 (mem_ap li_r6 (mem_ap li_r7 (mem_ap li_r8 (mem_ap li_r9 (mem_ap li_r10 (mem_ap li_r11 (mem_ap li_r12 (mem_ap li_r13 (mem_ap li_r14 (mem_ap li_r15 (mem_ap li_r16 (mem_ap li_r17 (mem_ap li_r18 (mem_ap li_r19 (mem_ap li_r20 (mem_ap li_r21 (mem_ap li_r22 (mem_ap li_r23 (mem_ap li_r24 (mem_ap li_r25 (mem_ap li_r26 (mem_ap li_r27 (mem_ap li_r28 (mem_ap li_r29 (mem_ap li_r30 (mem_ap li_r31 (mem_ap li_r32 (mem_ap li_r33 (mem_ap li_r34 (mem_ap li_r35 (mem_ap li_r36 (mem_ap li_r37 (mem_ap li_r38 (mem_ap li_r39 (mem_ap li_r40 (mem_ap li_r41 (mem_ap li_r42 (mem_ap li_r43 (mem_ap li_r44 (mem_ap li_r45 (mem_ap li_r46 (mem_ap li_r47 (mem_ap li_r48 (mem_ap li_r49 (mem_ap li_r50 (mem_ap li_r51 (mem_ap li_r52 (mem_ap li_r53 (mem_ap li_r54 (mem_ap li_r55 (mem_ap li_r56 li_r57)))))))))))))))))))))))))))))))))))))))))))))))))))))))) li_wsX100) li_wsX110) li_wsX50) li_wsX30) li_wsX00) li_wsX70) li_wsX20) li_wsX90) li_wsX40) li_wsX80) li_wsX10) li_wsX60) (fun _ h => absurd h List.not_mem_nil))
