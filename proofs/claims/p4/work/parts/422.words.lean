theorem wl_of {big ws : List Cond} (ps : List Nat) (h : ws = ps.filterMap (fun i => big[i]?)) : ∀ w ∈ ws, w ∈ big := by
  intro w hw
  rw [h] at hw
  obtain ⟨i, -, hi⟩ := List.mem_filterMap.mp hw
  exact List.mem_of_getElem? hi
set_option maxRecDepth 20000 in
theorem wl_wsL_law0_r1 : ∀ w ∈ wsL_law0_r1, w ∈ lw_tbl := wl_of [117, 118, 98, 1179, 1180, 106, 163, 119, 120, 121, 122, 123, 124, 125, 126, 99, 406, 285, 286, 102, 407, 408, 327, 138] (by decide +kernel)
set_option maxRecDepth 20000 in
theorem wl_wsL_law0_r2 : ∀ w ∈ wsL_law0_r2, w ∈ lw_tbl := wl_of [101, 409, 329, 330, 103, 410, 356, 357, 104, 411, 388, 389, 105, 412, 404, 132, 100, 413, 414, 415, 416, 127, 128, 129] (by decide +kernel)
set_option maxRecDepth 20000 in
theorem wl_wsL_law0_r3 : ∀ w ∈ wsL_law0_r3, w ∈ lw_tbl := wl_of [130, 162, 245, 246, 131, 247, 133, 134, 135, 136, 164, 195, 197, 199, 202, 137, 205, 139, 140, 141, 142, 149, 151, 287] (by decide +kernel)
set_option maxRecDepth 20000 in
theorem wl_wsL_law0_r4 : ∀ w ∈ wsL_law0_r4, w ∈ lw_tbl := wl_of [288, 289, 290, 306, 309, 328, 331, 332, 333, 334, 335, 343, 344, 337, 358, 359, 360, 361, 368, 370, 390, 391, 392, 393] (by decide +kernel)
set_option maxRecDepth 20000 in
theorem wl_wsL_law0_r5 : ∀ w ∈ wsL_law0_r5, w ∈ lw_tbl := wl_of [395, 396, 405, 1181, 1182, 1183, 1184, 1186, 1195, 1197, 1200, 1201, 1202, 1203, 1204, 1205, 1208, 1209, 1214, 1217, 1218, 1219, 1220, 440] (by decide +kernel)
set_option maxRecDepth 20000 in
theorem wl_wsL_law0_r6 : ∀ w ∈ wsL_law0_r6, w ∈ lw_tbl := wl_of [441, 442, 443, 239, 444, 445, 446, 447, 240, 1306, 1307, 1308, 1309, 1185, 1187, 448, 449, 450, 451, 241, 243, 186, 167, 452] (by decide +kernel)
set_option maxRecDepth 20000 in
theorem wl_wsL_law0_r7 : ∀ w ∈ wsL_law0_r7, w ∈ lw_tbl := wl_of [453, 454, 455, 457, 0, 458, 459, 460, 461, 462, 463, 464, 107, 465, 249, 248, 242, 244, 251, 252, 179, 466, 467, 468] (by decide +kernel)
set_option maxRecDepth 20000 in
theorem wl_wsL_law0_r8 : ∀ w ∈ wsL_law0_r8, w ∈ lw_tbl := wl_of [469, 165, 178, 189, 191, 144, 470, 472, 1, 473, 250, 474, 476, 2, 477, 253, 478, 480, 3, 481, 254, 482, 484, 4] (by decide +kernel)
set_option maxRecDepth 20000 in
theorem wl_wsL_law0_r9 : ∀ w ∈ wsL_law0_r9, w ∈ lw_tbl := wl_of [485, 168, 190, 207, 145, 193, 487, 489, 5, 490, 491, 492, 493, 108, 494, 1818, 495, 496, 497, 498, 499, 1819, 501, 502] (by decide +kernel)
set_option maxRecDepth 20000 in
theorem wl_wsL_law0_r10 : ∀ w ∈ wsL_law0_r10, w ∈ lw_tbl := wl_of [503, 504, 505, 506, 507, 508, 509, 510, 109, 511, 512, 513, 514, 515, 517, 518, 110, 519, 520, 521, 111, 522, 523, 524] (by decide +kernel)
set_option maxRecDepth 20000 in
theorem wl_wsL_law0_r11 : ∀ w ∈ wsL_law0_r11, w ∈ lw_tbl := wl_of [525, 526, 527, 528, 529, 530, 531, 532, 533, 535, 537, 539, 541, 6, 542, 543, 545, 7, 546, 255, 172, 174, 176, 548] (by decide +kernel)
set_option maxRecDepth 20000 in
theorem wl_wsL_law0_r12 : ∀ w ∈ wsL_law0_r12, w ∈ lw_tbl := wl_of [550, 8, 551, 552, 554, 9, 555, 564, 566, 10, 567, 181, 184, 188, 571, 572, 112, 573, 574, 575, 576, 577, 579, 11] (by decide +kernel)
set_option maxRecDepth 20000 in
theorem wl_wsL_law0_r13 : ∀ w ∈ wsL_law0_r13, w ∈ lw_tbl := wl_of [580, 581, 583, 12, 584, 586, 588, 13, 589, 591, 592, 595, 596, 597, 598, 599, 601, 14, 602, 605, 606, 607, 608, 143] (by decide +kernel)
set_option maxRecDepth 20000 in
theorem wl_wsL_law0_r14 : ∀ w ∈ wsL_law0_r14, w ∈ lw_tbl := wl_of [609, 611, 15, 612, 614, 615, 616, 617, 618, 619, 620, 621, 622, 623, 624, 625, 626, 627, 628, 629, 291, 300, 303, 630] (by decide +kernel)
set_option maxRecDepth 20000 in
theorem wl_wsL_law0_r15 : ∀ w ∈ wsL_law0_r15, w ∈ lw_tbl := wl_of [631, 632, 633, 294, 297, 634, 635, 636, 637, 338, 340, 638, 639, 640, 641, 371, 372, 642, 644, 16, 645, 1310, 1311, 1312] (by decide +kernel)
set_option maxRecDepth 20000 in
theorem wl_wsL_law0_r16 : ∀ w ∈ wsL_law0_r16, w ∈ lw_tbl := wl_of [1313, 1194, 1198, 1188, 1190, 1191, 1189, 1199, 1206, 1207, 1314, 1316, 44, 1317, 1196, 1318, 1319, 1320, 1321, 1323, 45, 1324, 1325, 1327] (by decide +kernel)
set_option maxRecDepth 20000 in
theorem wl_wsL_law0_r17 : ∀ w ∈ wsL_law0_r17, w ∈ lw_tbl := wl_of [46, 1328, 1193, 1192, 1329, 1331, 47, 1332, 1333, 1334, 1335, 1336, 1337, 1338, 1339, 1341, 48, 1342, 1344, 1346, 49, 1347, 1348, 1349] (by decide +kernel)
set_option maxRecDepth 20000 in
theorem wl_wsL_law0_r18 : ∀ w ∈ wsL_law0_r18, w ∈ lw_tbl := wl_of [1350, 1352, 50, 1353, 1354, 1356, 51, 1357, 1359, 1361, 52, 1362, 1363, 1365, 53, 1366, 1367, 1369, 54, 1370, 1371, 1373, 55, 1374] (by decide +kernel)
set_option maxRecDepth 20000 in
theorem wl_wsL_law0_r19 : ∀ w ∈ wsL_law0_r19, w ∈ lw_tbl := wl_of [1375, 1377, 56, 1378, 1379, 1381, 57, 1382, 1387, 1389, 58, 1390, 1392, 1394, 59, 1395, 1399, 1401, 60, 1402, 1403, 1405, 61, 1406] (by decide +kernel)
set_option maxRecDepth 20000 in
theorem wl_wsL_law0_r20 : ∀ w ∈ wsL_law0_r20, w ∈ lw_tbl := wl_of [1407, 1409, 62, 1410, 1413, 1415, 63, 1416, 1420, 1422, 64, 1423, 1426, 1428, 65, 1429, 1431, 1432, 1433, 646, 647, 648, 649, 1434] (by decide +kernel)
set_option maxRecDepth 20000 in
theorem wl_wsL_law0_r21 : ∀ w ∈ wsL_law0_r21, w ∈ lw_tbl := wl_of [1435, 1436, 1437, 650, 651, 652, 653, 1438, 1439, 1440, 1441, 654, 655, 656, 657, 196, 198, 307, 310, 658, 660, 17, 661, 662] (by decide +kernel)
set_option maxRecDepth 20000 in
theorem wl_wsL_law0_r22 : ∀ w ∈ wsL_law0_r22, w ∈ lw_tbl := wl_of [663, 664, 665, 1442, 1443, 1444, 1445, 1446, 1448, 66, 1449, 667, 668, 669, 670, 206, 150, 152, 292, 671, 673, 18, 674, 146] (by decide +kernel)
set_option maxRecDepth 20000 in
theorem wl_wsL_law0_r23 : ∀ w ∈ wsL_law0_r23, w ∈ lw_tbl := wl_of [675, 676, 677, 678, 1450, 1451, 1452, 1453, 1454, 1456, 67, 1457, 1458, 1460, 68, 1461, 1210, 1462, 1464, 69, 1465, 679, 680, 681] (by decide +kernel)
set_option maxRecDepth 20000 in
theorem wl_wsL_law0_r24 : ∀ w ∈ wsL_law0_r24, w ∈ lw_tbl := wl_of [682, 295, 683, 685, 19, 686, 1466, 1467, 1468, 1469, 687, 688, 689, 690, 171, 298, 1470, 1471, 1472, 1473, 691, 692, 693, 694] (by decide +kernel)
set_option maxRecDepth 20000 in
theorem wl_wsL_law0_r25 : ∀ w ∈ wsL_law0_r25, w ∈ lw_tbl := wl_of [304, 1474, 1475, 1476, 1477, 695, 696, 697, 698, 699, 700, 702, 20, 703, 182, 185, 704, 705, 706, 1478, 1479, 1480, 1481, 1482] (by decide +kernel)
set_option maxRecDepth 20000 in
theorem wl_wsL_law0_r26 : ∀ w ∈ wsL_law0_r26, w ∈ lw_tbl := wl_of [1483, 1485, 70, 1486, 1487, 1489, 71, 1490, 1215, 1216, 1491, 1493, 72, 1494, 1495, 1497, 73, 1498, 707, 708, 709, 710, 711, 712] (by decide +kernel)
set_option maxRecDepth 20000 in
theorem wl_wsL_law0_r27 : ∀ w ∈ wsL_law0_r27, w ∈ lw_tbl := wl_of [713, 714, 180, 183, 1499, 1500, 1501, 1502, 715, 716, 717, 718, 719, 721, 21, 722, 1503, 1504, 1505, 1506, 723, 724, 725, 726] (by decide +kernel)
set_option maxRecDepth 20000 in
theorem wl_wsL_law0_r28 : ∀ w ∈ wsL_law0_r28, w ∈ lw_tbl := wl_of [1507, 1508, 1509, 1510, 727, 728, 729, 730, 1511, 1512, 1513, 1514, 731, 732, 733, 734, 1515, 1516, 1517, 1518, 735, 736, 737, 738] (by decide +kernel)
set_option maxRecDepth 20000 in
theorem wl_wsL_law0_r29 : ∀ w ∈ wsL_law0_r29, w ∈ lw_tbl := wl_of [739, 741, 22, 742, 743, 745, 23, 746, 747, 748, 749, 750, 751, 753, 24, 754, 755, 756, 757, 758, 296, 299, 308, 293] (by decide +kernel)
set_option maxRecDepth 20000 in
theorem wl_wsL_law0_r30 : ∀ w ∈ wsL_law0_r30, w ∈ lw_tbl := wl_of [311, 170, 759, 761, 25, 762, 764, 766, 26, 767, 305, 173, 301, 768, 769, 771, 27, 772, 773, 774, 775, 776, 147, 777] (by decide +kernel)
set_option maxRecDepth 20000 in
theorem wl_wsL_law0_r31 : ∀ w ∈ wsL_law0_r31, w ∈ lw_tbl := wl_of [779, 780, 781, 782, 783, 784, 785, 786, 787, 1519, 1520, 1521, 1522, 1523, 1525, 74, 1526, 1527, 1529, 75, 1530, 1531, 1533, 76] (by decide +kernel)
set_option maxRecDepth 20000 in
theorem wl_wsL_law0_r32 : ∀ w ∈ wsL_law0_r32, w ∈ lw_tbl := wl_of [1534, 1535, 1537, 77, 1538, 1213, 1211, 1212, 1539, 1540, 1541, 1542, 1544, 78, 1545, 1546, 1548, 79, 1549, 1550, 1552, 80, 1553, 788] (by decide +kernel)
set_option maxRecDepth 20000 in
theorem wl_wsL_law0_r33 : ∀ w ∈ wsL_law0_r33, w ∈ lw_tbl := wl_of [789, 790, 791, 1554, 1555, 1556, 1557, 792, 793, 794, 795, 302, 796, 798, 28, 799, 1558, 1559, 1560, 1561, 800, 801, 802, 803] (by decide +kernel)
set_option maxRecDepth 20000 in
theorem wl_wsL_law0_r34 : ∀ w ∈ wsL_law0_r34, w ∈ lw_tbl := wl_of [804, 806, 29, 807, 1562, 1563, 1564, 1565, 1566, 1568, 81, 1569, 808, 809, 810, 811, 1570, 1571, 1572, 1573, 812, 813, 814, 815] (by decide +kernel)
set_option maxRecDepth 20000 in
theorem wl_wsL_law0_r35 : ∀ w ∈ wsL_law0_r35, w ∈ lw_tbl := wl_of [1574, 1575, 1576, 1577, 816, 817, 818, 819, 1578, 1579, 1580, 1581, 820, 821, 822, 823, 824, 826, 30, 827, 1582, 1583, 1584, 1585] (by decide +kernel)
set_option maxRecDepth 20000 in
theorem wl_wsL_law0_r36 : ∀ w ∈ wsL_law0_r36, w ∈ lw_tbl := wl_of [828, 829, 830, 831, 832, 834, 31, 835, 1586, 1587, 1588, 1589, 836, 837, 838, 839, 840, 841, 842, 1590, 1591, 1592, 1593, 1594] (by decide +kernel)
set_option maxRecDepth 20000 in
theorem wl_wsL_law0_r37 : ∀ w ∈ wsL_law0_r37, w ∈ lw_tbl := wl_of [1595, 1596, 843, 844, 845, 846, 847, 848, 1597, 1598, 1599, 1600, 849, 850, 851, 852, 853, 1601, 1602, 1603, 1604, 854, 855, 856] (by decide +kernel)
set_option maxRecDepth 20000 in
theorem wl_wsL_law0_r38 : ∀ w ∈ wsL_law0_r38, w ∈ lw_tbl := wl_of [857, 858, 860, 32, 861, 862, 864, 33, 865, 866, 867, 868, 869, 871, 872, 873, 874, 875, 394, 876, 878, 34, 879, 880] (by decide +kernel)
set_option maxRecDepth 20000 in
theorem wl_wsL_law0_r39 : ∀ w ∈ wsL_law0_r39, w ∈ lw_tbl := wl_of [882, 35, 883, 884, 885, 886, 887, 1617, 1618, 1619, 1620, 1621, 1623, 82, 1624, 1625, 1627, 83, 1628, 1629, 1631, 84, 1632, 888] (by decide +kernel)
set_option maxRecDepth 20000 in
theorem wl_wsL_law0_r40 : ∀ w ∈ wsL_law0_r40, w ∈ lw_tbl := wl_of [889, 890, 891, 892, 893, 894, 895, 1633, 1634, 1635, 1636, 896, 897, 898, 899, 1637, 1638, 1639, 1640, 900, 901, 902, 903, 904] (by decide +kernel)
set_option maxRecDepth 20000 in
theorem wl_wsL_law0_r41 : ∀ w ∈ wsL_law0_r41, w ∈ lw_tbl := wl_of [905, 906, 907, 908, 910, 36, 911, 148, 1641, 1642, 1643, 1644, 1614, 1615, 1616, 912, 913, 914, 915, 916, 1605, 1606, 1607, 1608] (by decide +kernel)
set_option maxRecDepth 20000 in
theorem wl_wsL_law0_r42 : ∀ w ∈ wsL_law0_r42, w ∈ lw_tbl := wl_of [917, 918, 919, 920, 921, 923, 37, 924, 925, 1609, 1610, 1611, 1612, 1613, 926, 927, 928, 929, 363, 930, 931, 932, 933, 362] (by decide +kernel)
set_option maxRecDepth 20000 in
theorem wl_wsL_law0_r43 : ∀ w ∈ wsL_law0_r43, w ∈ lw_tbl := wl_of [166, 934, 936, 38, 937, 192, 203, 200, 938, 939, 940, 941, 1645, 1646, 1647, 1648, 1649, 1651, 85, 1652, 1653, 1655, 86, 1656] (by decide +kernel)
set_option maxRecDepth 20000 in
theorem wl_wsL_law0_r44 : ∀ w ∈ wsL_law0_r44, w ∈ lw_tbl := wl_of [1657, 1659, 87, 1660, 1661, 1663, 88, 1664, 943, 944, 945, 946, 369, 1665, 1666, 1667, 1668, 1669, 1671, 89, 1672, 947, 948, 949] (by decide +kernel)
set_option maxRecDepth 20000 in
theorem wl_wsL_law0_r45 : ∀ w ∈ wsL_law0_r45, w ∈ lw_tbl := wl_of [950, 951, 1673, 1674, 1675, 1676, 1677, 1679, 90, 1680, 952, 953, 954, 955, 1681, 1682, 1683, 1684, 956, 957, 958, 959, 365, 960] (by decide +kernel)
set_option maxRecDepth 20000 in
theorem wl_wsL_law0_r46 : ∀ w ∈ wsL_law0_r46, w ∈ lw_tbl := wl_of [961, 962, 963, 364, 366, 169, 964, 965, 967, 39, 968, 969, 971, 40, 972, 973, 974, 975, 1685, 1686, 1687, 1688, 1689, 1691] (by decide +kernel)
set_option maxRecDepth 20000 in
theorem wl_wsL_law0_r47 : ∀ w ∈ wsL_law0_r47, w ∈ lw_tbl := wl_of [91, 1692, 1221, 976, 977, 978, 979, 367, 1693, 1694, 1695, 1696, 980, 981, 982, 983, 984, 985, 986, 987, 187, 1701, 1702, 1703] (by decide +kernel)
set_option maxRecDepth 20000 in
theorem wl_wsL_law0_r48 : ∀ w ∈ wsL_law0_r48, w ∈ lw_tbl := wl_of [1704, 988, 989, 990, 991, 1705, 1706, 1707, 1708, 992, 993, 994, 995, 194, 204, 201, 1697, 1698, 1699, 1700, 996, 997, 998, 999] (by decide +kernel)
set_option maxRecDepth 20000 in
theorem wl_wsL_law0_r49 : ∀ w ∈ wsL_law0_r49, w ∈ lw_tbl := wl_of [1000, 1001, 1002, 1003, 1004, 1005, 1709, 1710, 1711, 1712, 1713, 1714, 1715, 1716, 1717, 1718, 1006, 1007, 1008, 1009, 1010, 1011, 1012, 1719] (by decide +kernel)
set_option maxRecDepth 20000 in
theorem wl_wsL_law0_r50 : ∀ w ∈ wsL_law0_r50, w ∈ lw_tbl := wl_of [1720, 1721, 1722, 1723, 1725, 92, 1726, 1222, 1013, 1014, 1015, 1016, 1727, 1728, 1729, 1730, 1017, 1018, 1019, 1020, 1025, 177, 1021, 1023] (by decide +kernel)
set_option maxRecDepth 20000 in
theorem wl_wsL_law0_r51 : ∀ w ∈ wsL_law0_r51, w ∈ lw_tbl := wl_of [41, 1024, 1026, 1027, 1028, 1731, 1732, 1733, 1734, 1739, 1735, 1737, 93, 1738, 1740, 1741, 1742, 1029, 1030, 1031, 1032, 1743, 1744, 1745] (by decide +kernel)
set_option maxRecDepth 20000 in
theorem wl_wsL_law0_r52 : ∀ w ∈ wsL_law0_r52, w ∈ lw_tbl := wl_of [1746, 1033, 1034, 1035, 1036, 1037, 1038, 1039, 1040, 1041, 1042, 1044, 42, 1045, 1747, 1748, 1749, 1750, 1224, 1751, 1753, 94, 1754, 1755] (by decide +kernel)
set_option maxRecDepth 20000 in
theorem wl_wsL_law0_r53 : ∀ w ∈ wsL_law0_r53, w ∈ lw_tbl := wl_of [1223, 1756, 1046, 1047, 1048, 1049, 1757, 1758, 1759, 1760, 1050, 1051, 1052, 1053, 1054, 1055, 1056, 1057, 342, 1059, 1058, 1761, 1762, 1763] (by decide +kernel)
set_option maxRecDepth 20000 in
theorem wl_wsL_law0_r54 : ∀ w ∈ wsL_law0_r54, w ∈ lw_tbl := wl_of [1764, 1765, 1767, 95, 1768, 1060, 1061, 1062, 1063, 1769, 1770, 1771, 1772, 1064, 1065, 1066, 1067, 1773, 1774, 1775, 1776, 1068, 1069, 1070] (by decide +kernel)
set_option maxRecDepth 20000 in
theorem wl_wsL_law0_r55 : ∀ w ∈ wsL_law0_r55, w ∈ lw_tbl := wl_of [1071, 1072, 1073, 1074, 1075, 1777, 1778, 1779, 1780, 1781, 1783, 96, 1784, 1076, 1077, 1078, 1079, 341, 1080, 1081, 1082, 1083, 1785, 1786] (by decide +kernel)
set_option maxRecDepth 20000 in
theorem wl_wsL_law0_r56 : ∀ w ∈ wsL_law0_r56, w ∈ lw_tbl := wl_of [1787, 1788, 1084, 1085, 1086, 1087, 1088, 1089, 1090, 1091, 1789, 1790, 1791, 1792, 1106, 1107, 97, 1108, 1109, 1110, 1111, 1112, 1113, 1114] (by decide +kernel)
set_option maxRecDepth 20000 in
theorem wl_wsL_law0_r57 : ∀ w ∈ wsL_law0_r57, w ∈ lw_tbl := wl_of [116, 1793, 1794, 1795, 1796, 1093, 1094, 1095, 1096, 339, 1097, 1098, 1099, 1100, 175, 1101, 1797, 1798, 1799, 1800, 1102, 1103, 1104, 1105] (by decide +kernel)
set_option maxRecDepth 20000 in
theorem wl_wsL_law0_r58 : ∀ w ∈ wsL_law0_r58, w ∈ lw_tbl := wl_of [1801, 1802, 1803, 1804] (by decide +kernel)
set_option maxRecDepth 20000 in
theorem wl_wsX70 : ∀ w ∈ wsX70, w ∈ lw_tbl := wl_of [417, 419, 421, 423, 425, 427, 429, 431, 433, 435, 437] (by decide +kernel)
set_option maxRecDepth 20000 in
theorem wl_wsX80 : ∀ w ∈ wsX80, w ∈ lw_tbl := wl_of [1225, 1227, 1229, 1231, 1233, 1235, 1237, 1239, 1241, 1243, 1245, 1247, 1249, 1251, 1253, 1255, 1257, 1259, 1261, 1263, 1265, 1267, 1269, 1271, 1273, 1275, 1277, 1279, 1281, 1283, 1285, 1287, 1289, 1291, 1293, 1295, 1297, 1299, 1301, 1303] (by decide +kernel)
set_option maxRecDepth 20000 in
theorem wl_wsX30 : ∀ w ∈ wsX30, w ∈ lw_tbl := wl_of [256, 258, 260, 262, 264, 266, 268, 270, 272, 274, 276, 278, 280, 282] (by decide +kernel)
set_option maxRecDepth 20000 in
theorem wl_wsX50 : ∀ w ∈ wsX50, w ∈ lw_tbl := wl_of [312, 314, 316, 318, 320, 322, 324] (by decide +kernel)
set_option maxRecDepth 20000 in
theorem wl_wsX60 : ∀ w ∈ wsX60, w ∈ lw_tbl := wl_of [153, 155, 157, 159] (by decide +kernel)
set_option maxRecDepth 20000 in
theorem wl_wsX10 : ∀ w ∈ wsX10, w ∈ lw_tbl := wl_of [345, 347, 349, 351, 353] (by decide +kernel)
set_option maxRecDepth 20000 in
theorem wl_wsX20 : ∀ w ∈ wsX20, w ∈ lw_tbl := wl_of [373, 375, 377, 379, 381, 383, 385] (by decide +kernel)
set_option maxRecDepth 20000 in
theorem wl_wsX40 : ∀ w ∈ wsX40, w ∈ lw_tbl := wl_of [397, 399, 401] (by decide +kernel)
set_option maxRecDepth 20000 in
theorem wl_wsX00 : ∀ w ∈ wsX00, w ∈ lw_tbl := wl_of [208, 210, 212, 214, 216, 218, 220, 222, 224, 226, 228, 230, 232, 234, 236] (by decide +kernel)
def wlL : List (List Cond) := [wsL_law0_r1, wsL_law0_r2, wsL_law0_r3, wsL_law0_r4, wsL_law0_r5, wsL_law0_r6, wsL_law0_r7, wsL_law0_r8, wsL_law0_r9, wsL_law0_r10, wsL_law0_r11, wsL_law0_r12, wsL_law0_r13, wsL_law0_r14, wsL_law0_r15, wsL_law0_r16, wsL_law0_r17, wsL_law0_r18, wsL_law0_r19, wsL_law0_r20, wsL_law0_r21, wsL_law0_r22, wsL_law0_r23, wsL_law0_r24, wsL_law0_r25, wsL_law0_r26, wsL_law0_r27, wsL_law0_r28, wsL_law0_r29, wsL_law0_r30, wsL_law0_r31, wsL_law0_r32, wsL_law0_r33, wsL_law0_r34, wsL_law0_r35, wsL_law0_r36, wsL_law0_r37, wsL_law0_r38, wsL_law0_r39, wsL_law0_r40, wsL_law0_r41, wsL_law0_r42, wsL_law0_r43, wsL_law0_r44, wsL_law0_r45, wsL_law0_r46, wsL_law0_r47, wsL_law0_r48, wsL_law0_r49, wsL_law0_r50, wsL_law0_r51, wsL_law0_r52, wsL_law0_r53, wsL_law0_r54, wsL_law0_r55, wsL_law0_r56, wsL_law0_r57, wsL_law0_r58, wsX70, wsX80, wsX30, wsX50, wsX60, wsX10, wsX20, wsX40, wsX00]
def wlT : List Cond := wlL.flatten ++ (ax_atX RX7 352 "java/util/NoSuchElementException" 13 ax_rx13 "java/lang/RuntimeException" ["java/lang/Exception"]).filter goodWord
set_option maxRecDepth 20000 in
theorem wl_x0 : ∀ w ∈ (ax_atX RX7 352 "java/util/NoSuchElementException" 13 ax_rx13 "java/lang/RuntimeException" ["java/lang/Exception"]).filter goodWord, w ∈ lw_tbl := by decide +kernel
theorem wlL_in : ∀ c ∈ wlL, ∀ w ∈ c, w ∈ lw_tbl := by
  unfold wlL
  exact List.forall_mem_cons.mpr ⟨wl_wsL_law0_r1, List.forall_mem_cons.mpr ⟨wl_wsL_law0_r2, List.forall_mem_cons.mpr ⟨wl_wsL_law0_r3, List.forall_mem_cons.mpr ⟨wl_wsL_law0_r4, List.forall_mem_cons.mpr ⟨wl_wsL_law0_r5, List.forall_mem_cons.mpr ⟨wl_wsL_law0_r6, List.forall_mem_cons.mpr ⟨wl_wsL_law0_r7, List.forall_mem_cons.mpr ⟨wl_wsL_law0_r8, List.forall_mem_cons.mpr ⟨wl_wsL_law0_r9, List.forall_mem_cons.mpr ⟨wl_wsL_law0_r10, List.forall_mem_cons.mpr ⟨wl_wsL_law0_r11, List.forall_mem_cons.mpr ⟨wl_wsL_law0_r12, List.forall_mem_cons.mpr ⟨wl_wsL_law0_r13, List.forall_mem_cons.mpr ⟨wl_wsL_law0_r14, List.forall_mem_cons.mpr ⟨wl_wsL_law0_r15, List.forall_mem_cons.mpr ⟨wl_wsL_law0_r16, List.forall_mem_cons.mpr ⟨wl_wsL_law0_r17, List.forall_mem_cons.mpr ⟨wl_wsL_law0_r18, List.forall_mem_cons.mpr ⟨wl_wsL_law0_r19, List.forall_mem_cons.mpr ⟨wl_wsL_law0_r20, List.forall_mem_cons.mpr ⟨wl_wsL_law0_r21, List.forall_mem_cons.mpr ⟨wl_wsL_law0_r22, List.forall_mem_cons.mpr ⟨wl_wsL_law0_r23, List.forall_mem_cons.mpr ⟨wl_wsL_law0_r24, List.forall_mem_cons.mpr ⟨wl_wsL_law0_r25, List.forall_mem_cons.mpr ⟨wl_wsL_law0_r26, List.forall_mem_cons.mpr ⟨wl_wsL_law0_r27, List.forall_mem_cons.mpr ⟨wl_wsL_law0_r28, List.forall_mem_cons.mpr ⟨wl_wsL_law0_r29, List.forall_mem_cons.mpr ⟨wl_wsL_law0_r30, List.forall_mem_cons.mpr ⟨wl_wsL_law0_r31, List.forall_mem_cons.mpr ⟨wl_wsL_law0_r32, List.forall_mem_cons.mpr ⟨wl_wsL_law0_r33, List.forall_mem_cons.mpr ⟨wl_wsL_law0_r34, List.forall_mem_cons.mpr ⟨wl_wsL_law0_r35, List.forall_mem_cons.mpr ⟨wl_wsL_law0_r36, List.forall_mem_cons.mpr ⟨wl_wsL_law0_r37, List.forall_mem_cons.mpr ⟨wl_wsL_law0_r38, List.forall_mem_cons.mpr ⟨wl_wsL_law0_r39, List.forall_mem_cons.mpr ⟨wl_wsL_law0_r40, List.forall_mem_cons.mpr ⟨wl_wsL_law0_r41, List.forall_mem_cons.mpr ⟨wl_wsL_law0_r42, List.forall_mem_cons.mpr ⟨wl_wsL_law0_r43, List.forall_mem_cons.mpr ⟨wl_wsL_law0_r44, List.forall_mem_cons.mpr ⟨wl_wsL_law0_r45, List.forall_mem_cons.mpr ⟨wl_wsL_law0_r46, List.forall_mem_cons.mpr ⟨wl_wsL_law0_r47, List.forall_mem_cons.mpr ⟨wl_wsL_law0_r48, List.forall_mem_cons.mpr ⟨wl_wsL_law0_r49, List.forall_mem_cons.mpr ⟨wl_wsL_law0_r50, List.forall_mem_cons.mpr ⟨wl_wsL_law0_r51, List.forall_mem_cons.mpr ⟨wl_wsL_law0_r52, List.forall_mem_cons.mpr ⟨wl_wsL_law0_r53, List.forall_mem_cons.mpr ⟨wl_wsL_law0_r54, List.forall_mem_cons.mpr ⟨wl_wsL_law0_r55, List.forall_mem_cons.mpr ⟨wl_wsL_law0_r56, List.forall_mem_cons.mpr ⟨wl_wsL_law0_r57, List.forall_mem_cons.mpr ⟨wl_wsL_law0_r58, List.forall_mem_cons.mpr ⟨wl_wsX70, List.forall_mem_cons.mpr ⟨wl_wsX80, List.forall_mem_cons.mpr ⟨wl_wsX30, List.forall_mem_cons.mpr ⟨wl_wsX50, List.forall_mem_cons.mpr ⟨wl_wsX60, List.forall_mem_cons.mpr ⟨wl_wsX10, List.forall_mem_cons.mpr ⟨wl_wsX20, List.forall_mem_cons.mpr ⟨wl_wsX40, List.forall_mem_cons.mpr ⟨wl_wsX00, fun _ h => absurd h List.not_mem_nil⟩⟩⟩⟩⟩⟩⟩⟩⟩⟩⟩⟩⟩⟩⟩⟩⟩⟩⟩⟩⟩⟩⟩⟩⟩⟩⟩⟩⟩⟩⟩⟩⟩⟩⟩⟩⟩⟩⟩⟩⟩⟩⟩⟩⟩⟩⟩⟩⟩⟩⟩⟩⟩⟩⟩⟩⟩⟩⟩⟩⟩⟩⟩⟩⟩⟩⟩
theorem wlT_in : ∀ w ∈ wlT, w ∈ lw_tbl := by
  intro w h
  rcases List.mem_append.mp h with h | h
  · obtain ⟨c, hc, hw⟩ := List.mem_flatten.mp h
    exact wlL_in c hc w hw
  · exact wl_x0 w h
theorem wl_at {i j : Nat} {w : Cond} (h : (wlL[i]?).bind (fun c => c[j]?) = some w) : w ∈ wlT := by
  obtain ⟨c, hc, hj⟩ := Option.bind_eq_some_iff.mp h
  exact List.mem_append_left _ (List.mem_flatten.mpr ⟨c, List.mem_of_getElem? hc, List.mem_of_getElem? hj⟩)
theorem gd_of {ws : List Cond} (ps : List (Nat × Nat)) (h : ws = ps.filterMap (fun q => (wlL[q.1]?).bind (fun c => c[q.2]?))) (h2 : ws.all goodWord = true) : GoodIn wlT ws := by
  intro w hw
  have h1 := List.all_eq_true.mp h2 w hw
  rw [h] at hw
  obtain ⟨q, -, hq⟩ := List.mem_filterMap.mp hw
  exact ⟨wl_at hq, good_of_word h1⟩
theorem gd_x : GoodIn wlT ((ax_atX RX7 352 "java/util/NoSuchElementException" 13 ax_rx13 "java/lang/RuntimeException" ["java/lang/Exception"]).filter goodWord) := goodIn_sub (fun _ h => List.mem_append_right _ h) (by decide +kernel)
theorem inlX7 : ∀ w ∈ wsX70, w ∈ wlT := fun w h => List.mem_append_left _ (List.mem_flatten.mpr ⟨wsX70, List.mem_of_getElem? (i := 58) rfl, h⟩)
theorem inX7 : ∀ w ∈ wsX70, w ∈ lw_tbl := wl_wsX70
theorem inlX8 : ∀ w ∈ wsX80, w ∈ wlT := fun w h => List.mem_append_left _ (List.mem_flatten.mpr ⟨wsX80, List.mem_of_getElem? (i := 59) rfl, h⟩)
theorem inX8 : ∀ w ∈ wsX80, w ∈ lw_tbl := wl_wsX80
theorem inlX3 : ∀ w ∈ wsX30, w ∈ wlT := fun w h => List.mem_append_left _ (List.mem_flatten.mpr ⟨wsX30, List.mem_of_getElem? (i := 60) rfl, h⟩)
theorem inX3 : ∀ w ∈ wsX30, w ∈ lw_tbl := wl_wsX30
theorem inlX5 : ∀ w ∈ wsX50, w ∈ wlT := fun w h => List.mem_append_left _ (List.mem_flatten.mpr ⟨wsX50, List.mem_of_getElem? (i := 61) rfl, h⟩)
theorem inX5 : ∀ w ∈ wsX50, w ∈ lw_tbl := wl_wsX50
theorem inlX6 : ∀ w ∈ wsX60, w ∈ wlT := fun w h => List.mem_append_left _ (List.mem_flatten.mpr ⟨wsX60, List.mem_of_getElem? (i := 62) rfl, h⟩)
theorem inX6 : ∀ w ∈ wsX60, w ∈ lw_tbl := wl_wsX60
theorem inlX1 : ∀ w ∈ wsX10, w ∈ wlT := fun w h => List.mem_append_left _ (List.mem_flatten.mpr ⟨wsX10, List.mem_of_getElem? (i := 63) rfl, h⟩)
theorem inX1 : ∀ w ∈ wsX10, w ∈ lw_tbl := wl_wsX10
theorem inlX2 : ∀ w ∈ wsX20, w ∈ wlT := fun w h => List.mem_append_left _ (List.mem_flatten.mpr ⟨wsX20, List.mem_of_getElem? (i := 64) rfl, h⟩)
theorem inX2 : ∀ w ∈ wsX20, w ∈ lw_tbl := wl_wsX20
theorem inlX4 : ∀ w ∈ wsX40, w ∈ wlT := fun w h => List.mem_append_left _ (List.mem_flatten.mpr ⟨wsX40, List.mem_of_getElem? (i := 65) rfl, h⟩)
theorem inX4 : ∀ w ∈ wsX40, w ∈ lw_tbl := wl_wsX40
theorem inlX0 : ∀ w ∈ wsX00, w ∈ wlT := fun w h => List.mem_append_left _ (List.mem_flatten.mpr ⟨wsX00, List.mem_of_getElem? (i := 66) rfl, h⟩)
theorem inX0 : ∀ w ∈ wsX00, w ∈ lw_tbl := wl_wsX00
