set_option maxRecDepth 100000 in
theorem wsL_r28 : ∀ w ∈ wsL_law0_r28, w ∈ lw_tbl := sj_mem_r _ [68, 1396, 1397, 1399, 69, 1400, 1401, 1403, 70, 1404, 1405, 1407, 71, 1408, 1409, 1411, 72, 1412, 1413, 1415, 73, 1416, 1417, 1419] (by decide +kernel)
set_option maxRecDepth 100000 in
theorem wsL_r29 : ∀ w ∈ wsL_law0_r29, w ∈ lw_tbl := sj_mem_r _ [74, 1420, 1421, 1422, 1423, 1207, 1208, 1209, 1210, 1211, 1212, 1213, 572, 1214, 1215, 1216, 1217, 549, 168, 164, 551, 550, 1218, 654] (by decide +kernel)
set_option maxRecDepth 100000 in
theorem wsL_r30 : ∀ w ∈ wsL_law0_r30, w ∈ lw_tbl := sj_mem_r _ [655, 656, 657, 659, 2, 660, 661, 663, 3, 664, 665, 667, 4, 668, 1424, 1425, 1426, 1427, 1543, 1428, 1430, 75, 1431, 1541] (by decide +kernel)
set_option maxRecDepth 100000 in
theorem wsL_r31 : ∀ w ∈ wsL_law0_r31, w ∈ lw_tbl := sj_mem_r _ [1542, 1432, 1434, 76, 1435, 1436, 1438, 77, 1439, 1440, 1442, 78, 1443, 1444, 1446, 79, 1447, 1448, 1449, 1450, 1451, 1453, 80, 1454] (by decide +kernel)
set_option maxRecDepth 100000 in
theorem wsL_r32 : ∀ w ∈ wsL_law0_r32, w ∈ lw_tbl := sj_mem_r _ [1219, 1220, 1221, 1222, 1223, 1224, 1225, 380, 378, 355, 653, 1455, 1456, 1457, 1458, 1459, 1461, 81, 1462, 1463, 1465, 82, 1466, 613] (by decide +kernel)
set_option maxRecDepth 100000 in
theorem wsL_r33 : ∀ w ∈ wsL_law0_r33, w ∈ lw_tbl := sj_mem_r _ [614, 615, 616, 617, 618, 619, 620, 621, 1467, 1468, 1469, 1470, 1226, 1227, 1228, 1229, 1230, 1231, 1232, 350, 196, 353, 253, 357] (by decide +kernel)
set_option maxRecDepth 100000 in
theorem wsL_r34 : ∀ w ∈ wsL_law0_r34, w ∈ lw_tbl := sj_mem_r _ [781, 782, 783, 784, 716, 718, 9, 719, 1896, 1897, 1898, 1899, 1768, 1770, 89, 1771, 1772, 1774, 90, 1775, 1776, 1777, 1778, 1233] (by decide +kernel)
set_option maxRecDepth 100000 in
theorem wsL_r35 : ∀ w ∈ wsL_law0_r35, w ∈ lw_tbl := sj_mem_r _ [1234, 1235, 1236, 1237, 1238, 1239, 206, 372, 1240, 1241, 1242, 1243, 1244, 1245, 713, 714, 715, 283, 789, 790, 791, 792, 207, 209] (by decide +kernel)
set_option maxRecDepth 100000 in
theorem wsL_r36 : ∀ w ∈ wsL_law0_r36, w ∈ lw_tbl := sj_mem_r _ [730, 735, 737, 11, 738, 173, 265, 166, 246, 249, 739, 741, 12, 742, 251, 743, 744, 745, 746, 747, 1246, 793, 795, 16] (by decide +kernel)
set_option maxRecDepth 100000 in
theorem wsL_r37 : ∀ w ∈ wsL_law0_r37, w ∈ lw_tbl := sj_mem_r _ [796, 797, 798, 799, 800, 801, 803, 17, 804, 809, 811, 19, 812, 813, 815, 20, 816, 817, 819, 21, 820, 821, 757, 758] (by decide +kernel)
set_option maxRecDepth 100000 in
theorem wsL_r38 : ∀ w ∈ wsL_law0_r38, w ∈ lw_tbl := sj_mem_r _ [759, 822, 824, 22, 825, 826, 827, 828, 829, 1247, 1249, 49, 1250, 1900, 1901, 1902, 1903, 1516, 1904, 1906, 119, 1907, 1791, 1793] (by decide +kernel)
set_option maxRecDepth 100000 in
theorem wsL_r39 : ∀ w ∈ wsL_law0_r39, w ∈ lw_tbl := sj_mem_r _ [94, 1794, 1795, 1797, 95, 1798, 1787, 1789, 93, 1790, 1799, 1801, 96, 1802, 1803, 1805, 97, 1806, 1807, 1809, 98, 1810, 1868, 1870] (by decide +kernel)
set_option maxRecDepth 100000 in
theorem wsL_r40 : ∀ w ∈ wsL_law0_r40, w ∈ lw_tbl := sj_mem_r _ [112, 1871, 1872, 1874, 113, 1875, 1876, 1878, 114, 1879, 1533, 1880, 1882, 115, 1883, 1884, 1886, 116, 1887, 1848, 1850, 107, 1851, 1888] (by decide +kernel)
set_option maxRecDepth 100000 in
theorem wsL_r41 : ∀ w ∈ wsL_law0_r41, w ∈ lw_tbl := sj_mem_r _ [1890, 117, 1891, 1844, 1846, 106, 1847, 1852, 1854, 108, 1855, 1892, 1894, 118, 1895, 1251, 1252, 1253, 1254, 1255, 1256, 1257, 512, 515] (by decide +kernel)
set_option maxRecDepth 100000 in
theorem wsL_r42 : ∀ w ∈ wsL_law0_r42, w ∈ lw_tbl := sj_mem_r _ [1258, 686, 687, 688, 830, 831, 832, 833, 834, 835, 837, 23, 838, 839, 841, 24, 842, 1908, 1909, 1910, 1911, 1259, 1260, 1261] (by decide +kernel)
set_option maxRecDepth 100000 in
theorem wsL_r43 : ∀ w ∈ wsL_law0_r43, w ∈ lw_tbl := sj_mem_r _ [1262, 1263, 1264, 1265, 375, 1266, 727, 728, 729, 1267, 732, 733, 734, 1912, 1913, 1914, 1915, 1840, 1842, 105, 1843, 1268, 1269, 1270] (by decide +kernel)
set_option maxRecDepth 100000 in
theorem wsL_r44 : ∀ w ∈ wsL_law0_r44, w ∈ lw_tbl := sj_mem_r _ [1271, 1272, 1273, 1274, 464, 1275, 1276, 1277, 1278, 460, 461, 463, 465, 466, 467, 468, 439, 1279, 1280, 1281, 1282, 776, 646, 647] (by decide +kernel)
set_option maxRecDepth 100000 in
theorem wsL_r45 : ∀ w ∈ wsL_law0_r45, w ∈ lw_tbl := sj_mem_r _ [648, 471, 848, 849, 850, 851, 645, 1736, 1737, 1738, 1739, 1553, 1554, 1555, 1556, 1551, 1740, 1742, 83, 1743, 1557, 1744, 1746, 84] (by decide +kernel)
set_option maxRecDepth 100000 in
theorem wsL_r46 : ∀ w ∈ wsL_law0_r46, w ∈ lw_tbl := sj_mem_r _ [1747, 1748, 1750, 85, 1751, 625, 626, 627, 628, 459, 629, 630, 631, 632, 424, 633, 635, 0, 636, 426, 428, 431, 434, 637] (by decide +kernel)
set_option maxRecDepth 100000 in
theorem wsL_r47 : ∀ w ∈ wsL_law0_r47, w ∈ lw_tbl := sj_mem_r _ [638, 639, 640, 422, 641, 642, 643, 644, 427, 429, 432, 435, 649, 651, 1, 652, 669, 671, 5, 672, 673, 674, 675, 676] (by decide +kernel)
set_option maxRecDepth 100000 in
theorem wsL_r48 : ∀ w ∈ wsL_law0_r48, w ∈ lw_tbl := sj_mem_r _ [438, 371, 436, 440, 677, 679, 6, 680, 681, 682, 683, 684, 685, 689, 690, 691, 692, 702, 693, 694, 695, 696, 697, 703] (by decide +kernel)
set_option maxRecDepth 100000 in
theorem wsL_r49 : ∀ w ∈ wsL_law0_r49, w ∈ lw_tbl := sj_mem_r _ [705, 7, 706, 514, 707, 708, 710, 8, 711, 377, 425, 430, 204, 374, 712, 720, 722, 10, 723, 724, 725, 726, 731, 748] (by decide +kernel)
set_option maxRecDepth 100000 in
theorem wsL_r50 : ∀ w ∈ wsL_law0_r50, w ∈ lw_tbl := sj_mem_r _ [750, 13, 751, 172, 752, 753, 754, 755, 756, 760, 761, 763, 14, 764, 765, 768, 771, 772, 773, 774, 775, 777, 778, 779] (by decide +kernel)
set_option maxRecDepth 100000 in
theorem wsL_r51 : ∀ w ∈ wsL_law0_r51, w ∈ lw_tbl := sj_mem_r _ [780, 785, 787, 15, 788, 843, 844, 845, 846, 433, 847, 1752, 1753, 1754, 1755, 1756, 1758, 86, 1759, 1760, 1762, 87, 1763, 1764] (by decide +kernel)
set_option maxRecDepth 100000 in
theorem wsL_r52 : ∀ w ∈ wsL_law0_r52, w ∈ lw_tbl := sj_mem_r _ [1766, 88, 1767, 1779, 1781, 91, 1782, 1783, 1785, 92, 1786, 1550, 1811, 1813, 99, 1814, 1815, 1817, 100, 1818, 1819, 1821, 101, 1822] (by decide +kernel)
set_option maxRecDepth 100000 in
theorem wsL_r53 : ∀ w ∈ wsL_law0_r53, w ∈ lw_tbl := sj_mem_r _ [1827, 1828, 1829, 1823, 1825, 102, 1826, 1830, 1832, 103, 1833, 1834, 1835, 1836, 1838, 104, 1839, 1856, 1858, 109, 1859, 1860, 1862, 110] (by decide +kernel)
set_option maxRecDepth 100000 in
theorem wsL_r54 : ∀ w ∈ wsL_law0_r54, w ∈ lw_tbl := sj_mem_r _ [1863, 1864, 1866, 111, 1867, 852, 853, 854, 855, 856, 857, 858, 859, 1916, 1917, 1918, 1919, 860, 861, 862, 863, 437, 1920, 1921] (by decide +kernel)
set_option maxRecDepth 100000 in
theorem wsL_r55 : ∀ w ∈ wsL_law0_r55, w ∈ lw_tbl := sj_mem_r _ [1922, 1923, 864, 865, 866, 867, 267, 472, 1924, 1925, 1926, 1927] (by decide +kernel)
