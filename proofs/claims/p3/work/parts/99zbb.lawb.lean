set_option maxRecDepth 100000 in
theorem wsL_r28 : ∀ w ∈ wsL_law0_r28, w ∈ lw_tbl := sj_mem_r _ [1534, 1535, 1397, 1399, 68, 1400, 1401, 1403, 69, 1404, 1405, 1407, 70, 1408, 1409, 1411, 71, 1412, 1413, 1415, 72, 1416, 1417, 1419] (by decide +kernel)
set_option maxRecDepth 100000 in
theorem wsL_r29 : ∀ w ∈ wsL_law0_r29, w ∈ lw_tbl := sj_mem_r _ [73, 1420, 1421, 1423, 74, 1424, 1425, 1426, 1427, 1207, 1208, 1209, 1210, 1211, 1212, 1213, 572, 1214, 1215, 1216, 1217, 549, 168, 164] (by decide +kernel)
set_option maxRecDepth 100000 in
theorem wsL_r30 : ∀ w ∈ wsL_law0_r30, w ∈ lw_tbl := sj_mem_r _ [551, 550, 1218, 654, 655, 656, 657, 659, 2, 660, 661, 663, 3, 664, 665, 667, 4, 668, 1428, 1429, 1430, 1431, 1547, 1432] (by decide +kernel)
set_option maxRecDepth 100000 in
theorem wsL_r31 : ∀ w ∈ wsL_law0_r31, w ∈ lw_tbl := sj_mem_r _ [1434, 75, 1435, 1545, 1546, 1436, 1438, 76, 1439, 1440, 1442, 77, 1443, 1444, 1446, 78, 1447, 1448, 1450, 79, 1451, 1452, 1453, 1454] (by decide +kernel)
set_option maxRecDepth 100000 in
theorem wsL_r32 : ∀ w ∈ wsL_law0_r32, w ∈ lw_tbl := sj_mem_r _ [1455, 1457, 80, 1458, 1219, 1220, 1221, 1222, 1223, 1224, 1225, 380, 378, 355, 653, 1459, 1460, 1461, 1462, 1463, 1465, 81, 1466, 1467] (by decide +kernel)
set_option maxRecDepth 100000 in
theorem wsL_r33 : ∀ w ∈ wsL_law0_r33, w ∈ lw_tbl := sj_mem_r _ [1469, 82, 1470, 613, 614, 615, 616, 617, 618, 619, 620, 621, 1471, 1472, 1473, 1474, 1226, 1227, 1228, 1229, 1230, 1231, 1232, 350] (by decide +kernel)
set_option maxRecDepth 100000 in
theorem wsL_r34 : ∀ w ∈ wsL_law0_r34, w ∈ lw_tbl := sj_mem_r _ [196, 353, 253, 357, 781, 782, 783, 784, 716, 718, 9, 719, 1900, 1901, 1902, 1903, 1772, 1774, 89, 1775, 1776, 1778, 90, 1779] (by decide +kernel)
set_option maxRecDepth 100000 in
theorem wsL_r35 : ∀ w ∈ wsL_law0_r35, w ∈ lw_tbl := sj_mem_r _ [1780, 1781, 1782, 1233, 1234, 1235, 1236, 1237, 1238, 1239, 206, 372, 1240, 1241, 1242, 1243, 1244, 1245, 713, 714, 715, 283, 789, 790] (by decide +kernel)
set_option maxRecDepth 100000 in
theorem wsL_r36 : ∀ w ∈ wsL_law0_r36, w ∈ lw_tbl := sj_mem_r _ [791, 792, 207, 209, 730, 735, 737, 11, 738, 173, 265, 166, 246, 249, 739, 741, 12, 742, 251, 743, 744, 745, 746, 747] (by decide +kernel)
set_option maxRecDepth 100000 in
theorem wsL_r37 : ∀ w ∈ wsL_law0_r37, w ∈ lw_tbl := sj_mem_r _ [1246, 793, 795, 16, 796, 797, 798, 799, 800, 801, 803, 17, 804, 809, 811, 19, 812, 813, 815, 20, 816, 817, 819, 21] (by decide +kernel)
set_option maxRecDepth 100000 in
theorem wsL_r38 : ∀ w ∈ wsL_law0_r38, w ∈ lw_tbl := sj_mem_r _ [820, 821, 757, 758, 759, 822, 824, 22, 825, 826, 827, 828, 829, 1247, 1249, 49, 1250, 1904, 1905, 1906, 1907, 1520, 1908, 1910] (by decide +kernel)
set_option maxRecDepth 100000 in
theorem wsL_r39 : ∀ w ∈ wsL_law0_r39, w ∈ lw_tbl := sj_mem_r _ [119, 1911, 1795, 1797, 94, 1798, 1799, 1801, 95, 1802, 1791, 1793, 93, 1794, 1803, 1805, 96, 1806, 1807, 1809, 97, 1810, 1811, 1813] (by decide +kernel)
set_option maxRecDepth 100000 in
theorem wsL_r40 : ∀ w ∈ wsL_law0_r40, w ∈ lw_tbl := sj_mem_r _ [98, 1814, 1872, 1874, 112, 1875, 1876, 1878, 113, 1879, 1880, 1882, 114, 1883, 1537, 1884, 1886, 115, 1887, 1888, 1890, 116, 1891, 1852] (by decide +kernel)
set_option maxRecDepth 100000 in
theorem wsL_r41 : ∀ w ∈ wsL_law0_r41, w ∈ lw_tbl := sj_mem_r _ [1854, 107, 1855, 1892, 1894, 117, 1895, 1848, 1850, 106, 1851, 1856, 1858, 108, 1859, 1896, 1898, 118, 1899, 1251, 1252, 1253, 1254, 1255] (by decide +kernel)
set_option maxRecDepth 100000 in
theorem wsL_r42 : ∀ w ∈ wsL_law0_r42, w ∈ lw_tbl := sj_mem_r _ [1256, 1257, 512, 515, 1258, 686, 687, 688, 830, 831, 832, 833, 834, 835, 837, 23, 838, 839, 841, 24, 842, 1912, 1913, 1914] (by decide +kernel)
set_option maxRecDepth 100000 in
theorem wsL_r43 : ∀ w ∈ wsL_law0_r43, w ∈ lw_tbl := sj_mem_r _ [1915, 1259, 1260, 1261, 1262, 1263, 1264, 1265, 375, 1266, 727, 728, 729, 1267, 732, 733, 734, 1916, 1917, 1918, 1919, 1844, 1846, 105] (by decide +kernel)
set_option maxRecDepth 100000 in
theorem wsL_r44 : ∀ w ∈ wsL_law0_r44, w ∈ lw_tbl := sj_mem_r _ [1847, 1268, 1269, 1270, 1271, 1272, 1273, 1274, 464, 1275, 1276, 1277, 1278, 460, 461, 463, 465, 466, 467, 468, 439, 1279, 1280, 1281] (by decide +kernel)
set_option maxRecDepth 100000 in
theorem wsL_r45 : ∀ w ∈ wsL_law0_r45, w ∈ lw_tbl := sj_mem_r _ [1282, 776, 646, 647, 648, 471, 848, 849, 850, 851, 645, 1740, 1741, 1742, 1743, 1557, 1558, 1559, 1560, 1555, 1744, 1746, 83, 1747] (by decide +kernel)
set_option maxRecDepth 100000 in
theorem wsL_r46 : ∀ w ∈ wsL_law0_r46, w ∈ lw_tbl := sj_mem_r _ [1561, 1748, 1750, 84, 1751, 1752, 1754, 85, 1755, 625, 626, 627, 628, 459, 629, 630, 631, 632, 424, 633, 635, 0, 636, 426] (by decide +kernel)
set_option maxRecDepth 100000 in
theorem wsL_r47 : ∀ w ∈ wsL_law0_r47, w ∈ lw_tbl := sj_mem_r _ [428, 431, 434, 637, 638, 639, 640, 422, 641, 642, 643, 644, 427, 429, 432, 435, 649, 651, 1, 652, 669, 671, 5, 672] (by decide +kernel)
set_option maxRecDepth 100000 in
theorem wsL_r48 : ∀ w ∈ wsL_law0_r48, w ∈ lw_tbl := sj_mem_r _ [673, 674, 675, 676, 438, 371, 436, 440, 677, 679, 6, 680, 681, 682, 683, 684, 685, 689, 690, 691, 692, 702, 693, 694] (by decide +kernel)
set_option maxRecDepth 100000 in
theorem wsL_r49 : ∀ w ∈ wsL_law0_r49, w ∈ lw_tbl := sj_mem_r _ [695, 696, 697, 703, 705, 7, 706, 514, 707, 708, 710, 8, 711, 377, 425, 430, 204, 374, 712, 720, 722, 10, 723, 724] (by decide +kernel)
set_option maxRecDepth 100000 in
theorem wsL_r50 : ∀ w ∈ wsL_law0_r50, w ∈ lw_tbl := sj_mem_r _ [725, 726, 731, 748, 750, 13, 751, 172, 752, 753, 754, 755, 756, 760, 761, 763, 14, 764, 765, 768, 771, 772, 773, 774] (by decide +kernel)
set_option maxRecDepth 100000 in
theorem wsL_r51 : ∀ w ∈ wsL_law0_r51, w ∈ lw_tbl := sj_mem_r _ [775, 777, 778, 779, 780, 785, 787, 15, 788, 843, 844, 845, 846, 433, 847, 1756, 1757, 1758, 1759, 1760, 1762, 86, 1763, 1764] (by decide +kernel)
set_option maxRecDepth 100000 in
theorem wsL_r52 : ∀ w ∈ wsL_law0_r52, w ∈ lw_tbl := sj_mem_r _ [1766, 87, 1767, 1768, 1770, 88, 1771, 1783, 1785, 91, 1786, 1787, 1789, 92, 1790, 1554, 1815, 1817, 99, 1818, 1819, 1821, 100, 1822] (by decide +kernel)
set_option maxRecDepth 100000 in
theorem wsL_r53 : ∀ w ∈ wsL_law0_r53, w ∈ lw_tbl := sj_mem_r _ [1823, 1825, 101, 1826, 1831, 1832, 1833, 1827, 1829, 102, 1830, 1834, 1836, 103, 1837, 1838, 1839, 1840, 1842, 104, 1843, 1860, 1862, 109] (by decide +kernel)
set_option maxRecDepth 100000 in
theorem wsL_r54 : ∀ w ∈ wsL_law0_r54, w ∈ lw_tbl := sj_mem_r _ [1863, 1864, 1866, 110, 1867, 1868, 1870, 111, 1871, 852, 853, 854, 855, 856, 857, 858, 859, 1920, 1921, 1922, 1923, 860, 861, 862] (by decide +kernel)
set_option maxRecDepth 100000 in
theorem wsL_r55 : ∀ w ∈ wsL_law0_r55, w ∈ lw_tbl := sj_mem_r _ [863, 437, 1924, 1925, 1926, 1927, 864, 865, 866, 867, 267, 472, 1928, 1929, 1930, 1931] (by decide +kernel)
