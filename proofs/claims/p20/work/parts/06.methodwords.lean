/-! the words of the methods -/
def mhc_0 : List Nat := [159, 167, 210, 302, 306, 326, 389, 433, 493, 549, 604, 650, 684, 733, 737, 740, 743, 748, 752, 756, 759, 762, 765, 769, 773, 778, 783, 788, 793, 797, 801, 805, 809, 813, 817, 821, 825, 829, 833, 837]
def mhi_0 : List Nat := [158, 166, 209, 301, 305, 325, 388, 432, 492, 548, 603, 649, 683, 731, 735, 739, 742, 746, 750, 754, 758, 761, 764, 768, 771, 776, 781, 786, 791, 795, 800, 803, 808, 811, 815, 819, 823, 827, 831, 836]
def mhs_0 : List Nat := [0, 0, 0, 0, 0, 0, 0, 0, 0, 0, 0, 0, 0, 732, 736, 0, 0, 747, 751, 755, 0, 0, 0, 0, 772, 777, 782, 787, 792, 796, 1, 804, 2, 812, 816, 820, 824, 828, 832, 3]
set_option maxRecDepth 100000 in
set_option maxHeartbeats 4000000 in
theorem wc_0 : (List.range 40).map (fun k => (mhc_0[k]?).bind (fun h => lw_tbl[h]?)) = (List.range 40).map (fun k => (mt_0[k]?).map mcC) := rfl
set_option maxRecDepth 100000 in
set_option maxHeartbeats 4000000 in
theorem wi_0 : (List.range 40).map (fun k => (mhi_0[k]?).bind (fun h => lw_tbl[h]?)) = (List.range 40).map (fun k => (mt_0[k]?).map miC) := rfl
set_option maxRecDepth 100000 in
set_option maxHeartbeats 4000000 in
theorem wv_0 : (List.range 40).map (fun k => if ((mt_0[k]?).map mvi).getD true then none else (mhs_0[k]?).bind (fun h => lw_tbl[h]?)) = (List.range 40).map (fun k => if ((mt_0[k]?).map mvi).getD true then none else (mt_0[k]?).map msC) := rfl
set_option maxRecDepth 100000 in
set_option maxHeartbeats 4000000 in
theorem wn_0 : (mt_0.map (fun M => mN[M.1]?)) = mt_0.map (fun M => some M.2.1.cls) := rfl
set_option maxRecDepth 100000 in
set_option maxHeartbeats 4000000 in
theorem wd_0 : mt_0.all (fun M => decide ((parseMethodDescriptor M.2.1.desc).map (fun d => d.parameters.length + (bif M.2.2.2.2.2.1 then 0 else 1)) = some M.2.2.2.2.2.2.1) && decide (M.2.2.2.1 ≤ 40) && (bif M.2.2.2.2.2.1 then true else decide (M.1 < 13)) && (decide (M.2.2.2.2.2.2.2 = 99) || decide (M.2.2.2.2.2.2.2 = M.1))) = true := by decide +kernel
set_option maxRecDepth 100000 in
set_option maxHeartbeats 4000000 in
theorem we_0 : mt_0.map (fun M => if M.2.2.2.2.2.2.2 = 99 then "<init>" else M.2.1.name) = mt_0.map (fun _ => "<init>") := rfl
def mhc_1 : List Nat := [841, 845, 853, 857, 860, 864, 869, 873, 877, 881, 885, 889, 893, 898, 902, 907, 911, 915, 919, 923, 927, 932, 936, 940, 944, 948, 955, 959, 964, 968, 972, 975, 979, 984, 988, 993, 997, 1001, 1005, 1010]
def mhi_1 : List Nat := [839, 843, 852, 856, 859, 862, 867, 871, 875, 879, 883, 887, 891, 896, 900, 905, 909, 914, 917, 921, 925, 930, 934, 938, 942, 946, 954, 958, 962, 966, 970, 974, 977, 982, 986, 991, 995, 999, 1003, 1009]
def mhs_1 : List Nat := [840, 844, 4, 5, 0, 863, 868, 872, 876, 880, 884, 888, 892, 897, 901, 906, 910, 6, 918, 922, 926, 931, 935, 939, 943, 947, 7, 8, 963, 967, 971, 0, 978, 983, 987, 992, 996, 1000, 1004, 9]
set_option maxRecDepth 100000 in
set_option maxHeartbeats 4000000 in
theorem wc_1 : (List.range 40).map (fun k => (mhc_1[k]?).bind (fun h => lw_tbl[h]?)) = (List.range 40).map (fun k => (mt_1[k]?).map mcC) := rfl
set_option maxRecDepth 100000 in
set_option maxHeartbeats 4000000 in
theorem wi_1 : (List.range 40).map (fun k => (mhi_1[k]?).bind (fun h => lw_tbl[h]?)) = (List.range 40).map (fun k => (mt_1[k]?).map miC) := rfl
set_option maxRecDepth 100000 in
set_option maxHeartbeats 4000000 in
theorem wv_1 : (List.range 40).map (fun k => if ((mt_1[k]?).map mvi).getD true then none else (mhs_1[k]?).bind (fun h => lw_tbl[h]?)) = (List.range 40).map (fun k => if ((mt_1[k]?).map mvi).getD true then none else (mt_1[k]?).map msC) := rfl
set_option maxRecDepth 100000 in
set_option maxHeartbeats 4000000 in
theorem wn_1 : (mt_1.map (fun M => mN[M.1]?)) = mt_1.map (fun M => some M.2.1.cls) := rfl
set_option maxRecDepth 100000 in
set_option maxHeartbeats 4000000 in
theorem wd_1 : mt_1.all (fun M => decide ((parseMethodDescriptor M.2.1.desc).map (fun d => d.parameters.length + (bif M.2.2.2.2.2.1 then 0 else 1)) = some M.2.2.2.2.2.2.1) && decide (M.2.2.2.1 ≤ 40) && (bif M.2.2.2.2.2.1 then true else decide (M.1 < 13)) && (decide (M.2.2.2.2.2.2.2 = 99) || decide (M.2.2.2.2.2.2.2 = M.1))) = true := by decide +kernel
set_option maxRecDepth 100000 in
set_option maxHeartbeats 4000000 in
theorem we_1 : mt_1.map (fun M => if M.2.2.2.2.2.2.2 = 99 then "<init>" else M.2.1.name) = mt_1.map (fun _ => "<init>") := rfl
def mhc_2 : List Nat := [1014, 1018, 1022, 1027, 1031, 1035, 1039, 1044, 1048, 1052, 1056, 1060, 1064, 1068, 1072, 1076, 1081, 1134, 1138, 1142, 1147, 1151, 1155, 1159, 1163, 1167, 1171, 1175, 1179, 1183, 1187, 1191, 1195, 1199, 1214, 1218, 1223, 1228, 1232, 1239]
def mhi_2 : List Nat := [1012, 1016, 1021, 1026, 1030, 1034, 1037, 1042, 1046, 1050, 1054, 1058, 1062, 1067, 1071, 1075, 1080, 1133, 1137, 1141, 1146, 1150, 1154, 1158, 1162, 1166, 1170, 1174, 1178, 1182, 1186, 1190, 1193, 1198, 1212, 1216, 1221, 1226, 1231, 1237]
def mhs_2 : List Nat := [1013, 1017, 10, 11, 12, 13, 1038, 1043, 1047, 1051, 1055, 1059, 1063, 14, 15, 16, 17, 18, 19, 20, 21, 22, 23, 24, 25, 26, 27, 28, 29, 30, 31, 32, 1194, 0, 1213, 1217, 1222, 1227, 33, 1238]
set_option maxRecDepth 100000 in
set_option maxHeartbeats 4000000 in
theorem wc_2 : (List.range 40).map (fun k => (mhc_2[k]?).bind (fun h => lw_tbl[h]?)) = (List.range 40).map (fun k => (mt_2[k]?).map mcC) := rfl
set_option maxRecDepth 100000 in
set_option maxHeartbeats 4000000 in
theorem wi_2 : (List.range 40).map (fun k => (mhi_2[k]?).bind (fun h => lw_tbl[h]?)) = (List.range 40).map (fun k => (mt_2[k]?).map miC) := rfl
set_option maxRecDepth 100000 in
set_option maxHeartbeats 4000000 in
theorem wv_2 : (List.range 40).map (fun k => if ((mt_2[k]?).map mvi).getD true then none else (mhs_2[k]?).bind (fun h => lw_tbl[h]?)) = (List.range 40).map (fun k => if ((mt_2[k]?).map mvi).getD true then none else (mt_2[k]?).map msC) := rfl
set_option maxRecDepth 100000 in
set_option maxHeartbeats 4000000 in
theorem wn_2 : (mt_2.map (fun M => mN[M.1]?)) = mt_2.map (fun M => some M.2.1.cls) := rfl
set_option maxRecDepth 100000 in
set_option maxHeartbeats 4000000 in
theorem wd_2 : mt_2.all (fun M => decide ((parseMethodDescriptor M.2.1.desc).map (fun d => d.parameters.length + (bif M.2.2.2.2.2.1 then 0 else 1)) = some M.2.2.2.2.2.2.1) && decide (M.2.2.2.1 ≤ 40) && (bif M.2.2.2.2.2.1 then true else decide (M.1 < 13)) && (decide (M.2.2.2.2.2.2.2 = 99) || decide (M.2.2.2.2.2.2.2 = M.1))) = true := by decide +kernel
set_option maxRecDepth 100000 in
set_option maxHeartbeats 4000000 in
theorem we_2 : mt_2.map (fun M => if M.2.2.2.2.2.2.2 = 99 then "<init>" else M.2.1.name) = mt_2.map (fun _ => "<init>") := rfl
def mhc_3 : List Nat := [1243, 1247, 1251, 1255, 1259, 1264, 1267, 1271, 1275, 1279, 1284, 1288, 1292, 1297, 1302, 1306, 1310, 1314, 1318, 1322, 1326, 1330, 1336, 1340, 1344, 1349, 1355, 1361, 1365, 1369, 1373, 1377, 1381, 1386, 1390, 1394, 1398, 1402, 1406, 1412]
def mhi_3 : List Nat := [1241, 1246, 1249, 1254, 1258, 1263, 1266, 1270, 1273, 1277, 1282, 1287, 1290, 1295, 1300, 1304, 1308, 1312, 1316, 1320, 1324, 1328, 1334, 1338, 1342, 1347, 1354, 1360, 1364, 1367, 1371, 1375, 1380, 1384, 1388, 1392, 1396, 1400, 1404, 1410]
def mhs_3 : List Nat := [1242, 34, 1250, 35, 36, 37, 0, 38, 1274, 1278, 1283, 39, 1291, 1296, 1301, 1305, 1309, 1313, 1317, 1321, 1325, 1329, 1335, 1339, 1343, 1348, 40, 41, 42, 1368, 1372, 1376, 43, 1385, 1389, 1393, 1397, 1401, 1405, 1411]
set_option maxRecDepth 100000 in
set_option maxHeartbeats 4000000 in
theorem wc_3 : (List.range 40).map (fun k => (mhc_3[k]?).bind (fun h => lw_tbl[h]?)) = (List.range 40).map (fun k => (mt_3[k]?).map mcC) := rfl
set_option maxRecDepth 100000 in
set_option maxHeartbeats 4000000 in
theorem wi_3 : (List.range 40).map (fun k => (mhi_3[k]?).bind (fun h => lw_tbl[h]?)) = (List.range 40).map (fun k => (mt_3[k]?).map miC) := rfl
set_option maxRecDepth 100000 in
set_option maxHeartbeats 4000000 in
theorem wv_3 : (List.range 40).map (fun k => if ((mt_3[k]?).map mvi).getD true then none else (mhs_3[k]?).bind (fun h => lw_tbl[h]?)) = (List.range 40).map (fun k => if ((mt_3[k]?).map mvi).getD true then none else (mt_3[k]?).map msC) := rfl
set_option maxRecDepth 100000 in
set_option maxHeartbeats 4000000 in
theorem wn_3 : (mt_3.map (fun M => mN[M.1]?)) = mt_3.map (fun M => some M.2.1.cls) := rfl
set_option maxRecDepth 100000 in
set_option maxHeartbeats 4000000 in
theorem wd_3 : mt_3.all (fun M => decide ((parseMethodDescriptor M.2.1.desc).map (fun d => d.parameters.length + (bif M.2.2.2.2.2.1 then 0 else 1)) = some M.2.2.2.2.2.2.1) && decide (M.2.2.2.1 ≤ 40) && (bif M.2.2.2.2.2.1 then true else decide (M.1 < 13)) && (decide (M.2.2.2.2.2.2.2 = 99) || decide (M.2.2.2.2.2.2.2 = M.1))) = true := by decide +kernel
set_option maxRecDepth 100000 in
set_option maxHeartbeats 4000000 in
theorem we_3 : mt_3.map (fun M => if M.2.2.2.2.2.2.2 = 99 then "<init>" else M.2.1.name) = mt_3.map (fun _ => "<init>") := rfl
def mhc_4 : List Nat := [1416, 1420, 1424, 1429, 1433, 1438, 1442, 1446, 1451, 1455, 1459, 1465, 1471, 1478, 1481, 1485, 1489, 1493, 1497, 1502, 1505, 1510, 1514, 1518, 1523, 1529, 1533, 1537, 1542, 1546, 1550, 1554, 1561, 1565, 1570, 1574, 1578, 1583, 1587, 1591]
def mhi_4 : List Nat := [1414, 1418, 1422, 1427, 1431, 1437, 1440, 1444, 1449, 1453, 1458, 1464, 1470, 1477, 1480, 1483, 1487, 1491, 1495, 1501, 1504, 1509, 1512, 1516, 1521, 1527, 1532, 1536, 1540, 1544, 1548, 1552, 1559, 1563, 1569, 1573, 1577, 1582, 1585, 1589]
def mhs_4 : List Nat := [1415, 1419, 1423, 1428, 1432, 0, 1441, 1445, 1450, 1454, 44, 45, 46, 0, 0, 1484, 1488, 1492, 1496, 47, 0, 48, 1513, 1517, 1522, 1528, 49, 50, 1541, 1545, 1549, 1553, 1560, 1564, 51, 52, 53, 54, 1586, 1590]
set_option maxRecDepth 100000 in
set_option maxHeartbeats 4000000 in
theorem wc_4 : (List.range 40).map (fun k => (mhc_4[k]?).bind (fun h => lw_tbl[h]?)) = (List.range 40).map (fun k => (mt_4[k]?).map mcC) := rfl
set_option maxRecDepth 100000 in
set_option maxHeartbeats 4000000 in
theorem wi_4 : (List.range 40).map (fun k => (mhi_4[k]?).bind (fun h => lw_tbl[h]?)) = (List.range 40).map (fun k => (mt_4[k]?).map miC) := rfl
set_option maxRecDepth 100000 in
set_option maxHeartbeats 4000000 in
theorem wv_4 : (List.range 40).map (fun k => if ((mt_4[k]?).map mvi).getD true then none else (mhs_4[k]?).bind (fun h => lw_tbl[h]?)) = (List.range 40).map (fun k => if ((mt_4[k]?).map mvi).getD true then none else (mt_4[k]?).map msC) := rfl
set_option maxRecDepth 100000 in
set_option maxHeartbeats 4000000 in
theorem wn_4 : (mt_4.map (fun M => mN[M.1]?)) = mt_4.map (fun M => some M.2.1.cls) := rfl
set_option maxRecDepth 100000 in
set_option maxHeartbeats 4000000 in
theorem wd_4 : mt_4.all (fun M => decide ((parseMethodDescriptor M.2.1.desc).map (fun d => d.parameters.length + (bif M.2.2.2.2.2.1 then 0 else 1)) = some M.2.2.2.2.2.2.1) && decide (M.2.2.2.1 ≤ 40) && (bif M.2.2.2.2.2.1 then true else decide (M.1 < 13)) && (decide (M.2.2.2.2.2.2.2 = 99) || decide (M.2.2.2.2.2.2.2 = M.1))) = true := by decide +kernel
set_option maxRecDepth 100000 in
set_option maxHeartbeats 4000000 in
theorem we_4 : mt_4.map (fun M => if M.2.2.2.2.2.2.2 = 99 then "<init>" else M.2.1.name) = mt_4.map (fun _ => "<init>") := rfl
def mhc_5 : List Nat := [1595, 1599, 1604, 1608, 1612, 1616, 1621, 1627, 1632, 1636, 1640, 1646, 1650, 1654, 1658, 1662, 1666, 1670, 1675, 1679, 1683, 1687, 1692, 1695, 1699, 1705, 1709, 1714, 1719, 1723, 1727, 1731, 1735, 1739, 1744, 2082, 2085, 2089, 2094, 2098]
def mhi_5 : List Nat := [1593, 1597, 1602, 1606, 1610, 1614, 1620, 1626, 1630, 1634, 1639, 1645, 1649, 1653, 1657, 1660, 1664, 1668, 1673, 1677, 1681, 1685, 1690, 1694, 1697, 1703, 1707, 1712, 1717, 1721, 1725, 1729, 1733, 1737, 1743, 2080, 2084, 2088, 2093, 2096]
def mhs_5 : List Nat := [1594, 1598, 1603, 1607, 1611, 1615, 55, 56, 1631, 1635, 57, 58, 59, 60, 61, 1661, 1665, 1669, 1674, 1678, 1682, 1686, 1691, 0, 1698, 1704, 1708, 1713, 1718, 1722, 1726, 1730, 1734, 1738, 0, 2081, 0, 62, 63, 2097]
set_option maxRecDepth 100000 in
set_option maxHeartbeats 4000000 in
theorem wc_5 : (List.range 40).map (fun k => (mhc_5[k]?).bind (fun h => lw_tbl[h]?)) = (List.range 40).map (fun k => (mt_5[k]?).map mcC) := rfl
set_option maxRecDepth 100000 in
set_option maxHeartbeats 4000000 in
theorem wi_5 : (List.range 40).map (fun k => (mhi_5[k]?).bind (fun h => lw_tbl[h]?)) = (List.range 40).map (fun k => (mt_5[k]?).map miC) := rfl
set_option maxRecDepth 100000 in
set_option maxHeartbeats 4000000 in
theorem wv_5 : (List.range 40).map (fun k => if ((mt_5[k]?).map mvi).getD true then none else (mhs_5[k]?).bind (fun h => lw_tbl[h]?)) = (List.range 40).map (fun k => if ((mt_5[k]?).map mvi).getD true then none else (mt_5[k]?).map msC) := rfl
set_option maxRecDepth 100000 in
set_option maxHeartbeats 4000000 in
theorem wn_5 : (mt_5.map (fun M => mN[M.1]?)) = mt_5.map (fun M => some M.2.1.cls) := rfl
set_option maxRecDepth 100000 in
set_option maxHeartbeats 4000000 in
theorem wd_5 : mt_5.all (fun M => decide ((parseMethodDescriptor M.2.1.desc).map (fun d => d.parameters.length + (bif M.2.2.2.2.2.1 then 0 else 1)) = some M.2.2.2.2.2.2.1) && decide (M.2.2.2.1 ≤ 40) && (bif M.2.2.2.2.2.1 then true else decide (M.1 < 13)) && (decide (M.2.2.2.2.2.2.2 = 99) || decide (M.2.2.2.2.2.2.2 = M.1))) = true := by decide +kernel
set_option maxRecDepth 100000 in
set_option maxHeartbeats 4000000 in
theorem we_5 : mt_5.map (fun M => if M.2.2.2.2.2.2.2 = 99 then "<init>" else M.2.1.name) = mt_5.map (fun _ => "<init>") := rfl
def mhc_6 : List Nat := [2102, 2106, 2110, 2114, 2118, 2122, 2126, 2129, 2133, 2137, 2141, 2145, 2149, 2153, 2157, 2161, 2166, 2170, 2174, 2178, 2183, 2187, 2191, 2194, 2198, 2202, 2206, 2210, 2214, 2218, 2222, 2226, 2231, 2235, 2239, 2243, 2247, 2251, 2255, 2258]
def mhi_6 : List Nat := [2101, 2104, 2108, 2113, 2116, 2121, 2125, 2128, 2132, 2136, 2139, 2144, 2147, 2151, 2156, 2159, 2164, 2168, 2172, 2176, 2182, 2185, 2189, 2193, 2197, 2201, 2205, 2209, 2212, 2216, 2220, 2225, 2230, 2234, 2237, 2242, 2245, 2249, 2254, 2257]
def mhs_6 : List Nat := [64, 2105, 2109, 65, 2117, 66, 67, 0, 68, 69, 2140, 70, 2148, 2152, 71, 2160, 2165, 2169, 2173, 2177, 72, 2186, 2190, 0, 73, 74, 75, 76, 2213, 2217, 2221, 77, 78, 79, 2238, 80, 2246, 2250, 81, 0]
set_option maxRecDepth 100000 in
set_option maxHeartbeats 4000000 in
theorem wc_6 : (List.range 40).map (fun k => (mhc_6[k]?).bind (fun h => lw_tbl[h]?)) = (List.range 40).map (fun k => (mt_6[k]?).map mcC) := rfl
set_option maxRecDepth 100000 in
set_option maxHeartbeats 4000000 in
theorem wi_6 : (List.range 40).map (fun k => (mhi_6[k]?).bind (fun h => lw_tbl[h]?)) = (List.range 40).map (fun k => (mt_6[k]?).map miC) := rfl
set_option maxRecDepth 100000 in
set_option maxHeartbeats 4000000 in
theorem wv_6 : (List.range 40).map (fun k => if ((mt_6[k]?).map mvi).getD true then none else (mhs_6[k]?).bind (fun h => lw_tbl[h]?)) = (List.range 40).map (fun k => if ((mt_6[k]?).map mvi).getD true then none else (mt_6[k]?).map msC) := rfl
set_option maxRecDepth 100000 in
set_option maxHeartbeats 4000000 in
theorem wn_6 : (mt_6.map (fun M => mN[M.1]?)) = mt_6.map (fun M => some M.2.1.cls) := rfl
set_option maxRecDepth 100000 in
set_option maxHeartbeats 4000000 in
theorem wd_6 : mt_6.all (fun M => decide ((parseMethodDescriptor M.2.1.desc).map (fun d => d.parameters.length + (bif M.2.2.2.2.2.1 then 0 else 1)) = some M.2.2.2.2.2.2.1) && decide (M.2.2.2.1 ≤ 40) && (bif M.2.2.2.2.2.1 then true else decide (M.1 < 13)) && (decide (M.2.2.2.2.2.2.2 = 99) || decide (M.2.2.2.2.2.2.2 = M.1))) = true := by decide +kernel
set_option maxRecDepth 100000 in
set_option maxHeartbeats 4000000 in
theorem we_6 : mt_6.map (fun M => if M.2.2.2.2.2.2.2 = 99 then "<init>" else M.2.1.name) = mt_6.map (fun _ => "<init>") := rfl
def mhc_7 : List Nat := [2261, 2265, 2270, 2279, 2283, 2287, 2291, 2295, 2299, 2303, 2307, 2313, 2317, 2321, 2329, 2333, 2337, 2341, 2345, 2349, 2353, 2356, 2360, 2364, 2368, 2372, 2376, 2380, 2384, 2388, 2392, 2396, 2400, 2404, 2408, 2412, 2416, 2420, 2424, 2428]
def mhi_7 : List Nat := [2260, 2264, 2269, 2278, 2282, 2286, 2290, 2294, 2298, 2302, 2306, 2312, 2316, 2320, 2327, 2332, 2335, 2340, 2344, 2348, 2352, 2355, 2359, 2363, 2367, 2370, 2374, 2379, 2382, 2387, 2390, 2395, 2398, 2403, 2407, 2411, 2414, 2419, 2422, 2427]
def mhs_7 : List Nat := [0, 82, 83, 84, 85, 86, 87, 88, 89, 90, 91, 92, 93, 94, 2328, 95, 2336, 96, 97, 98, 99, 0, 100, 101, 102, 2371, 2375, 103, 2383, 104, 2391, 105, 2399, 106, 107, 108, 2415, 109, 2423, 110]
set_option maxRecDepth 100000 in
set_option maxHeartbeats 4000000 in
theorem wc_7 : (List.range 40).map (fun k => (mhc_7[k]?).bind (fun h => lw_tbl[h]?)) = (List.range 40).map (fun k => (mt_7[k]?).map mcC) := rfl
set_option maxRecDepth 100000 in
set_option maxHeartbeats 4000000 in
theorem wi_7 : (List.range 40).map (fun k => (mhi_7[k]?).bind (fun h => lw_tbl[h]?)) = (List.range 40).map (fun k => (mt_7[k]?).map miC) := rfl
set_option maxRecDepth 100000 in
set_option maxHeartbeats 4000000 in
theorem wv_7 : (List.range 40).map (fun k => if ((mt_7[k]?).map mvi).getD true then none else (mhs_7[k]?).bind (fun h => lw_tbl[h]?)) = (List.range 40).map (fun k => if ((mt_7[k]?).map mvi).getD true then none else (mt_7[k]?).map msC) := rfl
set_option maxRecDepth 100000 in
set_option maxHeartbeats 4000000 in
theorem wn_7 : (mt_7.map (fun M => mN[M.1]?)) = mt_7.map (fun M => some M.2.1.cls) := rfl
set_option maxRecDepth 100000 in
set_option maxHeartbeats 4000000 in
theorem wd_7 : mt_7.all (fun M => decide ((parseMethodDescriptor M.2.1.desc).map (fun d => d.parameters.length + (bif M.2.2.2.2.2.1 then 0 else 1)) = some M.2.2.2.2.2.2.1) && decide (M.2.2.2.1 ≤ 40) && (bif M.2.2.2.2.2.1 then true else decide (M.1 < 13)) && (decide (M.2.2.2.2.2.2.2 = 99) || decide (M.2.2.2.2.2.2.2 = M.1))) = true := by decide +kernel
set_option maxRecDepth 100000 in
set_option maxHeartbeats 4000000 in
theorem we_7 : mt_7.map (fun M => if M.2.2.2.2.2.2.2 = 99 then "<init>" else M.2.1.name) = mt_7.map (fun _ => "<init>") := rfl
def mhc_8 : List Nat := [2432, 2436, 2440, 2444, 2448, 2452, 2456, 2460, 2464, 2468, 2472, 2476, 2484, 2488, 2492, 2496, 2500, 2504, 2508, 2512, 2516, 2520, 2524, 2528, 2532, 2536, 2540, 2544, 2548, 2552, 2556, 2560, 2564, 2568, 2572, 2576, 2580, 2584, 2588, 2592]
def mhi_8 : List Nat := [2430, 2434, 2438, 2443, 2446, 2451, 2455, 2458, 2462, 2466, 2471, 2475, 2482, 2486, 2490, 2495, 2499, 2502, 2506, 2510, 2515, 2518, 2522, 2526, 2530, 2535, 2539, 2542, 2547, 2551, 2555, 2559, 2563, 2567, 2571, 2575, 2579, 2583, 2587, 2591]
def mhs_8 : List Nat := [2431, 2435, 2439, 111, 2447, 112, 113, 2459, 2463, 2467, 114, 115, 2483, 2487, 2491, 116, 117, 2503, 2507, 2511, 118, 2519, 2523, 2527, 2531, 119, 120, 2543, 121, 122, 123, 124, 125, 126, 127, 128, 129, 130, 131, 132]
set_option maxRecDepth 100000 in
set_option maxHeartbeats 4000000 in
theorem wc_8 : (List.range 40).map (fun k => (mhc_8[k]?).bind (fun h => lw_tbl[h]?)) = (List.range 40).map (fun k => (mt_8[k]?).map mcC) := rfl
set_option maxRecDepth 100000 in
set_option maxHeartbeats 4000000 in
theorem wi_8 : (List.range 40).map (fun k => (mhi_8[k]?).bind (fun h => lw_tbl[h]?)) = (List.range 40).map (fun k => (mt_8[k]?).map miC) := rfl
set_option maxRecDepth 100000 in
set_option maxHeartbeats 4000000 in
theorem wv_8 : (List.range 40).map (fun k => if ((mt_8[k]?).map mvi).getD true then none else (mhs_8[k]?).bind (fun h => lw_tbl[h]?)) = (List.range 40).map (fun k => if ((mt_8[k]?).map mvi).getD true then none else (mt_8[k]?).map msC) := rfl
set_option maxRecDepth 100000 in
set_option maxHeartbeats 4000000 in
theorem wn_8 : (mt_8.map (fun M => mN[M.1]?)) = mt_8.map (fun M => some M.2.1.cls) := rfl
set_option maxRecDepth 100000 in
set_option maxHeartbeats 4000000 in
theorem wd_8 : mt_8.all (fun M => decide ((parseMethodDescriptor M.2.1.desc).map (fun d => d.parameters.length + (bif M.2.2.2.2.2.1 then 0 else 1)) = some M.2.2.2.2.2.2.1) && decide (M.2.2.2.1 ≤ 40) && (bif M.2.2.2.2.2.1 then true else decide (M.1 < 13)) && (decide (M.2.2.2.2.2.2.2 = 99) || decide (M.2.2.2.2.2.2.2 = M.1))) = true := by decide +kernel
set_option maxRecDepth 100000 in
set_option maxHeartbeats 4000000 in
theorem we_8 : mt_8.map (fun M => if M.2.2.2.2.2.2.2 = 99 then "<init>" else M.2.1.name) = mt_8.map (fun _ => "<init>") := rfl
def mhc_9 : List Nat := [2596, 2600, 2603, 2607, 2611, 2615, 2619, 2624, 2628, 2632, 2636]
def mhi_9 : List Nat := [2594, 2598, 2602, 2605, 2609, 2614, 2617, 2622, 2626, 2630, 2634]
def mhs_9 : List Nat := [2595, 2599, 0, 2606, 2610, 133, 2618, 2623, 2627, 2631, 2635]
set_option maxRecDepth 100000 in
set_option maxHeartbeats 4000000 in
theorem wc_9 : (List.range 11).map (fun k => (mhc_9[k]?).bind (fun h => lw_tbl[h]?)) = (List.range 11).map (fun k => (mt_9[k]?).map mcC) := rfl
set_option maxRecDepth 100000 in
set_option maxHeartbeats 4000000 in
theorem wi_9 : (List.range 11).map (fun k => (mhi_9[k]?).bind (fun h => lw_tbl[h]?)) = (List.range 11).map (fun k => (mt_9[k]?).map miC) := rfl
set_option maxRecDepth 100000 in
set_option maxHeartbeats 4000000 in
theorem wv_9 : (List.range 11).map (fun k => if ((mt_9[k]?).map mvi).getD true then none else (mhs_9[k]?).bind (fun h => lw_tbl[h]?)) = (List.range 11).map (fun k => if ((mt_9[k]?).map mvi).getD true then none else (mt_9[k]?).map msC) := rfl
set_option maxRecDepth 100000 in
set_option maxHeartbeats 4000000 in
theorem wn_9 : (mt_9.map (fun M => mN[M.1]?)) = mt_9.map (fun M => some M.2.1.cls) := rfl
set_option maxRecDepth 100000 in
set_option maxHeartbeats 4000000 in
theorem wd_9 : mt_9.all (fun M => decide ((parseMethodDescriptor M.2.1.desc).map (fun d => d.parameters.length + (bif M.2.2.2.2.2.1 then 0 else 1)) = some M.2.2.2.2.2.2.1) && decide (M.2.2.2.1 ≤ 40) && (bif M.2.2.2.2.2.1 then true else decide (M.1 < 13)) && (decide (M.2.2.2.2.2.2.2 = 99) || decide (M.2.2.2.2.2.2.2 = M.1))) = true := by decide +kernel
set_option maxRecDepth 100000 in
set_option maxHeartbeats 4000000 in
theorem we_9 : mt_9.map (fun M => if M.2.2.2.2.2.2.2 = 99 then "<init>" else M.2.1.name) = mt_9.map (fun _ => "<init>") := rfl
