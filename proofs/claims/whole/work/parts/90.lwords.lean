/-! The words that the law needs, in the tables by their places. -/
set_option maxRecDepth 20000 in
theorem lin_r1 : ∀ w ∈ wsL_law0_r1, w ∈ lw_tbl := fun w h => (goodIn_r (big := lw_tbl) wsL_law0_r1 [78, 79, 57, 1094, 1095, 64, 1570, 1571, 80, 81, 82, 83, 84, 85, 86, 87, 58, 267, 114, 115, 59, 268, 140, 141] (by decide +kernel) (by decide +kernel) w h).1
set_option maxRecDepth 20000 in
theorem lin_r2 : ∀ w ∈ wsL_law0_r2, w ∈ lw_tbl := fun w h => (goodIn_r (big := lw_tbl) wsL_law0_r2 [60, 269, 167, 168, 61, 270, 203, 204, 62, 271, 242, 243, 63, 272, 273, 274, 275, 89, 90, 91, 112, 92, 93, 95] (by decide +kernel) (by decide +kernel) w h).1
set_option maxRecDepth 20000 in
theorem lin_r3 : ∀ w ∈ wsL_law0_r3, w ∈ lw_tbl := fun w h => (goodIn_r (big := lw_tbl) wsL_law0_r3 [113, 97, 99, 117, 118, 119, 120, 121, 123, 125, 127, 143, 144, 145, 146, 148, 150, 152, 154, 170, 171, 172, 173, 175] (by decide +kernel) (by decide +kernel) w h).1
set_option maxRecDepth 20000 in
theorem lin_r4 : ∀ w ∈ wsL_law0_r4, w ∈ lw_tbl := fun w h => (goodIn_r (big := lw_tbl) wsL_law0_r4 [177, 202, 179, 181, 183, 185, 206, 207, 208, 209, 211, 213, 215, 217, 219, 221, 223, 245, 246, 247, 248, 250, 251, 252] (by decide +kernel) (by decide +kernel) w h).1
set_option maxRecDepth 20000 in
theorem lin_r5 : ∀ w ∈ wsL_law0_r5, w ∈ lw_tbl := fun w h => (goodIn_r (big := lw_tbl) wsL_law0_r5 [254, 1096, 1097, 1098, 1099, 1101, 1102, 1103, 1104, 1105, 1106, 1107, 1108, 1109, 1110, 1111, 1112, 1113, 1114, 1115, 1116, 1123, 1124, 1125] (by decide +kernel) (by decide +kernel) w h).1
set_option maxRecDepth 20000 in
theorem lin_r6 : ∀ w ∈ wsL_law0_r6, w ∈ lw_tbl := fun w h => (goodIn_r (big := lw_tbl) wsL_law0_r6 [1126, 1128, 1129, 1130, 1136, 328, 329, 56, 330, 331, 334, 335, 336, 337, 338, 68, 434, 70, 100, 410, 412, 1, 413, 418] (by decide +kernel) (by decide +kernel) w h).1
set_option maxRecDepth 20000 in
theorem lin_r7 : ∀ w ∈ wsL_law0_r7, w ∈ lw_tbl := fun w h => (goodIn_r (big := lw_tbl) wsL_law0_r7 [69, 414, 415, 416, 417, 450, 451, 452, 453, 1216, 1217, 1218, 1219, 1100, 1117, 1220, 1221, 1222, 1223, 1225, 25, 1226, 1227, 1229] (by decide +kernel) (by decide +kernel) w h).1
set_option maxRecDepth 20000 in
theorem lin_r8 : ∀ w ∈ wsL_law0_r8, w ∈ lw_tbl := fun w h => (goodIn_r (big := lw_tbl) wsL_law0_r8 [26, 1230, 1212, 1213, 1214, 1215, 454, 455, 456, 332, 457, 458, 459, 460, 98, 1231, 1232, 1233, 1234, 1118, 1235, 1237, 27, 1238] (by decide +kernel) (by decide +kernel) w h).1
set_option maxRecDepth 20000 in
theorem lin_r9 : ∀ w ∈ wsL_law0_r9, w ∈ lw_tbl := fun w h => (goodIn_r (big := lw_tbl) wsL_law0_r9 [1239, 1240, 1241, 461, 462, 463, 464, 465, 466, 467, 96, 1242, 1243, 1244, 1245, 469, 470, 471, 472, 473, 474, 475, 128, 477] (by decide +kernel) (by decide +kernel) w h).1
set_option maxRecDepth 20000 in
theorem lin_r10 : ∀ w ∈ wsL_law0_r10, w ∈ lw_tbl := fun w h => (goodIn_r (big := lw_tbl) wsL_law0_r10 [478, 479, 480, 1246, 1247, 1248, 1249, 1119, 481, 482, 483, 484, 485, 486, 487, 122, 488, 490, 2, 491, 492, 493, 494, 495] (by decide +kernel) (by decide +kernel) w h).1
set_option maxRecDepth 20000 in
theorem lin_r11 : ∀ w ∈ wsL_law0_r11, w ∈ lw_tbl := fun w h => (goodIn_r (big := lw_tbl) wsL_law0_r11 [497, 498, 499, 500, 501, 502, 504, 505, 506, 507, 508, 510, 3, 511, 512, 513, 514, 515, 518, 519, 71, 520, 521, 522] (by decide +kernel) (by decide +kernel) w h).1
set_option maxRecDepth 20000 in
theorem lin_r12 : ∀ w ∈ wsL_law0_r12, w ∈ lw_tbl := fun w h => (goodIn_r (big := lw_tbl) wsL_law0_r12 [523, 1250, 1251, 1252, 1253, 1254, 1256, 28, 1257, 1258, 1260, 29, 1261, 1262, 1263, 1264, 524, 525, 526, 527, 528, 529, 530, 1265] (by decide +kernel) (by decide +kernel) w h).1
set_option maxRecDepth 20000 in
theorem lin_r13 : ∀ w ∈ wsL_law0_r13, w ∈ lw_tbl := fun w h => (goodIn_r (big := lw_tbl) wsL_law0_r13 [1266, 1267, 1268, 532, 533, 534, 536, 537, 538, 539, 541, 72, 124, 540, 558, 559, 560, 561, 1269, 1270, 1271, 1272, 1273, 1275] (by decide +kernel) (by decide +kernel) w h).1
set_option maxRecDepth 20000 in
theorem lin_r14 : ∀ w ∈ wsL_law0_r14, w ∈ lw_tbl := fun w h => (goodIn_r (big := lw_tbl) wsL_law0_r14 [30, 1276, 562, 563, 564, 565, 566, 567, 568, 155, 571, 572, 573, 574, 1277, 1278, 1279, 1280, 1120, 575, 576, 577, 578, 579] (by decide +kernel) (by decide +kernel) w h).1
set_option maxRecDepth 20000 in
theorem lin_r15 : ∀ w ∈ wsL_law0_r15, w ∈ lw_tbl := fun w h => (goodIn_r (big := lw_tbl) wsL_law0_r15 [580, 581, 153, 582, 584, 4, 585, 586, 587, 588, 589, 591, 593, 5, 594, 186, 595, 596, 597, 598, 599, 600, 601, 602] (by decide +kernel) (by decide +kernel) w h).1
set_option maxRecDepth 20000 in
theorem lin_r16 : ∀ w ∈ wsL_law0_r16, w ∈ lw_tbl := fun w h => (goodIn_r (big := lw_tbl) wsL_law0_r16 [605, 606, 607, 608, 1281, 1282, 1283, 1284, 1285, 1287, 31, 1288, 1289, 1291, 32, 1292, 1121, 1122, 609, 610, 611, 612, 613, 614] (by decide +kernel) (by decide +kernel) w h).1
set_option maxRecDepth 20000 in
theorem lin_r17 : ∀ w ∈ wsL_law0_r17, w ∈ lw_tbl := fun w h => (goodIn_r (big := lw_tbl) wsL_law0_r17 [615, 1293, 1294, 1295, 1296, 616, 617, 618, 619, 620, 621, 622, 184, 623, 625, 6, 626, 627, 628, 630, 7, 631, 176, 178] (by decide +kernel) (by decide +kernel) w h).1
set_option maxRecDepth 20000 in
theorem lin_r18 : ∀ w ∈ wsL_law0_r18, w ∈ lw_tbl := fun w h => (goodIn_r (big := lw_tbl) wsL_law0_r18 [632, 633, 634, 635, 636, 1297, 1298, 1299, 1300, 1301, 1303, 33, 1304, 1305, 1307, 34, 1308, 1309, 1311, 35, 1312, 1313, 1315, 36] (by decide +kernel) (by decide +kernel) w h).1
set_option maxRecDepth 20000 in
theorem lin_r19 : ∀ w ∈ wsL_law0_r19, w ∈ lw_tbl := fun w h => (goodIn_r (big := lw_tbl) wsL_law0_r19 [1316, 1317, 1319, 37, 1320, 638, 639, 640, 641, 642, 643, 644, 218, 220, 645, 647, 8, 648, 650, 652, 9, 653, 216, 212] (by decide +kernel) (by decide +kernel) w h).1
set_option maxRecDepth 20000 in
theorem lin_r20 : ∀ w ∈ wsL_law0_r20, w ∈ lw_tbl := fun w h => (goodIn_r (big := lw_tbl) wsL_law0_r20 [210, 654, 656, 10, 657, 174, 668, 669, 73, 670, 658, 660, 11, 661, 147, 662, 663, 664, 665, 667, 671, 673, 12, 674] (by decide +kernel) (by decide +kernel) w h).1
set_option maxRecDepth 20000 in
theorem lin_r21 : ∀ w ∈ wsL_law0_r21, w ∈ lw_tbl := fun w h => (goodIn_r (big := lw_tbl) wsL_law0_r21 [180, 182, 675, 676, 677, 678, 679, 680, 681, 682, 683, 685, 13, 686, 687, 688, 690, 14, 691, 692, 693, 694, 695, 697] (by decide +kernel) (by decide +kernel) w h).1
set_option maxRecDepth 20000 in
theorem lin_r22 : ∀ w ∈ wsL_law0_r22, w ∈ lw_tbl := fun w h => (goodIn_r (big := lw_tbl) wsL_law0_r22 [699, 15, 700, 151, 701, 703, 16, 704, 1362, 1363, 1364, 1365, 1131, 1133, 1366, 1368, 46, 1369, 1132, 1370, 1372, 47, 1373, 1378] (by decide +kernel) (by decide +kernel) w h).1
set_option maxRecDepth 20000 in
theorem lin_r23 : ∀ w ∈ wsL_law0_r23, w ∈ lw_tbl := fun w h => (goodIn_r (big := lw_tbl) wsL_law0_r23 [1374, 1376, 48, 1377, 1337, 1339, 40, 1340, 1134, 1135, 1341, 1343, 41, 1344, 1127, 1345, 1346, 1348, 42, 1349, 1350, 1352, 43, 1353] (by decide +kernel) (by decide +kernel) w h).1
set_option maxRecDepth 20000 in
theorem lin_r24 : ∀ w ∈ wsL_law0_r24, w ∈ lw_tbl := fun w h => (goodIn_r (big := lw_tbl) wsL_law0_r24 [1354, 1356, 44, 1357, 705, 706, 707, 708, 709, 710, 711, 1379, 1380, 1381, 1382, 713, 714, 715, 716, 717, 718, 719, 1383, 1384] (by decide +kernel) (by decide +kernel) w h).1
set_option maxRecDepth 20000 in
theorem lin_r25 : ∀ w ∈ wsL_law0_r25, w ∈ lw_tbl := fun w h => (goodIn_r (big := lw_tbl) wsL_law0_r25 [1385, 1386, 720, 721, 722, 723, 724, 725, 726, 728, 729, 730, 731, 733, 734, 735, 736, 737, 738, 739, 740, 1321, 1322, 1323] (by decide +kernel) (by decide +kernel) w h).1
set_option maxRecDepth 20000 in
theorem lin_r26 : ∀ w ∈ wsL_law0_r26, w ∈ lw_tbl := fun w h => (goodIn_r (big := lw_tbl) wsL_law0_r26 [1324, 741, 742, 743, 333, 744, 745, 746, 747, 749, 751, 17, 752, 753, 754, 755, 756, 760, 762, 18, 763, 94, 149, 764] (by decide +kernel) (by decide +kernel) w h).1
set_option maxRecDepth 20000 in
theorem lin_r27 : ∀ w ∈ wsL_law0_r27, w ∈ lw_tbl := fun w h => (goodIn_r (big := lw_tbl) wsL_law0_r27 [765, 766, 767, 768, 769, 770, 771, 772, 1325, 1326, 1327, 1328, 1329, 1331, 38, 1332, 1333, 1335, 39, 1336, 1358, 1360, 45, 1361] (by decide +kernel) (by decide +kernel) w h).1
set_option maxRecDepth 20000 in
theorem lin_r28 : ∀ w ∈ wsL_law0_r28, w ∈ lw_tbl := fun w h => (goodIn_r (big := lw_tbl) wsL_law0_r28 [295, 296, 297, 298, 1387, 1388, 1389, 1390, 303, 304, 305, 306, 1391, 1392, 1393, 1394, 774, 775, 776, 777, 778, 779, 780, 1395] (by decide +kernel) (by decide +kernel) w h).1
set_option maxRecDepth 20000 in
theorem lin_r29 : ∀ w ∈ wsL_law0_r29, w ∈ lw_tbl := fun w h => (goodIn_r (big := lw_tbl) wsL_law0_r29 [1396, 1397, 1398, 781, 782, 783, 784, 785, 786, 787, 126, 1399, 1400, 1401, 1402, 788, 789, 790, 791, 792, 793, 794, 1403, 1404] (by decide +kernel) (by decide +kernel) w h).1
set_option maxRecDepth 20000 in
theorem lin_r30 : ∀ w ∈ wsL_law0_r30, w ∈ lw_tbl := fun w h => (goodIn_r (big := lw_tbl) wsL_law0_r30 [1405, 1406, 795, 796, 797, 798, 799, 800, 801, 1407, 1408, 1409, 1410, 802, 803, 804, 805, 806, 807, 808, 809, 811, 19, 812] (by decide +kernel) (by decide +kernel) w h).1
set_option maxRecDepth 20000 in
theorem lin_r31 : ∀ w ∈ wsL_law0_r31, w ∈ lw_tbl := fun w h => (goodIn_r (big := lw_tbl) wsL_law0_r31 [813, 814, 815, 816, 817, 818, 819, 1411, 1412, 1413, 1414, 1415, 820, 821, 822, 823, 824, 825, 826, 827, 829, 20, 830, 1416] (by decide +kernel) (by decide +kernel) w h).1
set_option maxRecDepth 20000 in
theorem lin_r32 : ∀ w ∈ wsL_law0_r32, w ∈ lw_tbl := fun w h => (goodIn_r (big := lw_tbl) wsL_law0_r32 [1417, 1418, 1419, 1420, 1422, 49, 1423, 831, 832, 833, 834, 835, 836, 837, 1424, 1425, 1426, 1427, 838, 839, 840, 841, 842, 843] (by decide +kernel) (by decide +kernel) w h).1
set_option maxRecDepth 20000 in
theorem lin_r33 : ∀ w ∈ wsL_law0_r33, w ∈ lw_tbl := fun w h => (goodIn_r (big := lw_tbl) wsL_law0_r33 [844, 1428, 1429, 1430, 1431, 845, 846, 847, 848, 849, 850, 851, 1432, 1433, 1434, 1435, 852, 853, 854, 855, 856, 857, 858, 1436] (by decide +kernel) (by decide +kernel) w h).1
set_option maxRecDepth 20000 in
theorem lin_r34 : ∀ w ∈ wsL_law0_r34, w ∈ lw_tbl := fun w h => (goodIn_r (big := lw_tbl) wsL_law0_r34 [1437, 1438, 1439, 859, 860, 861, 862, 863, 864, 865, 1440, 1441, 1442, 1443, 1444, 1446, 50, 1447, 866, 867, 868, 869, 870, 871] (by decide +kernel) (by decide +kernel) w h).1
set_option maxRecDepth 20000 in
theorem lin_r35 : ∀ w ∈ wsL_law0_r35, w ∈ lw_tbl := fun w h => (goodIn_r (big := lw_tbl) wsL_law0_r35 [872, 873, 875, 21, 876, 877, 879, 22, 880, 881, 882, 883, 884, 1448, 1449, 1450, 1451, 1452, 1454, 51, 1455, 1456, 1458, 52] (by decide +kernel) (by decide +kernel) w h).1
set_option maxRecDepth 20000 in
theorem lin_r36 : ∀ w ∈ wsL_law0_r36, w ∈ lw_tbl := fun w h => (goodIn_r (big := lw_tbl) wsL_law0_r36 [1459, 1460, 1461, 1462, 886, 887, 888, 913, 914, 915, 916, 917, 74, 930, 931, 932, 933, 934, 936, 937, 1463, 1464, 1465, 1466] (by decide +kernel) (by decide +kernel) w h).1
set_option maxRecDepth 20000 in
theorem lin_r37 : ∀ w ∈ wsL_law0_r37, w ∈ lw_tbl := fun w h => (goodIn_r (big := lw_tbl) wsL_law0_r37 [1467, 938, 939, 940, 941, 942, 943, 944, 945, 947, 23, 948, 949, 950, 951, 952, 1468, 1469, 1470, 1471, 1472, 1474, 53, 1475] (by decide +kernel) (by decide +kernel) w h).1
set_option maxRecDepth 20000 in
theorem lin_r38 : ∀ w ∈ wsL_law0_r38, w ∈ lw_tbl := fun w h => (goodIn_r (big := lw_tbl) wsL_law0_r38 [955, 956, 957, 958, 959, 960, 961, 1476, 1477, 1478, 1479, 962, 963, 964, 965, 966, 967, 968, 1480, 1481, 1482, 1483, 299, 300] (by decide +kernel) (by decide +kernel) w h).1
set_option maxRecDepth 20000 in
theorem lin_r39 : ∀ w ∈ wsL_law0_r39, w ∈ lw_tbl := fun w h => (goodIn_r (big := lw_tbl) wsL_law0_r39 [301, 302, 1484, 1485, 1486, 1487, 969, 970, 971, 972, 973, 974, 975, 1488, 1489, 1490, 1491, 976, 977, 978, 979, 980, 981, 982] (by decide +kernel) (by decide +kernel) w h).1
set_option maxRecDepth 20000 in
theorem lin_r40 : ∀ w ∈ wsL_law0_r40, w ∈ lw_tbl := fun w h => (goodIn_r (big := lw_tbl) wsL_law0_r40 [1492, 1493, 1494, 1495, 984, 985, 986, 987, 988, 989, 990, 1496, 1497, 1498, 1499, 991, 992, 993, 994, 995, 996, 997, 1500, 1501] (by decide +kernel) (by decide +kernel) w h).1
set_option maxRecDepth 20000 in
theorem lin_r41 : ∀ w ∈ wsL_law0_r41, w ∈ lw_tbl := fun w h => (goodIn_r (big := lw_tbl) wsL_law0_r41 [1502, 1503, 307, 308, 309, 310, 1504, 1505, 1506, 1507, 311, 312, 313, 314, 1508, 1509, 1510, 1511, 315, 316, 317, 318, 1512, 1513] (by decide +kernel) (by decide +kernel) w h).1
set_option maxRecDepth 20000 in
theorem lin_r42 : ∀ w ∈ wsL_law0_r42, w ∈ lw_tbl := fun w h => (goodIn_r (big := lw_tbl) wsL_law0_r42 [1514, 1515, 998, 999, 1000, 1001, 1002, 1003, 1004, 1516, 1517, 1518, 1519, 1520, 1522, 54, 1523, 1005, 1006, 1007, 1008, 1009, 1010, 1011] (by decide +kernel) (by decide +kernel) w h).1
set_option maxRecDepth 20000 in
theorem lin_r43 : ∀ w ∈ wsL_law0_r43, w ∈ lw_tbl := fun w h => (goodIn_r (big := lw_tbl) wsL_law0_r43 [1524, 1525, 1526, 1527, 1012, 1013, 1014, 1015, 1016, 1017, 1018, 214, 1528, 1529, 1530, 1531, 1020, 1021, 1022, 1023, 1024, 1025, 1026, 1532] (by decide +kernel) (by decide +kernel) w h).1
set_option maxRecDepth 20000 in
theorem lin_r44 : ∀ w ∈ wsL_law0_r44, w ∈ lw_tbl := fun w h => (goodIn_r (big := lw_tbl) wsL_law0_r44 [1533, 1534, 1535, 319, 320, 321, 322, 255, 1536, 1537, 1538, 1539, 1028, 1029, 1030, 1031, 1032, 1033, 1034, 249, 1035, 1037, 24, 1038] (by decide +kernel) (by decide +kernel) w h).1
set_option maxRecDepth 20000 in
theorem lin_r45 : ∀ w ∈ wsL_law0_r45, w ∈ lw_tbl := fun w h => (goodIn_r (big := lw_tbl) wsL_law0_r45 [1039, 1040, 1041, 1042, 1540, 1541, 1542, 1543, 1544, 1546, 55, 1547, 1044, 1045, 1046, 1047, 1048, 1049, 1050, 253, 1548, 1549, 1550, 1551] (by decide +kernel) (by decide +kernel) w h).1
set_option maxRecDepth 20000 in
theorem lin_r46 : ∀ w ∈ wsL_law0_r46, w ∈ lw_tbl := fun w h => (goodIn_r (big := lw_tbl) wsL_law0_r46 [1051, 1052, 1053, 1054, 1055, 1056, 1057, 1058, 1059, 1060, 1061, 1552, 1553, 1554, 1555, 1556, 323, 324, 325, 326, 327, 1557, 1558, 1559] (by decide +kernel) (by decide +kernel) w h).1
set_option maxRecDepth 20000 in
theorem lin_r47 : ∀ w ∈ wsL_law0_r47, w ∈ lw_tbl := fun w h => (goodIn_r (big := lw_tbl) wsL_law0_r47 [1560, 1561, 1062, 1063, 1064, 1065, 1079, 1080, 1081, 1082, 1083, 77, 222, 224, 1562, 1563, 1564, 1565, 1086, 1087, 1088, 1089, 1090, 1091] (by decide +kernel) (by decide +kernel) w h).1
set_option maxRecDepth 20000 in
theorem lin_r48 : ∀ w ∈ wsL_law0_r48, w ∈ lw_tbl := fun w h => (goodIn_r (big := lw_tbl) wsL_law0_r48 [1092, 1566, 1567, 1568, 1569] (by decide +kernel) (by decide +kernel) w h).1
