set_option maxRecDepth 20000 in
theorem wl__r1 : ∀ w ∈ wsL_law_r1, w ∈ lw_tbl := fun w h => (goodIn_r wsL_law_r1 [101, 102, 85, 963, 964, 94, 103, 104, 105, 106, 107, 108, 109, 110, 86, 349, 350, 169, 170, 87, 351, 184, 185, 88] (by decide +kernel) (by decide +kernel) w h).1
set_option maxRecDepth 20000 in
theorem wl__r2 : ∀ w ∈ wsL_law_r2, w ∈ lw_tbl := fun w h => (goodIn_r wsL_law_r2 [352, 206, 207, 89, 353, 224, 225, 90, 354, 271, 272, 92, 355, 293, 294, 93, 356, 112, 113, 114, 168, 115, 116, 117] (by decide +kernel) (by decide +kernel) w h).1
set_option maxRecDepth 20000 in
theorem wl__r3 : ∀ w ∈ wsL_law_r3, w ∈ lw_tbl := fun w h => (goodIn_r wsL_law_r3 [118, 120, 123, 125, 127, 131, 133, 135, 138, 139, 172, 173, 174, 175, 176, 187, 188, 189, 190, 191, 192, 193, 194, 209] (by decide +kernel) (by decide +kernel) w h).1
set_option maxRecDepth 20000 in
theorem wl__r4 : ∀ w ∈ wsL_law_r4, w ∈ lw_tbl := fun w h => (goodIn_r wsL_law_r4 [210, 211, 212, 214, 216, 226, 227, 228, 229, 230, 258, 259, 260, 261, 232, 91, 234, 235, 236, 237, 238, 241, 242, 243] (by decide +kernel) (by decide +kernel) w h).1
set_option maxRecDepth 20000 in
theorem wl__r5 : ∀ w ∈ wsL_law_r5, w ∈ lw_tbl := fun w h => (goodIn_r wsL_law_r5 [244, 274, 275, 276, 277, 279, 292, 281, 282, 296, 297, 298, 299, 300, 348, 301, 302, 303, 304, 305, 306, 307, 308, 309] (by decide +kernel) (by decide +kernel) w h).1
set_option maxRecDepth 20000 in
theorem wl__r6 : ∀ w ∈ wsL_law_r6, w ∈ lw_tbl := fun w h => (goodIn_r wsL_law_r6 [310, 311, 312, 313, 314, 965, 966, 967, 968, 973, 974, 769, 975, 977, 978, 979, 980, 981, 982, 983, 984, 985, 986, 996] (by decide +kernel) (by decide +kernel) w h).1
set_option maxRecDepth 20000 in
theorem wl__r7 : ∀ w ∈ wsL_law_r7, w ∈ lw_tbl := fun w h => (goodIn_r wsL_law_r7 [997, 999, 1000, 1004, 1005, 1006, 1007, 1008, 1010, 1011, 1012, 1013, 1014, 1015, 1016, 1017, 1018, 1019, 1021, 1022, 1023, 1024, 969, 971] (by decide +kernel) (by decide +kernel) w h).1
set_option maxRecDepth 20000 in
theorem wl__r8 : ∀ w ∈ wsL_law_r8, w ∈ lw_tbl := fun w h => (goodIn_r wsL_law_r8 [33, 972, 374, 375, 376, 377, 378, 379, 380, 381, 382, 383, 384, 1133, 1134, 1135, 1136, 1137, 1138, 1139, 385, 386, 387, 388] (by decide +kernel) (by decide +kernel) w h).1
set_option maxRecDepth 20000 in
theorem wl__r9 : ∀ w ∈ wsL_law_r9, w ∈ lw_tbl := fun w h => (goodIn_r wsL_law_r9 [389, 390, 391, 392, 393, 394, 395, 396, 397, 398, 399, 400, 1140, 1141, 1142, 1143, 1144, 1146, 34, 1147, 401, 402, 403, 404] (by decide +kernel) (by decide +kernel) w h).1
set_option maxRecDepth 20000 in
theorem wl__r10 : ∀ w ∈ wsL_law_r10, w ∈ lw_tbl := fun w h => (goodIn_r wsL_law_r10 [124, 126, 1148, 1149, 1150, 1151, 405, 406, 407, 408, 132, 1152, 1153, 1154, 1155, 409, 410, 411, 412, 413, 414, 415, 416, 417] (by decide +kernel) (by decide +kernel) w h).1
set_option maxRecDepth 20000 in
theorem wl__r11 : ∀ w ∈ wsL_law_r11, w ∈ lw_tbl := fun w h => (goodIn_r wsL_law_r11 [418, 419, 420, 421, 422, 423, 424, 425, 426, 427, 428, 429, 430, 431, 432, 433, 434, 435, 436, 437, 438, 439, 128, 440] (by decide +kernel) (by decide +kernel) w h).1
set_option maxRecDepth 20000 in
theorem wl__r12 : ∀ w ∈ wsL_law_r12, w ∈ lw_tbl := fun w h => (goodIn_r wsL_law_r12 [441, 442, 443, 444, 136, 488, 489, 95, 490, 491, 492, 493, 445, 446, 447, 448, 449, 450, 451, 452, 453, 455, 0, 456] (by decide +kernel) (by decide +kernel) w h).1
set_option maxRecDepth 20000 in
theorem wl__r13 : ∀ w ∈ wsL_law_r13, w ∈ lw_tbl := fun w h => (goodIn_r wsL_law_r13 [457, 458, 459, 460, 461, 462, 463, 464, 465, 466, 467, 468, 469, 471, 1, 472, 473, 475, 2, 476, 477, 478, 479, 480] (by decide +kernel) (by decide +kernel) w h).1
set_option maxRecDepth 20000 in
theorem wl__r14 : ∀ w ∈ wsL_law_r14, w ∈ lw_tbl := fun w h => (goodIn_r wsL_law_r14 [481, 483, 3, 484, 485, 486, 487, 494, 495, 496, 497, 498, 500, 499, 96, 501, 1160, 1161, 1162, 1163, 1164, 1166, 35, 1167] (by decide +kernel) (by decide +kernel) w h).1
set_option maxRecDepth 20000 in
theorem wl__r15 : ∀ w ∈ wsL_law_r15, w ∈ lw_tbl := fun w h => (goodIn_r wsL_law_r15 [1168, 1170, 36, 1171, 1172, 1174, 37, 1175, 1176, 1177, 1178, 1179, 1181, 38, 1182, 1183, 1185, 39, 1186, 1187, 1189, 40, 1190, 1191] (by decide +kernel) (by decide +kernel) w h).1
set_option maxRecDepth 20000 in
theorem wl__r16 : ∀ w ∈ wsL_law_r16, w ∈ lw_tbl := fun w h => (goodIn_r wsL_law_r16 [1193, 41, 1194, 1195, 1196, 1197, 1198, 1199, 1200, 1201, 1202, 1203, 1204, 1205, 1206, 1208, 42, 1209, 1210, 1212, 43, 1213, 502, 503] (by decide +kernel) (by decide +kernel) w h).1
set_option maxRecDepth 20000 in
theorem wl__r17 : ∀ w ∈ wsL_law_r17, w ∈ lw_tbl := fun w h => (goodIn_r wsL_law_r17 [504, 505, 130, 506, 507, 508, 509, 510, 511, 512, 513, 514, 515, 516, 517, 518, 1214, 1215, 1216, 1217, 1218, 1220, 44, 1221] (by decide +kernel) (by decide +kernel) w h).1
set_option maxRecDepth 20000 in
theorem wl__r18 : ∀ w ∈ wsL_law_r18, w ∈ lw_tbl := fun w h => (goodIn_r wsL_law_r18 [519, 520, 521, 522, 1222, 1223, 1224, 1225, 523, 524, 525, 526, 1226, 1227, 1228, 1229, 527, 528, 529, 530, 1230, 1231, 1232, 1233] (by decide +kernel) (by decide +kernel) w h).1
set_option maxRecDepth 20000 in
theorem wl__r19 : ∀ w ∈ wsL_law_r19, w ∈ lw_tbl := fun w h => (goodIn_r wsL_law_r19 [531, 532, 533, 534, 535, 537, 4, 538, 119, 539, 541, 5, 542, 543, 544, 545, 546, 547, 548, 549, 550, 551, 552, 553] (by decide +kernel) (by decide +kernel) w h).1
set_option maxRecDepth 20000 in
theorem wl__r20 : ∀ w ∈ wsL_law_r20, w ∈ lw_tbl := fun w h => (goodIn_r wsL_law_r20 [554, 555, 556, 557, 558, 559, 560, 561, 562, 563, 564, 565, 566, 567, 568, 569, 570, 571, 572, 573, 574, 1382, 1383, 1384] (by decide +kernel) (by decide +kernel) w h).1
set_option maxRecDepth 20000 in
theorem wl__r21 : ∀ w ∈ wsL_law_r21, w ∈ lw_tbl := fun w h => (goodIn_r wsL_law_r21 [1385, 1386, 1388, 67, 1389, 1390, 1392, 68, 1393, 1394, 1396, 69, 1397, 1398, 1400, 70, 1401, 1402, 1404, 71, 1405, 1406, 1408, 72] (by decide +kernel) (by decide +kernel) w h).1
set_option maxRecDepth 20000 in
theorem wl__r22 : ∀ w ∈ wsL_law_r22, w ∈ lw_tbl := fun w h => (goodIn_r wsL_law_r22 [1409, 575, 576, 577, 578, 178, 579, 580, 581, 582, 1234, 1235, 1236, 1237, 976, 1238, 1240, 45, 1241, 583, 584, 585, 586, 1242] (by decide +kernel) (by decide +kernel) w h).1
set_option maxRecDepth 20000 in
theorem wl__r23 : ∀ w ∈ wsL_law_r23, w ∈ lw_tbl := fun w h => (goodIn_r wsL_law_r23 [1243, 1244, 1245, 587, 588, 589, 590, 134, 213, 591, 592, 593, 594, 595, 177, 596, 597, 598, 599, 600, 601, 602, 603, 604] (by decide +kernel) (by decide +kernel) w h).1
set_option maxRecDepth 20000 in
theorem wl__r24 : ∀ w ∈ wsL_law_r24, w ∈ lw_tbl := fun w h => (goodIn_r wsL_law_r24 [605, 606, 608, 6, 609, 610, 611, 612, 614, 615, 616, 97, 617, 1516, 618, 619, 620, 621, 622, 1517, 624, 625, 626, 627] (by decide +kernel) (by decide +kernel) w h).1
set_option maxRecDepth 20000 in
theorem wl__r25 : ∀ w ∈ wsL_law_r25, w ∈ lw_tbl := fun w h => (goodIn_r wsL_law_r25 [628, 629, 630, 631, 632, 633, 98, 634, 635, 636, 637, 638, 640, 641, 99, 642, 643, 644, 100, 645, 646, 647, 648, 649] (by decide +kernel) (by decide +kernel) w h).1
set_option maxRecDepth 20000 in
theorem wl__r26 : ∀ w ∈ wsL_law_r26, w ∈ lw_tbl := fun w h => (goodIn_r wsL_law_r26 [650, 651, 652, 653, 654, 655, 656, 658, 660, 662, 664, 7, 665, 666, 667, 668, 669, 671, 8, 672, 673, 674, 676, 9] (by decide +kernel) (by decide +kernel) w h).1
set_option maxRecDepth 20000 in
theorem wl__r27 : ∀ w ∈ wsL_law_r27, w ∈ lw_tbl := fun w h => (goodIn_r wsL_law_r27 [677, 678, 679, 680, 681, 682, 683, 684, 685, 686, 687, 688, 689, 690, 691, 692, 693, 695, 10, 696, 239, 697, 699, 11] (by decide +kernel) (by decide +kernel) w h).1
set_option maxRecDepth 20000 in
theorem wl__r28 : ∀ w ∈ wsL_law_r28, w ∈ lw_tbl := fun w h => (goodIn_r wsL_law_r28 [700, 701, 702, 703, 704, 705, 706, 707, 708, 709, 710, 711, 712, 713, 714, 715, 716, 717, 718, 720, 12, 721, 722, 724] (by decide +kernel) (by decide +kernel) w h).1
set_option maxRecDepth 20000 in
theorem wl__r29 : ∀ w ∈ wsL_law_r29, w ∈ lw_tbl := fun w h => (goodIn_r wsL_law_r29 [13, 734, 736, 15, 754, 755, 756, 730, 731, 732, 733, 725, 726, 728, 14, 729, 737, 738, 740, 16, 741, 742, 743, 744] (by decide +kernel) (by decide +kernel) w h).1
set_option maxRecDepth 20000 in
theorem wl__r30 : ∀ w ∈ wsL_law_r30, w ∈ lw_tbl := fun w h => (goodIn_r wsL_law_r30 [745, 746, 748, 17, 749, 750, 752, 18, 753, 757, 758, 759, 760, 761, 763, 19, 764, 765, 767, 20, 768, 1246, 1247, 1248] (by decide +kernel) (by decide +kernel) w h).1
set_option maxRecDepth 20000 in
theorem wl__r31 : ∀ w ∈ wsL_law_r31, w ∈ lw_tbl := fun w h => (goodIn_r wsL_law_r31 [1249, 987, 988, 992, 993, 994, 995, 998, 1001, 1002, 1009, 990, 1250, 1252, 46, 1253, 989, 1257, 991, 1283, 1254, 1255, 1256, 1258] (by decide +kernel) (by decide +kernel) w h).1
set_option maxRecDepth 20000 in
theorem wl__r32 : ∀ w ∈ wsL_law_r32, w ∈ lw_tbl := fun w h => (goodIn_r wsL_law_r32 [1259, 1260, 1261, 1262, 1263, 1264, 1265, 1266, 1267, 1268, 1269, 1270, 1271, 1272, 1273, 1274, 1275, 1276, 1277, 1278, 1279, 1280, 1281, 1282] (by decide +kernel) (by decide +kernel) w h).1
set_option maxRecDepth 20000 in
theorem wl__r33 : ∀ w ∈ wsL_law_r33, w ∈ lw_tbl := fun w h => (goodIn_r wsL_law_r33 [1284, 1286, 47, 1287, 1288, 1290, 48, 1291, 1292, 1294, 49, 1295, 1296, 1298, 50, 1299, 1300, 1302, 51, 1303, 1304, 1306, 52, 1307] (by decide +kernel) (by decide +kernel) w h).1
set_option maxRecDepth 20000 in
theorem wl__r34 : ∀ w ∈ wsL_law_r34, w ∈ lw_tbl := fun w h => (goodIn_r wsL_law_r34 [1003, 1308, 1310, 53, 1311, 1312, 1314, 54, 1315, 1316, 1318, 55, 1319, 1320, 1322, 56, 1323, 1324, 1326, 57, 1327, 1328, 1330, 58] (by decide +kernel) (by decide +kernel) w h).1
set_option maxRecDepth 20000 in
theorem wl__r35 : ∀ w ∈ wsL_law_r35, w ∈ lw_tbl := fun w h => (goodIn_r wsL_law_r35 [1331, 1332, 1333, 1334, 1335, 1337, 59, 1338, 1339, 1340, 1341, 1342, 1344, 60, 1345, 1346, 1348, 61, 1349, 1350, 1352, 62, 1353, 1354] (by decide +kernel) (by decide +kernel) w h).1
set_option maxRecDepth 20000 in
theorem wl__r36 : ∀ w ∈ wsL_law_r36, w ∈ lw_tbl := fun w h => (goodIn_r wsL_law_r36 [1356, 63, 1357, 1358, 1360, 64, 1361, 1362, 1364, 65, 1365, 1366, 1368, 66, 1369, 770, 771, 772, 773, 215, 1370, 1371, 1372, 1373] (by decide +kernel) (by decide +kernel) w h).1
set_option maxRecDepth 20000 in
theorem wl__r37 : ∀ w ∈ wsL_law_r37, w ∈ lw_tbl := fun w h => (goodIn_r wsL_law_r37 [774, 775, 776, 777, 137, 1374, 1375, 1376, 1377, 778, 779, 780, 781, 240, 782, 783, 784, 785, 786, 787, 788, 789, 1410, 1411] (by decide +kernel) (by decide +kernel) w h).1
set_option maxRecDepth 20000 in
theorem wl__r38 : ∀ w ∈ wsL_law_r38, w ∈ lw_tbl := fun w h => (goodIn_r wsL_law_r38 [1412, 1413, 1414, 1415, 1416, 1417, 790, 791, 792, 793, 140, 794, 795, 796, 797, 798, 799, 1156, 1157, 1158, 1159, 800, 801, 802] (by decide +kernel) (by decide +kernel) w h).1
set_option maxRecDepth 20000 in
theorem wl__r39 : ∀ w ∈ wsL_law_r39, w ∈ lw_tbl := fun w h => (goodIn_r wsL_law_r39 [803, 804, 805, 806, 807, 808, 1418, 1419, 1420, 1421, 1422, 1424, 73, 1425, 1426, 1428, 74, 1429, 809, 810, 811, 812, 1378, 1379] (by decide +kernel) (by decide +kernel) w h).1
set_option maxRecDepth 20000 in
theorem wl__r40 : ∀ w ∈ wsL_law_r40, w ∈ lw_tbl := fun w h => (goodIn_r wsL_law_r40 [1380, 1381, 813, 814, 815, 816, 817, 819, 21, 820, 821, 823, 22, 824, 825, 826, 827, 1430, 1431, 1432, 1433, 1434, 1435, 1436] (by decide +kernel) (by decide +kernel) w h).1
set_option maxRecDepth 20000 in
theorem wl__r41 : ∀ w ∈ wsL_law_r41, w ∈ lw_tbl := fun w h => (goodIn_r wsL_law_r41 [1437, 1439, 75, 1440, 1441, 1443, 76, 1444, 1445, 1446, 1447, 828, 829, 830, 831, 1448, 1449, 1450, 1451, 832, 833, 834, 835, 836] (by decide +kernel) (by decide +kernel) w h).1
set_option maxRecDepth 20000 in
theorem wl__r42 : ∀ w ∈ wsL_law_r42, w ∈ lw_tbl := fun w h => (goodIn_r wsL_law_r42 [1452, 1453, 1454, 1455, 1456, 837, 838, 839, 840, 841, 842, 843, 844, 1457, 1458, 1459, 1460, 845, 846, 847, 848, 849, 278, 280] (by decide +kernel) (by decide +kernel) w h).1
set_option maxRecDepth 20000 in
theorem wl__r43 : ∀ w ∈ wsL_law_r43, w ∈ lw_tbl := fun w h => (goodIn_r wsL_law_r43 [850, 851, 852, 853, 854, 855, 856, 857, 863, 864, 858, 860, 861, 862, 865, 866, 867, 868, 869, 870, 871, 1461, 1462, 1463] (by decide +kernel) (by decide +kernel) w h).1
set_option maxRecDepth 20000 in
theorem wl__r44 : ∀ w ∈ wsL_law_r44, w ∈ lw_tbl := fun w h => (goodIn_r wsL_law_r44 [1464, 1465, 1475, 1466, 1468, 77, 1469, 1470, 1472, 78, 1473, 1474, 1476, 1478, 79, 1479, 872, 873, 874, 875, 876, 877, 878, 879] (by decide +kernel) (by decide +kernel) w h).1
set_option maxRecDepth 20000 in
theorem wl__r45 : ∀ w ∈ wsL_law_r45, w ∈ lw_tbl := fun w h => (goodIn_r wsL_law_r45 [121, 880, 895, 881, 882, 883, 885, 23, 886, 129, 894, 887, 888, 889, 890, 891, 892, 893, 896, 898, 24, 899, 900, 902] (by decide +kernel) (by decide +kernel) w h).1
set_option maxRecDepth 20000 in
theorem wl__r46 : ∀ w ∈ wsL_law_r46, w ∈ lw_tbl := fun w h => (goodIn_r wsL_law_r46 [25, 903, 904, 906, 908, 910, 26, 911, 912, 914, 27, 915, 916, 918, 28, 919, 920, 922, 29, 923, 924, 926, 30, 927] (by decide +kernel) (by decide +kernel) w h).1
set_option maxRecDepth 20000 in
theorem wl__r47 : ∀ w ∈ wsL_law_r47, w ∈ lw_tbl := fun w h => (goodIn_r wsL_law_r47 [928, 930, 31, 931, 932, 933, 934, 935, 1480, 1481, 1482, 1483, 1484, 1486, 80, 1487, 1020, 1488, 1490, 81, 1491, 1025, 1492, 1494] (by decide +kernel) (by decide +kernel) w h).1
set_option maxRecDepth 20000 in
theorem wl__r48 : ∀ w ∈ wsL_law_r48, w ∈ lw_tbl := fun w h => (goodIn_r wsL_law_r48 [82, 1495, 1496, 1498, 83, 1499, 936, 937, 938, 939, 941, 940, 1500, 1501, 1502, 1503, 942, 943, 944, 945, 946, 947, 948, 949] (by decide +kernel) (by decide +kernel) w h).1
set_option maxRecDepth 20000 in
theorem wl__r49 : ∀ w ∈ wsL_law_r49, w ∈ lw_tbl := fun w h => (goodIn_r wsL_law_r49 [1504, 1505, 1506, 1507, 950, 951, 952, 953, 1508, 1509, 1510, 1511, 954, 955, 956, 957, 122, 958, 960, 32, 961, 962, 1512, 1513] (by decide +kernel) (by decide +kernel) w h).1
set_option maxRecDepth 20000 in
theorem wl__r50 : ∀ w ∈ wsL_law_r50, w ∈ lw_tbl := fun w h => (goodIn_r wsL_law_r50 [1514, 1515] (by decide +kernel) (by decide +kernel) w h).1
set_option maxRecDepth 20000 in
theorem wl_X0 : ∀ w ∈ wsX00, w ∈ lw_tbl := fun w h => (goodIn_r wsX00 [283, 285, 287, 289] (by decide +kernel) (by decide +kernel) w h).1
set_option maxRecDepth 20000 in
theorem wl_X1 : ∀ w ∈ wsX10, w ∈ lw_tbl := fun w h => (goodIn_r wsX10 [262, 264, 266, 268] (by decide +kernel) (by decide +kernel) w h).1
set_option maxRecDepth 20000 in
theorem wl_X2 : ∀ w ∈ wsX20, w ∈ lw_tbl := fun w h => (goodIn_r wsX20 [217, 219, 221] (by decide +kernel) (by decide +kernel) w h).1
set_option maxRecDepth 20000 in
theorem wl_X3 : ∀ w ∈ wsX30, w ∈ lw_tbl := fun w h => (goodIn_r wsX30 [315, 317, 319, 321, 323, 325, 327, 329, 331, 333, 335, 337, 339, 341, 343, 345] (by decide +kernel) (by decide +kernel) w h).1
set_option maxRecDepth 20000 in
theorem wl_X4 : ∀ w ∈ wsX40, w ∈ lw_tbl := fun w h => (goodIn_r wsX40 [141, 143, 145, 147, 149, 151, 153, 155, 157, 159, 161, 163, 165] (by decide +kernel) (by decide +kernel) w h).1
set_option maxRecDepth 20000 in
theorem wl_X5 : ∀ w ∈ wsX50, w ∈ lw_tbl := fun w h => (goodIn_r wsX50 [179, 181] (by decide +kernel) (by decide +kernel) w h).1
set_option maxRecDepth 20000 in
theorem wl_X6 : ∀ w ∈ wsX60, w ∈ lw_tbl := fun w h => (goodIn_r wsX60 [245, 247, 249, 251, 253, 255] (by decide +kernel) (by decide +kernel) w h).1
set_option maxRecDepth 20000 in
theorem wl_X7 : ∀ w ∈ wsX70, w ∈ lw_tbl := fun w h => (goodIn_r wsX70 [195, 197, 199, 201, 203] (by decide +kernel) (by decide +kernel) w h).1
set_option maxRecDepth 20000 in
theorem wl_X8 : ∀ w ∈ wsX80, w ∈ lw_tbl := fun w h => (goodIn_r wsX80 [357, 359, 361, 363, 365, 367, 369, 371] (by decide +kernel) (by decide +kernel) w h).1
set_option maxRecDepth 20000 in
theorem wl_X9 : ∀ w ∈ wsX90, w ∈ lw_tbl := fun w h => (goodIn_r wsX90 [1026, 1028, 1030, 1032, 1034, 1036, 1038, 1040, 1042, 1044, 1046, 1048, 1050, 1052, 1054, 1056, 1058, 1060, 1062, 1064, 1066, 1068, 1070, 1072, 1074, 1076, 1078, 1080, 1082, 1084, 1086, 1088, 1090, 1092, 1094, 1096, 1098, 1100, 1102, 1104, 1106, 1108, 1110, 1112, 1114, 1116, 1118, 1120, 1122, 1124, 1126, 1128, 1130] (by decide +kernel) (by decide +kernel) w h).1
theorem wl_rr : ∀ w ∈ (wsL_law_r1 ++ (wsL_law_r2 ++ (wsL_law_r3 ++ (wsL_law_r4 ++ (wsL_law_r5 ++ (wsL_law_r6 ++ (wsL_law_r7 ++ (wsL_law_r8 ++ (wsL_law_r9 ++ (wsL_law_r10 ++ (wsL_law_r11 ++ (wsL_law_r12 ++ (wsL_law_r13 ++ (wsL_law_r14 ++ (wsL_law_r15 ++ (wsL_law_r16 ++ (wsL_law_r17 ++ (wsL_law_r18 ++ (wsL_law_r19 ++ (wsL_law_r20 ++ (wsL_law_r21 ++ (wsL_law_r22 ++ (wsL_law_r23 ++ (wsL_law_r24 ++ (wsL_law_r25 ++ (wsL_law_r26 ++ (wsL_law_r27 ++ (wsL_law_r28 ++ (wsL_law_r29 ++ (wsL_law_r30 ++ (wsL_law_r31 ++ (wsL_law_r32 ++ (wsL_law_r33 ++ (wsL_law_r34 ++ (wsL_law_r35 ++ (wsL_law_r36 ++ (wsL_law_r37 ++ (wsL_law_r38 ++ (wsL_law_r39 ++ (wsL_law_r40 ++ (wsL_law_r41 ++ (wsL_law_r42 ++ (wsL_law_r43 ++ (wsL_law_r44 ++ (wsL_law_r45 ++ (wsL_law_r46 ++ (wsL_law_r47 ++ (wsL_law_r48 ++ (wsL_law_r49 ++ (wsL_law_r50)))))))))))))))))))))))))))))))))))))))))))))))))), w ∈ lw_tbl := List.forall_mem_append.mpr ⟨wl__r1, List.forall_mem_append.mpr ⟨wl__r2, List.forall_mem_append.mpr ⟨wl__r3, List.forall_mem_append.mpr ⟨wl__r4, List.forall_mem_append.mpr ⟨wl__r5, List.forall_mem_append.mpr ⟨wl__r6, List.forall_mem_append.mpr ⟨wl__r7, List.forall_mem_append.mpr ⟨wl__r8, List.forall_mem_append.mpr ⟨wl__r9, List.forall_mem_append.mpr ⟨wl__r10, List.forall_mem_append.mpr ⟨wl__r11, List.forall_mem_append.mpr ⟨wl__r12, List.forall_mem_append.mpr ⟨wl__r13, List.forall_mem_append.mpr ⟨wl__r14, List.forall_mem_append.mpr ⟨wl__r15, List.forall_mem_append.mpr ⟨wl__r16, List.forall_mem_append.mpr ⟨wl__r17, List.forall_mem_append.mpr ⟨wl__r18, List.forall_mem_append.mpr ⟨wl__r19, List.forall_mem_append.mpr ⟨wl__r20, List.forall_mem_append.mpr ⟨wl__r21, List.forall_mem_append.mpr ⟨wl__r22, List.forall_mem_append.mpr ⟨wl__r23, List.forall_mem_append.mpr ⟨wl__r24, List.forall_mem_append.mpr ⟨wl__r25, List.forall_mem_append.mpr ⟨wl__r26, List.forall_mem_append.mpr ⟨wl__r27, List.forall_mem_append.mpr ⟨wl__r28, List.forall_mem_append.mpr ⟨wl__r29, List.forall_mem_append.mpr ⟨wl__r30, List.forall_mem_append.mpr ⟨wl__r31, List.forall_mem_append.mpr ⟨wl__r32, List.forall_mem_append.mpr ⟨wl__r33, List.forall_mem_append.mpr ⟨wl__r34, List.forall_mem_append.mpr ⟨wl__r35, List.forall_mem_append.mpr ⟨wl__r36, List.forall_mem_append.mpr ⟨wl__r37, List.forall_mem_append.mpr ⟨wl__r38, List.forall_mem_append.mpr ⟨wl__r39, List.forall_mem_append.mpr ⟨wl__r40, List.forall_mem_append.mpr ⟨wl__r41, List.forall_mem_append.mpr ⟨wl__r42, List.forall_mem_append.mpr ⟨wl__r43, List.forall_mem_append.mpr ⟨wl__r44, List.forall_mem_append.mpr ⟨wl__r45, List.forall_mem_append.mpr ⟨wl__r46, List.forall_mem_append.mpr ⟨wl__r47, List.forall_mem_append.mpr ⟨wl__r48, List.forall_mem_append.mpr ⟨wl__r49, wl__r50⟩⟩⟩⟩⟩⟩⟩⟩⟩⟩⟩⟩⟩⟩⟩⟩⟩⟩⟩⟩⟩⟩⟩⟩⟩⟩⟩⟩⟩⟩⟩⟩⟩⟩⟩⟩⟩⟩⟩⟩⟩⟩⟩⟩⟩⟩⟩⟩⟩
theorem wsL_law_in : ∀ w ∈ wsL_law, w ∈ lw_tbl := List.forall_mem_append.mpr ⟨List.forall_mem_append.mpr ⟨List.forall_mem_append.mpr ⟨List.forall_mem_append.mpr ⟨List.forall_mem_append.mpr ⟨List.forall_mem_append.mpr ⟨List.forall_mem_append.mpr ⟨List.forall_mem_append.mpr ⟨List.forall_mem_append.mpr ⟨List.forall_mem_append.mpr ⟨List.forall_mem_append.mpr ⟨wl_rr, wl_X8⟩, wl_X9⟩, wl_X4⟩, wl_X5⟩, wl_X7⟩, wl_X2⟩, wl_X1⟩, wl_X0⟩, wl_X3⟩, wl_X6⟩, fun _ h => absurd h List.not_mem_nil⟩

theorem inX0 : ∀ w ∈ wsX00, w ∈ lw_tbl := fun w h => wsL_law_in w (inlX0 w h)
theorem inX1 : ∀ w ∈ wsX10, w ∈ lw_tbl := fun w h => wsL_law_in w (inlX1 w h)
theorem inX2 : ∀ w ∈ wsX20, w ∈ lw_tbl := fun w h => wsL_law_in w (inlX2 w h)
theorem inX3 : ∀ w ∈ wsX30, w ∈ lw_tbl := fun w h => wsL_law_in w (inlX3 w h)
theorem inX4 : ∀ w ∈ wsX40, w ∈ lw_tbl := fun w h => wsL_law_in w (inlX4 w h)
theorem inX5 : ∀ w ∈ wsX50, w ∈ lw_tbl := fun w h => wsL_law_in w (inlX5 w h)
theorem inX6 : ∀ w ∈ wsX60, w ∈ lw_tbl := fun w h => wsL_law_in w (inlX6 w h)
theorem inX7 : ∀ w ∈ wsX70, w ∈ lw_tbl := fun w h => wsL_law_in w (inlX7 w h)
theorem inX8 : ∀ w ∈ wsX80, w ∈ lw_tbl := fun w h => wsL_law_in w (inlX8 w h)
theorem inX9 : ∀ w ∈ wsX90, w ∈ lw_tbl := fun w h => wsL_law_in w (inlX9 w h)
theorem inJ9 : ∀ w ∈ wsJ90, w ∈ lw_tbl := by decide +kernel
theorem inJ0 : ∀ w ∈ wsJ00, w ∈ lw_tbl := by decide +kernel
theorem inJ1 : ∀ w ∈ wsJ10, w ∈ lw_tbl := by decide +kernel
theorem inJ2 : ∀ w ∈ wsJ20, w ∈ lw_tbl := by decide +kernel
theorem inJ10 : ∀ w ∈ wsJ100, w ∈ lw_tbl := by decide +kernel
theorem inJ3 : ∀ w ∈ wsJ30, w ∈ lw_tbl := by decide +kernel
