set_option maxRecDepth 20000 in
theorem zi_wsL_law0_r1 : ∀ w ∈ wsL_law0_r1, w ∈ lw_tbl := fun w h => (goodIn_r wsL_law0_r1 [94, 95, 75, 1033, 1034, 89, 256, 96, 97, 98, 99, 100, 101, 102, 103, 76, 461, 462, 463, 123, 124, 78, 464, 192] rfl (by decide +kernel) w h).1
set_option maxRecDepth 20000 in
theorem zi_wsL_law0_r2 : ∀ w ∈ wsL_law0_r2, w ∈ lw_tbl := fun w h => (goodIn_r wsL_law0_r2 [193, 80, 465, 226, 227, 81, 466, 258, 259, 82, 467, 286, 468, 288, 84, 469, 403, 470, 257, 471, 405, 406, 87, 472] rfl (by decide +kernel) w h).1
set_option maxRecDepth 20000 in
theorem zi_wsL_law0_r3 : ∀ w ∈ wsL_law0_r3, w ∈ lw_tbl := fun w h => (goodIn_r wsL_law0_r3 [473, 439, 88, 474, 475, 476, 104, 105, 106, 107, 108, 109, 77, 110, 122, 111, 112, 126, 127, 128, 129, 130, 79, 181] rfl (by decide +kernel) w h).1
set_option maxRecDepth 20000 in
theorem zi_wsL_law0_r4 : ∀ w ∈ wsL_law0_r4, w ∈ lw_tbl := fun w h => (goodIn_r wsL_law0_r4 [132, 133, 134, 135, 154, 136, 195, 196, 197, 198, 200, 229, 230, 231, 232, 235, 236, 237, 238, 239, 260, 261, 262, 263] rfl (by decide +kernel) w h).1
set_option maxRecDepth 20000 in
theorem zi_wsL_law0_r5 : ∀ w ∈ wsL_law0_r5, w ∈ lw_tbl := fun w h => (goodIn_r wsL_law0_r5 [267, 273, 274, 264, 265, 83, 266, 289, 290, 291, 292, 293, 366, 295, 369, 297, 85, 331, 86, 299, 300, 301, 333, 334] rfl (by decide +kernel) w h).1
set_option maxRecDepth 20000 in
theorem zi_wsL_law0_r6 : ∀ w ∈ wsL_law0_r6, w ∈ lw_tbl := fun w h => (goodIn_r wsL_law0_r6 [335, 408, 409, 410, 411, 412, 414, 415, 417, 419, 441, 442, 443, 444, 446, 445, 460, 1035, 1036, 1037, 1038, 1040, 1042, 1055] rfl (by decide +kernel) w h).1
set_option maxRecDepth 20000 in
theorem zi_wsL_law0_r7 : ∀ w ∈ wsL_law0_r7, w ∈ lw_tbl := fun w h => (goodIn_r wsL_law0_r7 [1056, 1057, 1058, 1060, 1062, 1063, 1064, 1065, 1066, 1067, 1068, 1069, 1073, 1074, 1079, 1080, 1081, 1082, 1083, 1085, 1086, 1087, 510, 511] rfl (by decide +kernel) w h).1
set_option maxRecDepth 20000 in
theorem zi_wsL_law0_r8 : ∀ w ∈ wsL_law0_r8, w ∈ lw_tbl := fun w h => (goodIn_r wsL_law0_r8 [512, 513, 113, 514, 515, 516, 517, 518, 519, 520, 521, 1193, 1194, 1195, 1196, 1039, 1041, 1197, 1199, 38, 1200, 522, 523, 524] rfl (by decide +kernel) w h).1
set_option maxRecDepth 20000 in
theorem zi_wsL_law0_r9 : ∀ w ∈ wsL_law0_r9, w ∈ lw_tbl := fun w h => (goodIn_r wsL_law0_r9 [525, 1201, 1202, 1203, 1204, 526, 527, 528, 529, 182, 151, 153, 423, 530, 531, 532, 533, 183, 137, 421, 534, 535, 536, 537] rfl (by decide +kernel) w h).1
set_option maxRecDepth 20000 in
theorem zi_wsL_law0_r10 : ∀ w ∈ wsL_law0_r10, w ∈ lw_tbl := fun w h => (goodIn_r wsL_law0_r10 [422, 538, 539, 540, 541, 542, 543, 544, 545, 155, 156, 157, 150, 152, 546, 547, 548, 549, 115, 550, 551, 552, 139, 140] rfl (by decide +kernel) w h).1
set_option maxRecDepth 20000 in
theorem zi_wsL_law0_r11 : ∀ w ∈ wsL_law0_r11, w ∈ lw_tbl := fun w h => (goodIn_r wsL_law0_r11 [553, 554, 555, 556, 557, 558, 559, 560, 561, 562, 563, 565, 0, 566, 145, 567, 569, 1, 570, 571, 572, 573, 574, 576] rfl (by decide +kernel) w h).1
set_option maxRecDepth 20000 in
theorem zi_wsL_law0_r12 : ∀ w ∈ wsL_law0_r12, w ∈ lw_tbl := fun w h => (goodIn_r wsL_law0_r12 [2, 577, 578, 580, 3, 581, 147, 149, 582, 584, 4, 585, 586, 587, 588, 589, 590, 591, 592, 593, 594, 596, 5, 597] rfl (by decide +kernel) w h).1
set_option maxRecDepth 20000 in
theorem zi_wsL_law0_r13 : ∀ w ∈ wsL_law0_r13, w ∈ lw_tbl := fun w h => (goodIn_r wsL_law0_r13 [184, 598, 600, 6, 601, 141, 602, 603, 604, 605, 606, 607, 609, 7, 610, 143, 611, 613, 8, 614, 615, 616, 617, 618] rfl (by decide +kernel) w h).1
set_option maxRecDepth 20000 in
theorem zi_wsL_law0_r14 : ∀ w ∈ wsL_law0_r14, w ∈ lw_tbl := fun w h => (goodIn_r wsL_law0_r14 [619, 620, 621, 622, 623, 624, 625, 626, 627, 629, 9, 630, 631, 632, 633, 634, 635, 636, 637, 638, 639, 640, 641, 642] rfl (by decide +kernel) w h).1
set_option maxRecDepth 20000 in
theorem zi_wsL_law0_r15 : ∀ w ∈ wsL_law0_r15, w ∈ lw_tbl := fun w h => (goodIn_r wsL_law0_r15 [644, 10, 645, 646, 647, 648, 649, 650, 651, 653, 11, 654, 655, 656, 657, 658, 659, 660, 661, 662, 269, 271, 1205, 1206] rfl (by decide +kernel) w h).1
set_option maxRecDepth 20000 in
theorem zi_wsL_law0_r16 : ∀ w ∈ wsL_law0_r16, w ∈ lw_tbl := fun w h => (goodIn_r wsL_law0_r16 [1207, 1208, 1053, 1240, 1054, 1047, 1059, 1070, 1209, 1211, 39, 1212, 1043, 1213, 1215, 40, 1216, 1044, 1049, 1045, 1217, 1219, 41, 1220] rfl (by decide +kernel) w h).1
set_option maxRecDepth 20000 in
theorem zi_wsL_law0_r17 : ∀ w ∈ wsL_law0_r17, w ∈ lw_tbl := fun w h => (goodIn_r wsL_law0_r17 [1046, 1048, 1050, 1235, 1236, 1051, 1052, 1221, 1222, 1223, 1224, 1226, 42, 1227, 1228, 1229, 1230, 1231, 1233, 43, 1234, 1237, 1238, 1239] rfl (by decide +kernel) w h).1
set_option maxRecDepth 20000 in
theorem zi_wsL_law0_r18 : ∀ w ∈ wsL_law0_r18, w ∈ lw_tbl := fun w h => (goodIn_r wsL_law0_r18 [1242, 1244, 44, 1245, 1246, 1248, 45, 1249, 1250, 1252, 46, 1253, 1254, 1256, 47, 1257, 1258, 1260, 1262, 1264, 48, 1265, 1266, 1268] rfl (by decide +kernel) w h).1
set_option maxRecDepth 20000 in
theorem zi_wsL_law0_r19 : ∀ w ∈ wsL_law0_r19, w ∈ lw_tbl := fun w h => (goodIn_r wsL_law0_r19 [49, 1269, 1270, 1272, 50, 1273, 1274, 1276, 51, 1277, 1278, 1280, 52, 1281, 1089, 1088, 663, 664, 665, 666, 1282, 1283, 1284, 1285] rfl (by decide +kernel) w h).1
set_option maxRecDepth 20000 in
theorem zi_wsL_law0_r20 : ∀ w ∈ wsL_law0_r20, w ∈ lw_tbl := fun w h => (goodIn_r wsL_law0_r20 [918, 919, 74, 920, 921, 922, 923, 924, 925, 926, 93, 413, 416, 671, 673, 12, 674, 991, 1286, 1287, 1288, 1289, 1290, 1292] rfl (by decide +kernel) w h).1
set_option maxRecDepth 20000 in
theorem zi_wsL_law0_r21 : ∀ w ∈ wsL_law0_r21, w ∈ lw_tbl := fun w h => (goodIn_r wsL_law0_r21 [53, 1293, 667, 668, 669, 670, 675, 676, 677, 678, 679, 680, 681, 682, 683, 684, 685, 116, 686, 1294, 1295, 1296, 1297, 1061] rfl (by decide +kernel) w h).1
set_option maxRecDepth 20000 in
theorem zi_wsL_law0_r22 : ∀ w ∈ wsL_law0_r22, w ∈ lw_tbl := fun w h => (goodIn_r wsL_law0_r22 [1298, 1300, 54, 1301, 1302, 1304, 55, 1305, 1306, 1308, 56, 1309, 992, 993, 994, 995, 996, 997, 998, 1000, 1310, 1311, 1312, 1313] rfl (by decide +kernel) w h).1
set_option maxRecDepth 20000 in
theorem zi_wsL_law0_r23 : ∀ w ∈ wsL_law0_r23, w ∈ lw_tbl := fun w h => (goodIn_r wsL_law0_r23 [687, 688, 689, 690, 201, 691, 692, 693, 694, 202, 138, 374, 695, 696, 697, 698, 372, 376, 380, 382, 385, 699, 700, 701] rfl (by decide +kernel) w h).1
set_option maxRecDepth 20000 in
theorem zi_wsL_law0_r24 : ∀ w ∈ wsL_law0_r24, w ∈ lw_tbl := fun w h => (goodIn_r wsL_law0_r24 [702, 704, 13, 705, 706, 708, 14, 709, 204, 205, 203, 142, 710, 711, 712, 713, 714, 715, 716, 717, 718, 719, 720, 721] rfl (by decide +kernel) w h).1
set_option maxRecDepth 20000 in
theorem zi_wsL_law0_r25 : ∀ w ∈ wsL_law0_r25, w ∈ lw_tbl := fun w h => (goodIn_r wsL_law0_r25 [722, 302, 305, 309, 312, 316, 317, 723, 724, 726, 15, 727, 206, 146, 207, 148, 208, 728, 729, 731, 16, 732, 144, 420] rfl (by decide +kernel) w h).1
set_option maxRecDepth 20000 in
theorem zi_wsL_law0_r26 : ∀ w ∈ wsL_law0_r26, w ∈ lw_tbl := fun w h => (goodIn_r wsL_law0_r26 [378, 733, 734, 736, 17, 737, 738, 740, 18, 741, 742, 743, 744, 745, 746, 747, 748, 750, 19, 751, 418, 752, 753, 754] rfl (by decide +kernel) w h).1
set_option maxRecDepth 20000 in
theorem zi_wsL_law0_r27 : ∀ w ∈ wsL_law0_r27, w ∈ lw_tbl := fun w h => (goodIn_r wsL_law0_r27 [755, 307, 314, 756, 757, 758, 759, 337, 338, 341, 349, 310, 760, 761, 762, 763, 342, 344, 346, 764, 766, 20, 767, 768] rfl (by decide +kernel) w h).1
set_option maxRecDepth 20000 in
theorem zi_wsL_law0_r28 : ∀ w ∈ wsL_law0_r28, w ∈ lw_tbl := fun w h => (goodIn_r wsL_law0_r28 [770, 21, 771, 1314, 1315, 1316, 1317, 1318, 1320, 57, 1321, 1322, 1324, 58, 1325, 1071, 1072, 1326, 1328, 59, 1329, 1330, 1332, 60] rfl (by decide +kernel) w h).1
set_option maxRecDepth 20000 in
theorem zi_wsL_law0_r29 : ∀ w ∈ wsL_law0_r29, w ∈ lw_tbl := fun w h => (goodIn_r wsL_law0_r29 [1333, 1334, 1336, 61, 1337, 1338, 1340, 62, 1341, 1342, 1344, 63, 1345, 1001, 1002, 1003, 1004, 1005, 1006, 1007, 368, 304, 308, 311] rfl (by decide +kernel) w h).1
set_option maxRecDepth 20000 in
theorem zi_wsL_law0_r30 : ∀ w ∈ wsL_law0_r30, w ∈ lw_tbl := fun w h => (goodIn_r wsL_law0_r30 [315, 1008, 1010, 37, 1011, 375, 776, 778, 22, 779, 1346, 1347, 1348, 1349, 1350, 1352, 64, 1353, 1354, 1356, 65, 1357, 772, 773] rfl (by decide +kernel) w h).1
set_option maxRecDepth 20000 in
theorem zi_wsL_law0_r31 : ∀ w ∈ wsL_law0_r31, w ∈ lw_tbl := fun w h => (goodIn_r wsL_law0_r31 [774, 775, 1358, 1359, 1360, 1361, 780, 781, 782, 783, 384, 784, 786, 23, 787, 381, 788, 789, 790, 791, 240, 234, 373, 367] rfl (by decide +kernel) w h).1
set_option maxRecDepth 20000 in
theorem zi_wsL_law0_r32 : ∀ w ∈ wsL_law0_r32, w ∈ lw_tbl := fun w h => (goodIn_r wsL_law0_r32 [303, 792, 794, 24, 795, 306, 796, 798, 25, 799, 313, 377, 370, 336, 340, 800, 802, 26, 803, 804, 805, 806, 807, 808] rfl (by decide +kernel) w h).1
set_option maxRecDepth 20000 in
theorem zi_wsL_law0_r33 : ∀ w ∈ wsL_law0_r33, w ∈ lw_tbl := fun w h => (goodIn_r wsL_law0_r33 [809, 810, 811, 813, 27, 814, 815, 817, 28, 818, 383, 386, 819, 821, 29, 822, 823, 347, 345, 343, 339, 824, 826, 30] rfl (by decide +kernel) w h).1
set_option maxRecDepth 20000 in
theorem zi_wsL_law0_r34 : ∀ w ∈ wsL_law0_r34, w ∈ lw_tbl := fun w h => (goodIn_r wsL_law0_r34 [827, 828, 829, 830, 831, 348, 832, 833, 834, 835, 836, 837, 1362, 1363, 1364, 1365, 1075, 1366, 1368, 66, 1369, 1076, 1077, 1078] rfl (by decide +kernel) w h).1
set_option maxRecDepth 20000 in
theorem zi_wsL_law0_r35 : ∀ w ∈ wsL_law0_r35, w ∈ lw_tbl := fun w h => (goodIn_r wsL_law0_r35 [1370, 1372, 67, 1373, 1374, 1376, 68, 1377, 1378, 1380, 69, 1381, 1013, 1014, 1015, 1016, 1017, 1018, 1019, 1021, 1022, 1023, 1024, 1382] rfl (by decide +kernel) w h).1
set_option maxRecDepth 20000 in
theorem zi_wsL_law0_r36 : ∀ w ∈ wsL_law0_r36, w ∈ lw_tbl := fun w h => (goodIn_r wsL_law0_r36 [1383, 1384, 1385, 1025, 1026, 1027, 1028, 1029, 1030, 1031, 379, 371, 350, 1386, 1387, 1388, 1389, 838, 839, 840, 841, 387, 1390, 1391] rfl (by decide +kernel) w h).1
set_option maxRecDepth 20000 in
theorem zi_wsL_law0_r37 : ∀ w ∈ wsL_law0_r37, w ∈ lw_tbl := fun w h => (goodIn_r wsL_law0_r37 [1392, 1393, 842, 843, 844, 845, 846, 847, 848, 849, 850, 851, 852, 853, 449, 114, 447, 448, 854, 855, 856, 1394, 1395, 1396] rfl (by decide +kernel) w h).1
set_option maxRecDepth 20000 in
theorem zi_wsL_law0_r38 : ∀ w ∈ wsL_law0_r38, w ∈ lw_tbl := fun w h => (goodIn_r wsL_law0_r38 [1397, 1084, 1398, 1399, 1400, 1401, 857, 858, 859, 860, 450, 861, 863, 31, 864, 1402, 1403, 1404, 1405, 1406, 1408, 70, 1409, 865] rfl (by decide +kernel) w h).1
set_option maxRecDepth 20000 in
theorem zi_wsL_law0_r39 : ∀ w ∈ wsL_law0_r39, w ∈ lw_tbl := fun w h => (goodIn_r wsL_law0_r39 [866, 867, 868, 869, 871, 32, 872, 873, 874, 875, 876, 877, 878, 879, 880, 881, 882, 884, 33, 885, 1410, 1411, 1412, 1413] rfl (by decide +kernel) w h).1
set_option maxRecDepth 20000 in
theorem zi_wsL_law0_r40 : ∀ w ∈ wsL_law0_r40, w ∈ lw_tbl := fun w h => (goodIn_r wsL_law0_r40 [1414, 1416, 71, 1417, 1418, 1420, 72, 1421, 1422, 1424, 73, 1425, 886, 887, 888, 889, 890, 270, 891, 892, 893, 894, 895, 896] rfl (by decide +kernel) w h).1
set_option maxRecDepth 20000 in
theorem zi_wsL_law0_r41 : ∀ w ∈ wsL_law0_r41, w ∈ lw_tbl := fun w h => (goodIn_r wsL_law0_r41 [897, 898, 900, 899, 901, 903, 34, 904, 905, 906, 908, 35, 909, 1426, 1427, 1428, 1429, 1430, 1431, 1432, 910, 911, 912, 913] rfl (by decide +kernel) w h).1
set_option maxRecDepth 20000 in
theorem zi_wsL_law0_r42 : ∀ w ∈ wsL_law0_r42, w ∈ lw_tbl := fun w h => (goodIn_r wsL_law0_r42 [268, 1433, 1434, 1435, 1436, 914, 915, 916, 917, 272, 1437, 1438, 1439, 1440] rfl (by decide +kernel) w h).1
set_option maxRecDepth 20000 in
theorem zi_wsX110 : ∀ w ∈ wsX110, w ∈ lw_tbl := fun w h => (goodIn_r wsX110 [477, 479, 481, 483, 485, 487, 489, 491, 493, 495, 497, 499, 501, 503, 505, 507] rfl (by decide +kernel) w h).1
set_option maxRecDepth 20000 in
theorem zi_wsX120 : ∀ w ∈ wsX120, w ∈ lw_tbl := fun w h => (goodIn_r wsX120 [1090, 1092, 1094, 1096, 1098, 1100, 1102, 1104, 1106, 1108, 1110, 1112, 1114, 1116, 1118, 1120, 1122, 1124, 1126, 1128, 1130, 1132, 1134, 1136, 1138, 1140, 1142, 1144, 1146, 1148, 1150, 1152, 1154, 1156, 1158, 1160, 1162, 1164, 1166, 1168, 1170, 1172, 1174, 1176, 1178, 1180, 1182, 1184, 1186, 1188, 1190] rfl (by decide +kernel) w h).1
set_option maxRecDepth 20000 in
theorem zi_wsX70 : ∀ w ∈ wsX70, w ∈ lw_tbl := fun w h => (goodIn_r wsX70 [117, 119] rfl (by decide +kernel) w h).1
set_option maxRecDepth 20000 in
theorem zi_wsX100 : ∀ w ∈ wsX100, w ∈ lw_tbl := fun w h => (goodIn_r wsX100 [185, 187, 189] rfl (by decide +kernel) w h).1
set_option maxRecDepth 20000 in
theorem zi_wsX60 : ∀ w ∈ wsX60, w ∈ lw_tbl := fun w h => (goodIn_r wsX60 [209, 211, 213, 215, 217, 219, 221, 223] rfl (by decide +kernel) w h).1
set_option maxRecDepth 20000 in
theorem zi_wsX40 : ∀ w ∈ wsX40, w ∈ lw_tbl := fun w h => (goodIn_r wsX40 [241, 243, 245, 247, 249, 251, 253] rfl (by decide +kernel) w h).1
set_option maxRecDepth 20000 in
theorem zi_wsX30 : ∀ w ∈ wsX30, w ∈ lw_tbl := fun w h => (goodIn_r wsX30 [275, 277, 279, 281, 283] rfl (by decide +kernel) w h).1
set_option maxRecDepth 20000 in
theorem zi_wsX50 : ∀ w ∈ wsX50, w ∈ lw_tbl := fun w h => (goodIn_r wsX50 [388, 390, 392, 394, 396, 398, 400] rfl (by decide +kernel) w h).1
set_option maxRecDepth 20000 in
theorem zi_wsX90 : ∀ w ∈ wsX90, w ∈ lw_tbl := fun w h => (goodIn_r wsX90 [424, 426, 428, 430, 432, 434, 436] rfl (by decide +kernel) w h).1
set_option maxRecDepth 20000 in
theorem zi_wsX00 : ∀ w ∈ wsX00, w ∈ lw_tbl := fun w h => (goodIn_r wsX00 [451, 453, 455, 457] rfl (by decide +kernel) w h).1
set_option maxRecDepth 20000 in
theorem zi_wsX80 : ∀ w ∈ wsX80, w ∈ lw_tbl := fun w h => (goodIn_r wsX80 [158, 160, 162, 164, 166, 168, 170, 172, 174, 176, 178] rfl (by decide +kernel) w h).1
set_option maxRecDepth 20000 in
theorem zi_wsX20 : ∀ w ∈ wsX20, w ∈ lw_tbl := fun w h => (goodIn_r wsX20 [318, 320, 322, 324, 326, 328] rfl (by decide +kernel) w h).1
set_option maxRecDepth 20000 in
theorem zi_wsX10 : ∀ w ∈ wsX10, w ∈ lw_tbl := fun w h => (goodIn_r wsX10 [351, 353, 355, 357, 359, 361, 363] rfl (by decide +kernel) w h).1
set_option maxRecDepth 20000 in
theorem wsL_law_in0 : ∀ w ∈ wsL_law0, w ∈ lw_tbl := fun w h => (List.mem_append.mp h).elim (fun h => (List.mem_append.mp h).elim (fun h => (List.mem_append.mp h).elim (fun h => (List.mem_append.mp h).elim (fun h => (List.mem_append.mp h).elim (fun h => (List.mem_append.mp h).elim (fun h => (List.mem_append.mp h).elim (fun h => (List.mem_append.mp h).elim (fun h => (List.mem_append.mp h).elim (fun h => (List.mem_append.mp h).elim (fun h => (List.mem_append.mp h).elim (fun h => (List.mem_append.mp h).elim (fun h => (List.mem_append.mp h).elim (fun h => (List.mem_append.mp h).elim (fun h => (List.mem_append.mp h).elim (fun h => zi_wsL_law0_r1 w h) (fun h => (List.mem_append.mp h).elim (fun h => zi_wsL_law0_r2 w h) (fun h => (List.mem_append.mp h).elim (fun h => zi_wsL_law0_r3 w h) (fun h => (List.mem_append.mp h).elim (fun h => zi_wsL_law0_r4 w h) (fun h => (List.mem_append.mp h).elim (fun h => zi_wsL_law0_r5 w h) (fun h => (List.mem_append.mp h).elim (fun h => zi_wsL_law0_r6 w h) (fun h => (List.mem_append.mp h).elim (fun h => zi_wsL_law0_r7 w h) (fun h => (List.mem_append.mp h).elim (fun h => zi_wsL_law0_r8 w h) (fun h => (List.mem_append.mp h).elim (fun h => zi_wsL_law0_r9 w h) (fun h => (List.mem_append.mp h).elim (fun h => zi_wsL_law0_r10 w h) (fun h => (List.mem_append.mp h).elim (fun h => zi_wsL_law0_r11 w h) (fun h => (List.mem_append.mp h).elim (fun h => zi_wsL_law0_r12 w h) (fun h => (List.mem_append.mp h).elim (fun h => zi_wsL_law0_r13 w h) (fun h => (List.mem_append.mp h).elim (fun h => zi_wsL_law0_r14 w h) (fun h => (List.mem_append.mp h).elim (fun h => zi_wsL_law0_r15 w h) (fun h => (List.mem_append.mp h).elim (fun h => zi_wsL_law0_r16 w h) (fun h => (List.mem_append.mp h).elim (fun h => zi_wsL_law0_r17 w h) (fun h => (List.mem_append.mp h).elim (fun h => zi_wsL_law0_r18 w h) (fun h => (List.mem_append.mp h).elim (fun h => zi_wsL_law0_r19 w h) (fun h => (List.mem_append.mp h).elim (fun h => zi_wsL_law0_r20 w h) (fun h => (List.mem_append.mp h).elim (fun h => zi_wsL_law0_r21 w h) (fun h => (List.mem_append.mp h).elim (fun h => zi_wsL_law0_r22 w h) (fun h => (List.mem_append.mp h).elim (fun h => zi_wsL_law0_r23 w h) (fun h => (List.mem_append.mp h).elim (fun h => zi_wsL_law0_r24 w h) (fun h => (List.mem_append.mp h).elim (fun h => zi_wsL_law0_r25 w h) (fun h => (List.mem_append.mp h).elim (fun h => zi_wsL_law0_r26 w h) (fun h => (List.mem_append.mp h).elim (fun h => zi_wsL_law0_r27 w h) (fun h => (List.mem_append.mp h).elim (fun h => zi_wsL_law0_r28 w h) (fun h => (List.mem_append.mp h).elim (fun h => zi_wsL_law0_r29 w h) (fun h => (List.mem_append.mp h).elim (fun h => zi_wsL_law0_r30 w h) (fun h => (List.mem_append.mp h).elim (fun h => zi_wsL_law0_r31 w h) (fun h => (List.mem_append.mp h).elim (fun h => zi_wsL_law0_r32 w h) (fun h => (List.mem_append.mp h).elim (fun h => zi_wsL_law0_r33 w h) (fun h => (List.mem_append.mp h).elim (fun h => zi_wsL_law0_r34 w h) (fun h => (List.mem_append.mp h).elim (fun h => zi_wsL_law0_r35 w h) (fun h => (List.mem_append.mp h).elim (fun h => zi_wsL_law0_r36 w h) (fun h => (List.mem_append.mp h).elim (fun h => zi_wsL_law0_r37 w h) (fun h => (List.mem_append.mp h).elim (fun h => zi_wsL_law0_r38 w h) (fun h => (List.mem_append.mp h).elim (fun h => zi_wsL_law0_r39 w h) (fun h => (List.mem_append.mp h).elim (fun h => zi_wsL_law0_r40 w h) (fun h => (List.mem_append.mp h).elim (fun h => zi_wsL_law0_r41 w h) (fun h => zi_wsL_law0_r42 w h)))))))))))))))))))))))))))))))))))))))))) (fun h => zi_wsX110 w h)) (fun h => zi_wsX120 w h)) (fun h => zi_wsX70 w h)) (fun h => zi_wsX100 w h)) (fun h => zi_wsX60 w h)) (fun h => zi_wsX40 w h)) (fun h => zi_wsX30 w h)) (fun h => zi_wsX50 w h)) (fun h => zi_wsX90 w h)) (fun h => zi_wsX00 w h)) (fun h => zi_wsX80 w h)) (fun h => zi_wsX20 w h)) (fun h => zi_wsX10 w h)) (fun h => absurd h List.not_mem_nil)
set_option maxRecDepth 20000 in
theorem wsL_law_x0 : ∀ w ∈ (zt_at RX11 139).filter goodWord, w ∈ lw_tbl := fun w h => (goodIn_r ((zt_at RX11 139).filter goodWord) [90, 948, 957, 959, 962, 964, 949, 950, 100, 101, 951, 956, 960, 980, 938, 981, 940, 982, 942, 952, 954, 944, 976, 977, 979, 944, 967, 968, 969, 970, 970, 971, 972, 973, 973, 974, 975, 976, 966, 927, 935, 936, 937, 939, 941, 943, 947, 946, 945] rfl (by decide +kernel) w h).1
theorem wsL_law_in : ∀ w ∈ wsL_law, w ∈ lw_tbl := fun w h => (List.mem_append.mp h).elim (fun h => wsL_law_in0 w h) (fun h => wsL_law_x0 w h)
theorem inlX0 : ∀ w ∈ wsX00, w ∈ wsL_law := fun _ h => List.mem_append_left _ (List.mem_append_left _ (List.mem_append_left _ (List.mem_append_left _ (List.mem_append_left _ (List.mem_append_right _ h)))))
theorem inX0 : ∀ w ∈ wsX00, w ∈ lw_tbl := fun w h => wsL_law_in w (inlX0 w h)
theorem inlX1 : ∀ w ∈ wsX10, w ∈ wsL_law := fun _ h => List.mem_append_left _ (List.mem_append_left _ (List.mem_append_right _ h))
theorem inX1 : ∀ w ∈ wsX10, w ∈ lw_tbl := fun w h => wsL_law_in w (inlX1 w h)
theorem inlX2 : ∀ w ∈ wsX20, w ∈ wsL_law := fun _ h => List.mem_append_left _ (List.mem_append_left _ (List.mem_append_left _ (List.mem_append_right _ h)))
theorem inX2 : ∀ w ∈ wsX20, w ∈ lw_tbl := fun w h => wsL_law_in w (inlX2 w h)
theorem inlX3 : ∀ w ∈ wsX30, w ∈ wsL_law := fun _ h => List.mem_append_left _ (List.mem_append_left _ (List.mem_append_left _ (List.mem_append_left _ (List.mem_append_left _ (List.mem_append_left _ (List.mem_append_left _ (List.mem_append_left _ (List.mem_append_right _ h))))))))
theorem inX3 : ∀ w ∈ wsX30, w ∈ lw_tbl := fun w h => wsL_law_in w (inlX3 w h)
theorem inlX4 : ∀ w ∈ wsX40, w ∈ wsL_law := fun _ h => List.mem_append_left _ (List.mem_append_left _ (List.mem_append_left _ (List.mem_append_left _ (List.mem_append_left _ (List.mem_append_left _ (List.mem_append_left _ (List.mem_append_left _ (List.mem_append_left _ (List.mem_append_right _ h)))))))))
theorem inX4 : ∀ w ∈ wsX40, w ∈ lw_tbl := fun w h => wsL_law_in w (inlX4 w h)
theorem inlX5 : ∀ w ∈ wsX50, w ∈ wsL_law := fun _ h => List.mem_append_left _ (List.mem_append_left _ (List.mem_append_left _ (List.mem_append_left _ (List.mem_append_left _ (List.mem_append_left _ (List.mem_append_left _ (List.mem_append_right _ h)))))))
theorem inX5 : ∀ w ∈ wsX50, w ∈ lw_tbl := fun w h => wsL_law_in w (inlX5 w h)
theorem inlX6 : ∀ w ∈ wsX60, w ∈ wsL_law := fun _ h => List.mem_append_left _ (List.mem_append_left _ (List.mem_append_left _ (List.mem_append_left _ (List.mem_append_left _ (List.mem_append_left _ (List.mem_append_left _ (List.mem_append_left _ (List.mem_append_left _ (List.mem_append_left _ (List.mem_append_right _ h))))))))))
theorem inX6 : ∀ w ∈ wsX60, w ∈ lw_tbl := fun w h => wsL_law_in w (inlX6 w h)
theorem inlX7 : ∀ w ∈ wsX70, w ∈ wsL_law := fun _ h => List.mem_append_left _ (List.mem_append_left _ (List.mem_append_left _ (List.mem_append_left _ (List.mem_append_left _ (List.mem_append_left _ (List.mem_append_left _ (List.mem_append_left _ (List.mem_append_left _ (List.mem_append_left _ (List.mem_append_left _ (List.mem_append_left _ (List.mem_append_right _ h))))))))))))
theorem inX7 : ∀ w ∈ wsX70, w ∈ lw_tbl := fun w h => wsL_law_in w (inlX7 w h)
theorem inlX8 : ∀ w ∈ wsX80, w ∈ wsL_law := fun _ h => List.mem_append_left _ (List.mem_append_left _ (List.mem_append_left _ (List.mem_append_left _ (List.mem_append_right _ h))))
theorem inX8 : ∀ w ∈ wsX80, w ∈ lw_tbl := fun w h => wsL_law_in w (inlX8 w h)
theorem inlX9 : ∀ w ∈ wsX90, w ∈ wsL_law := fun _ h => List.mem_append_left _ (List.mem_append_left _ (List.mem_append_left _ (List.mem_append_left _ (List.mem_append_left _ (List.mem_append_left _ (List.mem_append_right _ h))))))
theorem inX9 : ∀ w ∈ wsX90, w ∈ lw_tbl := fun w h => wsL_law_in w (inlX9 w h)
theorem inlX10 : ∀ w ∈ wsX100, w ∈ wsL_law := fun _ h => List.mem_append_left _ (List.mem_append_left _ (List.mem_append_left _ (List.mem_append_left _ (List.mem_append_left _ (List.mem_append_left _ (List.mem_append_left _ (List.mem_append_left _ (List.mem_append_left _ (List.mem_append_left _ (List.mem_append_left _ (List.mem_append_right _ h)))))))))))
theorem inX10 : ∀ w ∈ wsX100, w ∈ lw_tbl := fun w h => wsL_law_in w (inlX10 w h)
theorem inlX11 : ∀ w ∈ wsX110, w ∈ wsL_law := fun _ h => List.mem_append_left _ (List.mem_append_left _ (List.mem_append_left _ (List.mem_append_left _ (List.mem_append_left _ (List.mem_append_left _ (List.mem_append_left _ (List.mem_append_left _ (List.mem_append_left _ (List.mem_append_left _ (List.mem_append_left _ (List.mem_append_left _ (List.mem_append_left _ (List.mem_append_left _ (List.mem_append_right _ h))))))))))))))
theorem inX11 : ∀ w ∈ wsX110, w ∈ lw_tbl := fun w h => wsL_law_in w (inlX11 w h)
theorem inlX12 : ∀ w ∈ wsX120, w ∈ wsL_law := fun _ h => List.mem_append_left _ (List.mem_append_left _ (List.mem_append_left _ (List.mem_append_left _ (List.mem_append_left _ (List.mem_append_left _ (List.mem_append_left _ (List.mem_append_left _ (List.mem_append_left _ (List.mem_append_left _ (List.mem_append_left _ (List.mem_append_left _ (List.mem_append_left _ (List.mem_append_right _ h)))))))))))))
theorem inX12 : ∀ w ∈ wsX120, w ∈ lw_tbl := fun w h => wsL_law_in w (inlX12 w h)
theorem inJ9 : ∀ w ∈ wsJ90, w ∈ lw_tbl := by decide +kernel
theorem inJ0 : ∀ w ∈ wsJ00, w ∈ lw_tbl := by decide +kernel
theorem inJ7 : ∀ w ∈ wsJ70, w ∈ lw_tbl := by decide +kernel
