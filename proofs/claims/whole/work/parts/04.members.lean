set_option maxRecDepth 20000 in
theorem lg_wsL_law0_r1 : GoodIn lw_tbl wsL_law0_r1 := goodIn_r _ [64, 65, 35, 1094, 1095, 41, 88, 66, 67, 68, 69, 70, 71, 72, 73, 36, 161, 98, 99, 38, 162, 116, 117, 39] (by decide +kernel) (by decide +kernel)
set_option maxRecDepth 20000 in
theorem lg_wsL_law0_r2 : GoodIn lw_tbl wsL_law0_r2 := goodIn_r _ [163, 134, 79, 37, 164, 136, 137, 40, 165, 166, 159, 167, 168, 169, 170, 74, 75, 76, 77, 78, 94, 89, 80, 81] (by decide +kernel) (by decide +kernel)
set_option maxRecDepth 20000 in
theorem lg_wsL_law0_r3 : GoodIn lw_tbl wsL_law0_r3 := goodIn_r _ [82, 83, 84, 90, 91, 92, 93, 100, 101, 102, 103, 104, 106, 107, 108, 105, 119, 120, 121, 122, 124, 125, 126, 123] (by decide +kernel) (by decide +kernel)
set_option maxRecDepth 20000 in
theorem lg_wsL_law0_r4 : GoodIn lw_tbl wsL_law0_r4 := goodIn_r _ [135, 139, 140, 141, 142, 146, 147, 148, 144, 149, 143, 145, 1096, 1097, 1098, 1099, 1201, 1102, 1104, 1105, 1106, 1107, 1108, 1109] (by decide +kernel) (by decide +kernel)
set_option maxRecDepth 20000 in
theorem lg_wsL_law0_r5 : GoodIn lw_tbl wsL_law0_r5 := goodIn_r _ [1110, 1111, 1112, 1113, 1114, 1115, 1116, 1117, 1118, 1119, 1120, 1121, 1122, 1123, 1124, 1125, 1126, 1127, 1128, 1129, 1100, 1130, 1131, 1132] (by decide +kernel) (by decide +kernel)
set_option maxRecDepth 20000 in
theorem lg_wsL_law0_r6 : GoodIn lw_tbl wsL_law0_r6 := goodIn_r _ [192, 193, 34, 194, 195, 196, 197, 198, 199, 200, 201, 278, 46, 316, 48, 294, 295, 47, 332, 333, 49, 378, 50, 379] (by decide +kernel) (by decide +kernel)
set_option maxRecDepth 20000 in
theorem lg_wsL_law0_r7 : GoodIn lw_tbl wsL_law0_r7 := goodIn_r _ [380, 51, 401, 402, 52, 202, 204, 0, 205, 206, 45, 274, 276, 2, 277, 296, 297, 298, 299, 300, 301, 302, 303, 311] (by decide +kernel) (by decide +kernel)
set_option maxRecDepth 20000 in
theorem lg_wsL_law0_r8 : GoodIn lw_tbl wsL_law0_r8 := goodIn_r _ [312, 313, 314, 334, 335, 336, 337, 338, 345, 346, 349, 340, 350, 351, 352, 347, 341, 342, 343, 344, 348, 339, 381, 382] (by decide +kernel) (by decide +kernel)
set_option maxRecDepth 20000 in
theorem lg_wsL_law0_r9 : GoodIn lw_tbl wsL_law0_r9 := goodIn_r _ [383, 384, 385, 388, 389, 390, 391, 386, 387, 403, 404, 405, 406, 407, 410, 411, 412, 409, 408, 422, 423, 424, 425, 426] (by decide +kernel) (by decide +kernel)
set_option maxRecDepth 20000 in
theorem lg_wsL_law0_r10 : GoodIn lw_tbl wsL_law0_r10 := goodIn_r _ [428, 430, 432, 1206, 1207, 1208, 1209, 1103, 1101, 1210, 1211, 1212, 1213, 1214, 1215, 1216, 1217, 1218, 1219, 1220, 1221, 1222, 1224, 17] (by decide +kernel) (by decide +kernel)
set_option maxRecDepth 20000 in
theorem lg_wsL_law0_r11 : GoodIn lw_tbl wsL_law0_r11 := goodIn_r _ [1225, 1133, 1202, 1203, 1204, 1205, 443, 444, 445, 446, 447, 448, 449, 451, 453, 3, 454, 456, 457, 458, 459, 460, 461, 462] (by decide +kernel) (by decide +kernel)
set_option maxRecDepth 20000 in
theorem lg_wsL_law0_r12 : GoodIn lw_tbl wsL_law0_r12 := goodIn_r _ [463, 1226, 1227, 1228, 1229, 464, 465, 466, 467, 468, 469, 470, 473, 475, 4, 476, 431, 477, 478, 479, 480, 481, 482, 483] (by decide +kernel) (by decide +kernel)
set_option maxRecDepth 20000 in
theorem lg_wsL_law0_r13 : GoodIn lw_tbl wsL_law0_r13 := goodIn_r _ [484, 485, 486, 487, 488, 489, 490, 491, 1230, 1231, 1232, 1233, 1234, 1236, 18, 1237, 492, 493, 494, 495, 496, 497, 498, 429] (by decide +kernel) (by decide +kernel)
set_option maxRecDepth 20000 in
theorem lg_wsL_law0_r14 : GoodIn lw_tbl wsL_law0_r14 := goodIn_r _ [499, 501, 5, 502, 504, 505, 506, 507, 508, 509, 511, 6, 512, 513, 514, 515, 516, 518, 519, 520, 521, 526, 522, 523] (by decide +kernel) (by decide +kernel)
set_option maxRecDepth 20000 in
theorem lg_wsL_law0_r15 : GoodIn lw_tbl wsL_law0_r15 := goodIn_r _ [524, 525, 527, 528, 529, 530, 531, 532, 533, 534, 535, 536, 537, 538, 539, 540, 541, 542, 543, 544, 545, 547, 7, 548] (by decide +kernel) (by decide +kernel)
set_option maxRecDepth 20000 in
theorem lg_wsL_law0_r16 : GoodIn lw_tbl wsL_law0_r16 := goodIn_r _ [549, 550, 551, 552, 553, 554, 555, 556, 557, 558, 559, 560, 561, 562, 563, 564, 566, 8, 567, 568, 570, 9, 571, 572] (by decide +kernel) (by decide +kernel)
set_option maxRecDepth 20000 in
theorem lg_wsL_law0_r17 : GoodIn lw_tbl wsL_law0_r17 := goodIn_r _ [573, 574, 575, 576, 577, 578, 579, 580, 581, 582, 583, 584, 586, 10, 587, 588, 589, 590, 591, 1238, 1239, 1240, 1241, 1250] (by decide +kernel) (by decide +kernel)
set_option maxRecDepth 20000 in
theorem lg_wsL_law0_r18 : GoodIn lw_tbl wsL_law0_r18 := goodIn_r _ [1242, 1244, 19, 1245, 1246, 1248, 20, 1249, 1251, 1253, 21, 1254, 1255, 1257, 22, 1258, 1259, 1261, 23, 1262, 1268, 1263, 1265, 24] (by decide +kernel) (by decide +kernel)
set_option maxRecDepth 20000 in
theorem lg_wsL_law0_r19 : GoodIn lw_tbl wsL_law0_r19 := goodIn_r _ [1266, 1267, 592, 593, 594, 595, 596, 597, 598, 599, 600, 601, 602, 604, 605, 606, 607, 608, 1269, 1270, 1271, 1272, 1273, 1275] (by decide +kernel) (by decide +kernel)
set_option maxRecDepth 20000 in
theorem lg_wsL_law0_r20 : GoodIn lw_tbl wsL_law0_r20 := goodIn_r _ [25, 1276, 609, 610, 611, 612, 613, 614, 615, 617, 618, 619, 620, 1277, 1278, 1279, 1280, 621, 622, 623, 624, 625, 626, 627] (by decide +kernel) (by decide +kernel)
set_option maxRecDepth 20000 in
theorem lg_wsL_law0_r21 : GoodIn lw_tbl wsL_law0_r21 := goodIn_r _ [629, 630, 631, 632, 633, 634, 635, 636, 638, 639, 640, 641, 1281, 1282, 1283, 1284, 1285, 1287, 26, 1288, 642, 643, 644, 645] (by decide +kernel) (by decide +kernel)
set_option maxRecDepth 20000 in
theorem lg_wsL_law0_r22 : GoodIn lw_tbl wsL_law0_r22 := goodIn_r _ [646, 647, 648, 650, 651, 652, 653, 1289, 1290, 1291, 1292, 654, 655, 656, 657, 658, 659, 660, 661, 662, 663, 664, 666, 667] (by decide +kernel) (by decide +kernel)
set_option maxRecDepth 20000 in
theorem lg_wsL_law0_r23 : GoodIn lw_tbl wsL_law0_r23 := goodIn_r _ [668, 669, 1293, 1294, 1295, 1296, 670, 671, 672, 673, 674, 675, 676, 678, 1297, 1298, 1299, 1300, 679, 680, 681, 682, 683, 684] (by decide +kernel) (by decide +kernel)
set_option maxRecDepth 20000 in
theorem lg_wsL_law0_r24 : GoodIn lw_tbl wsL_law0_r24 := goodIn_r _ [685, 427, 433, 686, 687, 688, 689, 690, 691, 692, 693, 694, 695, 697, 11, 698, 699, 700, 701, 702, 703, 704, 53, 705] (by decide +kernel) (by decide +kernel)
set_option maxRecDepth 20000 in
theorem lg_wsL_law0_r25 : GoodIn lw_tbl wsL_law0_r25 := goodIn_r _ [706, 707, 708, 709, 710, 711, 713, 12, 714, 715, 716, 717, 718, 719, 720, 1301, 1302, 1303, 1304, 1305, 1307, 27, 1308, 1309] (by decide +kernel) (by decide +kernel)
set_option maxRecDepth 20000 in
theorem lg_wsL_law0_r26 : GoodIn lw_tbl wsL_law0_r26 := goodIn_r _ [1311, 28, 1312, 1313, 1315, 29, 1316, 721, 722, 723, 724, 725, 726, 727, 729, 731, 13, 732, 733, 735, 1317, 1318, 1319, 1320] (by decide +kernel) (by decide +kernel)
set_option maxRecDepth 20000 in
theorem lg_wsL_law0_r27 : GoodIn lw_tbl wsL_law0_r27 := goodIn_r _ [736, 737, 738, 739, 740, 741, 742, 743, 744, 745, 746, 1321, 1322, 1323, 1324, 747, 748, 749, 750, 751, 752, 753, 1325, 1326] (by decide +kernel) (by decide +kernel)
set_option maxRecDepth 20000 in
theorem lg_wsL_law0_r28 : GoodIn lw_tbl wsL_law0_r28 := goodIn_r _ [1327, 1328, 754, 755, 756, 757, 758, 759, 760, 766, 761, 763, 14, 764, 768, 769, 770, 771, 772, 774, 775, 776, 777, 778] (by decide +kernel) (by decide +kernel)
set_option maxRecDepth 20000 in
theorem lg_wsL_law0_r29 : GoodIn lw_tbl wsL_law0_r29 := goodIn_r _ [1329, 1330, 1331, 1332, 1337, 1333, 1335, 30, 1336, 779, 780, 781, 782, 783, 784, 785, 787, 788, 789, 790, 791, 792, 793, 794] (by decide +kernel) (by decide +kernel)
set_option maxRecDepth 20000 in
theorem lg_wsL_law0_r30 : GoodIn lw_tbl wsL_law0_r30 := goodIn_r _ [795, 796, 797, 798, 799, 800, 801, 802, 803, 805, 806, 807, 804, 808, 809, 810, 811, 812, 813, 814, 1338, 1339, 1340, 1341] (by decide +kernel) (by decide +kernel)
set_option maxRecDepth 20000 in
theorem lg_wsL_law0_r31 : GoodIn lw_tbl wsL_law0_r31 := goodIn_r _ [1342, 1344, 31, 1345, 815, 816, 817, 818, 819, 820, 821, 822, 823, 824, 825, 1346, 1347, 1348, 1349, 826, 827, 828, 829, 830] (by decide +kernel) (by decide +kernel)
set_option maxRecDepth 20000 in
theorem lg_wsL_law0_r32 : GoodIn lw_tbl wsL_law0_r32 := goodIn_r _ [831, 832, 1350, 1351, 1352, 1353, 1354, 1356, 32, 1357, 833, 834, 835, 836, 837, 838, 839, 840, 841, 842, 843, 844, 846, 15] (by decide +kernel) (by decide +kernel)
set_option maxRecDepth 20000 in
theorem lg_wsL_law0_r33 : GoodIn lw_tbl wsL_law0_r33 := goodIn_r _ [847, 848, 850, 16, 851, 1358, 1359, 1360, 1361, 852, 853, 854, 855, 856, 857, 858, 859, 860, 861, 862, 863, 864, 865, 866] (by decide +kernel) (by decide +kernel)
set_option maxRecDepth 20000 in
theorem lg_wsL_law0_r34 : GoodIn lw_tbl wsL_law0_r34 := goodIn_r _ [1362, 1363, 1364, 1365, 868, 869, 870, 871, 872, 873, 874, 876, 877, 55, 878, 879, 880, 881, 882, 54, 883, 884, 885, 273] (by decide +kernel) (by decide +kernel)
set_option maxRecDepth 20000 in
theorem lg_wsL_law0_r35 : GoodIn lw_tbl wsL_law0_r35 := goodIn_r _ [894, 895, 887, 888, 57, 889, 890, 891, 892, 893, 906, 907, 908, 909, 910, 911, 1378, 905, 912, 913, 896, 914, 1379, 34] (by decide +kernel) (by decide +kernel)
set_option maxRecDepth 20000 in
theorem lg_wsL_law0_r36 : GoodIn lw_tbl wsL_law0_r36 := goodIn_r _ [916, 917, 918, 1380, 34, 920, 921, 932, 922, 923, 58, 924, 925, 926, 927, 928, 929, 930, 931, 933, 934, 59, 935, 936] (by decide +kernel) (by decide +kernel)
set_option maxRecDepth 20000 in
theorem lg_wsL_law0_r37 : GoodIn lw_tbl wsL_law0_r37 := goodIn_r _ [937, 938, 939, 940, 942, 943, 944, 945, 946, 948, 947, 60, 949, 951, 34, 950, 953, 954, 955, 61, 956, 957, 1381, 34] (by decide +kernel) (by decide +kernel)
set_option maxRecDepth 20000 in
theorem lg_wsL_law0_r38 : GoodIn lw_tbl wsL_law0_r38 := goodIn_r _ [959, 960, 961, 962, 963, 964, 965, 966, 967, 968, 969, 970, 971, 972, 973, 974, 56, 975, 976, 978, 979, 62, 980, 981] (by decide +kernel) (by decide +kernel)
set_option maxRecDepth 20000 in
theorem lg_wsL_law0_r39 : GoodIn lw_tbl wsL_law0_r39 := goodIn_r _ [982, 983, 984, 986, 988, 990, 991, 992, 993, 994, 995, 996, 997, 998, 999, 1000, 1001, 1002, 1003, 1004, 1005, 1006, 1382, 1007] (by decide +kernel) (by decide +kernel)
set_option maxRecDepth 20000 in
theorem lg_wsL_law0_r40 : GoodIn lw_tbl wsL_law0_r40 := goodIn_r _ [1008, 1009, 1010, 63, 1011, 1012, 1013, 1014, 1015, 1017, 1019, 1020, 1021, 1022, 1023, 1024, 1025, 1026, 1027, 1028, 1029, 1030, 1031, 1032] (by decide +kernel) (by decide +kernel)
set_option maxRecDepth 20000 in
theorem lg_wsL_law0_r41 : GoodIn lw_tbl wsL_law0_r41 := goodIn_r _ [1033, 1034, 1035, 1037, 1038, 1039, 1040, 1041, 1383, 1042, 1043, 1044, 1384, 34, 1046, 1047, 1048, 1049, 1050, 1051, 1052, 1053, 1054, 1389] (by decide +kernel) (by decide +kernel)
set_option maxRecDepth 20000 in
theorem lg_wsL_law0_r42 : GoodIn lw_tbl wsL_law0_r42 := goodIn_r _ [1055, 1056, 1057, 1058, 1059, 1390, 1060, 1385, 34, 1062, 1063, 1064, 1386, 34, 1066, 1067, 1068, 1069, 1070, 1071, 1072, 1073, 1074, 1075] (by decide +kernel) (by decide +kernel)
set_option maxRecDepth 20000 in
theorem lg_wsL_law0_r43 : GoodIn lw_tbl wsL_law0_r43 := goodIn_r _ [1076, 1077, 1078, 1079, 1387, 1080, 1081, 1082, 1083, 1084, 1085, 1086, 1388, 1087, 1088, 1089, 1090, 1091, 1092, 1093, 1366, 1367, 1368, 1369] (by decide +kernel) (by decide +kernel)
set_option maxRecDepth 20000 in
theorem lg_wsL_law0_r44 : GoodIn lw_tbl wsL_law0_r44 := goodIn_r _ [1370, 1372, 33, 1373, 1374, 1375, 1376] (by decide +kernel) (by decide +kernel)
set_option maxRecDepth 20000 in
theorem lg_wsX100 : GoodIn lw_tbl wsX100 := goodIn_r _ [171, 173, 175, 177, 179, 181, 183, 185, 187, 189] (by decide +kernel) (by decide +kernel)
set_option maxRecDepth 20000 in
theorem lg_wsX110 : GoodIn lw_tbl wsX110 := goodIn_r _ [1134, 1136, 1138, 1140, 1142, 1144, 1146, 1148, 1150, 1152, 1154, 1156, 1158, 1160, 1162, 1164, 1166, 1168, 1170, 1172, 1174, 1176, 1178, 1180, 1182, 1184, 1186, 1188, 1190, 1192, 1194, 1196, 1198] (by decide +kernel) (by decide +kernel)
set_option maxRecDepth 20000 in
theorem lg_wsX70 : GoodIn lw_tbl wsX70 := goodIn_r _ [95] (by decide +kernel) (by decide +kernel)
set_option maxRecDepth 20000 in
theorem lg_wsX10 : GoodIn lw_tbl wsX10 := goodIn_r _ [109, 111, 113] (by decide +kernel) (by decide +kernel)
set_option maxRecDepth 20000 in
theorem lg_wsX90 : GoodIn lw_tbl wsX90 := goodIn_r _ [127, 129, 131] (by decide +kernel) (by decide +kernel)
set_option maxRecDepth 20000 in
theorem lg_wsX50 : GoodIn lw_tbl wsX50 := goodIn_r _ [85] (by decide +kernel) (by decide +kernel)
set_option maxRecDepth 20000 in
theorem lg_wsX60 : GoodIn lw_tbl wsX60 := goodIn_r _ [150, 152, 154, 156] (by decide +kernel) (by decide +kernel)
set_option maxRecDepth 20000 in
theorem lg_wsX20 : GoodIn lw_tbl wsX20 := goodIn_r _ [304, 306, 308] (by decide +kernel) (by decide +kernel)
set_option maxRecDepth 20000 in
theorem lg_wsX40 : GoodIn lw_tbl wsX40 := goodIn_r _ [353, 355, 357, 359, 361, 363, 365, 367, 369, 371, 373, 375] (by decide +kernel) (by decide +kernel)
set_option maxRecDepth 20000 in
theorem lg_wsX30 : GoodIn lw_tbl wsX30 := goodIn_r _ [434, 436, 438, 440] (by decide +kernel) (by decide +kernel)
set_option maxRecDepth 20000 in
theorem lg_wsX80 : GoodIn lw_tbl wsX80 := goodIn_r _ [392, 394, 396, 398] (by decide +kernel) (by decide +kernel)
set_option maxRecDepth 20000 in
theorem lg_wsX00 : GoodIn lw_tbl wsX00 := goodIn_r _ [413, 415, 417, 419] (by decide +kernel) (by decide +kernel)
set_option maxRecDepth 20000 in
theorem lg_wsJ40 : GoodIn lw_tbl wsJ40 := goodIn_r _ [897, 899, 901, 903] (by decide +kernel) (by decide +kernel)
theorem wsL_law_in0 : ∀ w ∈ wsL_law0, w ∈ lw_tbl := fun w h => ((goodIn_app (goodIn_app (goodIn_app (goodIn_app (goodIn_app (goodIn_app (goodIn_app (goodIn_app (goodIn_app (goodIn_app (goodIn_app (goodIn_app (goodIn_app (goodIn_app (goodIn_app lg_wsL_law0_r1 (goodIn_app lg_wsL_law0_r2 (goodIn_app lg_wsL_law0_r3 (goodIn_app lg_wsL_law0_r4 (goodIn_app lg_wsL_law0_r5 (goodIn_app lg_wsL_law0_r6 (goodIn_app lg_wsL_law0_r7 (goodIn_app lg_wsL_law0_r8 (goodIn_app lg_wsL_law0_r9 (goodIn_app lg_wsL_law0_r10 (goodIn_app lg_wsL_law0_r11 (goodIn_app lg_wsL_law0_r12 (goodIn_app lg_wsL_law0_r13 (goodIn_app lg_wsL_law0_r14 (goodIn_app lg_wsL_law0_r15 (goodIn_app lg_wsL_law0_r16 (goodIn_app lg_wsL_law0_r17 (goodIn_app lg_wsL_law0_r18 (goodIn_app lg_wsL_law0_r19 (goodIn_app lg_wsL_law0_r20 (goodIn_app lg_wsL_law0_r21 (goodIn_app lg_wsL_law0_r22 (goodIn_app lg_wsL_law0_r23 (goodIn_app lg_wsL_law0_r24 (goodIn_app lg_wsL_law0_r25 (goodIn_app lg_wsL_law0_r26 (goodIn_app lg_wsL_law0_r27 (goodIn_app lg_wsL_law0_r28 (goodIn_app lg_wsL_law0_r29 (goodIn_app lg_wsL_law0_r30 (goodIn_app lg_wsL_law0_r31 (goodIn_app lg_wsL_law0_r32 (goodIn_app lg_wsL_law0_r33 (goodIn_app lg_wsL_law0_r34 (goodIn_app lg_wsL_law0_r35 (goodIn_app lg_wsL_law0_r36 (goodIn_app lg_wsL_law0_r37 (goodIn_app lg_wsL_law0_r38 (goodIn_app lg_wsL_law0_r39 (goodIn_app lg_wsL_law0_r40 (goodIn_app lg_wsL_law0_r41 (goodIn_app lg_wsL_law0_r42 (goodIn_app lg_wsL_law0_r43 lg_wsL_law0_r44))))))))))))))))))))))))))))))))))))))))))) lg_wsX100) lg_wsX110) lg_wsX70) lg_wsX10) lg_wsX90) lg_wsX50) lg_wsX60) lg_wsX20) lg_wsX40) lg_wsX30) lg_wsX80) lg_wsX00) lg_wsJ40) (goodIn_of [] rfl)) w h).1
theorem wsL_law_x0 : ∀ w ∈ (vx_atS RX10 76 "java/lang/IllegalArgumentException" ["java/lang/RuntimeException", "java/lang/Exception"]).filter goodWord, w ∈ lw_tbl := by decide +kernel
theorem wsL_law_x1 : ∀ w ∈ (vx_atS RX10 94 "java/lang/IllegalStateException" ["java/lang/RuntimeException", "java/lang/Exception"]).filter goodWord, w ∈ lw_tbl := by decide +kernel
theorem wsL_law_x2 : ∀ w ∈ (vx_atS RX10 117 "java/lang/IndexOutOfBoundsException" ["java/lang/RuntimeException", "java/lang/Exception"]).filter goodWord, w ∈ lw_tbl := by decide +kernel
theorem wsL_law_in : ∀ w ∈ wsL_law, w ∈ lw_tbl := fun w h => (List.mem_append.mp h).elim (fun h => (List.mem_append.mp h).elim (fun h => (List.mem_append.mp h).elim (fun h => wsL_law_in0 w h) (fun h => wsL_law_x0 w h)) (fun h => wsL_law_x1 w h)) (fun h => wsL_law_x2 w h)
theorem inlX0 : ∀ w ∈ wsX00, w ∈ wsL_law := fun _ h => List.mem_append_left _ (List.mem_append_left _ (List.mem_append_left _ (List.mem_append_left _ (List.mem_append_left _ (List.mem_append_right _ h)))))
theorem inX0 : ∀ w ∈ wsX00, w ∈ lw_tbl := fun w h => wsL_law_in w (inlX0 w h)
theorem inlX1 : ∀ w ∈ wsX10, w ∈ wsL_law := fun _ h => List.mem_append_left _ (List.mem_append_left _ (List.mem_append_left _ (List.mem_append_left _ (List.mem_append_left _ (List.mem_append_left _ (List.mem_append_left _ (List.mem_append_left _ (List.mem_append_left _ (List.mem_append_left _ (List.mem_append_left _ (List.mem_append_left _ (List.mem_append_left _ (List.mem_append_right _ h)))))))))))))
theorem inX1 : ∀ w ∈ wsX10, w ∈ lw_tbl := fun w h => wsL_law_in w (inlX1 w h)
theorem inlX2 : ∀ w ∈ wsX20, w ∈ wsL_law := fun _ h => List.mem_append_left _ (List.mem_append_left _ (List.mem_append_left _ (List.mem_append_left _ (List.mem_append_left _ (List.mem_append_left _ (List.mem_append_left _ (List.mem_append_left _ (List.mem_append_left _ (List.mem_append_right _ h)))))))))
theorem inX2 : ∀ w ∈ wsX20, w ∈ lw_tbl := fun w h => wsL_law_in w (inlX2 w h)
theorem inlX3 : ∀ w ∈ wsX30, w ∈ wsL_law := fun _ h => List.mem_append_left _ (List.mem_append_left _ (List.mem_append_left _ (List.mem_append_left _ (List.mem_append_left _ (List.mem_append_left _ (List.mem_append_left _ (List.mem_append_right _ h)))))))
theorem inX3 : ∀ w ∈ wsX30, w ∈ lw_tbl := fun w h => wsL_law_in w (inlX3 w h)
theorem inlX4 : ∀ w ∈ wsX40, w ∈ wsL_law := fun _ h => List.mem_append_left _ (List.mem_append_left _ (List.mem_append_left _ (List.mem_append_left _ (List.mem_append_left _ (List.mem_append_left _ (List.mem_append_left _ (List.mem_append_left _ (List.mem_append_right _ h))))))))
theorem inX4 : ∀ w ∈ wsX40, w ∈ lw_tbl := fun w h => wsL_law_in w (inlX4 w h)
theorem inlX5 : ∀ w ∈ wsX50, w ∈ wsL_law := fun _ h => List.mem_append_left _ (List.mem_append_left _ (List.mem_append_left _ (List.mem_append_left _ (List.mem_append_left _ (List.mem_append_left _ (List.mem_append_left _ (List.mem_append_left _ (List.mem_append_left _ (List.mem_append_left _ (List.mem_append_left _ (List.mem_append_right _ h)))))))))))
theorem inX5 : ∀ w ∈ wsX50, w ∈ lw_tbl := fun w h => wsL_law_in w (inlX5 w h)
theorem inlX6 : ∀ w ∈ wsX60, w ∈ wsL_law := fun _ h => List.mem_append_left _ (List.mem_append_left _ (List.mem_append_left _ (List.mem_append_left _ (List.mem_append_left _ (List.mem_append_left _ (List.mem_append_left _ (List.mem_append_left _ (List.mem_append_left _ (List.mem_append_left _ (List.mem_append_right _ h))))))))))
theorem inX6 : ∀ w ∈ wsX60, w ∈ lw_tbl := fun w h => wsL_law_in w (inlX6 w h)
theorem inlX7 : ∀ w ∈ wsX70, w ∈ wsL_law := fun _ h => List.mem_append_left _ (List.mem_append_left _ (List.mem_append_left _ (List.mem_append_left _ (List.mem_append_left _ (List.mem_append_left _ (List.mem_append_left _ (List.mem_append_left _ (List.mem_append_left _ (List.mem_append_left _ (List.mem_append_left _ (List.mem_append_left _ (List.mem_append_left _ (List.mem_append_left _ (List.mem_append_right _ h))))))))))))))
theorem inX7 : ∀ w ∈ wsX70, w ∈ lw_tbl := fun w h => wsL_law_in w (inlX7 w h)
theorem inlX8 : ∀ w ∈ wsX80, w ∈ wsL_law := fun _ h => List.mem_append_left _ (List.mem_append_left _ (List.mem_append_left _ (List.mem_append_left _ (List.mem_append_left _ (List.mem_append_left _ (List.mem_append_right _ h))))))
theorem inX8 : ∀ w ∈ wsX80, w ∈ lw_tbl := fun w h => wsL_law_in w (inlX8 w h)
theorem inlX9 : ∀ w ∈ wsX90, w ∈ wsL_law := fun _ h => List.mem_append_left _ (List.mem_append_left _ (List.mem_append_left _ (List.mem_append_left _ (List.mem_append_left _ (List.mem_append_left _ (List.mem_append_left _ (List.mem_append_left _ (List.mem_append_left _ (List.mem_append_left _ (List.mem_append_left _ (List.mem_append_left _ (List.mem_append_right _ h))))))))))))
theorem inX9 : ∀ w ∈ wsX90, w ∈ lw_tbl := fun w h => wsL_law_in w (inlX9 w h)
theorem inlX10 : ∀ w ∈ wsX100, w ∈ wsL_law := fun _ h => List.mem_append_left _ (List.mem_append_left _ (List.mem_append_left _ (List.mem_append_left _ (List.mem_append_left _ (List.mem_append_left _ (List.mem_append_left _ (List.mem_append_left _ (List.mem_append_left _ (List.mem_append_left _ (List.mem_append_left _ (List.mem_append_left _ (List.mem_append_left _ (List.mem_append_left _ (List.mem_append_left _ (List.mem_append_left _ (List.mem_append_right _ h))))))))))))))))
theorem inX10 : ∀ w ∈ wsX100, w ∈ lw_tbl := fun w h => wsL_law_in w (inlX10 w h)
theorem inlX11 : ∀ w ∈ wsX110, w ∈ wsL_law := fun _ h => List.mem_append_left _ (List.mem_append_left _ (List.mem_append_left _ (List.mem_append_left _ (List.mem_append_left _ (List.mem_append_left _ (List.mem_append_left _ (List.mem_append_left _ (List.mem_append_left _ (List.mem_append_left _ (List.mem_append_left _ (List.mem_append_left _ (List.mem_append_left _ (List.mem_append_left _ (List.mem_append_left _ (List.mem_append_right _ h)))))))))))))))
theorem inX11 : ∀ w ∈ wsX110, w ∈ lw_tbl := fun w h => wsL_law_in w (inlX11 w h)
theorem inJ5 : ∀ w ∈ wsJ50, w ∈ lw_tbl := by decide +kernel
theorem inJx8e188 : ∀ w ∈ wsJx8e1880, w ∈ lw_tbl := by decide +kernel
theorem inJ6 : ∀ w ∈ wsJ60, w ∈ lw_tbl := by decide +kernel
theorem inJ9 : ∀ w ∈ wsJ90, w ∈ lw_tbl := by decide +kernel
theorem inJ0 : ∀ w ∈ wsJ00, w ∈ lw_tbl := by decide +kernel
theorem inlJ4 : ∀ w ∈ wsJ40, w ∈ wsL_law := fun _ h => List.mem_append_left _ (List.mem_append_left _ (List.mem_append_left _ (List.mem_append_left _ (List.mem_append_right _ h))))
theorem inJ4 : ∀ w ∈ wsJ40, w ∈ lw_tbl := fun w h => wsL_law_in w (inlJ4 w h)
theorem inJ1 : ∀ w ∈ wsJ10, w ∈ lw_tbl := by decide +kernel
theorem inJ2 : ∀ w ∈ wsJ20, w ∈ lw_tbl := by decide +kernel
theorem inJ10 : ∀ w ∈ wsJ100, w ∈ lw_tbl := by decide +kernel
theorem inJ7 : ∀ w ∈ wsJ70, w ∈ lw_tbl := by decide +kernel
theorem inJ8 : ∀ w ∈ wsJ80, w ∈ lw_tbl := by decide +kernel
theorem inJ3 : ∀ w ∈ wsJ30, w ∈ lw_tbl := by decide +kernel