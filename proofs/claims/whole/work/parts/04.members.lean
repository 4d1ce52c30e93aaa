set_option maxRecDepth 20000 in
theorem lg_wsL_law0_r1 : GoodIn lw_tbl wsL_law0_r1 := goodIn_r _ [64, 65, 35, 1093, 1094, 41, 88, 66, 67, 68, 69, 70, 71, 72, 73, 36, 161, 98, 99, 38, 162, 116, 117, 39] (by decide +kernel) (by decide +kernel)
set_option maxRecDepth 20000 in
theorem lg_wsL_law0_r2 : GoodIn lw_tbl wsL_law0_r2 := goodIn_r _ [163, 134, 79, 37, 164, 136, 137, 40, 165, 166, 159, 167, 168, 169, 170, 74, 75, 76, 77, 78, 94, 89, 80, 81] (by decide +kernel) (by decide +kernel)
set_option maxRecDepth 20000 in
theorem lg_wsL_law0_r3 : GoodIn lw_tbl wsL_law0_r3 := goodIn_r _ [82, 83, 84, 90, 91, 92, 93, 100, 101, 102, 103, 104, 106, 107, 108, 105, 119, 120, 121, 122, 124, 125, 126, 123] (by decide +kernel) (by decide +kernel)
set_option maxRecDepth 20000 in
theorem lg_wsL_law0_r4 : GoodIn lw_tbl wsL_law0_r4 := goodIn_r _ [135, 139, 140, 141, 142, 146, 147, 148, 144, 149, 143, 145, 1095, 1096, 1097, 1098, 1200, 1101, 1103, 1104, 1105, 1106, 1107, 1108] (by decide +kernel) (by decide +kernel)
set_option maxRecDepth 20000 in
theorem lg_wsL_law0_r5 : GoodIn lw_tbl wsL_law0_r5 := goodIn_r _ [1109, 1110, 1111, 1112, 1113, 1114, 1115, 1116, 1117, 1118, 1119, 1120, 1121, 1122, 1123, 1124, 1125, 1126, 1127, 1128, 1099, 1129, 1130, 1131] (by decide +kernel) (by decide +kernel)
set_option maxRecDepth 20000 in
theorem lg_wsL_law0_r6 : GoodIn lw_tbl wsL_law0_r6 := goodIn_r _ [192, 193, 34, 194, 195, 196, 197, 198, 199, 200, 201, 278, 46, 316, 48, 294, 295, 47, 332, 333, 49, 378, 50, 379] (by decide +kernel) (by decide +kernel)
set_option maxRecDepth 20000 in
theorem lg_wsL_law0_r7 : GoodIn lw_tbl wsL_law0_r7 := goodIn_r _ [380, 51, 401, 402, 52, 202, 204, 0, 205, 206, 45, 274, 276, 2, 277, 296, 297, 298, 299, 300, 301, 302, 303, 311] (by decide +kernel) (by decide +kernel)
set_option maxRecDepth 20000 in
theorem lg_wsL_law0_r8 : GoodIn lw_tbl wsL_law0_r8 := goodIn_r _ [312, 313, 314, 334, 335, 336, 337, 338, 345, 346, 349, 340, 350, 351, 352, 347, 341, 342, 343, 344, 348, 339, 381, 382] (by decide +kernel) (by decide +kernel)
set_option maxRecDepth 20000 in
theorem lg_wsL_law0_r9 : GoodIn lw_tbl wsL_law0_r9 := goodIn_r _ [383, 384, 385, 388, 389, 390, 391, 386, 387, 403, 404, 405, 406, 407, 410, 411, 412, 409, 408, 422, 423, 424, 425, 426] (by decide +kernel) (by decide +kernel)
set_option maxRecDepth 20000 in
theorem lg_wsL_law0_r10 : GoodIn lw_tbl wsL_law0_r10 := goodIn_r _ [428, 430, 432, 1205, 1206, 1207, 1208, 1102, 1100, 1209, 1210, 1211, 1212, 1213, 1214, 1215, 1216, 1217, 1218, 1219, 1220, 1221, 1223, 17] (by decide +kernel) (by decide +kernel)
set_option maxRecDepth 20000 in
theorem lg_wsL_law0_r11 : GoodIn lw_tbl wsL_law0_r11 := goodIn_r _ [1224, 1132, 1201, 1202, 1203, 1204, 443, 444, 445, 446, 447, 448, 449, 451, 453, 3, 454, 456, 457, 458, 459, 460, 461, 462] (by decide +kernel) (by decide +kernel)
set_option maxRecDepth 20000 in
theorem lg_wsL_law0_r12 : GoodIn lw_tbl wsL_law0_r12 := goodIn_r _ [463, 1225, 1226, 1227, 1228, 464, 465, 466, 467, 468, 469, 470, 473, 475, 4, 476, 431, 477, 478, 479, 480, 481, 482, 483] (by decide +kernel) (by decide +kernel)
set_option maxRecDepth 20000 in
theorem lg_wsL_law0_r13 : GoodIn lw_tbl wsL_law0_r13 := goodIn_r _ [484, 485, 486, 487, 488, 489, 490, 491, 1229, 1230, 1231, 1232, 1233, 1235, 18, 1236, 492, 493, 494, 495, 496, 497, 498, 429] (by decide +kernel) (by decide +kernel)
set_option maxRecDepth 20000 in
theorem lg_wsL_law0_r14 : GoodIn lw_tbl wsL_law0_r14 := goodIn_r _ [499, 501, 5, 502, 504, 505, 506, 507, 508, 509, 511, 6, 512, 513, 514, 515, 516, 518, 519, 520, 521, 526, 522, 523] (by decide +kernel) (by decide +kernel)
set_option maxRecDepth 20000 in
theorem lg_wsL_law0_r15 : GoodIn lw_tbl wsL_law0_r15 := goodIn_r _ [524, 525, 527, 528, 529, 530, 531, 532, 533, 534, 535, 536, 537, 538, 539, 540, 541, 542, 543, 544, 545, 547, 7, 548] (by decide +kernel) (by decide +kernel)
set_option maxRecDepth 20000 in
theorem lg_wsL_law0_r16 : GoodIn lw_tbl wsL_law0_r16 := goodIn_r _ [549, 550, 551, 552, 553, 554, 555, 556, 557, 558, 559, 560, 561, 562, 563, 564, 566, 8, 567, 568, 570, 9, 571, 572] (by decide +kernel) (by decide +kernel)
set_option maxRecDepth 20000 in
theorem lg_wsL_law0_r17 : GoodIn lw_tbl wsL_law0_r17 := goodIn_r _ [573, 574, 575, 576, 577, 578, 579, 580, 581, 582, 583, 584, 586, 10, 587, 588, 589, 590, 591, 1237, 1238, 1239, 1240, 1249] (by decide +kernel) (by decide +kernel)
set_option maxRecDepth 20000 in
theorem lg_wsL_law0_r18 : GoodIn lw_tbl wsL_law0_r18 := goodIn_r _ [1241, 1243, 19, 1244, 1245, 1247, 20, 1248, 1250, 1252, 21, 1253, 1254, 1256, 22, 1257, 1258, 1260, 23, 1261, 1267, 1262, 1264, 24] (by decide +kernel) (by decide +kernel)
set_option maxRecDepth 20000 in
theorem lg_wsL_law0_r19 : GoodIn lw_tbl wsL_law0_r19 := goodIn_r _ [1265, 1266, 592, 593, 594, 595, 596, 597, 598, 599, 600, 601, 602, 604, 605, 606, 607, 1268, 1269, 1270, 1271, 1272, 1274, 25] (by decide +kernel) (by decide +kernel)
set_option maxRecDepth 20000 in
theorem lg_wsL_law0_r20 : GoodIn lw_tbl wsL_law0_r20 := goodIn_r _ [1275, 608, 609, 610, 611, 612, 613, 614, 616, 617, 618, 619, 1276, 1277, 1278, 1279, 620, 621, 622, 623, 624, 625, 626, 628] (by decide +kernel) (by decide +kernel)
set_option maxRecDepth 20000 in
theorem lg_wsL_law0_r21 : GoodIn lw_tbl wsL_law0_r21 := goodIn_r _ [629, 630, 631, 632, 633, 634, 635, 637, 638, 639, 640, 1280, 1281, 1282, 1283, 1284, 1286, 26, 1287, 641, 642, 643, 644, 645] (by decide +kernel) (by decide +kernel)
set_option maxRecDepth 20000 in
theorem lg_wsL_law0_r22 : GoodIn lw_tbl wsL_law0_r22 := goodIn_r _ [646, 647, 649, 650, 651, 652, 1288, 1289, 1290, 1291, 653, 654, 655, 656, 657, 658, 659, 660, 661, 662, 663, 665, 666, 667] (by decide +kernel) (by decide +kernel)
set_option maxRecDepth 20000 in
theorem lg_wsL_law0_r23 : GoodIn lw_tbl wsL_law0_r23 := goodIn_r _ [668, 1292, 1293, 1294, 1295, 669, 670, 671, 672, 673, 674, 675, 677, 1296, 1297, 1298, 1299, 678, 679, 680, 681, 682, 683, 684] (by decide +kernel) (by decide +kernel)
set_option maxRecDepth 20000 in
theorem lg_wsL_law0_r24 : GoodIn lw_tbl wsL_law0_r24 := goodIn_r _ [427, 433, 685, 686, 687, 688, 689, 690, 691, 692, 693, 694, 696, 11, 697, 698, 699, 700, 701, 702, 703, 53, 704, 705] (by decide +kernel) (by decide +kernel)
set_option maxRecDepth 20000 in
theorem lg_wsL_law0_r25 : GoodIn lw_tbl wsL_law0_r25 := goodIn_r _ [706, 707, 708, 709, 710, 712, 12, 713, 714, 715, 716, 717, 718, 719, 1300, 1301, 1302, 1303, 1304, 1306, 27, 1307, 1308, 1310] (by decide +kernel) (by decide +kernel)
set_option maxRecDepth 20000 in
theorem lg_wsL_law0_r26 : GoodIn lw_tbl wsL_law0_r26 := goodIn_r _ [28, 1311, 1312, 1314, 29, 1315, 720, 721, 722, 723, 724, 725, 726, 728, 730, 13, 731, 732, 734, 1316, 1317, 1318, 1319, 735] (by decide +kernel) (by decide +kernel)
set_option maxRecDepth 20000 in
theorem lg_wsL_law0_r27 : GoodIn lw_tbl wsL_law0_r27 := goodIn_r _ [736, 737, 738, 739, 740, 741, 742, 743, 744, 745, 1320, 1321, 1322, 1323, 746, 747, 748, 749, 750, 751, 752, 1324, 1325, 1326] (by decide +kernel) (by decide +kernel)
set_option maxRecDepth 20000 in
theorem lg_wsL_law0_r28 : GoodIn lw_tbl wsL_law0_r28 := goodIn_r _ [1327, 753, 754, 755, 756, 757, 758, 759, 765, 760, 762, 14, 763, 767, 768, 769, 770, 771, 773, 774, 775, 776, 777, 1328] (by decide +kernel) (by decide +kernel)
set_option maxRecDepth 20000 in
theorem lg_wsL_law0_r29 : GoodIn lw_tbl wsL_law0_r29 := goodIn_r _ [1329, 1330, 1331, 1336, 1332, 1334, 30, 1335, 778, 779, 780, 781, 782, 783, 784, 786, 787, 788, 789, 790, 791, 792, 793, 794] (by decide +kernel) (by decide +kernel)
set_option maxRecDepth 20000 in
theorem lg_wsL_law0_r30 : GoodIn lw_tbl wsL_law0_r30 := goodIn_r _ [795, 796, 797, 798, 799, 800, 801, 802, 804, 805, 806, 803, 807, 808, 809, 810, 811, 812, 813, 1337, 1338, 1339, 1340, 1341] (by decide +kernel) (by decide +kernel)
set_option maxRecDepth 20000 in
theorem lg_wsL_law0_r31 : GoodIn lw_tbl wsL_law0_r31 := goodIn_r _ [1343, 31, 1344, 814, 815, 816, 817, 818, 819, 820, 821, 822, 823, 824, 1345, 1346, 1347, 1348, 825, 826, 827, 828, 829, 830] (by decide +kernel) (by decide +kernel)
set_option maxRecDepth 20000 in
theorem lg_wsL_law0_r32 : GoodIn lw_tbl wsL_law0_r32 := goodIn_r _ [831, 1349, 1350, 1351, 1352, 1353, 1355, 32, 1356, 832, 833, 834, 835, 836, 837, 838, 839, 840, 841, 842, 843, 845, 15, 846] (by decide +kernel) (by decide +kernel)
set_option maxRecDepth 20000 in
theorem lg_wsL_law0_r33 : GoodIn lw_tbl wsL_law0_r33 := goodIn_r _ [847, 849, 16, 850, 1357, 1358, 1359, 1360, 851, 852, 853, 854, 855, 856, 857, 858, 859, 860, 861, 862, 863, 864, 865, 1361] (by decide +kernel) (by decide +kernel)
set_option maxRecDepth 20000 in
theorem lg_wsL_law0_r34 : GoodIn lw_tbl wsL_law0_r34 := goodIn_r _ [1362, 1363, 1364, 867, 868, 869, 870, 871, 872, 873, 875, 876, 55, 877, 878, 879, 880, 881, 54, 882, 883, 884, 273, 893] (by decide +kernel) (by decide +kernel)
set_option maxRecDepth 20000 in
theorem lg_wsL_law0_r35 : GoodIn lw_tbl wsL_law0_r35 := goodIn_r _ [894, 886, 887, 57, 888, 889, 890, 891, 892, 905, 906, 907, 908, 909, 910, 1377, 904, 911, 912, 895, 913, 1378, 34, 915] (by decide +kernel) (by decide +kernel)
set_option maxRecDepth 20000 in
theorem lg_wsL_law0_r36 : GoodIn lw_tbl wsL_law0_r36 := goodIn_r _ [916, 917, 1379, 34, 919, 920, 931, 921, 922, 58, 923, 924, 925, 926, 927, 928, 929, 930, 932, 933, 59, 934, 935, 936] (by decide +kernel) (by decide +kernel)
set_option maxRecDepth 20000 in
theorem lg_wsL_law0_r37 : GoodIn lw_tbl wsL_law0_r37 := goodIn_r _ [937, 938, 939, 941, 942, 943, 944, 945, 947, 946, 60, 948, 950, 34, 949, 952, 953, 954, 61, 955, 956, 1380, 34, 958] (by decide +kernel) (by decide +kernel)
set_option maxRecDepth 20000 in
theorem lg_wsL_law0_r38 : GoodIn lw_tbl wsL_law0_r38 := goodIn_r _ [959, 960, 961, 962, 963, 964, 965, 966, 967, 968, 969, 970, 971, 972, 973, 56, 974, 975, 977, 978, 62, 979, 980, 981] (by decide +kernel) (by decide +kernel)
set_option maxRecDepth 20000 in
theorem lg_wsL_law0_r39 : GoodIn lw_tbl wsL_law0_r39 := goodIn_r _ [982, 983, 985, 987, 989, 990, 991, 992, 993, 994, 995, 996, 997, 998, 999, 1000, 1001, 1002, 1003, 1004, 1005, 1381, 1006, 1007] (by decide +kernel) (by decide +kernel)
set_option maxRecDepth 20000 in
theorem lg_wsL_law0_r40 : GoodIn lw_tbl wsL_law0_r40 := goodIn_r _ [1008, 1009, 63, 1010, 1011, 1012, 1013, 1014, 1016, 1018, 1019, 1020, 1021, 1022, 1023, 1024, 1025, 1026, 1027, 1028, 1029, 1030, 1031, 1032] (by decide +kernel) (by decide +kernel)
set_option maxRecDepth 20000 in
theorem lg_wsL_law0_r41 : GoodIn lw_tbl wsL_law0_r41 := goodIn_r _ [1033, 1034, 1036, 1037, 1038, 1039, 1040, 1382, 1041, 1042, 1043, 1383, 34, 1045, 1046, 1047, 1048, 1049, 1050, 1051, 1052, 1053, 1388, 1054] (by decide +kernel) (by decide +kernel)
set_option maxRecDepth 20000 in
theorem lg_wsL_law0_r42 : GoodIn lw_tbl wsL_law0_r42 := goodIn_r _ [1055, 1056, 1057, 1058, 1389, 1059, 1384, 34, 1061, 1062, 1063, 1385, 34, 1065, 1066, 1067, 1068, 1069, 1070, 1071, 1072, 1073, 1074, 1075] (by decide +kernel) (by decide +kernel)
set_option maxRecDepth 20000 in
theorem lg_wsL_law0_r43 : GoodIn lw_tbl wsL_law0_r43 := goodIn_r _ [1076, 1077, 1078, 1386, 1079, 1080, 1081, 1082, 1083, 1084, 1085, 1387, 1086, 1087, 1088, 1089, 1090, 1091, 1092, 1365, 1366, 1367, 1368, 1369] (by decide +kernel) (by decide +kernel)
set_option maxRecDepth 20000 in
theorem lg_wsL_law0_r44 : GoodIn lw_tbl wsL_law0_r44 := goodIn_r _ [1371, 33, 1372, 1373, 1374, 1375] (by decide +kernel) (by decide +kernel)
set_option maxRecDepth 20000 in
theorem lg_wsX100 : GoodIn lw_tbl wsX100 := goodIn_r _ [171, 173, 175, 177, 179, 181, 183, 185, 187, 189] (by decide +kernel) (by decide +kernel)
set_option maxRecDepth 20000 in
theorem lg_wsX110 : GoodIn lw_tbl wsX110 := goodIn_r _ [1133, 1135, 1137, 1139, 1141, 1143, 1145, 1147, 1149, 1151, 1153, 1155, 1157, 1159, 1161, 1163, 1165, 1167, 1169, 1171, 1173, 1175, 1177, 1179, 1181, 1183, 1185, 1187, 1189, 1191, 1193, 1195, 1197] (by decide +kernel) (by decide +kernel)
set_option maxRecDepth 20000 in
theorem lg_wsX70 : GoodIn lw_tbl wsX70 := goodIn_r _ [95] (by decide +kernel) (by decide +kernel)
set_option maxRecDepth 20000 in
theorem lg_wsX10 : GoodIn lw_tbl wsX10 := goodIn_r _ [109, 111, 113] (by decide +kernel) (by decide +kernel)
set_option maxRecDepth 20000 in
theorem lg_wsX90 : GoodIn lw_tbl wsX90 := goodIn_r _ [127, 129, 131] (by decide +kernel) (by decide +kernel)
set_option maxRecDepth 20000 in
theorem lg_wsX50 : GoodIn lw_tbl wsX50 := goodIn_r _ [85] (by decide +kernel) (by decide +kernel)
set_option maxRecDepth 20000 in
theorem lg_wsX60 : GoodIn lw_tbl wsX60 := goodIn_r _ [150, 152, 154, 156] (by decide +kernel) (by decide +kernel)
set_option maxRecDepth 20000 in
theorem lg_wsX20 : GoodIn lw_tbl wsX20 := goodIn_r _ [304, 306, 308] (by decide +kernel) (by decide +kernel)
set_option maxRecDepth 20000 in
theorem lg_wsX40 : GoodIn lw_tbl wsX40 := goodIn_r _ [353, 355, 357, 359, 361, 363, 365, 367, 369, 371, 373, 375] (by decide +kernel) (by decide +kernel)
set_option maxRecDepth 20000 in
theorem lg_wsX30 : GoodIn lw_tbl wsX30 := goodIn_r _ [434, 436, 438, 440] (by decide +kernel) (by decide +kernel)
set_option maxRecDepth 20000 in
theorem lg_wsX80 : GoodIn lw_tbl wsX80 := goodIn_r _ [392, 394, 396, 398] (by decide +kernel) (by decide +kernel)
set_option maxRecDepth 20000 in
theorem lg_wsX00 : GoodIn lw_tbl wsX00 := goodIn_r _ [413, 415, 417, 419] (by decide +kernel) (by decide +kernel)
set_option maxRecDepth 20000 in
theorem lg_wsJ40 : GoodIn lw_tbl wsJ40 := goodIn_r _ [896, 898, 900, 902] (by decide +kernel) (by decide +kernel)
theorem wsL_law_in0 : ∀ w ∈ wsL_law0, w ∈ lw_tbl := fun w h => ((goodIn_app (goodIn_app (goodIn_app (goodIn_app (goodIn_app (goodIn_app (goodIn_app (goodIn_app (goodIn_app (goodIn_app (goodIn_app (goodIn_app (goodIn_app (goodIn_app (goodIn_app lg_wsL_law0_r1 (goodIn_app lg_wsL_law0_r2 (goodIn_app lg_wsL_law0_r3 (goodIn_app lg_wsL_law0_r4 (goodIn_app lg_wsL_law0_r5 (goodIn_app lg_wsL_law0_r6 (goodIn_app lg_wsL_law0_r7 (goodIn_app lg_wsL_law0_r8 (goodIn_app lg_wsL_law0_r9 (goodIn_app lg_wsL_law0_r10 (goodIn_app lg_wsL_law0_r11 (goodIn_app lg_wsL_law0_r12 (goodIn_app lg_wsL_law0_r13 (goodIn_app lg_wsL_law0_r14 (goodIn_app lg_wsL_law0_r15 (goodIn_app lg_wsL_law0_r16 (goodIn_app lg_wsL_law0_r17 (goodIn_app lg_wsL_law0_r18 (goodIn_app lg_wsL_law0_r19 (goodIn_app lg_wsL_law0_r20 (goodIn_app lg_wsL_law0_r21 (goodIn_app lg_wsL_law0_r22 (goodIn_app lg_wsL_law0_r23 (goodIn_app lg_wsL_law0_r24 (goodIn_app lg_wsL_law0_r25 (goodIn_app lg_wsL_law0_r26 (goodIn_app lg_wsL_law0_r27 (goodIn_app lg_wsL_law0_r28 (goodIn_app lg_wsL_law0_r29 (goodIn_app lg_wsL_law0_r30 (goodIn_app lg_wsL_law0_r31 (goodIn_app lg_wsL_law0_r32 (goodIn_app lg_wsL_law0_r33 (goodIn_app lg_wsL_law0_r34 (goodIn_app lg_wsL_law0_r35 (goodIn_app lg_wsL_law0_r36 (goodIn_app lg_wsL_law0_r37 (goodIn_app lg_wsL_law0_r38 (goodIn_app lg_wsL_law0_r39 (goodIn_app lg_wsL_law0_r40 (goodIn_app lg_wsL_law0_r41 (goodIn_app lg_wsL_law0_r42 (goodIn_app lg_wsL_law0_r43 lg_wsL_law0_r44))))))))))))))))))))))))))))))))))))))))))) lg_wsX100) lg_wsX110) lg_wsX70) lg_wsX10) lg_wsX90) lg_wsX50) lg_wsX60) lg_wsX20) lg_wsX40) lg_wsX30) lg_wsX80) lg_wsX00) lg_wsJ40) (goodIn_of [] rfl)) w h).1
theorem wsL_law_x0 : ∀ w ∈ (vx_atS RX10 76 "java/lang/IllegalArgumentException" ["java/lang/RuntimeException", "java/lang/Exception"]).filter goodWord, w ∈ lw_tbl := by decide +kernel
theorem wsL_law_x1 : ∀ w ∈ (vx_atS RX10 94 "java/lang/IllegalStateException" ["java/lang/RuntimeException", "java/lang/Exception"]).filter goodWord, w ∈ lw_tbl := by decide +kernel
theorem wsL_law_x2 : ∀ w ∈ (vx_atS RX10 117 "java/lang/IndexOutOfBoundsException" ["java/lang/RuntimeException", "java/lang/Exception"]).filter goodWord, w ∈ lw_tbl := by decide +kernel
theorem wsL_law_in : ∀ w ∈ wsL_law, w ∈ lw_tbl := fun w h => (List.mem_append.mp h).elim (fun h => (List.mem_append.mp h).elim (fun h => (List.mem_append.mp h).elim (fun h => wsL_law_in0 w h) (fun h => wsL_law_x0 w h)) (fun h => wsL_law_x1 w h)) (fun h => wsL_law_x2 w h)
theorem inlX0 : ∀ w ∈ wsX00, w ∈ wsL_law := fun _ h => List.mem_append_left _ (List.mem_append_left _ (List.mem_append_left _ (List.mem_append_left _ (List.mem_append_left _ (List.mem_append_right _ h)))))
theorem inX0 : ∀ w ∈ wsX00, w ∈ lw_tbl := fun w h => wsL_law_in w (inlX0 w h)
theorem inlX1 : ∀ w ∈ wsX10, w ∈ wsL_law := fun _ h => List.mem_append_left _ (List.mem_append_left _ (List.mem_append_left _ (List.mem_append_left _ (List.mem_append_left _ (List.mem_append_left _ (List.mem_append_left _ (List.mem_append_left _ (List.mem_append_left _ (List.mem_append_left _ (List.mem_append_left _ (List.mem_append_left _ (List.mem_append_left _ (List.mem_append_right _ h)))))))))))))
theorem inX1 : ∀ w ∈ wsX10, w ∈ lw_tbl := fun w h => wsL_law_in w (inlX1 w h)
theorem inlX2 : ∀ w ∈ wsX20, w ∈ wsL_law := fun _ h => List.mem_append_left _ (List.mem_append_left _ (List.mem_append_left _ (List.mem_append_left _ (List.mem_append_left _ (List.mem_append_left _ (List.mem_append_left _ (List.mem_append_left _ (List.mem_append_left _ (List.mem_append_right _ h)))))))))
theorem inX2 : ∀ w ∈ wsX20, w ∈ lw_tbl := fun w h => wsL_law_in w (inlX2 w h)
theorem inlX3 : ∀ w ∈ wsX30, w ∈ wsL_law := fun _ h => List.mem_append_left _ (List.mem_append_left _ (List.mem_append_left _ (List.mem_append_left _ (List.mem_append_left _ (List.mem_append_left _ (List.mem_append_left _ (List.mem_append_right _ h)))))))
theorem inX3 : ∀ w ∈ wsX30, w ∈ lw_tbl := fun w h => wsL_law_in w (inlX3 w h)
theorem inlX4 : ∀ w ∈ wsX40, w ∈ wsL_law := fun _ h => List.mem_append_left _ (List.mem_append_left _ (List.mem_append_left _ (List.mem_append_left _ (List.mem_append_left _ (List.mem_append_left _ (List.mem_append_left _ (List.mem_append_left _ (List.mem_append_right _ h))))))))
theorem inX4 : ∀ w ∈ wsX40, w ∈ lw_tbl := fun w h => wsL_law_in w (inlX4 w h)
theorem inlX5 : ∀ w ∈ wsX50, w ∈ wsL_law := fun _ h => List.mem_append_left _ (List.mem_append_left _ (List.mem_append_left _ (List.mem_append_left _ (List.mem_append_left _ (List.mem_append_left _ (List.mem_append_left _ (List.mem_append_left _ (List.mem_append_left _ (List.mem_append_left _ (List.mem_append_left _ (List.mem_append_right _ h)))))))))))
theorem inX5 : ∀ w ∈ wsX50, w ∈ lw_tbl := fun w h => wsL_law_in w (inlX5 w h)
theorem inlX6 : ∀ w ∈ wsX60, w ∈ wsL_law := fun _ h => List.mem_append_left _ (List.mem_append_left _ (List.mem_append_left _ (List.mem_append_left _ (List.mem_append_left _ (List.mem_append_left _ (List.mem_append_left _ (List.mem_append_left _ (List.mem_append_left _ (List.mem_append_left _ (List.mem_append_right _ h))))))))))
theorem inX6 : ∀ w ∈ wsX60, w ∈ lw_tbl := fun w h => wsL_law_in w (inlX6 w h)
theorem inlX7 : ∀ w ∈ wsX70, w ∈ wsL_law := fun _ h => List.mem_append_left _ (List.mem_append_left _ (List.mem_append_left _ (List.mem_append_left _ (List.mem_append_left _ (List.mem_append_left _ (List.mem_append_left _ (List.mem_append_left _ (List.mem_append_left _ (List.mem_append_left _ (List.mem_append_left _ (List.mem_append_left _ (List.mem_append_left _ (List.mem_append_left _ (List.mem_append_right _ h))))))))))))))
theorem inX7 : ∀ w ∈ wsX70, w ∈ lw_tbl := fun w h => wsL_law_in w (inlX7 w h)
theorem inlX8 : ∀ w ∈ wsX80, w ∈ wsL_law := fun _ h => List.mem_append_left _ (List.mem_append_left _ (List.mem_append_left _ (List.mem_append_left _ (List.mem_append_left _ (List.mem_append_left _ (List.mem_append_right _ h))))))
theorem inX8 : ∀ w ∈ wsX80, w ∈ lw_tbl := fun w h => wsL_law_in w (inlX8 w h)
theorem inlX9 : ∀ w ∈ wsX90, w ∈ wsL_law := fun _ h => List.mem_append_left _ (List.mem_append_left _ (List.mem_append_left _ (List.mem_append_left _ (List.mem_append_left _ (List.mem_append_left _ (List.mem_append_left _ (List.mem_append_left _ (List.mem_append_left _ (List.mem_append_left _ (List.mem_append_left _ (List.mem_append_left _ (List.mem_append_right _ h))))))))))))
theorem inX9 : ∀ w ∈ wsX90, w ∈ lw_tbl := fun w h => wsL_law_in w (inlX9 w h)
theorem inlX10 : ∀ w ∈ wsX100, w ∈ wsL_law := fun _ h => List.mem_append_left _ (List.mem_append_left _ (List.mem_append_left _ (List.mem_append_left _ (List.mem_append_left _ (List.mem_append_left _ (List.mem_append_left _ (List.mem_append_left _ (List.mem_append_left _ (List.mem_append_left _ (List.mem_append_left _ (List.mem_append_left _ (List.mem_append_left _ (List.mem_append_left _ (List.mem_append_left _ (List.mem_append_left _ (List.mem_append_right _ h))))))))))))))))
theorem inX10 : ∀ w ∈ wsX100, w ∈ lw_tbl := fun w h => wsL_law_in w (inlX10 w h)
theorem inlX11 : ∀ w ∈ wsX110, w ∈ wsL_law := fun _ h => List.mem_append_left _ (List.mem_append_left _ (List.mem_append_left _ (List.mem_append_left _ (List.mem_append_left _ (List.mem_append_left _ (List.mem_append_left _ (List.mem_append_left _ (List.mem_append_left _ (List.mem_append_left _ (List.mem_append_left _ (List.mem_append_left _ (List.mem_append_left _ (List.mem_append_left _ (List.mem_append_left _ (List.mem_append_right _ h)))))))))))))))
theorem inX11 : ∀ w ∈ wsX110, w ∈ lw_tbl := fun w h => wsL_law_in w (inlX11 w h)
theorem inJ5 : ∀ w ∈ wsJ50, w ∈ lw_tbl := by decide +kernel
theorem inJx8e188 : ∀ w ∈ wsJx8e1880, w ∈ lw_tbl := by decide +kernel
theorem inJ6 : ∀ w ∈ wsJ60, w ∈ lw_tbl := by decide +kernel
theorem inJ9 : ∀ w ∈ wsJ90, w ∈ lw_tbl := by decide +kernel
theorem inJ0 : ∀ w ∈ wsJ00, w ∈ lw_tbl := by decide +kernel
theorem inlJ4 : ∀ w ∈ wsJ40, w ∈ wsL_law := fun _ h => List.mem_append_left _ (List.mem_append_left _ (List.mem_append_left _ (List.mem_append_left _ (List.mem_append_right _ h))))
theorem inJ4 : ∀ w ∈ wsJ40, w ∈ lw_tbl := fun w h => wsL_law_in w (inlJ4 w h)
theorem inJ1 : ∀ w ∈ wsJ10, w ∈ lw_tbl := by decide +kernel
theorem inJ2 : ∀ w ∈ wsJ20, w ∈ lw_tbl := by decide +kernel
theorem inJ10 : ∀ w ∈ wsJ100, w ∈ lw_tbl := by decide +kernel
theorem inJ7 : ∀ w ∈ wsJ70, w ∈ lw_tbl := by decide +kernel
theorem inJ8 : ∀ w ∈ wsJ80, w ∈ lw_tbl := by decide +kernel
theorem inJ3 : ∀ w ∈ wsJ30, w ∈ lw_tbl := by decide +kernel