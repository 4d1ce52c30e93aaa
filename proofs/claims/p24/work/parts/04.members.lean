set_option maxRecDepth 20000 in
theorem lg_wsL_law0_r1 : GoodIn lw_tbl wsL_law0_r1 := goodIn_r _ [46, 47, 17, 48, 49, 50, 18, 259, 177, 51, 52, 53, 54, 55, 56, 57, 58, 19, 146, 83, 84, 21, 147, 101] rfl (by decide +kernel)
set_option maxRecDepth 20000 in
theorem lg_wsL_law0_r2 : GoodIn lw_tbl wsL_law0_r2 := goodIn_r _ [102, 22, 148, 119, 64, 20, 149, 121, 122, 23, 150, 151, 144, 152, 153, 154, 155, 59, 60, 61, 62, 63, 79, 74] (by decide +kernel) (by decide +kernel)
set_option maxRecDepth 20000 in
theorem lg_wsL_law0_r3 : GoodIn lw_tbl wsL_law0_r3 := goodIn_r _ [65, 66, 67, 68, 73, 69, 75, 76, 77, 78, 85, 86, 87, 88, 89, 91, 92, 93, 90, 104, 105, 106, 107, 109] (by decide +kernel) (by decide +kernel)
set_option maxRecDepth 20000 in
theorem lg_wsL_law0_r4 : GoodIn lw_tbl wsL_law0_r4 := goodIn_r _ [110, 111, 108, 120, 124, 125, 126, 127, 131, 132, 133, 129, 134, 128, 130, 178, 179, 180, 181, 182, 183, 184, 185, 186] rfl (by decide +kernel)
set_option maxRecDepth 20000 in
theorem lg_wsL_law0_r5 : GoodIn lw_tbl wsL_law0_r5 := goodIn_r _ [187, 265, 28, 303, 30, 281, 282, 29, 319, 320, 31, 365, 32, 366, 367, 33, 388, 389, 34, 188, 190, 0, 191, 192] (by decide +kernel) (by decide +kernel)
set_option maxRecDepth 20000 in
theorem lg_wsL_law0_r6 : GoodIn lw_tbl wsL_law0_r6 := goodIn_r _ [27, 261, 263, 2, 264, 283, 284, 285, 286, 287, 288, 289, 290, 298, 299, 300, 301, 321, 322, 323, 324, 325, 332, 333] (by decide +kernel) (by decide +kernel)
set_option maxRecDepth 20000 in
theorem lg_wsL_law0_r7 : GoodIn lw_tbl wsL_law0_r7 := goodIn_r _ [336, 327, 337, 338, 339, 334, 328, 329, 330, 331, 335, 326, 368, 369, 370, 371, 372, 375, 376, 377, 378, 373, 374, 390] (by decide +kernel) (by decide +kernel)
set_option maxRecDepth 20000 in
theorem lg_wsL_law0_r8 : GoodIn lw_tbl wsL_law0_r8 := goodIn_r _ [391, 392, 393, 394, 397, 398, 399, 396, 395, 409, 410, 411, 412, 413, 415, 417, 419, 430, 431, 432, 433, 416, 418, 434] (by decide +kernel) (by decide +kernel)
set_option maxRecDepth 20000 in
theorem lg_wsL_law0_r9 : GoodIn lw_tbl wsL_law0_r9 := goodIn_r _ [436, 3, 437, 439, 440, 441, 442, 443, 444, 445, 446, 447, 448, 449, 450, 451, 452, 453, 454, 455, 456, 457, 458, 459] (by decide +kernel) (by decide +kernel)
set_option maxRecDepth 20000 in
theorem lg_wsL_law0_r10 : GoodIn lw_tbl wsL_law0_r10 := goodIn_r _ [460, 461, 462, 464, 465, 466, 467, 470, 472, 4, 473, 474, 475, 476, 477, 478, 479, 480, 481, 482, 483, 484, 485, 486] (by decide +kernel) (by decide +kernel)
set_option maxRecDepth 20000 in
theorem lg_wsL_law0_r11 : GoodIn lw_tbl wsL_law0_r11 := goodIn_r _ [487, 488, 489, 490, 491, 493, 495, 5, 496, 498, 499, 500, 501, 502, 503, 504, 505, 506, 508, 509, 510, 511, 755, 512] rfl (by decide +kernel)
set_option maxRecDepth 20000 in
theorem lg_wsL_law0_r12 : GoodIn lw_tbl wsL_law0_r12 := goodIn_r _ [513, 514, 515, 516, 517, 518, 519, 520, 521, 522, 753, 754, 523, 524, 525, 526, 527, 528, 529, 530, 531, 532, 534, 6] rfl (by decide +kernel)
set_option maxRecDepth 20000 in
theorem lg_wsL_law0_r13 : GoodIn lw_tbl wsL_law0_r13 := goodIn_r _ [535, 537, 538, 539, 540, 545, 541, 542, 543, 544, 546, 547, 548, 549, 550, 551, 552, 553, 554, 555, 556, 557, 558, 559] (by decide +kernel) (by decide +kernel)
set_option maxRecDepth 20000 in
theorem lg_wsL_law0_r14 : GoodIn lw_tbl wsL_law0_r14 := goodIn_r _ [560, 561, 562, 563, 564, 566, 7, 567, 568, 569, 570, 571, 572, 573, 574, 575, 576, 577, 578, 579, 580, 581, 582, 583] (by decide +kernel) (by decide +kernel)
set_option maxRecDepth 20000 in
theorem lg_wsL_law0_r15 : GoodIn lw_tbl wsL_law0_r15 := goodIn_r _ [585, 8, 586, 587, 589, 9, 590, 591, 592, 593, 594, 595, 596, 597, 598, 599, 600, 601, 602, 603, 605, 10, 606, 607] (by decide +kernel) (by decide +kernel)
set_option maxRecDepth 20000 in
theorem lg_wsL_law0_r16 : GoodIn lw_tbl wsL_law0_r16 := goodIn_r _ [608, 609, 610, 611, 612, 613, 614, 616, 617, 618, 619, 620, 621, 622, 623, 625, 626, 627, 628, 629, 630, 631, 632, 634] (by decide +kernel) (by decide +kernel)
set_option maxRecDepth 20000 in
theorem lg_wsL_law0_r17 : GoodIn lw_tbl wsL_law0_r17 := goodIn_r _ [635, 636, 637, 639, 640, 641, 642, 643, 644, 645, 646, 648, 649, 650, 651, 652, 653, 654, 655, 656, 657, 658, 659, 661] (by decide +kernel) (by decide +kernel)
set_option maxRecDepth 20000 in
theorem lg_wsL_law0_r18 : GoodIn lw_tbl wsL_law0_r18 := goodIn_r _ [662, 663, 664, 665, 666, 667, 668, 420, 670, 672, 11, 673, 674, 676, 677, 678, 679, 680, 681, 682, 683, 684, 414, 685] (by decide +kernel) (by decide +kernel)
set_option maxRecDepth 20000 in
theorem lg_wsL_law0_r19 : GoodIn lw_tbl wsL_law0_r19 := goodIn_r _ [687, 12, 688, 690, 691, 692, 693, 694, 696, 697, 698, 699, 700, 701, 702, 703, 704, 705, 706, 707, 708, 709, 710, 712] (by decide +kernel) (by decide +kernel)
set_option maxRecDepth 20000 in
theorem lg_wsL_law0_r20 : GoodIn lw_tbl wsL_law0_r20 := goodIn_r _ [13, 713, 714, 715, 716, 717, 718, 719, 720, 721, 722, 723, 724, 725, 727, 728, 35, 729, 726, 730, 731, 732, 733, 734] (by decide +kernel) (by decide +kernel)
set_option maxRecDepth 20000 in
theorem lg_wsL_law0_r21 : GoodIn lw_tbl wsL_law0_r21 := goodIn_r _ [735, 736, 737, 738, 739, 740, 741, 742, 745, 746, 747, 748, 749, 750, 751, 752, 756, 757, 758, 759, 760, 761, 762, 764] rfl (by decide +kernel)
set_option maxRecDepth 20000 in
theorem lg_wsL_law0_r22 : GoodIn lw_tbl wsL_law0_r22 := goodIn_r _ [765, 37, 766, 767, 768, 769, 770, 36, 771, 772, 773, 260, 782, 783, 775, 776, 39, 777, 778, 779, 780, 781, 794, 795] (by decide +kernel) (by decide +kernel)
set_option maxRecDepth 20000 in
theorem lg_wsL_law0_r23 : GoodIn lw_tbl wsL_law0_r23 := goodIn_r _ [796, 797, 798, 799, 1059, 793, 800, 801, 784, 802, 1060, 17, 804, 805, 806, 1061, 17, 808, 809, 820, 810, 811, 40, 812] (by decide +kernel) (by decide +kernel)
set_option maxRecDepth 20000 in
theorem lg_wsL_law0_r24 : GoodIn lw_tbl wsL_law0_r24 := goodIn_r _ [813, 814, 815, 816, 817, 818, 819, 821, 822, 41, 823, 824, 825, 826, 827, 828, 830, 831, 832, 833, 834, 836, 835, 42] (by decide +kernel) (by decide +kernel)
set_option maxRecDepth 20000 in
theorem lg_wsL_law0_r25 : GoodIn lw_tbl wsL_law0_r25 := goodIn_r _ [837, 839, 17, 838, 841, 842, 843, 43, 844, 845, 1062, 17, 847, 848, 849, 850, 851, 852, 853, 854, 855, 856, 857, 858] (by decide +kernel) (by decide +kernel)
set_option maxRecDepth 20000 in
theorem lg_wsL_law0_r26 : GoodIn lw_tbl wsL_law0_r26 := goodIn_r _ [859, 860, 861, 862, 38, 863, 864, 866, 867, 44, 868, 869, 870, 871, 872, 874, 876, 878, 879, 880, 881, 882, 883, 884] (by decide +kernel) (by decide +kernel)
set_option maxRecDepth 20000 in
theorem lg_wsL_law0_r27 : GoodIn lw_tbl wsL_law0_r27 := goodIn_r _ [885, 886, 887, 888, 889, 890, 891, 892, 893, 894, 1063, 895, 896, 897, 898, 45, 899, 900, 901, 902, 903, 905, 907, 908] (by decide +kernel) (by decide +kernel)
set_option maxRecDepth 20000 in
theorem lg_wsL_law0_r28 : GoodIn lw_tbl wsL_law0_r28 := goodIn_r _ [909, 910, 911, 912, 913, 914, 915, 916, 917, 918, 919, 920, 921, 922, 923, 925, 926, 927, 928, 929, 1064, 930, 931, 932] (by decide +kernel) (by decide +kernel)
set_option maxRecDepth 20000 in
theorem lg_wsL_law0_r29 : GoodIn lw_tbl wsL_law0_r29 := goodIn_r _ [1065, 17, 934, 935, 936, 937, 938, 939, 940, 941, 942, 1070, 943, 944, 945, 946, 947, 1071, 948, 1066, 17, 950, 951, 952] (by decide +kernel) (by decide +kernel)
set_option maxRecDepth 20000 in
theorem lg_wsL_law0_r30 : GoodIn lw_tbl wsL_law0_r30 := goodIn_r _ [1067, 17, 954, 955, 956, 957, 958, 959, 960, 961, 962, 963, 964, 965, 966, 967, 1068, 968, 969, 970, 971, 972, 973, 974] (by decide +kernel) (by decide +kernel)
set_option maxRecDepth 20000 in
theorem lg_wsL_law0_r31 : GoodIn lw_tbl wsL_law0_r31 := goodIn_r _ [1069, 975, 976, 977, 978, 979, 980, 981, 982, 983, 984, 985, 986, 987, 988, 989, 990, 991, 992, 993, 994, 995, 996, 997] rfl (by decide +kernel)
set_option maxRecDepth 20000 in
theorem lg_wsL_law0_r32 : GoodIn lw_tbl wsL_law0_r32 := goodIn_r _ [998, 999, 1000, 1001, 1002, 1003, 1004, 1005, 1006, 1007, 1008, 1009, 1010, 1011, 1012, 1013, 1014, 1015, 1017, 14, 1018, 1019, 1020, 1021] (by decide +kernel) (by decide +kernel)
set_option maxRecDepth 20000 in
theorem lg_wsL_law0_r33 : GoodIn lw_tbl wsL_law0_r33 := goodIn_r _ [1022, 1023, 1024, 1025, 1026, 1027, 1028, 1029, 1030, 1031, 1032, 1033, 1034, 1035, 1036, 1037, 1038, 1039, 1040, 1041, 1042, 1043, 1044, 1045] rfl (by decide +kernel)
set_option maxRecDepth 20000 in
theorem lg_wsL_law0_r34 : GoodIn lw_tbl wsL_law0_r34 := goodIn_r _ [1046, 1047, 1048, 1049, 1050, 1052, 15, 1053, 1054, 1056, 16, 1057] (by decide +kernel) (by decide +kernel)
set_option maxRecDepth 20000 in
theorem lg_wsX100 : GoodIn lw_tbl wsX100 := goodIn_r _ [156, 158, 160, 162, 164, 166, 168, 170, 172, 174] (by decide +kernel) (by decide +kernel)
set_option maxRecDepth 20000 in
theorem lg_wsX70 : GoodIn lw_tbl wsX70 := goodIn_r _ [80] (by decide +kernel) (by decide +kernel)
set_option maxRecDepth 20000 in
theorem lg_wsX10 : GoodIn lw_tbl wsX10 := goodIn_r _ [94, 96, 98] (by decide +kernel) (by decide +kernel)
set_option maxRecDepth 20000 in
theorem lg_wsX90 : GoodIn lw_tbl wsX90 := goodIn_r _ [112, 114, 116] (by decide +kernel) (by decide +kernel)
set_option maxRecDepth 20000 in
theorem lg_wsX50 : GoodIn lw_tbl wsX50 := goodIn_r _ [70] (by decide +kernel) (by decide +kernel)
set_option maxRecDepth 20000 in
theorem lg_wsX60 : GoodIn lw_tbl wsX60 := goodIn_r _ [135, 137, 139, 141] (by decide +kernel) (by decide +kernel)
set_option maxRecDepth 20000 in
theorem lg_wsX20 : GoodIn lw_tbl wsX20 := goodIn_r _ [291, 293, 295] (by decide +kernel) (by decide +kernel)
set_option maxRecDepth 20000 in
theorem lg_wsX40 : GoodIn lw_tbl wsX40 := goodIn_r _ [340, 342, 344, 346, 348, 350, 352, 354, 356, 358, 360, 362] (by decide +kernel) (by decide +kernel)
set_option maxRecDepth 20000 in
theorem lg_wsX30 : GoodIn lw_tbl wsX30 := goodIn_r _ [421, 423, 425, 427] (by decide +kernel) (by decide +kernel)
set_option maxRecDepth 20000 in
theorem lg_wsX80 : GoodIn lw_tbl wsX80 := goodIn_r _ [379, 381, 383, 385] (by decide +kernel) (by decide +kernel)
set_option maxRecDepth 20000 in
theorem lg_wsX00 : GoodIn lw_tbl wsX00 := goodIn_r _ [400, 402, 404, 406] (by decide +kernel) (by decide +kernel)
set_option maxRecDepth 20000 in
theorem lg_wsJ40 : GoodIn lw_tbl wsJ40 := goodIn_r _ [785, 787, 789, 791] (by decide +kernel) (by decide +kernel)
theorem wsL_law_in0 : ∀ w ∈ wsL_law0, w ∈ lw_tbl := fun w h => ((goodIn_app (goodIn_app (goodIn_app (goodIn_app (goodIn_app (goodIn_app (goodIn_app (goodIn_app (goodIn_app (goodIn_app (goodIn_app (goodIn_app (goodIn_app (goodIn_app lg_wsL_law0_r1 (goodIn_app lg_wsL_law0_r2 (goodIn_app lg_wsL_law0_r3 (goodIn_app lg_wsL_law0_r4 (goodIn_app lg_wsL_law0_r5 (goodIn_app lg_wsL_law0_r6 (goodIn_app lg_wsL_law0_r7 (goodIn_app lg_wsL_law0_r8 (goodIn_app lg_wsL_law0_r9 (goodIn_app lg_wsL_law0_r10 (goodIn_app lg_wsL_law0_r11 (goodIn_app lg_wsL_law0_r12 (goodIn_app lg_wsL_law0_r13 (goodIn_app lg_wsL_law0_r14 (goodIn_app lg_wsL_law0_r15 (goodIn_app lg_wsL_law0_r16 (goodIn_app lg_wsL_law0_r17 (goodIn_app lg_wsL_law0_r18 (goodIn_app lg_wsL_law0_r19 (goodIn_app lg_wsL_law0_r20 (goodIn_app lg_wsL_law0_r21 (goodIn_app lg_wsL_law0_r22 (goodIn_app lg_wsL_law0_r23 (goodIn_app lg_wsL_law0_r24 (goodIn_app lg_wsL_law0_r25 (goodIn_app lg_wsL_law0_r26 (goodIn_app lg_wsL_law0_r27 (goodIn_app lg_wsL_law0_r28 (goodIn_app lg_wsL_law0_r29 (goodIn_app lg_wsL_law0_r30 (goodIn_app lg_wsL_law0_r31 (goodIn_app lg_wsL_law0_r32 (goodIn_app lg_wsL_law0_r33 lg_wsL_law0_r34))))))))))))))))))))))))))))))))) lg_wsX100) lg_wsX70) lg_wsX10) lg_wsX90) lg_wsX50) lg_wsX60) lg_wsX20) lg_wsX40) lg_wsX30) lg_wsX80) lg_wsX00) lg_wsJ40) (goodIn_of [] rfl)) w h).1
theorem wsL_law_x0 : ∀ w ∈ (vx_atS RX10 76 "java/lang/IllegalArgumentException" ["java/lang/RuntimeException", "java/lang/Exception"]).filter goodWord, w ∈ lw_tbl := by decide +kernel
theorem wsL_law_x1 : ∀ w ∈ (vx_atS RX10 94 "java/lang/IllegalStateException" ["java/lang/RuntimeException", "java/lang/Exception"]).filter goodWord, w ∈ lw_tbl := by decide +kernel
theorem wsL_law_x2 : ∀ w ∈ (vx_atS RX10 117 "java/lang/IndexOutOfBoundsException" ["java/lang/RuntimeException", "java/lang/Exception"]).filter goodWord, w ∈ lw_tbl := by decide +kernel
theorem wsL_law_in : ∀ w ∈ wsL_law, w ∈ lw_tbl := fun w h => (List.mem_append.mp h).elim (fun h => (List.mem_append.mp h).elim (fun h => (List.mem_append.mp h).elim (fun h => wsL_law_in0 w h) (fun h => wsL_law_x0 w h)) (fun h => wsL_law_x1 w h)) (fun h => wsL_law_x2 w h)
theorem inlX0 : ∀ w ∈ wsX00, w ∈ wsL_law := fun _ h => List.mem_append_left _ (List.mem_append_left _ (List.mem_append_left _ (List.mem_append_left _ (List.mem_append_left _ (List.mem_append_right _ h)))))
theorem inX0 : ∀ w ∈ wsX00, w ∈ lw_tbl := fun w h => wsL_law_in w (inlX0 w h)
theorem inlX1 : ∀ w ∈ wsX10, w ∈ wsL_law := fun _ h => List.mem_append_left _ (List.mem_append_left _ (List.mem_append_left _ (List.mem_append_left _ (List.mem_append_left _ (List.mem_append_left _ (List.mem_append_left _ (List.mem_append_left _ (List.mem_append_left _ (List.mem_append_left _ (List.mem_append_left _ (List.mem_append_left _ (List.mem_append_left _ (List.mem_append_right _ h)))))))))))))
theorem inX1 : ∀ w ∈ wsX10, w ∈ lw_tbl := fun w h => wsL_law_in w (inlX1 w h)
theorem inlX2 : ∀ w ∈ wsX20, w ∈ wsL_law := fun _ h => List.mem_append_left _ (List.mem_append_left _ (List.mem_append_left _ (List.mem_append_left _ (List.mem_append_left _ (List.mem_append_left _ (List.mem_append_left _ (List.mem_append_left _ (List.mem_append_left _ (List.mem_append_right _ h)))))))))
theorem inX2 : ∀ w ∈ wsX20, w ∈ lw_tbl := fun w h => wsL_law_in w (inlX2 w h)
theorem inlX3 : ∀ w ∈ wsX30, w ∈ wsL_law := fun _ h => List.mem_append_left _ (List.mem_append_left _ (List.mem_append_left _ (List.mem_append_left _ (List.mem_append_left _ (List.mem_append_left _ (List.mem_append_left _ (List.mem_append_right _ h)))))))
theorem inX3 : ∀ w ∈ wsX30, w ∈ lw_tbl := fun w h => wsL_law_in w (inlX3 w h)
theorem inlX4 : ∀ w ∈ wsX40, w ∈ wsL_law := fun _ h => List.mem_append_left _ (List.mem_append_left _ (List.mem_append_left _ (List.mem_append_left _ (List.mem_append_left _ (List.mem_append_left _ (List.mem_append_left _ (List.mem_append_left _ (List.mem_append_right _ h))))))))
theorem inX4 : ∀ w ∈ wsX40, w ∈ lw_tbl := fun w h => wsL_law_in w (inlX4 w h)
theorem inlX5 : ∀ w ∈ wsX50, w ∈ wsL_law := fun _ h => List.mem_append_left _ (List.mem_append_left _ (List.mem_append_left _ (List.mem_append_left _ (List.mem_append_left _ (List.mem_append_left _ (List.mem_append_left _ (List.mem_append_left _ (List.mem_append_left _ (List.mem_append_left _ (List.mem_append_left _ (List.mem_append_right _ h)))))))))))
theorem inX5 : ∀ w ∈ wsX50, w ∈ lw_tbl := fun w h => wsL_law_in w (inlX5 w h)
theorem inlX6 : ∀ w ∈ wsX60, w ∈ wsL_law := fun _ h => List.mem_append_left _ (List.mem_append_left _ (List.mem_append_left _ (List.mem_append_left _ (List.mem_append_left _ (List.mem_append_left _ (List.mem_append_left _ (List.mem_append_left _ (List.mem_append_left _ (List.mem_append_left _ (List.mem_append_right _ h))))))))))
theorem inX6 : ∀ w ∈ wsX60, w ∈ lw_tbl := fun w h => wsL_law_in w (inlX6 w h)
theorem inlX7 : ∀ w ∈ wsX70, w ∈ wsL_law := fun _ h => List.mem_append_left _ (List.mem_append_left _ (List.mem_append_left _ (List.mem_append_left _ (List.mem_append_left _ (List.mem_append_left _ (List.mem_append_left _ (List.mem_append_left _ (List.mem_append_left _ (List.mem_append_left _ (List.mem_append_left _ (List.mem_append_left _ (List.mem_append_left _ (List.mem_append_left _ (List.mem_append_right _ h))))))))))))))
theorem inX7 : ∀ w ∈ wsX70, w ∈ lw_tbl := fun w h => wsL_law_in w (inlX7 w h)
theorem inlX8 : ∀ w ∈ wsX80, w ∈ wsL_law := fun _ h => List.mem_append_left _ (List.mem_append_left _ (List.mem_append_left _ (List.mem_append_left _ (List.mem_append_left _ (List.mem_append_left _ (List.mem_append_right _ h))))))
theorem inX8 : ∀ w ∈ wsX80, w ∈ lw_tbl := fun w h => wsL_law_in w (inlX8 w h)
theorem inlX9 : ∀ w ∈ wsX90, w ∈ wsL_law := fun _ h => List.mem_append_left _ (List.mem_append_left _ (List.mem_append_left _ (List.mem_append_left _ (List.mem_append_left _ (List.mem_append_left _ (List.mem_append_left _ (List.mem_append_left _ (List.mem_append_left _ (List.mem_append_left _ (List.mem_append_left _ (List.mem_append_left _ (List.mem_append_right _ h))))))))))))
theorem inX9 : ∀ w ∈ wsX90, w ∈ lw_tbl := fun w h => wsL_law_in w (inlX9 w h)
theorem inlX10 : ∀ w ∈ wsX100, w ∈ wsL_law := fun _ h => List.mem_append_left _ (List.mem_append_left _ (List.mem_append_left _ (List.mem_append_left _ (List.mem_append_left _ (List.mem_append_left _ (List.mem_append_left _ (List.mem_append_left _ (List.mem_append_left _ (List.mem_append_left _ (List.mem_append_left _ (List.mem_append_left _ (List.mem_append_left _ (List.mem_append_left _ (List.mem_append_left _ (List.mem_append_right _ h)))))))))))))))
theorem inX10 : ∀ w ∈ wsX100, w ∈ lw_tbl := fun w h => wsL_law_in w (inlX10 w h)
theorem inX11 : ∀ w ∈ wsX110, w ∈ lw_tbl := by decide +kernel
theorem inJ5 : ∀ w ∈ wsJ50, w ∈ lw_tbl := by decide +kernel
theorem inJx8e188 : ∀ w ∈ wsJx8e1880, w ∈ lw_tbl := by decide +kernel
theorem inJ6 : ∀ w ∈ wsJ60, w ∈ lw_tbl := by decide +kernel
theorem inJ9 : ∀ w ∈ wsJ90, w ∈ lw_tbl := by decide +kernel
theorem inJ0 : ∀ w ∈ wsJ00, w ∈ lw_tbl := by decide +kernel
theorem inlJ4 : ∀ w ∈ wsJ40, w ∈ wsL_law := fun _ h => List.mem_append_left _ (List.mem_append_left _ (List.mem_append_left _ (List.mem_append_left _ (List.mem_append_right _ h))))
theorem inJ4 : ∀ w ∈ wsJ40, w ∈ lw_tbl := fun w h => wsL_law_in w (inlJ4 w h)
theorem inJ1 : ∀ w ∈ wsJ10, w ∈ lw_tbl := by decide +kernel
theorem inJ2 : ∀ w ∈ wsJ20, w ∈ lw_tbl := by decide +kernel
theorem inJ10 : ∀ w ∈ wsJ100, w ∈ lw_tbl := by decide +kernel
theorem inJ7 : ∀ w ∈ wsJ70, w ∈ lw_tbl := by decide +kernel
theorem inJ8 : ∀ w ∈ wsJ80, w ∈ lw_tbl := by decide +kernel
theorem inJ3 : ∀ w ∈ wsJ30, w ∈ lw_tbl := by decide +kernel