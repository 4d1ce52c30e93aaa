set_option maxRecDepth 20000 in
theorem ggL_house_L_reads_r1 : GoodIn wsL_house wsL_reads_r1 := goodIn_r _ [260, 261, 262, 86, 263, 264, 265, 266, 267, 268, 269, 270, 271, 272, 273, 274, 275, 276, 3, 277, 95, 96, 187, 37] rfl (by decide +kernel)
set_option maxRecDepth 20000 in
theorem ggL_house_L_reads_r2 : GoodIn wsL_house wsL_reads_r2 := goodIn_r _ [189, 190, 191, 192, 117, 118, 34, 278, 279, 280, 104, 281, 147, 282, 132, 133, 101, 134, 128, 283, 284, 285, 286, 97] (by decide +kernel) (by decide +kernel)
set_option maxRecDepth 20000 in
theorem ggL_house_L_reads_r3 : GoodIn wsL_house wsL_reads_r3 := goodIn_r _ [98, 197, 198, 199, 200, 152, 287, 288, 289, 290, 291, 150, 148, 292, 293, 294, 295, 130, 129, 296, 297, 298, 14, 299] (by decide +kernel) (by decide +kernel)
set_option maxRecDepth 20000 in
theorem ggL_house_L_reads_r4 : GoodIn wsL_house wsL_reads_r4 := goodIn_r _ [300, 301, 302, 303, 44, 43, 304, 305, 251, 210, 211, 26, 212, 50, 306, 307, 308, 309, 145, 146, 310, 311, 312, 313] (by decide +kernel) (by decide +kernel)
set_option maxRecDepth 20000 in
theorem ggL_house_L_reads_r5 : GoodIn wsL_house wsL_reads_r5 := goodIn_r _ [140, 151, 144, 141, 142, 314, 315, 316, 317, 318, 319, 320, 321, 18, 322, 60, 323, 52, 53, 54, 324, 325, 326, 327] (by decide +kernel) (by decide +kernel)
set_option maxRecDepth 20000 in
theorem ggL_house_L_reads_r6 : GoodIn wsL_house wsL_reads_r6 := goodIn_r _ [61, 62, 328, 329, 330, 331, 332, 333, 334, 335, 336, 337, 338, 339, 340, 341, 342, 343, 344, 345, 346, 347, 348, 349] (by decide +kernel) (by decide +kernel)
set_option maxRecDepth 20000 in
theorem ggL_house_L_reads_r7 : GoodIn wsL_house wsL_reads_r7 := goodIn_r _ [350, 351, 352, 353, 354, 355, 356, 143, 357, 358, 359, 360, 361, 362, 363, 364, 213, 214, 215, 216, 365, 366, 367, 368] (by decide +kernel) (by decide +kernel)
set_option maxRecDepth 20000 in
theorem ggL_house_L_reads_r8 : GoodIn wsL_house wsL_reads_r8 := goodIn_r _ [369, 370, 371, 372, 99, 100, 119, 120, 121, 122, 123, 124, 125, 126, 10, 11, 127, 373, 374, 375, 376, 377, 378, 379] (by decide +kernel) (by decide +kernel)
set_option maxRecDepth 20000 in
theorem ggL_house_L_reads_r9 : GoodIn wsL_house wsL_reads_r9 := goodIn_r _ [380, 188, 113, 114, 115, 116, 381, 382, 383, 109, 384, 160, 205, 206, 207, 208, 159, 209, 385, 386, 387, 388, 161, 389] (by decide +kernel) (by decide +kernel)
set_option maxRecDepth 20000 in
theorem ggL_house_L_reads_r10 : GoodIn wsL_house wsL_reads_r10 := goodIn_r _ [390, 391, 392, 393, 394, 395, 396, 397, 398, 399, 400, 401, 402, 403, 404, 162, 405, 406, 407, 408, 164, 409, 410, 411] (by decide +kernel) (by decide +kernel)
set_option maxRecDepth 20000 in
theorem ggL_house_L_reads_r11 : GoodIn wsL_house wsL_reads_r11 := goodIn_r _ [412, 413, 35, 32, 414, 415, 416, 417, 418, 419, 420, 421, 422, 112, 423, 172, 424, 425, 426, 427, 31, 428, 429, 430] (by decide +kernel) (by decide +kernel)
set_option maxRecDepth 20000 in
theorem ggL_house_L_reads_r12 : GoodIn wsL_house wsL_reads_r12 := goodIn_r _ [431, 432, 433, 434, 435, 30, 436, 78, 437, 438, 439, 440, 441, 81, 442, 443, 444, 445, 446, 447, 448, 449, 450, 451] (by decide +kernel) (by decide +kernel)
set_option maxRecDepth 20000 in
theorem ggL_house_L_reads_r13 : GoodIn wsL_house wsL_reads_r13 := goodIn_r _ [452, 453, 454, 455, 456, 457, 458, 459, 460, 461, 462, 463, 464, 465, 466, 467, 77, 468, 469, 470, 471, 79, 472, 473] (by decide +kernel) (by decide +kernel)
set_option maxRecDepth 20000 in
theorem ggL_house_L_reads_r14 : GoodIn wsL_house wsL_reads_r14 := goodIn_r _ [474, 475, 476, 477, 478, 479, 480, 481, 482, 483, 484, 485, 243, 244, 245, 246, 486, 487, 488, 489, 490, 491, 492, 493] (by decide +kernel) (by decide +kernel)
set_option maxRecDepth 20000 in
theorem ggL_house_L_reads_r15 : GoodIn wsL_house wsL_reads_r15 := goodIn_r _ [494, 495, 496, 497, 498, 499, 500, 501, 502, 503, 504, 505, 506, 507, 508, 509, 510, 511, 512, 513, 514, 515, 516, 517] rfl (by decide +kernel)
set_option maxRecDepth 20000 in
theorem ggL_house_L_reads_r16 : GoodIn wsL_house wsL_reads_r16 := goodIn_r _ [518, 519, 520, 521, 522, 523, 524, 525, 526, 527, 528, 529, 530, 531, 532, 533, 534, 535, 536, 537, 538, 539, 540, 541] (by decide +kernel) (by decide +kernel)
set_option maxRecDepth 20000 in
theorem ggL_house_L_reads_r17 : GoodIn wsL_house wsL_reads_r17 := goodIn_r _ [542, 543, 544, 545, 546, 547, 548, 549, 550, 551, 552, 553, 554, 555, 556, 557, 558, 559, 560, 561, 562, 563, 564, 565] (by decide +kernel) (by decide +kernel)
set_option maxRecDepth 20000 in
theorem ggL_house_L_reads_r18 : GoodIn wsL_house wsL_reads_r18 := goodIn_r _ [566, 567, 568, 569, 570, 571, 572, 573, 574, 575, 576, 577, 578, 579, 580, 581, 582, 583, 584, 585, 586, 587, 588, 589] (by decide +kernel) (by decide +kernel)
set_option maxRecDepth 20000 in
theorem ggL_house_L_reads_r19 : GoodIn wsL_house wsL_reads_r19 := goodIn_r _ [590, 591, 592, 593, 594, 595, 596, 597, 598, 599, 600, 601, 602, 603, 604, 605, 606, 607, 608, 609, 610, 611, 612, 613] (by decide +kernel) (by decide +kernel)
set_option maxRecDepth 20000 in
theorem ggL_house_L_reads_r20 : GoodIn wsL_house wsL_reads_r20 := goodIn_r _ [614, 615, 616, 617, 618, 619, 620, 621, 622, 623, 624, 625, 626, 627, 628, 629, 630, 631, 632, 633, 634, 635, 636, 637] (by decide +kernel) (by decide +kernel)
set_option maxRecDepth 20000 in
theorem ggL_house_L_reads_r21 : GoodIn wsL_house wsL_reads_r21 := goodIn_r _ [638, 639, 640, 641, 642, 643, 644, 645, 646, 647, 648, 649, 650, 651, 652, 653, 654, 655, 656, 657, 658, 659, 660, 661] (by decide +kernel) (by decide +kernel)
set_option maxRecDepth 20000 in
theorem ggL_house_L_reads_r22 : GoodIn wsL_house wsL_reads_r22 := goodIn_r _ [662, 663, 664, 665, 666, 667, 668, 669, 670, 671, 672, 673, 674, 675, 676, 677, 678, 679, 680, 681, 682, 683, 684, 685] (by decide +kernel) (by decide +kernel)
set_option maxRecDepth 20000 in
theorem ggL_house_L_reads_r23 : GoodIn wsL_house wsL_reads_r23 := goodIn_r _ [686, 687, 688, 689, 690, 691, 692, 693, 694, 695, 696, 697, 698, 699, 700, 701, 702, 703, 704, 705, 706, 707, 708, 709] (by decide +kernel) (by decide +kernel)
set_option maxRecDepth 20000 in
theorem ggL_house_L_reads_r24 : GoodIn wsL_house wsL_reads_r24 := goodIn_r _ [710, 711, 712, 713, 714, 715, 716, 717, 718, 719, 720, 721, 722, 723, 724, 725, 183, 184, 185, 186, 193, 194, 195, 196] (by decide +kernel) (by decide +kernel)
set_option maxRecDepth 20000 in
theorem ggL_house_L_reads_r25 : GoodIn wsL_house wsL_reads_r25 := goodIn_r _ [201, 202, 203, 204] (by decide +kernel) (by decide +kernel)
set_option maxRecDepth 20000 in
theorem ggL_house_L_reads_wsX30 : GoodIn wsL_house wsX30 := goodIn_r _ [839, 840, 841, 842] (by decide +kernel) (by decide +kernel)
set_option maxRecDepth 20000 in
theorem ggL_house_L_reads_wsX100 : GoodIn wsL_house wsX100 := goodIn_r _ [802, 803, 804, 805, 806, 807, 808, 809, 810, 811] (by decide +kernel) (by decide +kernel)
set_option maxRecDepth 20000 in
theorem ggL_house_L_reads_wsX40 : GoodIn wsL_house wsX40 := goodIn_r _ [827, 828, 829, 830, 831, 832, 833, 834, 835, 836, 837, 838] (by decide +kernel) (by decide +kernel)
set_option maxRecDepth 20000 in
theorem ggL_house_L_reads_wsX20 : GoodIn wsL_house wsX20 := goodIn_r _ [824, 825, 826] (by decide +kernel) (by decide +kernel)
set_option maxRecDepth 20000 in
theorem ggL_house_L_reads_wsX70 : GoodIn wsL_house wsX70 := goodIn_r _ [812] (by decide +kernel) (by decide +kernel)
set_option maxRecDepth 20000 in
theorem ggL_house_L_reads_wsX50 : GoodIn wsL_house wsX50 := goodIn_r _ [819] (by decide +kernel) (by decide +kernel)
set_option maxRecDepth 20000 in
theorem ggL_house_L_reads_wsX10 : GoodIn wsL_house wsX10 := goodIn_r _ [813, 814, 815] (by decide +kernel) (by decide +kernel)
set_option maxRecDepth 20000 in
theorem ggL_house_L_reads_wsX80 : GoodIn wsL_house wsX80 := goodIn_r _ [843, 844, 845, 846] (by decide +kernel) (by decide +kernel)
set_option maxRecDepth 20000 in
theorem ggL_house_L_reads_wsX00 : GoodIn wsL_house wsX00 := goodIn_r _ [847, 848, 849, 850] (by decide +kernel) (by decide +kernel)
set_option maxRecDepth 20000 in
theorem ggL_house_L_reads_wsX60 : GoodIn wsL_house wsX60 := goodIn_r _ [820, 821, 822, 823] (by decide +kernel) (by decide +kernel)
set_option maxRecDepth 20000 in
theorem ggL_house_L_reads_wsJ40 : GoodIn wsL_house wsJ40 := goodIn_r _ [851, 852, 853, 854] (by decide +kernel) (by decide +kernel)
set_option maxRecDepth 20000 in
theorem ggL_house_L_reads : GoodIn wsL_house wsL_reads := goodIn_ca (goodIn_ca (goodIn_ca (goodIn_1 (goodIn_r [Cond.code yL_reads cL_reads 16 (some .boolean)] [259] rfl (by decide +kernel)) (goodIn_app (goodIn_app (goodIn_app (goodIn_app (goodIn_app (goodIn_app (goodIn_app (goodIn_app (goodIn_app (goodIn_app (goodIn_app (goodIn_app ggL_house_L_reads_r1 (goodIn_app ggL_house_L_reads_r2 (goodIn_app ggL_house_L_reads_r3 (goodIn_app ggL_house_L_reads_r4 (goodIn_app ggL_house_L_reads_r5 (goodIn_app ggL_house_L_reads_r6 (goodIn_app ggL_house_L_reads_r7 (goodIn_app ggL_house_L_reads_r8 (goodIn_app ggL_house_L_reads_r9 (goodIn_app ggL_house_L_reads_r10 (goodIn_app ggL_house_L_reads_r11 (goodIn_app ggL_house_L_reads_r12 (goodIn_app ggL_house_L_reads_r13 (goodIn_app ggL_house_L_reads_r14 (goodIn_app ggL_house_L_reads_r15 (goodIn_app ggL_house_L_reads_r16 (goodIn_app ggL_house_L_reads_r17 (goodIn_app ggL_house_L_reads_r18 (goodIn_app ggL_house_L_reads_r19 (goodIn_app ggL_house_L_reads_r20 (goodIn_app ggL_house_L_reads_r21 (goodIn_app ggL_house_L_reads_r22 (goodIn_app ggL_house_L_reads_r23 (goodIn_app ggL_house_L_reads_r24 ggL_house_L_reads_r25)))))))))))))))))))))))) ggL_house_L_reads_wsX30) ggL_house_L_reads_wsX100) ggL_house_L_reads_wsX40) ggL_house_L_reads_wsX20) ggL_house_L_reads_wsX70) ggL_house_L_reads_wsX50) ggL_house_L_reads_wsX10) ggL_house_L_reads_wsX80) ggL_house_L_reads_wsX00) ggL_house_L_reads_wsX60) ggL_house_L_reads_wsJ40)) (goodIn_sub (fun _ h => List.mem_cons_of_mem _ (List.mem_append_left _ (List.mem_append_left _ (List.mem_append_right _ h)))) (by decide +kernel))) (goodIn_sub (fun _ h => List.mem_cons_of_mem _ (List.mem_append_right _ h)) (by decide +kernel))) (goodIn_sub (fun _ h => List.mem_cons_of_mem _ (List.mem_append_left _ (List.mem_append_right _ h))) (by decide +kernel))
set_option maxRecDepth 20000 in
theorem gL_house_L_reads : GoodIn wsL_house (va_wsS RL 117 yL_reads wsL_reads) := goodIn_app (goodIn_of _ (by decide +kernel)) ggL_house_L_reads
