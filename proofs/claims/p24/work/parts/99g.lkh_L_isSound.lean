set_option maxRecDepth 20000 in
theorem ggL_house_L_isSound_r1 : GoodIn wsL_house wsL_isSound_r1 := goodIn_r _ [272, 779, 780, 781, 3, 782, 27, 113, 114, 115, 116, 117, 118, 418, 210, 211, 26, 212, 50, 735, 736, 737, 738, 413] (by decide +kernel) (by decide +kernel)
set_option maxRecDepth 20000 in
theorem ggL_house_L_isSound_r2 : GoodIn wsL_house wsL_isSound_r2 := goodIn_r _ [189, 190, 191, 192, 34, 739, 740, 741, 112, 742, 172, 183, 184, 185, 186, 95, 96, 187, 188, 37, 193, 194, 195, 104] (by decide +kernel) (by decide +kernel)
set_option maxRecDepth 20000 in
theorem ggL_house_L_isSound_r3 : GoodIn wsL_house wsL_isSound_r3 := goodIn_r _ [196, 144, 197, 198, 199, 200, 152, 201, 202, 203, 204, 142, 205, 206, 207, 109, 208, 159, 209, 213, 214, 215, 216, 145] (by decide +kernel) (by decide +kernel)
set_option maxRecDepth 20000 in
theorem ggL_house_L_isSound_r4 : GoodIn wsL_house wsL_isSound_r4 := goodIn_r _ [266, 267, 86, 268, 269, 270, 271, 273, 260, 274, 275, 276, 277, 278, 279, 280, 281, 147, 282, 132, 133, 101, 134, 128] rfl (by decide +kernel)
set_option maxRecDepth 20000 in
theorem ggL_house_L_isSound_r5 : GoodIn wsL_house wsL_isSound_r5 := goodIn_r _ [283, 284, 285, 286, 97, 98, 287, 288, 289, 290, 291, 150, 148, 292, 293, 294, 295, 130, 129, 296, 297, 298, 14, 299] (by decide +kernel) (by decide +kernel)
set_option maxRecDepth 20000 in
theorem ggL_house_L_isSound_r6 : GoodIn wsL_house wsL_isSound_r6 := goodIn_r _ [300, 301, 302, 303, 44, 43, 304, 305, 251, 306, 307, 308, 309, 146, 310, 311, 312, 313, 140, 151, 141, 314, 315, 316] (by decide +kernel) (by decide +kernel)
set_option maxRecDepth 20000 in
theorem ggL_house_L_isSound_r7 : GoodIn wsL_house wsL_isSound_r7 := goodIn_r _ [317, 318, 319, 320, 321, 18, 322, 60, 323, 52, 53, 54, 324, 325, 326, 327, 61, 62, 328, 329, 330, 331, 332, 333] (by decide +kernel) (by decide +kernel)
set_option maxRecDepth 20000 in
theorem ggL_house_L_isSound_r8 : GoodIn wsL_house wsL_isSound_r8 := goodIn_r _ [334, 335, 336, 337, 338, 339, 340, 341, 342, 343, 344, 345, 346, 347, 348, 349, 350, 351, 352, 353, 354, 355, 356, 143] (by decide +kernel) (by decide +kernel)
set_option maxRecDepth 20000 in
theorem ggL_house_L_isSound_r9 : GoodIn wsL_house wsL_isSound_r9 := goodIn_r _ [357, 358, 359, 360, 361, 362, 363, 364, 365, 366, 367, 368, 369, 370, 371, 372, 99, 100, 119, 120, 121, 122, 123, 124] (by decide +kernel) (by decide +kernel)
set_option maxRecDepth 20000 in
theorem ggL_house_L_isSound_r10 : GoodIn wsL_house wsL_isSound_r10 := goodIn_r _ [125, 126, 10, 11, 127, 373, 374, 375, 376, 377, 378, 379, 380, 381, 382, 383, 384, 160, 385, 386, 387, 388, 161, 389] (by decide +kernel) (by decide +kernel)
set_option maxRecDepth 20000 in
theorem ggL_house_L_isSound_r11 : GoodIn wsL_house wsL_isSound_r11 := goodIn_r _ [390, 391, 392, 393, 394, 395, 396, 397, 398, 399, 400, 401, 402, 403, 404, 162, 405, 406, 407, 408, 164, 409, 410, 411] (by decide +kernel) (by decide +kernel)
set_option maxRecDepth 20000 in
theorem ggL_house_L_isSound_r12 : GoodIn wsL_house wsL_isSound_r12 := goodIn_r _ [412, 35, 32, 414, 415, 416, 417, 419, 420, 421, 422, 423, 424, 425, 426, 427, 31, 428, 429, 430, 431, 432, 433, 434] (by decide +kernel) (by decide +kernel)
set_option maxRecDepth 20000 in
theorem ggL_house_L_isSound_r13 : GoodIn wsL_house wsL_isSound_r13 := goodIn_r _ [435, 30, 436, 78, 437, 438, 439, 440, 441, 81, 442, 443, 444, 445, 446, 447, 448, 449, 450, 451, 452, 453, 454, 455] (by decide +kernel) (by decide +kernel)
set_option maxRecDepth 20000 in
theorem ggL_house_L_isSound_r14 : GoodIn wsL_house wsL_isSound_r14 := goodIn_r _ [456, 457, 458, 459, 460, 461, 462, 463, 464, 465, 466, 467, 77, 468, 469, 470, 471, 79, 472, 473, 474, 475, 476, 477] (by decide +kernel) (by decide +kernel)
set_option maxRecDepth 20000 in
theorem ggL_house_L_isSound_r15 : GoodIn wsL_house wsL_isSound_r15 := goodIn_r _ [478, 479, 480, 481, 482, 483, 484, 485, 243, 244, 245, 246, 486, 487, 488, 489, 490, 491, 492, 493, 783, 784, 785, 90] rfl (by decide +kernel)
set_option maxRecDepth 20000 in
theorem ggL_house_L_isSound_r16 : GoodIn wsL_house wsL_isSound_r16 := goodIn_r _ [497, 498, 499, 500, 501, 502, 503, 504, 505, 506, 507, 508, 509, 510, 511, 512, 513, 514, 515, 516, 517, 518, 519, 520] (by decide +kernel) (by decide +kernel)
set_option maxRecDepth 20000 in
theorem ggL_house_L_isSound_r17 : GoodIn wsL_house wsL_isSound_r17 := goodIn_r _ [521, 522, 523, 524, 525, 526, 527, 528, 529, 530, 531, 532, 533, 534, 535, 536, 537, 538, 539, 540, 541, 542, 543, 544] (by decide +kernel) (by decide +kernel)
set_option maxRecDepth 20000 in
theorem ggL_house_L_isSound_r18 : GoodIn wsL_house wsL_isSound_r18 := goodIn_r _ [545, 546, 547, 548, 549, 550, 551, 552, 553, 554, 555, 556, 557, 558, 559, 560, 561, 562, 563, 564, 565, 566, 567, 568] (by decide +kernel) (by decide +kernel)
set_option maxRecDepth 20000 in
theorem ggL_house_L_isSound_r19 : GoodIn wsL_house wsL_isSound_r19 := goodIn_r _ [569, 570, 571, 572, 573, 574, 575, 576, 577, 578, 579, 580, 581, 582, 583, 584, 585, 586, 587, 588, 589, 590, 591, 592] (by decide +kernel) (by decide +kernel)
set_option maxRecDepth 20000 in
theorem ggL_house_L_isSound_r20 : GoodIn wsL_house wsL_isSound_r20 := goodIn_r _ [593, 594, 595, 596, 597, 598, 599, 600, 601, 602, 603, 604, 605, 606, 607, 608, 609, 610, 611, 612, 613, 614, 615, 616] (by decide +kernel) (by decide +kernel)
set_option maxRecDepth 20000 in
theorem ggL_house_L_isSound_r21 : GoodIn wsL_house wsL_isSound_r21 := goodIn_r _ [617, 618, 619, 620, 621, 622, 623, 624, 625, 626, 627, 628, 629, 630, 631, 632, 633, 634, 635, 636, 637, 638, 639, 640] (by decide +kernel) (by decide +kernel)
set_option maxRecDepth 20000 in
theorem ggL_house_L_isSound_r22 : GoodIn wsL_house wsL_isSound_r22 := goodIn_r _ [641, 642, 643, 644, 645, 646, 647, 648, 649, 650, 651, 652, 653, 654, 655, 656, 657, 658, 659, 660, 661, 662, 663, 664] (by decide +kernel) (by decide +kernel)
set_option maxRecDepth 20000 in
theorem ggL_house_L_isSound_r23 : GoodIn wsL_house wsL_isSound_r23 := goodIn_r _ [665, 666, 667, 668, 669, 670, 671, 672, 673, 674, 675, 676, 677, 678, 679, 680, 681, 682, 683, 684, 685, 686, 687, 688] (by decide +kernel) (by decide +kernel)
set_option maxRecDepth 20000 in
theorem ggL_house_L_isSound_r24 : GoodIn wsL_house wsL_isSound_r24 := goodIn_r _ [689, 690, 691, 692, 693, 694, 695, 696, 697, 698, 699, 700, 701, 702, 703, 704, 705, 706, 707, 708, 709, 710, 711, 712] (by decide +kernel) (by decide +kernel)
set_option maxRecDepth 20000 in
theorem ggL_house_L_isSound_r25 : GoodIn wsL_house wsL_isSound_r25 := goodIn_r _ [713, 714, 715, 716, 717, 718, 719, 720, 721, 722, 723, 724, 725, 786, 787, 788, 789, 790, 791, 792, 793, 149, 794, 795] (by decide +kernel) (by decide +kernel)
set_option maxRecDepth 20000 in
theorem ggL_house_L_isSound_r26 : GoodIn wsL_house wsL_isSound_r26 := goodIn_r _ [796, 797, 798, 799, 800, 801] (by decide +kernel) (by decide +kernel)
set_option maxRecDepth 20000 in
theorem ggL_house_L_isSound_wsX100 : GoodIn wsL_house wsX100 := goodIn_r _ [802, 803, 804, 805, 806, 807, 808, 809, 810, 811] (by decide +kernel) (by decide +kernel)
set_option maxRecDepth 20000 in
theorem ggL_house_L_isSound_wsX50 : GoodIn wsL_house wsX50 := goodIn_r _ [819] (by decide +kernel) (by decide +kernel)
set_option maxRecDepth 20000 in
theorem ggL_house_L_isSound_wsX30 : GoodIn wsL_house wsX30 := goodIn_r _ [839, 840, 841, 842] (by decide +kernel) (by decide +kernel)
set_option maxRecDepth 20000 in
theorem ggL_house_L_isSound_wsX00 : GoodIn wsL_house wsX00 := goodIn_r _ [847, 848, 849, 850] (by decide +kernel) (by decide +kernel)
set_option maxRecDepth 20000 in
theorem ggL_house_L_isSound_wsX40 : GoodIn wsL_house wsX40 := goodIn_r _ [827, 828, 829, 830, 831, 832, 833, 834, 835, 836, 837, 838] (by decide +kernel) (by decide +kernel)
set_option maxRecDepth 20000 in
theorem ggL_house_L_isSound_wsX80 : GoodIn wsL_house wsX80 := goodIn_r _ [843, 844, 845, 846] (by decide +kernel) (by decide +kernel)
set_option maxRecDepth 20000 in
theorem ggL_house_L_isSound_wsX20 : GoodIn wsL_house wsX20 := goodIn_r _ [824, 825, 826] (by decide +kernel) (by decide +kernel)
set_option maxRecDepth 20000 in
theorem ggL_house_L_isSound_wsX70 : GoodIn wsL_house wsX70 := goodIn_r _ [812] (by decide +kernel) (by decide +kernel)
set_option maxRecDepth 20000 in
theorem ggL_house_L_isSound_wsX10 : GoodIn wsL_house wsX10 := goodIn_r _ [813, 814, 815] (by decide +kernel) (by decide +kernel)
set_option maxRecDepth 20000 in
theorem ggL_house_L_isSound_wsX60 : GoodIn wsL_house wsX60 := goodIn_r _ [820, 821, 822, 823] (by decide +kernel) (by decide +kernel)
set_option maxRecDepth 20000 in
theorem ggL_house_L_isSound_wsJ40 : GoodIn wsL_house wsJ40 := goodIn_r _ [851, 852, 853, 854] (by decide +kernel) (by decide +kernel)
set_option maxRecDepth 20000 in
theorem ggL_house_L_isSound : GoodIn wsL_house wsL_isSound := goodIn_ca (goodIn_ca (goodIn_ca (goodIn_1 (goodIn_r [Cond.code yL_isSound cL_isSound 12 (some .boolean)] [778] rfl (by decide +kernel)) (goodIn_app (goodIn_app (goodIn_app (goodIn_app (goodIn_app (goodIn_app (goodIn_app (goodIn_app (goodIn_app (goodIn_app (goodIn_app (goodIn_app ggL_house_L_isSound_r1 (goodIn_app ggL_house_L_isSound_r2 (goodIn_app ggL_house_L_isSound_r3 (goodIn_app ggL_house_L_isSound_r4 (goodIn_app ggL_house_L_isSound_r5 (goodIn_app ggL_house_L_isSound_r6 (goodIn_app ggL_house_L_isSound_r7 (goodIn_app ggL_house_L_isSound_r8 (goodIn_app ggL_house_L_isSound_r9 (goodIn_app ggL_house_L_isSound_r10 (goodIn_app ggL_house_L_isSound_r11 (goodIn_app ggL_house_L_isSound_r12 (goodIn_app ggL_house_L_isSound_r13 (goodIn_app ggL_house_L_isSound_r14 (goodIn_app ggL_house_L_isSound_r15 (goodIn_app ggL_house_L_isSound_r16 (goodIn_app ggL_house_L_isSound_r17 (goodIn_app ggL_house_L_isSound_r18 (goodIn_app ggL_house_L_isSound_r19 (goodIn_app ggL_house_L_isSound_r20 (goodIn_app ggL_house_L_isSound_r21 (goodIn_app ggL_house_L_isSound_r22 (goodIn_app ggL_house_L_isSound_r23 (goodIn_app ggL_house_L_isSound_r24 (goodIn_app ggL_house_L_isSound_r25 ggL_house_L_isSound_r26))))))))))))))))))))))))) ggL_house_L_isSound_wsX100) ggL_house_L_isSound_wsX50) ggL_house_L_isSound_wsX30) ggL_house_L_isSound_wsX00) ggL_house_L_isSound_wsX40) ggL_house_L_isSound_wsX80) ggL_house_L_isSound_wsX20) ggL_house_L_isSound_wsX70) ggL_house_L_isSound_wsX10) ggL_house_L_isSound_wsX60) ggL_house_L_isSound_wsJ40)) (goodIn_sub (fun _ h => List.mem_cons_of_mem _ (List.mem_append_right _ h)) (by decide +kernel))) (goodIn_sub (fun _ h => List.mem_cons_of_mem _ (List.mem_append_left _ (List.mem_append_left _ (List.mem_append_right _ h)))) (by decide +kernel))) (goodIn_sub (fun _ h => List.mem_cons_of_mem _ (List.mem_append_left _ (List.mem_append_right _ h))) (by decide +kernel))
set_option maxRecDepth 20000 in
theorem gL_house_L_isSound : GoodIn wsL_house (va_wsS RL 135 yL_isSound wsL_isSound) := goodIn_app (goodIn_of _ (by decide +kernel)) ggL_house_L_isSound
