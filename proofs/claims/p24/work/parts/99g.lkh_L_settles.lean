set_option maxRecDepth 20000 in
theorem ggL_house_L_settles_r1 : GoodIn wsL_house wsL_settles_r1 := goodIn_r _ [272, 260, 266, 267, 86, 268, 269, 270, 271, 273, 274, 275, 276, 3, 277, 95, 96, 187, 37, 189, 190, 191, 192, 117] rfl (by decide +kernel)
set_option maxRecDepth 20000 in
theorem ggL_house_L_settles_r2 : GoodIn wsL_house wsL_settles_r2 := goodIn_r _ [118, 34, 278, 279, 280, 104, 281, 147, 282, 132, 133, 101, 134, 128, 283, 284, 285, 286, 97, 98, 197, 198, 199, 200] (by decide +kernel) (by decide +kernel)
set_option maxRecDepth 20000 in
theorem ggL_house_L_settles_r3 : GoodIn wsL_house wsL_settles_r3 := goodIn_r _ [152, 287, 288, 289, 290, 291, 150, 148, 292, 293, 294, 295, 130, 129, 296, 297, 298, 14, 299, 300, 301, 302, 303, 44] (by decide +kernel) (by decide +kernel)
set_option maxRecDepth 20000 in
theorem ggL_house_L_settles_r4 : GoodIn wsL_house wsL_settles_r4 := goodIn_r _ [43, 304, 305, 251, 210, 211, 26, 212, 50, 306, 307, 308, 309, 145, 146, 310, 311, 312, 313, 140, 151, 144, 141, 142] (by decide +kernel) (by decide +kernel)
set_option maxRecDepth 20000 in
theorem ggL_house_L_settles_r5 : GoodIn wsL_house wsL_settles_r5 := goodIn_r _ [314, 315, 316, 317, 318, 319, 320, 321, 18, 322, 60, 323, 52, 53, 54, 324, 325, 326, 327, 61, 62, 328, 329, 330] (by decide +kernel) (by decide +kernel)
set_option maxRecDepth 20000 in
theorem ggL_house_L_settles_r6 : GoodIn wsL_house wsL_settles_r6 := goodIn_r _ [331, 332, 333, 334, 335, 336, 337, 338, 339, 340, 341, 342, 343, 344, 345, 346, 347, 348, 349, 350, 351, 352, 353, 354] (by decide +kernel) (by decide +kernel)
set_option maxRecDepth 20000 in
theorem ggL_house_L_settles_r7 : GoodIn wsL_house wsL_settles_r7 := goodIn_r _ [355, 356, 143, 357, 358, 359, 360, 361, 362, 363, 364, 213, 214, 215, 216, 365, 366, 367, 368, 369, 370, 371, 372, 99] (by decide +kernel) (by decide +kernel)
set_option maxRecDepth 20000 in
theorem ggL_house_L_settles_r8 : GoodIn wsL_house wsL_settles_r8 := goodIn_r _ [100, 119, 120, 121, 122, 123, 124, 125, 126, 10, 11, 127, 373, 374, 375, 376, 377, 378, 379, 380, 188, 113, 114, 115] (by decide +kernel) (by decide +kernel)
set_option maxRecDepth 20000 in
theorem ggL_house_L_settles_r9 : GoodIn wsL_house wsL_settles_r9 := goodIn_r _ [116, 381, 382, 383, 109, 384, 160, 205, 206, 207, 208, 159, 209, 385, 386, 387, 388, 161, 389, 390, 391, 392, 393, 394] (by decide +kernel) (by decide +kernel)
set_option maxRecDepth 20000 in
theorem ggL_house_L_settles_r10 : GoodIn wsL_house wsL_settles_r10 := goodIn_r _ [395, 396, 397, 398, 399, 400, 401, 402, 403, 404, 162, 405, 406, 407, 408, 164, 409, 410, 411, 412, 413, 35, 32, 414] (by decide +kernel) (by decide +kernel)
set_option maxRecDepth 20000 in
theorem ggL_house_L_settles_r11 : GoodIn wsL_house wsL_settles_r11 := goodIn_r _ [415, 416, 417, 418, 419, 420, 421, 422, 112, 423, 172, 424, 425, 426, 427, 31, 428, 429, 430, 431, 432, 433, 434, 435] (by decide +kernel) (by decide +kernel)
set_option maxRecDepth 20000 in
theorem ggL_house_L_settles_r12 : GoodIn wsL_house wsL_settles_r12 := goodIn_r _ [30, 436, 78, 437, 438, 439, 440, 441, 81, 442, 443, 444, 445, 446, 447, 448, 449, 450, 451, 452, 453, 454, 455, 456] (by decide +kernel) (by decide +kernel)
set_option maxRecDepth 20000 in
theorem ggL_house_L_settles_r13 : GoodIn wsL_house wsL_settles_r13 := goodIn_r _ [457, 458, 459, 460, 461, 462, 463, 464, 465, 466, 467, 77, 468, 469, 470, 471, 79, 472, 473, 474, 475, 476, 477, 478] (by decide +kernel) (by decide +kernel)
set_option maxRecDepth 20000 in
theorem ggL_house_L_settles_r14 : GoodIn wsL_house wsL_settles_r14 := goodIn_r _ [479, 480, 481, 482, 483, 484, 485, 243, 244, 245, 246, 486, 487, 488, 489, 490, 491, 492, 493, 768, 769, 770, 771, 772] (by decide +kernel) (by decide +kernel)
set_option maxRecDepth 20000 in
theorem ggL_house_L_settles_r15 : GoodIn wsL_house wsL_settles_r15 := goodIn_r _ [773, 774, 775] (by decide +kernel) (by decide +kernel)
set_option maxRecDepth 20000 in
theorem ggL_house_L_settles_wsX30 : GoodIn wsL_house wsX30 := goodIn_r _ [839, 840, 841, 842] (by decide +kernel) (by decide +kernel)
set_option maxRecDepth 20000 in
theorem ggL_house_L_settles_wsX100 : GoodIn wsL_house wsX100 := goodIn_r _ [802, 803, 804, 805, 806, 807, 808, 809, 810, 811] (by decide +kernel) (by decide +kernel)
set_option maxRecDepth 20000 in
theorem ggL_house_L_settles_wsX40 : GoodIn wsL_house wsX40 := goodIn_r _ [827, 828, 829, 830, 831, 832, 833, 834, 835, 836, 837, 838] (by decide +kernel) (by decide +kernel)
set_option maxRecDepth 20000 in
theorem ggL_house_L_settles_wsX20 : GoodIn wsL_house wsX20 := goodIn_r _ [824, 825, 826] (by decide +kernel) (by decide +kernel)
set_option maxRecDepth 20000 in
theorem ggL_house_L_settles_wsX70 : GoodIn wsL_house wsX70 := goodIn_r _ [812] (by decide +kernel) (by decide +kernel)
set_option maxRecDepth 20000 in
theorem ggL_house_L_settles_wsX50 : GoodIn wsL_house wsX50 := goodIn_r _ [819] (by decide +kernel) (by decide +kernel)
set_option maxRecDepth 20000 in
theorem ggL_house_L_settles_wsX10 : GoodIn wsL_house wsX10 := goodIn_r _ [813, 814, 815] (by decide +kernel) (by decide +kernel)
set_option maxRecDepth 20000 in
theorem ggL_house_L_settles_wsX80 : GoodIn wsL_house wsX80 := goodIn_r _ [843, 844, 845, 846] (by decide +kernel) (by decide +kernel)
set_option maxRecDepth 20000 in
theorem ggL_house_L_settles_wsX00 : GoodIn wsL_house wsX00 := goodIn_r _ [847, 848, 849, 850] (by decide +kernel) (by decide +kernel)
set_option maxRecDepth 20000 in
theorem ggL_house_L_settles_wsX60 : GoodIn wsL_house wsX60 := goodIn_r _ [820, 821, 822, 823] (by decide +kernel) (by decide +kernel)
set_option maxRecDepth 20000 in
theorem ggL_house_L_settles : GoodIn wsL_house wsL_settles := goodIn_ca (goodIn_ca (goodIn_ca (goodIn_1 (goodIn_r [Cond.code yL_settles cL_settles 15 (some .boolean)] [767] rfl (by decide +kernel)) (goodIn_app (goodIn_app (goodIn_app (goodIn_app (goodIn_app (goodIn_app (goodIn_app (goodIn_app (goodIn_app (goodIn_app (goodIn_app ggL_house_L_settles_r1 (goodIn_app ggL_house_L_settles_r2 (goodIn_app ggL_house_L_settles_r3 (goodIn_app ggL_house_L_settles_r4 (goodIn_app ggL_house_L_settles_r5 (goodIn_app ggL_house_L_settles_r6 (goodIn_app ggL_house_L_settles_r7 (goodIn_app ggL_house_L_settles_r8 (goodIn_app ggL_house_L_settles_r9 (goodIn_app ggL_house_L_settles_r10 (goodIn_app ggL_house_L_settles_r11 (goodIn_app ggL_house_L_settles_r12 (goodIn_app ggL_house_L_settles_r13 (goodIn_app ggL_house_L_settles_r14 ggL_house_L_settles_r15)))))))))))))) ggL_house_L_settles_wsX30) ggL_house_L_settles_wsX100) ggL_house_L_settles_wsX40) ggL_house_L_settles_wsX20) ggL_house_L_settles_wsX70) ggL_house_L_settles_wsX50) ggL_house_L_settles_wsX10) ggL_house_L_settles_wsX80) ggL_house_L_settles_wsX00) ggL_house_L_settles_wsX60)) (goodIn_sub (fun _ h => List.mem_cons_of_mem _ (List.mem_append_left _ (List.mem_append_left _ (List.mem_append_right _ h)))) (by decide +kernel))) (goodIn_sub (fun _ h => List.mem_cons_of_mem _ (List.mem_append_right _ h)) (by decide +kernel))) (goodIn_sub (fun _ h => List.mem_cons_of_mem _ (List.mem_append_left _ (List.mem_append_right _ h))) (by decide +kernel))
set_option maxRecDepth 20000 in
theorem gL_house_L_settles : GoodIn wsL_house (va_wsS RL 132 yL_settles wsL_settles) := goodIn_app (goodIn_of _ (by decide +kernel)) ggL_house_L_settles
