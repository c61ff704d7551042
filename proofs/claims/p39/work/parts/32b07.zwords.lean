set_option maxRecDepth 100000 in
theorem ggZL_lays_L_done_r17 : GoodIn wzL_lays wsL_done_r17 := goodIn_r _ [635, 636, 637, 638, 639, 640, 641, 642, 643, 644, 645, 646, 647, 648, 649, 650, 651, 652, 653, 654, 655, 656, 657, 658] (by decide +kernel) (by decide +kernel)
set_option maxRecDepth 100000 in
theorem ggZL_lays_L_done_r18 : GoodIn wzL_lays wsL_done_r18 := goodIn_r _ [659, 660, 661, 250, 251, 252, 254] (by decide +kernel) (by decide +kernel)
set_option maxRecDepth 100000 in
theorem ggZL_lays_L_done_wsX100 : GoodIn wzL_lays wsX100 := goodIn_r _ [672, 673, 674, 675, 676, 677, 678, 679, 680, 681] (by decide +kernel) (by decide +kernel)
set_option maxRecDepth 100000 in
theorem ggZL_lays_L_done_wsX50 : GoodIn wzL_lays wsX50 := goodIn_r _ [686, 687, 688] (by decide +kernel) (by decide +kernel)
set_option maxRecDepth 100000 in
theorem ggZL_lays_L_done_wsX90 : GoodIn wzL_lays wsX90 := goodIn_r _ [682, 683, 684, 685] (by decide +kernel) (by decide +kernel)
set_option maxRecDepth 100000 in
theorem ggZL_lays_L_done_wsX70 : GoodIn wzL_lays wsX70 := goodIn_r _ [689, 690, 691, 692, 693, 694] (by decide +kernel) (by decide +kernel)
set_option maxRecDepth 100000 in
theorem ggZL_lays_L_done_wsJ00 : GoodIn wzL_lays wsJ00 := goodIn_r _ [666, 667, 668, 669] (by decide +kernel) (by decide +kernel)
set_option maxRecDepth 100000 in
theorem ggZL_lays_L_done_wsX60 : GoodIn wzL_lays wsX60 := goodIn_r _ [670, 671] (by decide +kernel) (by decide +kernel)
set_option maxRecDepth 100000 in
theorem ggZL_lays_L_done_wsX10 : GoodIn wzL_lays wsX10 := goodIn_r _ [695, 696, 697] (by decide +kernel) (by decide +kernel)
set_option maxRecDepth 100000 in
theorem ggZL_lays_L_done_wsX20 : GoodIn wzL_lays wsX20 := goodIn_r _ [698] (by decide +kernel) (by decide +kernel)
set_option maxRecDepth 100000 in
theorem ggZL_lays_L_done_wsX80 : GoodIn wzL_lays wsX80 := goodIn_r _ [699, 700, 701, 702] (by decide +kernel) (by decide +kernel)
set_option maxRecDepth 100000 in
theorem ggZL_lays_L_done : GoodIn wzL_lays wzL_done := goodIn_ca (goodIn_ca (goodIn_ca (goodIn_ca ((goodIn_c9 (goodIn_r _ [405] (by decide +kernel) (by decide +kernel)) (goodIn_app (goodIn_app (goodIn_app (goodIn_app (goodIn_app (goodIn_app (goodIn_app (goodIn_app (goodIn_app (goodIn_app ggZL_lays_L_done_r1 (goodIn_app ggZL_lays_L_done_r2 (goodIn_app ggZL_lays_L_done_r3 (goodIn_app ggZL_lays_L_done_r4 (goodIn_app ggZL_lays_L_done_r5 (goodIn_app ggZL_lays_L_done_r6 (goodIn_app ggZL_lays_L_done_r7 (goodIn_app ggZL_lays_L_done_r8 (goodIn_app ggZL_lays_L_done_r9 (goodIn_app ggZL_lays_L_done_r10 (goodIn_app ggZL_lays_L_done_r11 (goodIn_app ggZL_lays_L_done_r12 (goodIn_app ggZL_lays_L_done_r13 (goodIn_app ggZL_lays_L_done_r14 (goodIn_app ggZL_lays_L_done_r15 (goodIn_app ggZL_lays_L_done_r16 (goodIn_app ggZL_lays_L_done_r17 (ggZL_lays_L_done_r18)))))))))))))))))) ggZL_lays_L_done_wsX100) ggZL_lays_L_done_wsX50) ggZL_lays_L_done_wsX90) ggZL_lays_L_done_wsX70) ggZL_lays_L_done_wsJ00) ggZL_lays_L_done_wsX60) ggZL_lays_L_done_wsX10) ggZL_lays_L_done_wsX20) ggZL_lays_L_done_wsX80))) (goodIn_sub (fun _ h => List.mem_cons_of_mem _ (List.mem_append_left _ (List.mem_append_left _ (List.mem_append_right _ h)))) (by decide +kernel))) (goodIn_sub (fun _ h => List.mem_cons_of_mem _ (List.mem_append_left _ (List.mem_append_left _ (List.mem_append_left _ (List.mem_append_right _ h))))) (by decide +kernel))) (goodIn_sub (fun _ h => List.mem_cons_of_mem _ (List.mem_append_left _ (List.mem_append_right _ h))) (by decide +kernel))) (goodIn_sub (fun _ h => List.mem_cons_of_mem _ (List.mem_append_right _ h)) (by decide +kernel))
set_option maxRecDepth 100000 in
theorem gZL_lays_L_done : GoodIn wzL_lays (va_wsS RL 170 yL_done wzL_done) := goodIn_app (goodIn_of _ (by decide +kernel)) ggZL_lays_L_done
set_option maxRecDepth 100000 in
theorem ggZL_plays_X10_init_r1 : GoodIn wzL_plays wsX10_init_r1 := goodIn_r _ [7, 8, 9, 10, 11, 12, 13, 14, 15, 16, 17, 18, 19, 20, 21, 22, 23, 24, 25, 26, 27, 28, 29, 30] (by decide +kernel) (by decide +kernel)
set_option maxRecDepth 100000 in
theorem ggZL_plays_X10_init_r2 : GoodIn wzL_plays wsX10_init_r2 := goodIn_r _ [31, 32, 33, 34, 35, 36, 37, 38, 39, 40, 41, 42, 43, 44, 45, 46, 47, 48, 49, 50, 51, 52, 53, 54] (by decide +kernel) (by decide +kernel)
set_option maxRecDepth 100000 in
theorem ggZL_plays_X10_init_r3 : GoodIn wzL_plays wsX10_init_r3 := goodIn_r _ [55, 56, 57, 58, 59, 60, 61, 62, 63, 64, 65, 66, 67, 68, 69, 70, 71, 72, 73, 74, 75, 76, 77, 78] (by decide +kernel) (by decide +kernel)
set_option maxRecDepth 100000 in
theorem ggZL_plays_X10_init_wsX10 : GoodIn wzL_plays wsX10 := goodIn_r _ [810, 811, 812] (by decide +kernel) (by decide +kernel)
set_option maxRecDepth 100000 in
theorem ggZL_plays_X10_init_wsX100 : GoodIn wzL_plays wsX100 := goodIn_r _ [800, 801, 802, 803, 804, 805, 806, 807, 808, 809] (by decide +kernel) (by decide +kernel)
set_option maxRecDepth 100000 in
theorem ggZL_plays_X10_init_wsX60 : GoodIn wzL_plays wsX60 := goodIn_r _ [813, 814] (by decide +kernel) (by decide +kernel)
set_option maxRecDepth 100000 in
theorem ggZL_plays_X10_init_wsX80 : GoodIn wzL_plays wsX80 := goodIn_r _ [815, 816, 817, 818] (by decide +kernel) (by decide +kernel)
set_option maxRecDepth 100000 in
theorem ggZL_plays_X10_init_wsX90 : GoodIn wzL_plays wsX90 := goodIn_r _ [819, 820, 821, 822] (by decide +kernel) (by decide +kernel)
set_option maxRecDepth 100000 in
theorem ggZL_plays_X10_init_wsX50 : GoodIn wzL_plays wsX50 := goodIn_r _ [823, 824, 825] (by decide +kernel) (by decide +kernel)
set_option maxRecDepth 100000 in
theorem ggZL_plays_X10_init_wsX20 : GoodIn wzL_plays wsX20 := goodIn_r _ [826] (by decide +kernel) (by decide +kernel)
set_option maxRecDepth 100000 in
theorem ggZL_plays_X10_init_wsX70 : GoodIn wzL_plays wsX70 := goodIn_r _ [827, 828, 829, 830, 831, 832] (by decide +kernel) (by decide +kernel)
set_option maxRecDepth 100000 in
theorem ggZL_plays_X10_init : GoodIn wzL_plays wsX10_init := (goodIn_c9 (goodIn_r _ [6] (by decide +kernel) (by decide +kernel)) (goodIn_app (goodIn_app (goodIn_app (goodIn_app (goodIn_app (goodIn_app (goodIn_app (goodIn_app (goodIn_app ggZL_plays_X10_init_r1 (goodIn_app ggZL_plays_X10_init_r2 (ggZL_plays_X10_init_r3))) ggZL_plays_X10_init_wsX10) ggZL_plays_X10_init_wsX100) ggZL_plays_X10_init_wsX60) ggZL_plays_X10_init_wsX80) ggZL_plays_X10_init_wsX90) ggZL_plays_X10_init_wsX50) ggZL_plays_X10_init_wsX20) ggZL_plays_X10_init_wsX70))
set_option maxRecDepth 100000 in
theorem gZL_plays_X10_init : GoodIn wzL_plays (wsX10_init) := ggZL_plays_X10_init
set_option maxRecDepth 100000 in
theorem ggZL_plays_L_next : GoodIn wzL_plays wsL_next := goodIn_r _ [82, 83] (by decide +kernel) (by decide +kernel)
set_option maxRecDepth 100000 in
theorem gZL_plays_L_next : GoodIn wzL_plays (va_wsS RL 8 yL_next wsL_next) := goodIn_app (goodIn_of _ (by decide +kernel)) ggZL_plays_L_next
set_option maxRecDepth 100000 in
theorem ggZL_plays_X10_setSeed : GoodIn wzL_plays wsX10_setSeed := goodIn_r _ [87, 38, 88, 800, 801, 802, 803, 804, 805, 806, 807, 808, 809, 826] (by decide +kernel) (by decide +kernel)
set_option maxRecDepth 100000 in
theorem gZL_plays_X10_setSeed : GoodIn wzL_plays (wsV RL 215 RX10 yX10_setSeed wsX10_setSeed) := goodIn_app (goodIn_of _ (by decide +kernel)) ggZL_plays_X10_setSeed
set_option maxRecDepth 100000 in
theorem ggZL_plays_L_lays_r1 : GoodIn wzL_plays wsL_lays_r1 := goodIn_r _ [92, 93, 94, 95, 96, 81, 97, 79, 80, 82, 83, 98, 99, 100, 101, 102, 103, 104, 105, 8, 9, 106, 59, 107] (by decide +kernel) (by decide +kernel)
set_option maxRecDepth 100000 in
theorem ggZL_plays_L_lays_r2 : GoodIn wzL_plays wsL_lays_r2 := goodIn_r _ [108, 109, 110, 111, 112, 113, 114, 115, 116, 117, 118, 119, 120, 121, 122, 123, 124, 125, 126, 127, 128, 129, 130, 131] (by decide +kernel) (by decide +kernel)
set_option maxRecDepth 100000 in
theorem ggZL_plays_L_lays_r3 : GoodIn wzL_plays wsL_lays_r3 := goodIn_r _ [132, 133, 134, 135, 136, 137, 138, 139, 140, 141, 142, 143, 144, 145, 146, 147, 148, 149, 150, 151, 152, 153, 154, 155] (by decide +kernel) (by decide +kernel)
set_option maxRecDepth 100000 in
theorem ggZL_plays_L_lays_r4 : GoodIn wzL_plays wsL_lays_r4 := goodIn_r _ [156, 157, 158, 159, 160, 161, 162, 163, 164, 165, 166, 167, 168, 169, 170, 171, 172, 173, 174, 175, 176, 177, 178, 179] (by decide +kernel) (by decide +kernel)
set_option maxRecDepth 100000 in
theorem ggZL_plays_L_lays_r5 : GoodIn wzL_plays wsL_lays_r5 := goodIn_r _ [180, 181, 182, 183, 184, 185, 186, 187, 188, 189, 190, 191, 192, 193, 194, 195, 196, 197, 198, 199, 200, 201, 202, 203] (by decide +kernel) (by decide +kernel)
set_option maxRecDepth 100000 in
theorem ggZL_plays_L_lays_r6 : GoodIn wzL_plays wsL_lays_r6 := goodIn_r _ [204, 205, 206, 207, 208, 209, 210, 211, 212, 213, 214, 215, 216, 217, 218, 219, 220, 221, 222, 223, 224, 225, 226, 227] (by decide +kernel) (by decide +kernel)
set_option maxRecDepth 100000 in
theorem ggZL_plays_L_lays_r7 : GoodIn wzL_plays wsL_lays_r7 := goodIn_r _ [228, 229, 230, 231, 232, 233, 234, 235, 236, 237, 238, 239, 240, 241, 242, 243, 244, 245, 246, 247, 248, 249, 250, 251] (by decide +kernel) (by decide +kernel)
set_option maxRecDepth 100000 in
theorem ggZL_plays_L_lays_r8 : GoodIn wzL_plays wsL_lays_r8 := goodIn_r _ [252, 253, 254, 255, 256, 257, 258, 259, 260, 261, 262, 263, 264, 265, 266, 267, 268, 269, 270, 271, 272, 273, 274, 275] (by decide +kernel) (by decide +kernel)
set_option maxRecDepth 100000 in
theorem ggZL_plays_L_lays_r9 : GoodIn wzL_plays wsL_lays_r9 := goodIn_r _ [276, 277, 278, 279, 280, 281, 282, 283, 284, 285, 286, 287, 288, 289, 290, 291, 292, 293, 294, 295, 296, 297, 298, 299] (by decide +kernel) (by decide +kernel)
set_option maxRecDepth 100000 in
theorem ggZL_plays_L_lays_r10 : GoodIn wzL_plays wsL_lays_r10 := goodIn_r _ [300, 301, 302, 303, 304, 305, 306, 307, 308, 309, 310, 311, 312, 313, 314, 315, 316, 317, 318, 319, 320, 321, 322, 323] (by decide +kernel) (by decide +kernel)
set_option maxRecDepth 100000 in
theorem ggZL_plays_L_lays_r11 : GoodIn wzL_plays wsL_lays_r11 := goodIn_r _ [324, 325, 326, 327, 328, 329, 330, 331, 332, 333, 334, 335, 3, 336, 337, 338, 339, 340, 341, 342, 343, 15, 344, 345] (by decide +kernel) (by decide +kernel)
set_option maxRecDepth 100000 in
theorem ggZL_plays_L_lays_r12 : GoodIn wzL_plays wsL_lays_r12 := goodIn_r _ [346, 347, 348, 349, 350, 351, 30, 352, 353, 354, 355, 356, 357, 358, 359, 360, 361, 362, 363, 364, 365, 366, 367, 368] (by decide +kernel) (by decide +kernel)
set_option maxRecDepth 100000 in
theorem ggZL_plays_L_lays_r13 : GoodIn wzL_plays wsL_lays_r13 := goodIn_r _ [369, 370, 371, 372, 373, 374, 375, 376, 377, 378, 379, 380, 381, 382, 383, 384, 385, 29, 386, 387, 388, 389, 390, 391] (by decide +kernel) (by decide +kernel)
set_option maxRecDepth 100000 in
theorem ggZL_plays_L_lays_r14 : GoodIn wzL_plays wsL_lays_r14 := goodIn_r _ [60, 392, 393, 394, 395, 34, 396, 397, 398, 33, 399, 400, 67, 66, 401, 402, 403, 404, 405, 406, 407, 408, 409, 410] (by decide +kernel) (by decide +kernel)
set_option maxRecDepth 100000 in
theorem ggZL_plays_L_lays_r15 : GoodIn wzL_plays wsL_lays_r15 := goodIn_r _ [411, 412, 413, 414, 415, 416, 417, 418, 419, 420, 421, 422, 423, 424, 425, 426, 427, 428, 429, 430, 431, 432, 433, 434] (by decide +kernel) (by decide +kernel)
set_option maxRecDepth 100000 in
theorem ggZL_plays_L_lays_r16 : GoodIn wzL_plays wsL_lays_r16 := goodIn_r _ [435, 436, 437, 438, 439, 440, 441, 442, 443, 444, 445, 446, 447, 448, 449, 450, 451, 452, 453, 454, 455, 456, 457, 458] (by decide +kernel) (by decide +kernel)
set_option maxRecDepth 100000 in
theorem ggZL_plays_L_lays_r17 : GoodIn wzL_plays wsL_lays_r17 := goodIn_r _ [459, 460, 461, 462, 463, 464, 465, 466, 467, 468, 469, 470, 471, 472, 473, 474, 475, 476, 477, 478, 479, 480, 481, 482] (by decide +kernel) (by decide +kernel)
set_option maxRecDepth 100000 in
theorem ggZL_plays_L_lays_r18 : GoodIn wzL_plays wsL_lays_r18 := goodIn_r _ [483, 484, 485, 486, 487, 488, 489, 490, 491, 492, 493, 494, 495, 496, 497, 498, 499, 13, 500, 501, 502, 503, 504, 505] (by decide +kernel) (by decide +kernel)
set_option maxRecDepth 100000 in
theorem ggZL_plays_L_lays_r19 : GoodIn wzL_plays wsL_lays_r19 := goodIn_r _ [38, 506, 507, 508, 69, 509, 510, 74, 511, 512, 513, 514, 515, 516, 517, 518, 519, 520, 521, 522, 523, 524, 525, 37] (by decide +kernel) (by decide +kernel)
set_option maxRecDepth 100000 in
theorem ggZL_plays_L_lays_r20 : GoodIn wzL_plays wsL_lays_r20 := goodIn_r _ [526, 78, 527, 528, 529, 530, 531, 532, 533, 534, 535, 12, 536, 537, 43, 44, 538, 539, 540, 20, 541, 542, 543, 544] (by decide +kernel) (by decide +kernel)
set_option maxRecDepth 100000 in
theorem ggZL_plays_L_lays_r21 : GoodIn wzL_plays wsL_lays_r21 := goodIn_r _ [545, 546, 48, 547, 548, 549, 550, 551, 552, 553, 554, 555, 556, 557, 558, 559, 560, 26, 561, 562, 563, 25, 564, 565] (by decide +kernel) (by decide +kernel)
set_option maxRecDepth 100000 in
theorem ggZL_plays_L_lays_r22 : GoodIn wzL_plays wsL_lays_r22 := goodIn_r _ [566, 567, 568, 569, 53, 570, 571, 572, 573, 574, 575, 54, 576, 577, 578, 579, 580, 581, 582, 583, 55, 584, 585, 586] (by decide +kernel) (by decide +kernel)
set_option maxRecDepth 100000 in
theorem ggZL_plays_L_lays_r23 : GoodIn wzL_plays wsL_lays_r23 := goodIn_r _ [587, 588, 589, 590, 591, 592, 593, 594, 595, 596, 597, 598, 599, 600, 601, 602, 603, 604, 605, 606, 607, 608, 609, 610] (by decide +kernel) (by decide +kernel)
set_option maxRecDepth 100000 in
theorem ggZL_plays_L_lays_r24 : GoodIn wzL_plays wsL_lays_r24 := goodIn_r _ [611, 612, 613, 614, 615, 616, 617, 618, 619, 620, 621, 622, 623, 624, 625, 626, 627, 628, 629, 630, 631, 632, 633, 634] (by decide +kernel) (by decide +kernel)
set_option maxRecDepth 100000 in
theorem ggZL_plays_L_lays_r25 : GoodIn wzL_plays wsL_lays_r25 := goodIn_r _ [635, 636, 637, 638, 639, 640, 641, 642, 643, 644, 645, 646, 647, 648, 649, 650, 651, 652, 653, 654, 655, 656, 657, 658] (by decide +kernel) (by decide +kernel)
set_option maxRecDepth 100000 in
theorem ggZL_plays_L_lays_r26 : GoodIn wzL_plays wsL_lays_r26 := goodIn_r _ [659, 660, 661, 662, 663, 664, 665, 666, 667, 668, 669, 16, 18, 670, 671, 672, 673, 674, 675, 676, 677, 678, 679, 680] (by decide +kernel) (by decide +kernel)
set_option maxRecDepth 100000 in
theorem ggZL_plays_L_lays_r27 : GoodIn wzL_plays wsL_lays_r27 := goodIn_r _ [681, 682, 683, 684, 685, 686, 687, 688, 689, 690, 691, 692, 693, 694, 695, 696, 697, 698, 699, 700, 701, 702, 703, 704] (by decide +kernel) (by decide +kernel)
set_option maxRecDepth 100000 in
theorem ggZL_plays_L_lays_r28 : GoodIn wzL_plays wsL_lays_r28 := goodIn_r _ [705, 706, 707, 708, 709, 710, 711, 712, 713, 714, 715, 716, 717] (by decide +kernel) (by decide +kernel)
set_option maxRecDepth 100000 in
theorem ggZL_plays_L_lays_wsJ40 : GoodIn wzL_plays wsJ40 := goodIn_r _ [833, 834, 835, 836] (by decide +kernel) (by decide +kernel)
set_option maxRecDepth 100000 in
theorem ggZL_plays_L_lays_wsJ00 : GoodIn wzL_plays wsJ00 := goodIn_r _ [837, 838, 839, 840] (by decide +kernel) (by decide +kernel)
