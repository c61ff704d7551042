set_option maxRecDepth 100000 in
theorem ggZL_plays_L_lays_wsX60 : GoodIn wzL_plays wsX60 := goodIn_r _ [813, 814] (by decide +kernel) (by decide +kernel)
set_option maxRecDepth 100000 in
theorem ggZL_plays_L_lays_wsX100 : GoodIn wzL_plays wsX100 := goodIn_r _ [800, 801, 802, 803, 804, 805, 806, 807, 808, 809] (by decide +kernel) (by decide +kernel)
set_option maxRecDepth 100000 in
theorem ggZL_plays_L_lays_wsX90 : GoodIn wzL_plays wsX90 := goodIn_r _ [819, 820, 821, 822] (by decide +kernel) (by decide +kernel)
set_option maxRecDepth 100000 in
theorem ggZL_plays_L_lays_wsX50 : GoodIn wzL_plays wsX50 := goodIn_r _ [823, 824, 825] (by decide +kernel) (by decide +kernel)
set_option maxRecDepth 100000 in
theorem ggZL_plays_L_lays_wsX70 : GoodIn wzL_plays wsX70 := goodIn_r _ [827, 828, 829, 830, 831, 832] (by decide +kernel) (by decide +kernel)
set_option maxRecDepth 100000 in
theorem ggZL_plays_L_lays_wsX10 : GoodIn wzL_plays wsX10 := goodIn_r _ [810, 811, 812] (by decide +kernel) (by decide +kernel)
set_option maxRecDepth 100000 in
theorem ggZL_plays_L_lays_wsX20 : GoodIn wzL_plays wsX20 := goodIn_r _ [826] (by decide +kernel) (by decide +kernel)
set_option maxRecDepth 100000 in
theorem ggZL_plays_L_lays_wsX80 : GoodIn wzL_plays wsX80 := goodIn_r _ [815, 816, 817, 818] (by decide +kernel) (by decide +kernel)
set_option maxRecDepth 100000 in
theorem ggZL_plays_L_lays : GoodIn wzL_plays wzL_lays := goodIn_ca (goodIn_ca (goodIn_ca (goodIn_ca ((goodIn_c9 (goodIn_r _ [91] (by decide +kernel) (by decide +kernel)) (goodIn_app (goodIn_app (goodIn_app (goodIn_app (goodIn_app (goodIn_app (goodIn_app (goodIn_app (goodIn_app (goodIn_app (goodIn_app ggZL_plays_L_lays_r1 (goodIn_app ggZL_plays_L_lays_r2 (goodIn_app ggZL_plays_L_lays_r3 (goodIn_app ggZL_plays_L_lays_r4 (goodIn_app ggZL_plays_L_lays_r5 (goodIn_app ggZL_plays_L_lays_r6 (goodIn_app ggZL_plays_L_lays_r7 (goodIn_app ggZL_plays_L_lays_r8 (goodIn_app ggZL_plays_L_lays_r9 (goodIn_app ggZL_plays_L_lays_r10 (goodIn_app ggZL_plays_L_lays_r11 (goodIn_app ggZL_plays_L_lays_r12 (goodIn_app ggZL_plays_L_lays_r13 (goodIn_app ggZL_plays_L_lays_r14 (goodIn_app ggZL_plays_L_lays_r15 (goodIn_app ggZL_plays_L_lays_r16 (goodIn_app ggZL_plays_L_lays_r17 (goodIn_app ggZL_plays_L_lays_r18 (goodIn_app ggZL_plays_L_lays_r19 (goodIn_app ggZL_plays_L_lays_r20 (goodIn_app ggZL_plays_L_lays_r21 (goodIn_app ggZL_plays_L_lays_r22 (goodIn_app ggZL_plays_L_lays_r23 (goodIn_app ggZL_plays_L_lays_r24 (goodIn_app ggZL_plays_L_lays_r25 (goodIn_app ggZL_plays_L_lays_r26 (goodIn_app ggZL_plays_L_lays_r27 (ggZL_plays_L_lays_r28)))))))))))))))))))))))))))) ggZL_plays_L_lays_wsJ40) ggZL_plays_L_lays_wsJ00) ggZL_plays_L_lays_wsX60) ggZL_plays_L_lays_wsX100) ggZL_plays_L_lays_wsX90) ggZL_plays_L_lays_wsX50) ggZL_plays_L_lays_wsX70) ggZL_plays_L_lays_wsX10) ggZL_plays_L_lays_wsX20) ggZL_plays_L_lays_wsX80))) (goodIn_sub (fun _ h => List.mem_cons_of_mem _ (List.mem_append_left _ (List.mem_append_left _ (List.mem_append_left _ (List.mem_append_right _ h))))) (by decide +kernel))) (goodIn_sub (fun _ h => List.mem_cons_of_mem _ (List.mem_append_left _ (List.mem_append_left _ (List.mem_append_right _ h)))) (by decide +kernel))) (goodIn_sub (fun _ h => List.mem_cons_of_mem _ (List.mem_append_left _ (List.mem_append_right _ h))) (by decide +kernel))) (goodIn_sub (fun _ h => List.mem_cons_of_mem _ (List.mem_append_right _ h)) (by decide +kernel))
set_option maxRecDepth 100000 in
theorem gZL_plays_L_lays : GoodIn wzL_plays (va_wsS RL 218 yL_lays wzL_lays) := goodIn_app (goodIn_of _ (by decide +kernel)) ggZL_plays_L_lays
set_option maxRecDepth 100000 in
theorem ggZL_plays_L_sorts_r1 : GoodIn wzL_plays wsL_sorts_r1 := goodIn_r _ [721, 166, 149, 167, 722, 723, 81, 724, 333, 334, 335, 3, 336, 337, 338, 339, 340, 341, 342, 343, 15, 714, 715, 716] (by decide +kernel) (by decide +kernel)
set_option maxRecDepth 100000 in
theorem ggZL_plays_L_sorts_r2 : GoodIn wzL_plays wsL_sorts_r2 := goodIn_r _ [717, 607, 608, 628, 13, 648, 649, 650, 665, 586, 587, 12, 588, 537, 43, 660, 593, 594, 595, 44, 79, 80, 82, 83] (by decide +kernel) (by decide +kernel)
set_option maxRecDepth 100000 in
theorem ggZL_plays_L_sorts_r3 : GoodIn wzL_plays wsL_sorts_r3 := goodIn_r _ [725, 726, 727, 728, 729, 730, 731, 732, 733, 477, 478, 479, 480, 481, 347, 482, 483, 484, 485, 486, 382, 383, 34, 487] (by decide +kernel) (by decide +kernel)
set_option maxRecDepth 100000 in
theorem ggZL_plays_L_sorts_r4 : GoodIn wzL_plays wsL_sorts_r4 := goodIn_r _ [488, 396, 397, 398, 33, 399, 400, 67, 66, 401, 402, 403, 404, 29, 405, 406, 407, 408, 409, 410, 411, 391, 60, 412] (by decide +kernel) (by decide +kernel)
set_option maxRecDepth 100000 in
theorem ggZL_plays_L_sorts_r5 : GoodIn wzL_plays wsL_sorts_r5 := goodIn_r _ [413, 414, 415, 416, 417, 418, 419, 420, 421, 422, 423, 424, 425, 426, 427, 428, 429, 430, 431, 432, 433, 434, 435, 436] (by decide +kernel) (by decide +kernel)
set_option maxRecDepth 100000 in
theorem ggZL_plays_L_sorts_r6 : GoodIn wzL_plays wsL_sorts_r6 := goodIn_r _ [437, 438, 202, 203, 189, 204, 205, 206, 207, 208, 209, 210, 211, 439, 355, 356, 357, 358, 359, 360, 361, 362, 363, 230] (by decide +kernel) (by decide +kernel)
set_option maxRecDepth 100000 in
theorem ggZL_plays_L_sorts_r7 : GoodIn wzL_plays wsL_sorts_r7 := goodIn_r _ [364, 365, 366, 367, 191, 368, 369, 194, 370, 371, 372, 111, 373, 374, 375, 376, 184, 185, 186, 377, 323, 324, 325, 180] (by decide +kernel) (by decide +kernel)
set_option maxRecDepth 100000 in
theorem ggZL_plays_L_sorts_r8 : GoodIn wzL_plays wsL_sorts_r8 := goodIn_r _ [199, 200, 440, 441, 442, 443, 444, 445, 446, 447, 448, 449, 450, 451, 452, 453, 454, 455, 456, 457, 458, 459, 460, 461] (by decide +kernel) (by decide +kernel)
set_option maxRecDepth 100000 in
theorem ggZL_plays_L_sorts_r9 : GoodIn wzL_plays wsL_sorts_r9 := goodIn_r _ [462, 463, 464, 465, 466, 467, 468, 469, 470, 471, 472, 473, 474, 475, 476, 489, 490, 491, 492, 493, 494, 495, 496, 497] (by decide +kernel) (by decide +kernel)
set_option maxRecDepth 100000 in
theorem ggZL_plays_L_sorts_r10 : GoodIn wzL_plays wsL_sorts_r10 := goodIn_r _ [498, 499, 500, 501, 502, 503, 504, 505, 38, 506, 507, 508, 69, 509, 510, 74, 511, 512, 513, 514, 515, 516, 517, 518] (by decide +kernel) (by decide +kernel)
set_option maxRecDepth 100000 in
theorem ggZL_plays_L_sorts_r11 : GoodIn wzL_plays wsL_sorts_r11 := goodIn_r _ [519, 520, 521, 522, 523, 524, 525, 37, 526, 78, 527, 528, 529, 530, 531, 532, 533, 534, 535, 536, 538, 539, 540, 20] (by decide +kernel) (by decide +kernel)
set_option maxRecDepth 100000 in
theorem ggZL_plays_L_sorts_r12 : GoodIn wzL_plays wsL_sorts_r12 := goodIn_r _ [541, 542, 543, 544, 545, 546, 48, 547, 169, 170, 171, 548, 549, 550, 551, 552, 553, 554, 555, 556, 557, 558, 559, 560] (by decide +kernel) (by decide +kernel)
set_option maxRecDepth 100000 in
theorem ggZL_plays_L_sorts_r13 : GoodIn wzL_plays wsL_sorts_r13 := goodIn_r _ [26, 561, 562, 563, 25, 564, 565, 566, 567, 568, 569, 53, 570, 571, 572, 573, 574, 575, 54, 576, 577, 578, 579, 580] (by decide +kernel) (by decide +kernel)
set_option maxRecDepth 100000 in
theorem ggZL_plays_L_sorts_r14 : GoodIn wzL_plays wsL_sorts_r14 := goodIn_r _ [581, 582, 583, 55, 584, 585, 589, 590, 591, 592, 596, 597, 598, 599, 600, 601, 602, 603, 604, 605, 606, 609, 610, 611] (by decide +kernel) (by decide +kernel)
set_option maxRecDepth 100000 in
theorem ggZL_plays_L_sorts_r15 : GoodIn wzL_plays wsL_sorts_r15 := goodIn_r _ [612, 613, 614, 615, 616, 617, 618, 619, 620, 621, 622, 623, 624, 625, 626, 627, 629, 630, 631, 632, 633, 634, 635, 636] (by decide +kernel) (by decide +kernel)
set_option maxRecDepth 100000 in
theorem ggZL_plays_L_sorts_r16 : GoodIn wzL_plays wsL_sorts_r16 := goodIn_r _ [637, 638, 639, 640, 641, 642, 643, 644, 645, 646, 647, 651, 652, 653, 654, 655, 656, 657, 658, 659, 661, 662, 663, 664] (by decide +kernel) (by decide +kernel)
set_option maxRecDepth 100000 in
theorem ggZL_plays_L_sorts_r17 : GoodIn wzL_plays wsL_sorts_r17 := goodIn_r _ [666, 667, 668, 669, 16, 18, 670, 671, 672, 673, 674, 675, 148, 150, 676, 677, 678, 679, 680, 681, 682, 683, 684, 685] (by decide +kernel) (by decide +kernel)
set_option maxRecDepth 100000 in
theorem ggZL_plays_L_sorts_r18 : GoodIn wzL_plays wsL_sorts_r18 := goodIn_r _ [686, 687, 688, 689, 690, 691, 692, 693, 694, 695, 696, 697, 698, 699, 700, 701, 702, 703, 704, 705, 706, 707, 708, 709] (by decide +kernel) (by decide +kernel)
set_option maxRecDepth 100000 in
theorem ggZL_plays_L_sorts_r19 : GoodIn wzL_plays wsL_sorts_r19 := goodIn_r _ [710, 711, 712, 713, 734, 735, 736, 737, 738, 739, 740, 741, 742, 743, 744, 745, 746, 747, 748, 749, 750, 751, 752, 753] (by decide +kernel) (by decide +kernel)
set_option maxRecDepth 100000 in
theorem ggZL_plays_L_sorts_r20 : GoodIn wzL_plays wsL_sorts_r20 := goodIn_r _ [754, 755, 756, 757] (by decide +kernel) (by decide +kernel)
set_option maxRecDepth 100000 in
theorem ggZL_plays_L_sorts_wsX60 : GoodIn wzL_plays wsX60 := goodIn_r _ [813, 814] (by decide +kernel) (by decide +kernel)
set_option maxRecDepth 100000 in
theorem ggZL_plays_L_sorts_wsX100 : GoodIn wzL_plays wsX100 := goodIn_r _ [800, 801, 802, 803, 804, 805, 806, 807, 808, 809] (by decide +kernel) (by decide +kernel)
set_option maxRecDepth 100000 in
theorem ggZL_plays_L_sorts_wsX10 : GoodIn wzL_plays wsX10 := goodIn_r _ [810, 811, 812] (by decide +kernel) (by decide +kernel)
set_option maxRecDepth 100000 in
theorem ggZL_plays_L_sorts_wsX50 : GoodIn wzL_plays wsX50 := goodIn_r _ [823, 824, 825] (by decide +kernel) (by decide +kernel)
set_option maxRecDepth 100000 in
theorem ggZL_plays_L_sorts_wsX90 : GoodIn wzL_plays wsX90 := goodIn_r _ [819, 820, 821, 822] (by decide +kernel) (by decide +kernel)
set_option maxRecDepth 100000 in
theorem ggZL_plays_L_sorts_wsX70 : GoodIn wzL_plays wsX70 := goodIn_r _ [827, 828, 829, 830, 831, 832] (by decide +kernel) (by decide +kernel)
set_option maxRecDepth 100000 in
theorem ggZL_plays_L_sorts_wsJ00 : GoodIn wzL_plays wsJ00 := goodIn_r _ [837, 838, 839, 840] (by decide +kernel) (by decide +kernel)
set_option maxRecDepth 100000 in
theorem ggZL_plays_L_sorts_wsX20 : GoodIn wzL_plays wsX20 := goodIn_r _ [826] (by decide +kernel) (by decide +kernel)
set_option maxRecDepth 100000 in
theorem ggZL_plays_L_sorts_wsX80 : GoodIn wzL_plays wsX80 := goodIn_r _ [815, 816, 817, 818] (by decide +kernel) (by decide +kernel)
set_option maxRecDepth 100000 in
theorem ggZL_plays_L_sorts : GoodIn wzL_plays wzL_sorts := goodIn_ca (goodIn_ca (goodIn_ca (goodIn_ca ((goodIn_c9 (goodIn_r _ [720] (by decide +kernel) (by decide +kernel)) (goodIn_app (goodIn_app (goodIn_app (goodIn_app (goodIn_app (goodIn_app (goodIn_app (goodIn_app (goodIn_app (goodIn_app ggZL_plays_L_sorts_r1 (goodIn_app ggZL_plays_L_sorts_r2 (goodIn_app ggZL_plays_L_sorts_r3 (goodIn_app ggZL_plays_L_sorts_r4 (goodIn_app ggZL_plays_L_sorts_r5 (goodIn_app ggZL_plays_L_sorts_r6 (goodIn_app ggZL_plays_L_sorts_r7 (goodIn_app ggZL_plays_L_sorts_r8 (goodIn_app ggZL_plays_L_sorts_r9 (goodIn_app ggZL_plays_L_sorts_r10 (goodIn_app ggZL_plays_L_sorts_r11 (goodIn_app ggZL_plays_L_sorts_r12 (goodIn_app ggZL_plays_L_sorts_r13 (goodIn_app ggZL_plays_L_sorts_r14 (goodIn_app ggZL_plays_L_sorts_r15 (goodIn_app ggZL_plays_L_sorts_r16 (goodIn_app ggZL_plays_L_sorts_r17 (goodIn_app ggZL_plays_L_sorts_r18 (goodIn_app ggZL_plays_L_sorts_r19 (ggZL_plays_L_sorts_r20)))))))))))))))))))) ggZL_plays_L_sorts_wsX60) ggZL_plays_L_sorts_wsX100) ggZL_plays_L_sorts_wsX10) ggZL_plays_L_sorts_wsX50) ggZL_plays_L_sorts_wsX90) ggZL_plays_L_sorts_wsX70) ggZL_plays_L_sorts_wsJ00) ggZL_plays_L_sorts_wsX20) ggZL_plays_L_sorts_wsX80))) (goodIn_sub (fun _ h => List.mem_cons_of_mem _ (List.mem_append_left _ (List.mem_append_left _ (List.mem_append_left _ (List.mem_append_right _ h))))) (by decide +kernel))) (goodIn_sub (fun _ h => List.mem_cons_of_mem _ (List.mem_append_left _ (List.mem_append_right _ h))) (by decide +kernel))) (goodIn_sub (fun _ h => List.mem_cons_of_mem _ (List.mem_append_left _ (List.mem_append_left _ (List.mem_append_right _ h)))) (by decide +kernel))) (goodIn_sub (fun _ h => List.mem_cons_of_mem _ (List.mem_append_right _ h)) (by decide +kernel))
set_option maxRecDepth 100000 in
theorem gZL_plays_L_sorts : GoodIn wzL_plays (va_wsS RL 222 yL_sorts wzL_sorts) := goodIn_app (goodIn_of _ (by decide +kernel)) ggZL_plays_L_sorts
set_option maxRecDepth 100000 in
theorem ggZL_plays_L_moves_r1 : GoodIn wzL_plays wsL_moves_r1 := goodIn_r _ [722, 723, 81, 724, 333, 334, 335, 3, 336, 337, 338, 339, 340, 341, 342, 343, 15, 714, 715, 716, 717, 607, 608, 628] (by decide +kernel) (by decide +kernel)
set_option maxRecDepth 100000 in
theorem ggZL_plays_L_moves_r2 : GoodIn wzL_plays wsL_moves_r2 := goodIn_r _ [13, 648, 649, 650, 665, 586, 587, 12, 588, 537, 43, 660, 593, 594, 595, 44, 79, 80, 82, 83, 477, 478, 479, 480] (by decide +kernel) (by decide +kernel)
set_option maxRecDepth 100000 in
theorem ggZL_plays_L_moves_r3 : GoodIn wzL_plays wsL_moves_r3 := goodIn_r _ [481, 347, 482, 483, 484, 485, 486, 382, 383, 34, 487, 488, 396, 397, 398, 33, 399, 400, 67, 66, 401, 402, 403, 404] (by decide +kernel) (by decide +kernel)
set_option maxRecDepth 100000 in
theorem ggZL_plays_L_moves_r4 : GoodIn wzL_plays wsL_moves_r4 := goodIn_r _ [29, 405, 406, 407, 408, 409, 410, 411, 391, 60, 412, 413, 414, 415, 416, 417, 418, 419, 420, 421, 422, 423, 424, 425] (by decide +kernel) (by decide +kernel)
set_option maxRecDepth 100000 in
theorem ggZL_plays_L_moves_r5 : GoodIn wzL_plays wsL_moves_r5 := goodIn_r _ [426, 427, 428, 429, 430, 431, 432, 433, 434, 435, 436, 437, 438, 202, 203, 189, 204, 205, 206, 207, 208, 209, 210, 211] (by decide +kernel) (by decide +kernel)
set_option maxRecDepth 100000 in
theorem ggZL_plays_L_moves_r6 : GoodIn wzL_plays wsL_moves_r6 := goodIn_r _ [439, 355, 356, 357, 358, 359, 360, 361, 362, 363, 230, 364, 365, 366, 367, 191, 368, 369, 194, 370, 371, 372, 111, 373] (by decide +kernel) (by decide +kernel)
set_option maxRecDepth 100000 in
theorem ggZL_plays_L_moves_r7 : GoodIn wzL_plays wsL_moves_r7 := goodIn_r _ [374, 375, 376, 184, 185, 186, 377, 323, 324, 325, 180, 199, 200, 440, 441, 442, 443, 444, 445, 446, 447, 448, 449, 450] (by decide +kernel) (by decide +kernel)
set_option maxRecDepth 100000 in
theorem ggZL_plays_L_moves_r8 : GoodIn wzL_plays wsL_moves_r8 := goodIn_r _ [451, 452, 453, 454, 455, 456, 457, 458, 459, 460, 461, 462, 463, 464, 465, 466, 467, 468, 469, 470, 471, 472, 473, 474] (by decide +kernel) (by decide +kernel)
set_option maxRecDepth 100000 in
theorem ggZL_plays_L_moves_r9 : GoodIn wzL_plays wsL_moves_r9 := goodIn_r _ [475, 476, 489, 490, 491, 492, 493, 494, 495, 496, 497, 498, 499, 500, 501, 502, 503, 504, 505, 38, 506, 507, 508, 69] (by decide +kernel) (by decide +kernel)
set_option maxRecDepth 100000 in
theorem ggZL_plays_L_moves_r10 : GoodIn wzL_plays wsL_moves_r10 := goodIn_r _ [509, 510, 74, 511, 512, 513, 514, 515, 516, 517, 518, 519, 520, 521, 522, 523, 524, 525, 37, 526, 78, 527, 528, 529] (by decide +kernel) (by decide +kernel)
set_option maxRecDepth 100000 in
theorem ggZL_plays_L_moves_r11 : GoodIn wzL_plays wsL_moves_r11 := goodIn_r _ [530, 531, 532, 533, 534, 535, 536, 538, 539, 540, 20, 541, 542, 543, 544, 545, 546, 48, 547, 169, 170, 171, 548, 549] (by decide +kernel) (by decide +kernel)
set_option maxRecDepth 100000 in
theorem ggZL_plays_L_moves_r12 : GoodIn wzL_plays wsL_moves_r12 := goodIn_r _ [550, 551, 552, 553, 554, 555, 556, 557, 558, 559, 560, 26, 561, 562, 563, 25, 564, 565, 566, 567, 568, 569, 53, 570] (by decide +kernel) (by decide +kernel)
set_option maxRecDepth 100000 in
theorem ggZL_plays_L_moves_r13 : GoodIn wzL_plays wsL_moves_r13 := goodIn_r _ [571, 572, 573, 574, 575, 166, 149, 167, 54, 576, 577, 578, 579, 580, 581, 582, 583, 55, 584, 585, 589, 590, 591, 592] (by decide +kernel) (by decide +kernel)
set_option maxRecDepth 100000 in
theorem ggZL_plays_L_moves_r14 : GoodIn wzL_plays wsL_moves_r14 := goodIn_r _ [596, 597, 598, 599, 600, 601, 602, 603, 604, 605, 606, 609, 610, 611, 612, 613, 614, 615, 616, 617, 618, 619, 620, 621] (by decide +kernel) (by decide +kernel)
set_option maxRecDepth 100000 in
theorem ggZL_plays_L_moves_r15 : GoodIn wzL_plays wsL_moves_r15 := goodIn_r _ [622, 623, 624, 625, 626, 627, 629, 630, 631, 632, 633, 634, 635, 636, 637, 638, 639, 640, 641, 642, 643, 644, 645, 646] (by decide +kernel) (by decide +kernel)
set_option maxRecDepth 100000 in
theorem ggZL_plays_L_moves_r16 : GoodIn wzL_plays wsL_moves_r16 := goodIn_r _ [647, 651, 652, 653, 654, 655, 656, 657, 658, 659, 661, 662, 663, 664, 666, 667, 668, 669, 16, 18, 670, 671, 672, 673] (by decide +kernel) (by decide +kernel)
set_option maxRecDepth 100000 in
theorem ggZL_plays_L_moves_r17 : GoodIn wzL_plays wsL_moves_r17 := goodIn_r _ [674, 675, 148, 150, 676, 677, 678, 679, 680, 681, 682, 683, 684, 685, 686, 687, 688, 689, 690, 691, 692, 693, 694, 695] (by decide +kernel) (by decide +kernel)
set_option maxRecDepth 100000 in
theorem ggZL_plays_L_moves_r18 : GoodIn wzL_plays wsL_moves_r18 := goodIn_r _ [696, 697, 698, 699, 700, 701, 702, 703, 704, 705, 706, 707, 708, 709, 710, 711, 712, 713, 725, 726, 727, 734, 735, 736] (by decide +kernel) (by decide +kernel)
set_option maxRecDepth 100000 in
theorem ggZL_plays_L_moves_wsX60 : GoodIn wzL_plays wsX60 := goodIn_r _ [813, 814] (by decide +kernel) (by decide +kernel)
