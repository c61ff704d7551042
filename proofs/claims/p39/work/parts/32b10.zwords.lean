set_option maxRecDepth 100000 in
theorem ggZL_plays_L_comes_r10 : GoodIn wzL_plays wsL_comes_r10 := goodIn_r _ [532, 533, 534, 535, 12, 536, 537, 43, 44, 538, 539, 540, 20, 541, 542, 543, 544, 545, 546, 48, 547, 169, 170, 171] (by decide +kernel) (by decide +kernel)
set_option maxRecDepth 100000 in
theorem ggZL_plays_L_comes_r11 : GoodIn wzL_plays wsL_comes_r11 := goodIn_r _ [548, 549, 550, 551, 552, 553, 554, 555, 556, 557, 558, 559, 560, 26, 561, 562, 563, 25, 564, 565, 566, 567, 568, 569] (by decide +kernel) (by decide +kernel)
set_option maxRecDepth 100000 in
theorem ggZL_plays_L_comes_r12 : GoodIn wzL_plays wsL_comes_r12 := goodIn_r _ [53, 570, 571, 572, 573, 574, 575, 166, 149, 167, 54, 576, 577, 578, 579, 580, 581, 582, 583, 55, 584, 585, 586, 587] (by decide +kernel) (by decide +kernel)
set_option maxRecDepth 100000 in
theorem ggZL_plays_L_comes_r13 : GoodIn wzL_plays wsL_comes_r13 := goodIn_r _ [588, 589, 590, 591, 592, 593, 594, 595, 596, 597, 598, 599, 600, 601, 602, 603, 604, 605, 606, 607, 608, 609, 610, 611] (by decide +kernel) (by decide +kernel)
set_option maxRecDepth 100000 in
theorem ggZL_plays_L_comes_r14 : GoodIn wzL_plays wsL_comes_r14 := goodIn_r _ [612, 613, 614, 615, 616, 617, 618, 619, 620, 621, 622, 623, 624, 625, 626, 627, 628, 629, 630, 631, 632, 633, 634, 635] (by decide +kernel) (by decide +kernel)
set_option maxRecDepth 100000 in
theorem ggZL_plays_L_comes_r15 : GoodIn wzL_plays wsL_comes_r15 := goodIn_r _ [636, 637, 638, 639, 640, 641, 642, 643, 644, 645, 646, 647, 648, 649, 650, 651, 652, 653, 654, 655, 656, 657, 658, 659] (by decide +kernel) (by decide +kernel)
set_option maxRecDepth 100000 in
theorem ggZL_plays_L_comes_r16 : GoodIn wzL_plays wsL_comes_r16 := goodIn_r _ [660, 661, 662, 663, 664, 665, 666, 667, 668, 669, 16, 18, 670, 671, 672, 673, 674, 675, 148, 150, 676, 677, 678, 679] (by decide +kernel) (by decide +kernel)
set_option maxRecDepth 100000 in
theorem ggZL_plays_L_comes_r17 : GoodIn wzL_plays wsL_comes_r17 := goodIn_r _ [680, 681, 682, 683, 684, 685, 686, 687, 688, 689, 690, 691, 692, 693, 694, 695, 696, 697, 698, 699, 700, 701, 702, 703] (by decide +kernel) (by decide +kernel)
set_option maxRecDepth 100000 in
theorem ggZL_plays_L_comes_r18 : GoodIn wzL_plays wsL_comes_r18 := goodIn_r _ [704, 705, 706, 707, 708, 709, 710, 711, 712, 713, 714, 715, 716, 717, 333, 334, 335, 336, 737, 738, 739, 740, 741, 742] (by decide +kernel) (by decide +kernel)
set_option maxRecDepth 100000 in
theorem ggZL_plays_L_comes_r19 : GoodIn wzL_plays wsL_comes_r19 := goodIn_r _ [743, 744, 781, 782, 783, 784, 785, 786, 787, 788, 789, 790, 791] (by decide +kernel) (by decide +kernel)
set_option maxRecDepth 100000 in
theorem ggZL_plays_L_comes_wsX100 : GoodIn wzL_plays wsX100 := goodIn_r _ [800, 801, 802, 803, 804, 805, 806, 807, 808, 809] (by decide +kernel) (by decide +kernel)
set_option maxRecDepth 100000 in
theorem ggZL_plays_L_comes_wsX50 : GoodIn wzL_plays wsX50 := goodIn_r _ [823, 824, 825] (by decide +kernel) (by decide +kernel)
set_option maxRecDepth 100000 in
theorem ggZL_plays_L_comes_wsX90 : GoodIn wzL_plays wsX90 := goodIn_r _ [819, 820, 821, 822] (by decide +kernel) (by decide +kernel)
set_option maxRecDepth 100000 in
theorem ggZL_plays_L_comes_wsX70 : GoodIn wzL_plays wsX70 := goodIn_r _ [827, 828, 829, 830, 831, 832] (by decide +kernel) (by decide +kernel)
set_option maxRecDepth 100000 in
theorem ggZL_plays_L_comes_wsJ00 : GoodIn wzL_plays wsJ00 := goodIn_r _ [837, 838, 839, 840] (by decide +kernel) (by decide +kernel)
set_option maxRecDepth 100000 in
theorem ggZL_plays_L_comes_wsX60 : GoodIn wzL_plays wsX60 := goodIn_r _ [813, 814] (by decide +kernel) (by decide +kernel)
set_option maxRecDepth 100000 in
theorem ggZL_plays_L_comes_wsX10 : GoodIn wzL_plays wsX10 := goodIn_r _ [810, 811, 812] (by decide +kernel) (by decide +kernel)
set_option maxRecDepth 100000 in
theorem ggZL_plays_L_comes_wsX20 : GoodIn wzL_plays wsX20 := goodIn_r _ [826] (by decide +kernel) (by decide +kernel)
set_option maxRecDepth 100000 in
theorem ggZL_plays_L_comes_wsX80 : GoodIn wzL_plays wsX80 := goodIn_r _ [815, 816, 817, 818] (by decide +kernel) (by decide +kernel)
set_option maxRecDepth 100000 in
theorem ggZL_plays_L_comes : GoodIn wzL_plays wzL_comes := goodIn_ca (goodIn_ca (goodIn_ca (goodIn_ca ((goodIn_c9 (goodIn_r _ [780] (by decide +kernel) (by decide +kernel)) (goodIn_app (goodIn_app (goodIn_app (goodIn_app (goodIn_app (goodIn_app (goodIn_app (goodIn_app (goodIn_app (goodIn_app ggZL_plays_L_comes_r1 (goodIn_app ggZL_plays_L_comes_r2 (goodIn_app ggZL_plays_L_comes_r3 (goodIn_app ggZL_plays_L_comes_r4 (goodIn_app ggZL_plays_L_comes_r5 (goodIn_app ggZL_plays_L_comes_r6 (goodIn_app ggZL_plays_L_comes_r7 (goodIn_app ggZL_plays_L_comes_r8 (goodIn_app ggZL_plays_L_comes_r9 (goodIn_app ggZL_plays_L_comes_r10 (goodIn_app ggZL_plays_L_comes_r11 (goodIn_app ggZL_plays_L_comes_r12 (goodIn_app ggZL_plays_L_comes_r13 (goodIn_app ggZL_plays_L_comes_r14 (goodIn_app ggZL_plays_L_comes_r15 (goodIn_app ggZL_plays_L_comes_r16 (goodIn_app ggZL_plays_L_comes_r17 (goodIn_app ggZL_plays_L_comes_r18 (ggZL_plays_L_comes_r19))))))))))))))))))) ggZL_plays_L_comes_wsX100) ggZL_plays_L_comes_wsX50) ggZL_plays_L_comes_wsX90) ggZL_plays_L_comes_wsX70) ggZL_plays_L_comes_wsJ00) ggZL_plays_L_comes_wsX60) ggZL_plays_L_comes_wsX10) ggZL_plays_L_comes_wsX20) ggZL_plays_L_comes_wsX80))) (goodIn_sub (fun _ h => List.mem_cons_of_mem _ (List.mem_append_left _ (List.mem_append_left _ (List.mem_append_right _ h)))) (by decide +kernel))) (goodIn_sub (fun _ h => List.mem_cons_of_mem _ (List.mem_append_left _ (List.mem_append_left _ (List.mem_append_left _ (List.mem_append_right _ h))))) (by decide +kernel))) (goodIn_sub (fun _ h => List.mem_cons_of_mem _ (List.mem_append_left _ (List.mem_append_right _ h))) (by decide +kernel))) (goodIn_sub (fun _ h => List.mem_cons_of_mem _ (List.mem_append_right _ h)) (by decide +kernel))
set_option maxRecDepth 100000 in
theorem gZL_plays_L_comes : GoodIn wzL_plays (va_wsS RL 238 yL_comes wzL_comes) := goodIn_app (goodIn_of _ (by decide +kernel)) ggZL_plays_L_comes
set_option maxRecDepth 100000 in
theorem ggZL_plays_L_done_r1 : GoodIn wzL_plays wsL_done_r1 := goodIn_r _ [480, 481, 347, 482, 483, 484, 485, 3, 486, 382, 383, 34, 487, 488, 338, 339, 340, 341, 342, 343, 15, 396, 397, 398] (by decide +kernel) (by decide +kernel)
set_option maxRecDepth 100000 in
theorem ggZL_plays_L_done_r2 : GoodIn wzL_plays wsL_done_r2 := goodIn_r _ [33, 399, 400, 67, 66, 401, 402, 403, 404, 29, 405, 406, 407, 408, 409, 410, 411, 391, 60, 412, 413, 414, 415, 416] (by decide +kernel) (by decide +kernel)
set_option maxRecDepth 100000 in
theorem ggZL_plays_L_done_r3 : GoodIn wzL_plays wsL_done_r3 := goodIn_r _ [417, 418, 419, 420, 421, 422, 423, 424, 425, 426, 427, 428, 429, 430, 431, 432, 433, 434, 435, 436, 437, 438, 202, 203] (by decide +kernel) (by decide +kernel)
set_option maxRecDepth 100000 in
theorem ggZL_plays_L_done_r4 : GoodIn wzL_plays wsL_done_r4 := goodIn_r _ [189, 204, 205, 206, 207, 208, 209, 210, 211, 439, 355, 356, 357, 358, 359, 360, 361, 362, 363, 230, 364, 365, 366, 367] (by decide +kernel) (by decide +kernel)
set_option maxRecDepth 100000 in
theorem ggZL_plays_L_done_r5 : GoodIn wzL_plays wsL_done_r5 := goodIn_r _ [191, 368, 369, 194, 370, 371, 372, 111, 373, 374, 375, 376, 184, 185, 186, 377, 323, 324, 325, 180, 199, 200, 440, 441] (by decide +kernel) (by decide +kernel)
set_option maxRecDepth 100000 in
theorem ggZL_plays_L_done_r6 : GoodIn wzL_plays wsL_done_r6 := goodIn_r _ [442, 443, 444, 445, 446, 447, 448, 449, 450, 451, 452, 453, 454, 455, 456, 457, 458, 459, 460, 461, 462, 463, 464, 465] (by decide +kernel) (by decide +kernel)
set_option maxRecDepth 100000 in
theorem ggZL_plays_L_done_r7 : GoodIn wzL_plays wsL_done_r7 := goodIn_r _ [466, 467, 468, 469, 470, 471, 472, 473, 474, 475, 476, 489, 490, 491, 492, 493, 494, 495, 337, 496, 497, 498, 499, 13] (by decide +kernel) (by decide +kernel)
set_option maxRecDepth 100000 in
theorem ggZL_plays_L_done_r8 : GoodIn wzL_plays wsL_done_r8 := goodIn_r _ [500, 501, 502, 503, 504, 505, 38, 506, 507, 508, 69, 509, 510, 74, 511, 512, 513, 514, 515, 516, 517, 518, 519, 520] (by decide +kernel) (by decide +kernel)
set_option maxRecDepth 100000 in
theorem ggZL_plays_L_done_r9 : GoodIn wzL_plays wsL_done_r9 := goodIn_r _ [521, 522, 523, 524, 525, 37, 526, 78, 527, 528, 529, 530, 531, 532, 533, 534, 535, 12, 536, 537, 43, 44, 538, 539] (by decide +kernel) (by decide +kernel)
set_option maxRecDepth 100000 in
theorem ggZL_plays_L_done_r10 : GoodIn wzL_plays wsL_done_r10 := goodIn_r _ [540, 20, 541, 542, 543, 544, 545, 546, 48, 547, 169, 170, 171, 548, 549, 550, 551, 552, 553, 554, 555, 556, 557, 558] (by decide +kernel) (by decide +kernel)
set_option maxRecDepth 100000 in
theorem ggZL_plays_L_done_r11 : GoodIn wzL_plays wsL_done_r11 := goodIn_r _ [559, 560, 26, 561, 562, 563, 25, 564, 565, 566, 567, 568, 569, 53, 570, 571, 572, 573, 574, 575, 166, 149, 167, 54] (by decide +kernel) (by decide +kernel)
set_option maxRecDepth 100000 in
theorem ggZL_plays_L_done_r12 : GoodIn wzL_plays wsL_done_r12 := goodIn_r _ [576, 577, 578, 579, 580, 581, 582, 583, 55, 584, 585, 586, 587, 588, 589, 590, 591, 592, 593, 594, 595, 596, 597, 598] (by decide +kernel) (by decide +kernel)
set_option maxRecDepth 100000 in
theorem ggZL_plays_L_done_r13 : GoodIn wzL_plays wsL_done_r13 := goodIn_r _ [599, 600, 601, 602, 603, 604, 605, 606, 607, 608, 609, 610, 611, 612, 613, 614, 615, 616, 617, 618, 619, 620, 621, 622] (by decide +kernel) (by decide +kernel)
set_option maxRecDepth 100000 in
theorem ggZL_plays_L_done_r14 : GoodIn wzL_plays wsL_done_r14 := goodIn_r _ [623, 624, 625, 626, 627, 628, 629, 630, 631, 632, 633, 634, 635, 636, 637, 638, 639, 640, 641, 642, 643, 644, 645, 646] (by decide +kernel) (by decide +kernel)
set_option maxRecDepth 100000 in
theorem ggZL_plays_L_done_r15 : GoodIn wzL_plays wsL_done_r15 := goodIn_r _ [647, 648, 649, 650, 651, 652, 653, 654, 655, 656, 657, 658, 659, 660, 661, 662, 663, 664, 665, 666, 667, 668, 669, 16] (by decide +kernel) (by decide +kernel)
set_option maxRecDepth 100000 in
theorem ggZL_plays_L_done_r16 : GoodIn wzL_plays wsL_done_r16 := goodIn_r _ [18, 670, 671, 672, 673, 674, 675, 148, 150, 676, 677, 678, 679, 680, 681, 682, 683, 684, 685, 686, 687, 688, 689, 690] (by decide +kernel) (by decide +kernel)
set_option maxRecDepth 100000 in
theorem ggZL_plays_L_done_r17 : GoodIn wzL_plays wsL_done_r17 := goodIn_r _ [691, 692, 693, 694, 695, 696, 697, 698, 699, 700, 701, 702, 703, 704, 705, 706, 707, 708, 709, 710, 711, 712, 713, 714] (by decide +kernel) (by decide +kernel)
set_option maxRecDepth 100000 in
theorem ggZL_plays_L_done_r18 : GoodIn wzL_plays wsL_done_r18 := goodIn_r _ [715, 716, 717, 333, 334, 335, 336] (by decide +kernel) (by decide +kernel)
set_option maxRecDepth 100000 in
theorem ggZL_plays_L_done_wsX100 : GoodIn wzL_plays wsX100 := goodIn_r _ [800, 801, 802, 803, 804, 805, 806, 807, 808, 809] (by decide +kernel) (by decide +kernel)
set_option maxRecDepth 100000 in
theorem ggZL_plays_L_done_wsX50 : GoodIn wzL_plays wsX50 := goodIn_r _ [823, 824, 825] (by decide +kernel) (by decide +kernel)
set_option maxRecDepth 100000 in
theorem ggZL_plays_L_done_wsX90 : GoodIn wzL_plays wsX90 := goodIn_r _ [819, 820, 821, 822] (by decide +kernel) (by decide +kernel)
set_option maxRecDepth 100000 in
theorem ggZL_plays_L_done_wsX70 : GoodIn wzL_plays wsX70 := goodIn_r _ [827, 828, 829, 830, 831, 832] (by decide +kernel) (by decide +kernel)
set_option maxRecDepth 100000 in
theorem ggZL_plays_L_done_wsJ00 : GoodIn wzL_plays wsJ00 := goodIn_r _ [837, 838, 839, 840] (by decide +kernel) (by decide +kernel)
set_option maxRecDepth 100000 in
theorem ggZL_plays_L_done_wsX60 : GoodIn wzL_plays wsX60 := goodIn_r _ [813, 814] (by decide +kernel) (by decide +kernel)
set_option maxRecDepth 100000 in
theorem ggZL_plays_L_done_wsX10 : GoodIn wzL_plays wsX10 := goodIn_r _ [810, 811, 812] (by decide +kernel) (by decide +kernel)
set_option maxRecDepth 100000 in
theorem ggZL_plays_L_done_wsX20 : GoodIn wzL_plays wsX20 := goodIn_r _ [826] (by decide +kernel) (by decide +kernel)
set_option maxRecDepth 100000 in
theorem ggZL_plays_L_done_wsX80 : GoodIn wzL_plays wsX80 := goodIn_r _ [815, 816, 817, 818] (by decide +kernel) (by decide +kernel)
set_option maxRecDepth 100000 in
theorem ggZL_plays_L_done : GoodIn wzL_plays wzL_done := goodIn_ca (goodIn_ca (goodIn_ca (goodIn_ca ((goodIn_c9 (goodIn_r _ [479] (by decide +kernel) (by decide +kernel)) (goodIn_app (goodIn_app (goodIn_app (goodIn_app (goodIn_app (goodIn_app (goodIn_app (goodIn_app (goodIn_app (goodIn_app ggZL_plays_L_done_r1 (goodIn_app ggZL_plays_L_done_r2 (goodIn_app ggZL_plays_L_done_r3 (goodIn_app ggZL_plays_L_done_r4 (goodIn_app ggZL_plays_L_done_r5 (goodIn_app ggZL_plays_L_done_r6 (goodIn_app ggZL_plays_L_done_r7 (goodIn_app ggZL_plays_L_done_r8 (goodIn_app ggZL_plays_L_done_r9 (goodIn_app ggZL_plays_L_done_r10 (goodIn_app ggZL_plays_L_done_r11 (goodIn_app ggZL_plays_L_done_r12 (goodIn_app ggZL_plays_L_done_r13 (goodIn_app ggZL_plays_L_done_r14 (goodIn_app ggZL_plays_L_done_r15 (goodIn_app ggZL_plays_L_done_r16 (goodIn_app ggZL_plays_L_done_r17 (ggZL_plays_L_done_r18)))))))))))))))))) ggZL_plays_L_done_wsX100) ggZL_plays_L_done_wsX50) ggZL_plays_L_done_wsX90) ggZL_plays_L_done_wsX70) ggZL_plays_L_done_wsJ00) ggZL_plays_L_done_wsX60) ggZL_plays_L_done_wsX10) ggZL_plays_L_done_wsX20) ggZL_plays_L_done_wsX80))) (goodIn_sub (fun _ h => List.mem_cons_of_mem _ (List.mem_append_left _ (List.mem_append_left _ (List.mem_append_right _ h)))) (by decide +kernel))) (goodIn_sub (fun _ h => List.mem_cons_of_mem _ (List.mem_append_left _ (List.mem_append_left _ (List.mem_append_left _ (List.mem_append_right _ h))))) (by decide +kernel))) (goodIn_sub (fun _ h => List.mem_cons_of_mem _ (List.mem_append_left _ (List.mem_append_right _ h))) (by decide +kernel))) (goodIn_sub (fun _ h => List.mem_cons_of_mem _ (List.mem_append_right _ h)) (by decide +kernel))
set_option maxRecDepth 100000 in
theorem gZL_plays_L_done : GoodIn wzL_plays (va_wsS RL 170 yL_done wzL_done) := goodIn_app (goodIn_of _ (by decide +kernel)) ggZL_plays_L_done
set_option maxRecDepth 100000 in
theorem ggZL_plays_X10_count : GoodIn wzL_plays wsX10_count := goodIn_ca (goodIn_r _ [336, 337, 338, 339, 340, 3, 341, 342, 343, 15, 813, 814, 800, 801, 802, 803, 804, 805, 806, 807, 808, 809] (by decide +kernel) (by decide +kernel)) (goodIn_sub (fun _ h => List.mem_cons_of_mem _ (List.mem_append_left _ (List.mem_append_left _ (List.mem_append_left _ (List.mem_append_right _ h))))) (by decide +kernel))
set_option maxRecDepth 100000 in
theorem gZL_plays_X10_count : GoodIn wzL_plays (wsV RL 136 RX10 yX10_count wsX10_count) := goodIn_app (goodIn_of _ (by decide +kernel)) ggZL_plays_X10_count
set_option maxRecDepth 100000 in
theorem ggZL_plays_X10_errors_r1 : GoodIn wzL_plays wsX10_errors_r1 := goodIn_r _ [15, 796, 797, 798, 3, 799, 337, 21, 552, 618, 22, 623, 670, 671, 672, 20, 673, 542, 674, 166, 149, 167, 675, 148] (by decide +kernel) (by decide +kernel)
set_option maxRecDepth 100000 in
theorem ggZL_plays_X10_errors_r2 : GoodIn wzL_plays wsX10_errors_r2 := goodIn_r _ [150, 48, 547, 169, 170, 171, 557, 558, 559, 560, 26, 561, 562, 563, 25, 564, 565, 566, 567, 568, 569, 53, 570, 571] (by decide +kernel) (by decide +kernel)
set_option maxRecDepth 100000 in
theorem ggZL_plays_X10_errors_r3 : GoodIn wzL_plays wsX10_errors_r3 := goodIn_r _ [572, 573, 574, 575, 54, 576, 577, 578, 579, 580, 581, 582, 583, 55, 584, 585, 586, 587, 12, 588, 537, 43, 589, 590] (by decide +kernel) (by decide +kernel)
set_option maxRecDepth 100000 in
theorem ggZL_plays_X10_errors_r4 : GoodIn wzL_plays wsX10_errors_r4 := goodIn_r _ [591, 517, 518, 519, 520, 592, 593, 594, 595, 44, 596, 597, 598, 599, 684, 685, 686, 687, 688, 689, 690, 691, 692, 693] (by decide +kernel) (by decide +kernel)
set_option maxRecDepth 100000 in
theorem ggZL_plays_X10_errors_r5 : GoodIn wzL_plays wsX10_errors_r5 := goodIn_r _ [694, 695, 696, 697, 698, 699, 13, 628, 665] (by decide +kernel) (by decide +kernel)
set_option maxRecDepth 100000 in
theorem ggZL_plays_X10_errors_wsX100 : GoodIn wzL_plays wsX100 := goodIn_r _ [800, 801, 802, 803, 804, 805, 806, 807, 808, 809] (by decide +kernel) (by decide +kernel)
set_option maxRecDepth 100000 in
theorem ggZL_plays_X10_errors_wsX60 : GoodIn wzL_plays wsX60 := goodIn_r _ [813, 814] (by decide +kernel) (by decide +kernel)
set_option maxRecDepth 100000 in
theorem ggZL_plays_X10_errors_wsX80 : GoodIn wzL_plays wsX80 := goodIn_r _ [815, 816, 817, 818] (by decide +kernel) (by decide +kernel)
