set_option maxRecDepth 100000 in
theorem ggZL_plays_L_moves_wsX100 : GoodIn wzL_plays wsX100 := goodIn_r _ [800, 801, 802, 803, 804, 805, 806, 807, 808, 809] (by decide +kernel) (by decide +kernel)
set_option maxRecDepth 100000 in
theorem ggZL_plays_L_moves_wsX10 : GoodIn wzL_plays wsX10 := goodIn_r _ [810, 811, 812] (by decide +kernel) (by decide +kernel)
set_option maxRecDepth 100000 in
theorem ggZL_plays_L_moves_wsX50 : GoodIn wzL_plays wsX50 := goodIn_r _ [823, 824, 825] (by decide +kernel) (by decide +kernel)
set_option maxRecDepth 100000 in
theorem ggZL_plays_L_moves_wsX90 : GoodIn wzL_plays wsX90 := goodIn_r _ [819, 820, 821, 822] (by decide +kernel) (by decide +kernel)
set_option maxRecDepth 100000 in
theorem ggZL_plays_L_moves_wsX70 : GoodIn wzL_plays wsX70 := goodIn_r _ [827, 828, 829, 830, 831, 832] (by decide +kernel) (by decide +kernel)
set_option maxRecDepth 100000 in
theorem ggZL_plays_L_moves_wsJ00 : GoodIn wzL_plays wsJ00 := goodIn_r _ [837, 838, 839, 840] (by decide +kernel) (by decide +kernel)
set_option maxRecDepth 100000 in
theorem ggZL_plays_L_moves_wsX20 : GoodIn wzL_plays wsX20 := goodIn_r _ [826] (by decide +kernel) (by decide +kernel)
set_option maxRecDepth 100000 in
theorem ggZL_plays_L_moves_wsX80 : GoodIn wzL_plays wsX80 := goodIn_r _ [815, 816, 817, 818] (by decide +kernel) (by decide +kernel)
set_option maxRecDepth 100000 in
theorem ggZL_plays_L_moves : GoodIn wzL_plays wzL_moves := goodIn_ca (goodIn_ca (goodIn_ca (goodIn_ca ((goodIn_c9 (goodIn_w9 (i := 760) (by rfl) (by decide +kernel)) (goodIn_app (goodIn_app (goodIn_app (goodIn_app (goodIn_app (goodIn_app (goodIn_app (goodIn_app (goodIn_app (goodIn_app ggZL_plays_L_moves_r1 (goodIn_app ggZL_plays_L_moves_r2 (goodIn_app ggZL_plays_L_moves_r3 (goodIn_app ggZL_plays_L_moves_r4 (goodIn_app ggZL_plays_L_moves_r5 (goodIn_app ggZL_plays_L_moves_r6 (goodIn_app ggZL_plays_L_moves_r7 (goodIn_app ggZL_plays_L_moves_r8 (goodIn_app ggZL_plays_L_moves_r9 (goodIn_app ggZL_plays_L_moves_r10 (goodIn_app ggZL_plays_L_moves_r11 (goodIn_app ggZL_plays_L_moves_r12 (goodIn_app ggZL_plays_L_moves_r13 (goodIn_app ggZL_plays_L_moves_r14 (goodIn_app ggZL_plays_L_moves_r15 (goodIn_app ggZL_plays_L_moves_r16 (goodIn_app ggZL_plays_L_moves_r17 (ggZL_plays_L_moves_r18)))))))))))))))))) ggZL_plays_L_moves_wsX60) ggZL_plays_L_moves_wsX100) ggZL_plays_L_moves_wsX10) ggZL_plays_L_moves_wsX50) ggZL_plays_L_moves_wsX90) ggZL_plays_L_moves_wsX70) ggZL_plays_L_moves_wsJ00) ggZL_plays_L_moves_wsX20) ggZL_plays_L_moves_wsX80))) (goodIn_sub (fun _ h => List.mem_cons_of_mem _ (List.mem_append_left _ (List.mem_append_left _ (List.mem_append_left _ (List.mem_append_right _ h))))) (by decide +kernel))) (goodIn_sub (fun _ h => List.mem_cons_of_mem _ (List.mem_append_left _ (List.mem_append_right _ h))) (by decide +kernel))) (goodIn_sub (fun _ h => List.mem_cons_of_mem _ (List.mem_append_left _ (List.mem_append_left _ (List.mem_append_right _ h)))) (by decide +kernel))) (goodIn_sub (fun _ h => List.mem_cons_of_mem _ (List.mem_append_right _ h)) (by decide +kernel))
set_option maxRecDepth 100000 in
theorem gZL_plays_L_moves : GoodIn wzL_plays (va_wsS RL 226 yL_moves wzL_moves) := goodIn_app (goodIn_of _ (by decide +kernel)) ggZL_plays_L_moves
set_option maxRecDepth 100000 in
theorem ggZL_plays_L_sortsAll_r1 : GoodIn wzL_plays wsL_sortsAll_r1 := goodIn_r _ [42, 722, 723, 81, 724, 333, 334, 335, 3, 336, 337, 338, 339, 340, 341, 342, 343, 15, 714, 715, 716, 717, 607, 608] (by decide +kernel) (by decide +kernel)
set_option maxRecDepth 100000 in
theorem ggZL_plays_L_sortsAll_r2 : GoodIn wzL_plays wsL_sortsAll_r2 := goodIn_r _ [628, 13, 648, 649, 650, 665, 586, 587, 12, 588, 537, 43, 660, 593, 594, 595, 44, 725, 726, 727, 728, 729, 730, 731] (by decide +kernel) (by decide +kernel)
set_option maxRecDepth 100000 in
theorem ggZL_plays_L_sortsAll_r3 : GoodIn wzL_plays wsL_sortsAll_r3 := goodIn_r _ [732, 733, 764, 765, 766, 767, 26, 552, 561, 562, 563, 25, 564, 565, 566, 567, 568, 569, 53, 570, 571, 572, 573, 574] (by decide +kernel) (by decide +kernel)
set_option maxRecDepth 100000 in
theorem ggZL_plays_L_sortsAll_r4 : GoodIn wzL_plays wsL_sortsAll_r4 := goodIn_r _ [575, 166, 149, 167, 54, 576, 577, 578, 579, 580, 581, 582, 583, 55, 584, 585, 589, 590, 591, 517, 518, 519, 520, 592] (by decide +kernel) (by decide +kernel)
set_option maxRecDepth 100000 in
theorem ggZL_plays_L_sortsAll_r5 : GoodIn wzL_plays wsL_sortsAll_r5 := goodIn_r _ [596, 597, 598, 599] (by decide +kernel) (by decide +kernel)
set_option maxRecDepth 100000 in
theorem ggZL_plays_L_sortsAll_wsX60 : GoodIn wzL_plays wsX60 := goodIn_r _ [813, 814] (by decide +kernel) (by decide +kernel)
set_option maxRecDepth 100000 in
theorem ggZL_plays_L_sortsAll_wsX100 : GoodIn wzL_plays wsX100 := goodIn_r _ [800, 801, 802, 803, 804, 805, 806, 807, 808, 809] (by decide +kernel) (by decide +kernel)
set_option maxRecDepth 100000 in
theorem ggZL_plays_L_sortsAll_wsX10 : GoodIn wzL_plays wsX10 := goodIn_r _ [810, 811, 812] (by decide +kernel) (by decide +kernel)
set_option maxRecDepth 100000 in
theorem ggZL_plays_L_sortsAll_wsX80 : GoodIn wzL_plays wsX80 := goodIn_r _ [815, 816, 817, 818] (by decide +kernel) (by decide +kernel)
set_option maxRecDepth 100000 in
theorem ggZL_plays_L_sortsAll : GoodIn wzL_plays wsL_sortsAll := goodIn_ca (goodIn_ca ((goodIn_c9 (goodIn_r _ [763] (by decide +kernel) (by decide +kernel)) (goodIn_app (goodIn_app (goodIn_app (goodIn_app (goodIn_app ggZL_plays_L_sortsAll_r1 (goodIn_app ggZL_plays_L_sortsAll_r2 (goodIn_app ggZL_plays_L_sortsAll_r3 (goodIn_app ggZL_plays_L_sortsAll_r4 (ggZL_plays_L_sortsAll_r5))))) ggZL_plays_L_sortsAll_wsX60) ggZL_plays_L_sortsAll_wsX100) ggZL_plays_L_sortsAll_wsX10) ggZL_plays_L_sortsAll_wsX80))) (goodIn_sub (fun _ h => List.mem_cons_of_mem _ (List.mem_append_left _ (List.mem_append_left _ (List.mem_append_left _ (List.mem_append_right _ h))))) (by decide +kernel))) (goodIn_sub (fun _ h => List.mem_cons_of_mem _ (List.mem_append_left _ (List.mem_append_right _ h))) (by decide +kernel))
set_option maxRecDepth 100000 in
theorem gZL_plays_L_sortsAll : GoodIn wzL_plays (va_wsS RL 230 yL_sortsAll wsL_sortsAll) := goodIn_app (goodIn_of _ (by decide +kernel)) ggZL_plays_L_sortsAll
set_option maxRecDepth 100000 in
theorem ggZL_plays_L_isBoth_r1 : GoodIn wzL_plays wsL_isBoth_r1 := goodIn_r _ [722, 723, 81, 724, 333, 334, 335, 3, 336, 337, 338, 339, 340, 341, 342, 343, 15, 714, 715, 716, 717, 607, 608, 628] (by decide +kernel) (by decide +kernel)
set_option maxRecDepth 100000 in
theorem ggZL_plays_L_isBoth_r2 : GoodIn wzL_plays wsL_isBoth_r2 := goodIn_r _ [13, 648, 649, 650, 665, 586, 587, 12, 588, 537, 43, 660, 593, 594, 595, 44, 477, 478, 479, 480, 481, 347, 482, 483] (by decide +kernel) (by decide +kernel)
set_option maxRecDepth 100000 in
theorem ggZL_plays_L_isBoth_r3 : GoodIn wzL_plays wsL_isBoth_r3 := goodIn_r _ [484, 485, 486, 382, 383, 34, 487, 488, 396, 397, 398, 33, 399, 400, 67, 66, 401, 402, 403, 404, 29, 405, 406, 407] (by decide +kernel) (by decide +kernel)
set_option maxRecDepth 100000 in
theorem ggZL_plays_L_isBoth_r4 : GoodIn wzL_plays wsL_isBoth_r4 := goodIn_r _ [408, 409, 410, 411, 391, 60, 412, 413, 414, 415, 416, 417, 418, 419, 420, 421, 422, 423, 424, 425, 426, 427, 428, 429] (by decide +kernel) (by decide +kernel)
set_option maxRecDepth 100000 in
theorem ggZL_plays_L_isBoth_r5 : GoodIn wzL_plays wsL_isBoth_r5 := goodIn_r _ [430, 431, 432, 433, 434, 435, 436, 437, 438, 202, 203, 189, 204, 205, 206, 207, 208, 209, 210, 211, 439, 355, 356, 357] (by decide +kernel) (by decide +kernel)
set_option maxRecDepth 100000 in
theorem ggZL_plays_L_isBoth_r6 : GoodIn wzL_plays wsL_isBoth_r6 := goodIn_r _ [358, 359, 360, 361, 362, 363, 230, 364, 365, 366, 367, 191, 368, 369, 194, 370, 371, 372, 111, 373, 374, 375, 376, 184] (by decide +kernel) (by decide +kernel)
set_option maxRecDepth 100000 in
theorem ggZL_plays_L_isBoth_r7 : GoodIn wzL_plays wsL_isBoth_r7 := goodIn_r _ [185, 186, 377, 323, 324, 325, 180, 199, 200, 440, 441, 442, 443, 444, 445, 446, 447, 448, 449, 450, 451, 452, 453, 454] (by decide +kernel) (by decide +kernel)
set_option maxRecDepth 100000 in
theorem ggZL_plays_L_isBoth_r8 : GoodIn wzL_plays wsL_isBoth_r8 := goodIn_r _ [455, 456, 457, 458, 459, 460, 461, 462, 463, 464, 465, 466, 467, 468, 469, 470, 471, 472, 473, 474, 475, 476, 489, 490] (by decide +kernel) (by decide +kernel)
set_option maxRecDepth 100000 in
theorem ggZL_plays_L_isBoth_r9 : GoodIn wzL_plays wsL_isBoth_r9 := goodIn_r _ [491, 492, 493, 494, 495, 496, 497, 498, 499, 500, 501, 502, 503, 504, 505, 38, 506, 507, 508, 69, 509, 510, 74, 511] (by decide +kernel) (by decide +kernel)
set_option maxRecDepth 100000 in
theorem ggZL_plays_L_isBoth_r10 : GoodIn wzL_plays wsL_isBoth_r10 := goodIn_r _ [512, 513, 514, 515, 516, 517, 518, 519, 520, 521, 522, 523, 524, 525, 37, 526, 78, 527, 528, 529, 530, 531, 532, 533] (by decide +kernel) (by decide +kernel)
set_option maxRecDepth 100000 in
theorem ggZL_plays_L_isBoth_r11 : GoodIn wzL_plays wsL_isBoth_r11 := goodIn_r _ [534, 535, 536, 538, 539, 540, 20, 541, 542, 543, 544, 545, 546, 48, 547, 169, 170, 171, 548, 549, 550, 551, 552, 553] (by decide +kernel) (by decide +kernel)
set_option maxRecDepth 100000 in
theorem ggZL_plays_L_isBoth_r12 : GoodIn wzL_plays wsL_isBoth_r12 := goodIn_r _ [554, 555, 556, 557, 558, 559, 560, 26, 561, 562, 563, 25, 564, 565, 566, 567, 568, 569, 53, 570, 571, 572, 573, 574] (by decide +kernel) (by decide +kernel)
set_option maxRecDepth 100000 in
theorem ggZL_plays_L_isBoth_r13 : GoodIn wzL_plays wsL_isBoth_r13 := goodIn_r _ [575, 166, 149, 167, 54, 576, 577, 578, 579, 580, 581, 582, 583, 55, 584, 585, 589, 590, 591, 592, 596, 597, 598, 599] (by decide +kernel) (by decide +kernel)
set_option maxRecDepth 100000 in
theorem ggZL_plays_L_isBoth_r14 : GoodIn wzL_plays wsL_isBoth_r14 := goodIn_r _ [600, 601, 602, 603, 604, 605, 606, 609, 610, 611, 612, 613, 614, 615, 616, 617, 618, 619, 620, 621, 622, 623, 624, 625] (by decide +kernel) (by decide +kernel)
set_option maxRecDepth 100000 in
theorem ggZL_plays_L_isBoth_r15 : GoodIn wzL_plays wsL_isBoth_r15 := goodIn_r _ [626, 627, 629, 630, 631, 632, 633, 634, 635, 636, 637, 638, 639, 640, 641, 642, 643, 644, 645, 646, 647, 651, 652, 653] (by decide +kernel) (by decide +kernel)
set_option maxRecDepth 100000 in
theorem ggZL_plays_L_isBoth_r16 : GoodIn wzL_plays wsL_isBoth_r16 := goodIn_r _ [654, 655, 656, 657, 658, 659, 661, 662, 663, 664, 666, 667, 668, 669, 16, 18, 670, 671, 672, 673, 674, 675, 148, 150] (by decide +kernel) (by decide +kernel)
set_option maxRecDepth 100000 in
theorem ggZL_plays_L_isBoth_r17 : GoodIn wzL_plays wsL_isBoth_r17 := goodIn_r _ [676, 677, 678, 679, 680, 681, 682, 683, 684, 685, 686, 687, 688, 689, 690, 691, 692, 693, 694, 695, 696, 697, 698, 699] (by decide +kernel) (by decide +kernel)
set_option maxRecDepth 100000 in
theorem ggZL_plays_L_isBoth_r18 : GoodIn wzL_plays wsL_isBoth_r18 := goodIn_r _ [700, 701, 702, 703, 704, 705, 706, 707, 708, 709, 710, 711, 712, 713, 728, 729, 730, 731, 732, 733, 725, 726, 727, 771] (by decide +kernel) (by decide +kernel)
set_option maxRecDepth 100000 in
theorem ggZL_plays_L_isBoth_r19 : GoodIn wzL_plays wsL_isBoth_r19 := goodIn_r _ [772, 773, 774, 775, 776, 777] (by decide +kernel) (by decide +kernel)
set_option maxRecDepth 100000 in
theorem ggZL_plays_L_isBoth_wsX60 : GoodIn wzL_plays wsX60 := goodIn_r _ [813, 814] (by decide +kernel) (by decide +kernel)
set_option maxRecDepth 100000 in
theorem ggZL_plays_L_isBoth_wsX100 : GoodIn wzL_plays wsX100 := goodIn_r _ [800, 801, 802, 803, 804, 805, 806, 807, 808, 809] (by decide +kernel) (by decide +kernel)
set_option maxRecDepth 100000 in
theorem ggZL_plays_L_isBoth_wsX10 : GoodIn wzL_plays wsX10 := goodIn_r _ [810, 811, 812] (by decide +kernel) (by decide +kernel)
set_option maxRecDepth 100000 in
theorem ggZL_plays_L_isBoth_wsX50 : GoodIn wzL_plays wsX50 := goodIn_r _ [823, 824, 825] (by decide +kernel) (by decide +kernel)
set_option maxRecDepth 100000 in
theorem ggZL_plays_L_isBoth_wsX90 : GoodIn wzL_plays wsX90 := goodIn_r _ [819, 820, 821, 822] (by decide +kernel) (by decide +kernel)
set_option maxRecDepth 100000 in
theorem ggZL_plays_L_isBoth_wsX70 : GoodIn wzL_plays wsX70 := goodIn_r _ [827, 828, 829, 830, 831, 832] (by decide +kernel) (by decide +kernel)
set_option maxRecDepth 100000 in
theorem ggZL_plays_L_isBoth_wsJ00 : GoodIn wzL_plays wsJ00 := goodIn_r _ [837, 838, 839, 840] (by decide +kernel) (by decide +kernel)
set_option maxRecDepth 100000 in
theorem ggZL_plays_L_isBoth_wsX20 : GoodIn wzL_plays wsX20 := goodIn_r _ [826] (by decide +kernel) (by decide +kernel)
set_option maxRecDepth 100000 in
theorem ggZL_plays_L_isBoth_wsX80 : GoodIn wzL_plays wsX80 := goodIn_r _ [815, 816, 817, 818] (by decide +kernel) (by decide +kernel)
set_option maxRecDepth 100000 in
theorem ggZL_plays_L_isBoth : GoodIn wzL_plays wzL_isBoth := goodIn_ca (goodIn_ca (goodIn_ca (goodIn_ca ((goodIn_c9 (goodIn_r _ [770] (by decide +kernel) (by decide +kernel)) (goodIn_app (goodIn_app (goodIn_app (goodIn_app (goodIn_app (goodIn_app (goodIn_app (goodIn_app (goodIn_app (goodIn_app ggZL_plays_L_isBoth_r1 (goodIn_app ggZL_plays_L_isBoth_r2 (goodIn_app ggZL_plays_L_isBoth_r3 (goodIn_app ggZL_plays_L_isBoth_r4 (goodIn_app ggZL_plays_L_isBoth_r5 (goodIn_app ggZL_plays_L_isBoth_r6 (goodIn_app ggZL_plays_L_isBoth_r7 (goodIn_app ggZL_plays_L_isBoth_r8 (goodIn_app ggZL_plays_L_isBoth_r9 (goodIn_app ggZL_plays_L_isBoth_r10 (goodIn_app ggZL_plays_L_isBoth_r11 (goodIn_app ggZL_plays_L_isBoth_r12 (goodIn_app ggZL_plays_L_isBoth_r13 (goodIn_app ggZL_plays_L_isBoth_r14 (goodIn_app ggZL_plays_L_isBoth_r15 (goodIn_app ggZL_plays_L_isBoth_r16 (goodIn_app ggZL_plays_L_isBoth_r17 (goodIn_app ggZL_plays_L_isBoth_r18 (ggZL_plays_L_isBoth_r19))))))))))))))))))) ggZL_plays_L_isBoth_wsX60) ggZL_plays_L_isBoth_wsX100) ggZL_plays_L_isBoth_wsX10) ggZL_plays_L_isBoth_wsX50) ggZL_plays_L_isBoth_wsX90) ggZL_plays_L_isBoth_wsX70) ggZL_plays_L_isBoth_wsJ00) ggZL_plays_L_isBoth_wsX20) ggZL_plays_L_isBoth_wsX80))) (goodIn_sub (fun _ h => List.mem_cons_of_mem _ (List.mem_append_left _ (List.mem_append_left _ (List.mem_append_left _ (List.mem_append_right _ h))))) (by decide +kernel))) (goodIn_sub (fun _ h => List.mem_cons_of_mem _ (List.mem_append_left _ (List.mem_append_right _ h))) (by decide +kernel))) (goodIn_sub (fun _ h => List.mem_cons_of_mem _ (List.mem_append_left _ (List.mem_append_left _ (List.mem_append_right _ h)))) (by decide +kernel))) (goodIn_sub (fun _ h => List.mem_cons_of_mem _ (List.mem_append_right _ h)) (by decide +kernel))
set_option maxRecDepth 100000 in
theorem gZL_plays_L_isBoth : GoodIn wzL_plays (va_wsS RL 234 yL_isBoth wzL_isBoth) := goodIn_app (goodIn_of _ (by decide +kernel)) ggZL_plays_L_isBoth
set_option maxRecDepth 100000 in
theorem ggZL_plays_L_comes_r1 : GoodIn wzL_plays wsL_comes_r1 := goodIn_r _ [95, 96, 81, 97, 79, 80, 82, 83, 477, 478, 479, 480, 481, 347, 482, 483, 484, 485, 3, 486, 382, 383, 34, 487] (by decide +kernel) (by decide +kernel)
set_option maxRecDepth 100000 in
theorem ggZL_plays_L_comes_r2 : GoodIn wzL_plays wsL_comes_r2 := goodIn_r _ [488, 338, 339, 340, 341, 342, 343, 15, 396, 397, 398, 33, 399, 400, 67, 66, 401, 402, 403, 404, 29, 405, 406, 407] (by decide +kernel) (by decide +kernel)
set_option maxRecDepth 100000 in
theorem ggZL_plays_L_comes_r3 : GoodIn wzL_plays wsL_comes_r3 := goodIn_r _ [408, 409, 410, 411, 391, 60, 412, 413, 414, 415, 416, 417, 418, 419, 420, 421, 422, 423, 424, 425, 426, 427, 428, 429] (by decide +kernel) (by decide +kernel)
set_option maxRecDepth 100000 in
theorem ggZL_plays_L_comes_r4 : GoodIn wzL_plays wsL_comes_r4 := goodIn_r _ [430, 431, 432, 433, 434, 435, 436, 437, 438, 202, 203, 189, 204, 205, 206, 207, 208, 209, 210, 211, 439, 355, 356, 357] (by decide +kernel) (by decide +kernel)
set_option maxRecDepth 100000 in
theorem ggZL_plays_L_comes_r5 : GoodIn wzL_plays wsL_comes_r5 := goodIn_r _ [358, 359, 360, 361, 362, 363, 230, 364, 365, 366, 367, 191, 368, 369, 194, 370, 371, 372, 111, 373, 374, 375, 376, 184] (by decide +kernel) (by decide +kernel)
set_option maxRecDepth 100000 in
theorem ggZL_plays_L_comes_r6 : GoodIn wzL_plays wsL_comes_r6 := goodIn_r _ [185, 186, 377, 323, 324, 325, 180, 199, 200, 440, 441, 442, 443, 444, 445, 446, 447, 448, 449, 450, 451, 452, 453, 454] (by decide +kernel) (by decide +kernel)
set_option maxRecDepth 100000 in
theorem ggZL_plays_L_comes_r7 : GoodIn wzL_plays wsL_comes_r7 := goodIn_r _ [455, 456, 457, 458, 459, 460, 461, 462, 463, 464, 465, 466, 467, 468, 469, 470, 471, 472, 473, 474, 475, 476, 489, 490] (by decide +kernel) (by decide +kernel)
set_option maxRecDepth 100000 in
theorem ggZL_plays_L_comes_r8 : GoodIn wzL_plays wsL_comes_r8 := goodIn_r _ [491, 492, 493, 494, 495, 337, 496, 497, 498, 499, 13, 500, 501, 502, 503, 504, 505, 38, 506, 507, 508, 69, 509, 510] (by decide +kernel) (by decide +kernel)
set_option maxRecDepth 100000 in
theorem ggZL_plays_L_comes_r9 : GoodIn wzL_plays wsL_comes_r9 := goodIn_r _ [74, 511, 512, 513, 514, 515, 516, 517, 518, 519, 520, 521, 522, 523, 524, 525, 37, 526, 78, 527, 528, 529, 530, 531] (by decide +kernel) (by decide +kernel)
