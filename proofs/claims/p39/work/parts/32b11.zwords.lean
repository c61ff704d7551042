set_option maxRecDepth 100000 in
theorem ggZL_plays_X10_errors_wsX10 : GoodIn wzL_plays wsX10 := goodIn_r _ [810, 811, 812] (by decide +kernel) (by decide +kernel)
set_option maxRecDepth 100000 in
theorem ggZL_plays_X10_errors : GoodIn wzL_plays wsX10_errors := (goodIn_c9 (goodIn_r _ [795] (by decide +kernel) (by decide +kernel)) (goodIn_app (goodIn_app (goodIn_app (goodIn_app (goodIn_app ggZL_plays_X10_errors_r1 (goodIn_app ggZL_plays_X10_errors_r2 (goodIn_app ggZL_plays_X10_errors_r3 (goodIn_app ggZL_plays_X10_errors_r4 (ggZL_plays_X10_errors_r5))))) ggZL_plays_X10_errors_wsX100) ggZL_plays_X10_errors_wsX60) ggZL_plays_X10_errors_wsX80) ggZL_plays_X10_errors_wsX10))
set_option maxRecDepth 100000 in
theorem gZL_plays_X10_errors : GoodIn wzL_plays (wsV RL 241 RX10 yX10_errors wsX10_errors) := goodIn_app (goodIn_of _ (by decide +kernel)) ggZL_plays_X10_errors
set_option maxRecDepth 100000 in
theorem ggZL_law_L_plays_r1 : GoodIn wzL_law wsL_plays_r1 := goodIn_r _ [8, 9, 10, 11, 12, 13, 14, 15, 16, 17, 18, 19, 20, 21, 22, 23, 3, 24, 25, 26, 27, 28, 29, 30] (by decide +kernel) (by decide +kernel)
set_option maxRecDepth 100000 in
theorem ggZL_law_L_plays_r2 : GoodIn wzL_law wsL_plays_r2 := goodIn_r _ [31, 32, 33, 34, 35, 36, 37, 38, 39, 40, 41, 42, 43, 44, 45, 46, 47, 0, 48, 49, 50, 51, 52, 53] (by decide +kernel) (by decide +kernel)
set_option maxRecDepth 100000 in
theorem ggZL_law_L_plays_r3 : GoodIn wzL_law wsL_plays_r3 := goodIn_r _ [54, 55, 56, 57, 58, 59, 60, 61, 62, 63, 64, 65, 66, 67, 68, 69, 70, 71, 72, 73, 74, 75, 76, 77] (by decide +kernel) (by decide +kernel)
set_option maxRecDepth 100000 in
theorem ggZL_law_L_plays_r4 : GoodIn wzL_law wsL_plays_r4 := goodIn_r _ [78, 79, 80, 81, 82, 83, 84, 85, 6, 86, 87, 88, 89, 90, 91, 92, 93, 94, 95, 96, 97, 98, 99, 100] (by decide +kernel) (by decide +kernel)
set_option maxRecDepth 100000 in
theorem ggZL_law_L_plays_r5 : GoodIn wzL_law wsL_plays_r5 := goodIn_r _ [101, 102, 103, 104, 105, 106, 107, 108, 109, 110, 111, 112, 113, 114, 115, 116, 117, 118, 119, 120, 121, 122, 123, 124] (by decide +kernel) (by decide +kernel)
set_option maxRecDepth 100000 in
theorem ggZL_law_L_plays_r6 : GoodIn wzL_law wsL_plays_r6 := goodIn_r _ [125, 126, 127, 128, 129, 130, 131, 132, 133, 134, 135, 136, 137, 138, 139, 140, 141, 142, 143, 144, 145, 146, 147, 148] (by decide +kernel) (by decide +kernel)
set_option maxRecDepth 100000 in
theorem ggZL_law_L_plays_r7 : GoodIn wzL_law wsL_plays_r7 := goodIn_r _ [149, 150, 151, 152, 153, 154, 155, 156, 157, 158, 159, 160, 161, 162, 163, 164, 165, 166, 167, 168, 169, 170, 171, 172] (by decide +kernel) (by decide +kernel)
set_option maxRecDepth 100000 in
theorem ggZL_law_L_plays_r8 : GoodIn wzL_law wsL_plays_r8 := goodIn_r _ [173, 174, 175, 176, 177, 178, 179, 180, 181, 182, 183, 184, 185, 186, 187, 188, 189, 190, 191, 192, 193, 194, 195, 196] (by decide +kernel) (by decide +kernel)
set_option maxRecDepth 100000 in
theorem ggZL_law_L_plays_r9 : GoodIn wzL_law wsL_plays_r9 := goodIn_r _ [197, 198, 199, 200, 201, 202, 203, 204, 205, 206, 207, 208, 209, 210, 211, 212, 213, 214, 215, 216, 217, 218, 219, 220] (by decide +kernel) (by decide +kernel)
set_option maxRecDepth 100000 in
theorem ggZL_law_L_plays_r10 : GoodIn wzL_law wsL_plays_r10 := goodIn_r _ [221, 222, 223, 224, 225, 226, 227, 228, 229, 230, 231, 232, 233, 234, 235, 236, 237, 238, 239, 240, 241, 242, 243, 244] (by decide +kernel) (by decide +kernel)
set_option maxRecDepth 100000 in
theorem ggZL_law_L_plays_r11 : GoodIn wzL_law wsL_plays_r11 := goodIn_r _ [245, 246, 247, 248, 249, 250, 251, 252, 253, 254, 255, 256, 257, 258, 259, 260, 261, 262, 263, 264, 265, 266, 267, 268] (by decide +kernel) (by decide +kernel)
set_option maxRecDepth 100000 in
theorem ggZL_law_L_plays_r12 : GoodIn wzL_law wsL_plays_r12 := goodIn_r _ [269, 270, 271, 272, 273, 274, 275, 276, 277, 278, 279, 280, 281, 282, 283, 284, 285, 286, 287, 288, 289, 290, 291, 292] (by decide +kernel) (by decide +kernel)
set_option maxRecDepth 100000 in
theorem ggZL_law_L_plays_r13 : GoodIn wzL_law wsL_plays_r13 := goodIn_r _ [293, 294, 295, 296, 297, 298, 299, 300, 301, 302, 303, 304, 305, 306, 307, 308, 309, 310, 311, 312, 313, 314, 315, 316] (by decide +kernel) (by decide +kernel)
set_option maxRecDepth 100000 in
theorem ggZL_law_L_plays_r14 : GoodIn wzL_law wsL_plays_r14 := goodIn_r _ [317, 318, 319, 320, 321, 322, 323, 324, 325, 326, 327, 328, 329, 330, 331, 332, 333, 334, 335, 336, 337, 338, 339, 340] (by decide +kernel) (by decide +kernel)
set_option maxRecDepth 100000 in
theorem ggZL_law_L_plays_r15 : GoodIn wzL_law wsL_plays_r15 := goodIn_r _ [341, 342, 343, 344, 345, 346, 347, 348, 349, 350, 351, 352, 353, 354, 355, 356, 357, 358, 359, 360, 361, 362, 363, 364] (by decide +kernel) (by decide +kernel)
set_option maxRecDepth 100000 in
theorem ggZL_law_L_plays_r16 : GoodIn wzL_law wsL_plays_r16 := goodIn_r _ [365, 366, 367, 368, 369, 370, 371, 372, 373, 374, 375, 376, 377, 378, 379, 380, 381, 382, 383, 384, 385, 386, 387, 388] (by decide +kernel) (by decide +kernel)
set_option maxRecDepth 100000 in
theorem ggZL_law_L_plays_r17 : GoodIn wzL_law wsL_plays_r17 := goodIn_r _ [389, 390, 391, 392, 393, 394, 395, 396, 397, 398, 399, 400, 401, 402, 403, 404, 405, 406, 407, 408, 409, 410, 411, 412] (by decide +kernel) (by decide +kernel)
set_option maxRecDepth 100000 in
theorem ggZL_law_L_plays_r18 : GoodIn wzL_law wsL_plays_r18 := goodIn_r _ [413, 414, 415, 416, 417, 418, 419, 420, 421, 422, 423, 424, 425, 426, 427, 428, 429, 430, 431, 432, 433, 434, 435, 436] (by decide +kernel) (by decide +kernel)
set_option maxRecDepth 100000 in
theorem ggZL_law_L_plays_r19 : GoodIn wzL_law wsL_plays_r19 := goodIn_r _ [437, 438, 439, 440, 441, 442, 443, 444, 445, 446, 447, 448, 449, 450, 451, 452, 453, 454, 455, 456, 457, 458, 459, 460] (by decide +kernel) (by decide +kernel)
set_option maxRecDepth 100000 in
theorem ggZL_law_L_plays_r20 : GoodIn wzL_law wsL_plays_r20 := goodIn_r _ [461, 462, 463, 464, 465, 466, 467, 468, 469, 470, 471, 472, 473, 474, 475, 476, 477, 478, 479, 480, 481, 482, 483, 484] (by decide +kernel) (by decide +kernel)
set_option maxRecDepth 100000 in
theorem ggZL_law_L_plays_r21 : GoodIn wzL_law wsL_plays_r21 := goodIn_r _ [485, 486, 487, 488, 489, 490, 491, 492, 493, 494, 495, 496, 497, 498, 499, 500, 501, 502, 503, 504, 505, 506, 507, 508] (by decide +kernel) (by decide +kernel)
set_option maxRecDepth 100000 in
theorem ggZL_law_L_plays_r22 : GoodIn wzL_law wsL_plays_r22 := goodIn_r _ [509, 510, 511, 512, 513, 514, 515, 516, 517, 518, 519, 520, 521, 522, 523, 524, 525, 526, 527, 528, 529, 530, 531, 532] (by decide +kernel) (by decide +kernel)
set_option maxRecDepth 100000 in
theorem ggZL_law_L_plays_r23 : GoodIn wzL_law wsL_plays_r23 := goodIn_r _ [533, 534, 535, 536, 537, 538, 539, 540, 541, 542, 543, 544, 545, 546, 547, 548, 549, 550, 551, 552, 553, 554, 555, 556] (by decide +kernel) (by decide +kernel)
set_option maxRecDepth 100000 in
theorem ggZL_law_L_plays_r24 : GoodIn wzL_law wsL_plays_r24 := goodIn_r _ [557, 558, 559, 560, 561, 562, 563, 564, 565, 566, 567, 568, 569, 570, 571, 572, 573, 574, 575, 576, 577, 578, 579, 580] (by decide +kernel) (by decide +kernel)
set_option maxRecDepth 100000 in
theorem ggZL_law_L_plays_r25 : GoodIn wzL_law wsL_plays_r25 := goodIn_r _ [581, 582, 583, 584, 585, 586, 587, 588, 589, 590, 591, 592, 593, 594, 595, 596, 597, 598, 599, 600, 601, 602, 603, 604] (by decide +kernel) (by decide +kernel)
set_option maxRecDepth 100000 in
theorem ggZL_law_L_plays_r26 : GoodIn wzL_law wsL_plays_r26 := goodIn_r _ [605, 606, 607, 608, 609, 610, 611, 612, 613, 614, 615, 616, 617, 618, 619, 620, 621, 622, 623, 624, 625, 626, 627, 628] (by decide +kernel) (by decide +kernel)
set_option maxRecDepth 100000 in
theorem ggZL_law_L_plays_r27 : GoodIn wzL_law wsL_plays_r27 := goodIn_r _ [629, 630, 631, 632, 633, 634, 635, 636, 637, 638, 639, 640, 641, 642, 643, 644, 645, 646, 647, 648, 649, 650, 651, 652] (by decide +kernel) (by decide +kernel)
set_option maxRecDepth 100000 in
theorem ggZL_law_L_plays_r28 : GoodIn wzL_law wsL_plays_r28 := goodIn_r _ [653, 654, 655, 656, 657, 658, 659, 660, 661, 662, 663, 664, 665, 666, 667, 668, 669, 670, 671, 672, 673, 674, 675, 676] (by decide +kernel) (by decide +kernel)
set_option maxRecDepth 100000 in
theorem ggZL_law_L_plays_r29 : GoodIn wzL_law wsL_plays_r29 := goodIn_r _ [677, 678, 679, 680, 681, 682, 683, 684, 685, 686, 687, 688, 689, 690, 691, 692, 693, 694, 695, 696, 697, 698, 699, 700] (by decide +kernel) (by decide +kernel)
set_option maxRecDepth 100000 in
theorem ggZL_law_L_plays_r30 : GoodIn wzL_law wsL_plays_r30 := goodIn_r _ [701, 702, 703, 704, 705, 706, 707, 708, 709, 710, 711, 712, 713, 714, 715, 716, 717, 718, 719, 720, 721, 722, 723, 724] (by decide +kernel) (by decide +kernel)
set_option maxRecDepth 100000 in
theorem ggZL_law_L_plays_r31 : GoodIn wzL_law wsL_plays_r31 := goodIn_r _ [725, 726, 727, 728, 729, 730, 731, 732, 733, 734, 735, 736, 737, 738, 739, 740, 741, 742, 743, 744, 745, 746, 747, 748] (by decide +kernel) (by decide +kernel)
set_option maxRecDepth 100000 in
theorem ggZL_law_L_plays_r32 : GoodIn wzL_law wsL_plays_r32 := (goodIn_app (goodIn_r [Cond.methodLink RL 185 yX10_longestRun, Cond.instanceMethod yX10_longestRun, Cond.selects RX10 yX10_longestRun yX10_longestRun, Cond.code yX10_longestRun cX10_longestRun 2 (some .int), Cond.methodLink RX10 231 yX10_lengthOfLongestRun, Cond.instanceMethod yX10_lengthOfLongestRun, Cond.selects RX10 yX10_lengthOfLongestRun yX10_lengthOfLongestRun, Cond.code yX10_lengthOfLongestRun cX10_lengthOfLongestRun 5 (some .int), Cond.methodLink RX10 280 Lib.Math.max.name, Cond.methodLink RL 188 yX10_wrongPairs, Cond.instanceMethod yX10_wrongPairs, Cond.selects RX10 yX10_wrongPairs yX10_wrongPairs, Cond.code yX10_wrongPairs cX10_wrongPairs 2 (some .int), Cond.methodLink RL 226 yL_moves, Cond.static yL_moves] [749, 750, 751, 752, 753, 754, 755, 756, 757, 758, 759, 760, 761, 762, 763] (by decide +kernel) (by decide +kernel)) (goodIn_app (goodIn_w9 (c := Cond.code yL_moves cL_moves 14 (some .boolean)) (i := 764) (by rfl) (by decide +kernel)) (goodIn_r [Cond.methodLink RL 230 yL_sortsAll, Cond.static yL_sortsAll, Cond.code yL_sortsAll cL_sortsAll 11 (some .boolean), Cond.methodLink RL 198 yX10_sortAll, Cond.instanceMethod yX10_sortAll, Cond.selects RX10 yX10_sortAll yX10_sortAll, Cond.code yX10_sortAll cX10_sortAll 4 (some .int), Cond.methodLink RL 234 yL_isBoth] [765, 766, 767, 768, 769, 770, 771, 772] (by decide +kernel) (by decide +kernel))))
set_option maxRecDepth 100000 in
theorem ggZL_law_L_plays_r33 : GoodIn wzL_law wsL_plays_r33 := goodIn_r _ [773, 774, 775, 776, 777, 778, 779, 780, 781, 782, 783, 784, 785, 786, 787, 788, 789, 790, 791, 792, 793, 794, 795, 796] (by decide +kernel) (by decide +kernel)
set_option maxRecDepth 100000 in
theorem ggZL_law_L_plays_r34 : GoodIn wzL_law wsL_plays_r34 := goodIn_r _ [797, 798, 799, 800, 801, 802, 803] (by decide +kernel) (by decide +kernel)
set_option maxRecDepth 100000 in
theorem ggZL_law_L_plays_wsX100 : GoodIn wzL_law wsX100 := goodIn_r _ [804, 805, 806, 807, 808, 809, 810, 811, 812, 813] (by decide +kernel) (by decide +kernel)
set_option maxRecDepth 100000 in
theorem ggZL_law_L_plays_wsX10 : GoodIn wzL_law wsX10 := goodIn_r _ [814, 815, 816] (by decide +kernel) (by decide +kernel)
set_option maxRecDepth 100000 in
theorem ggZL_law_L_plays_wsX60 : GoodIn wzL_law wsX60 := goodIn_r _ [817, 818] (by decide +kernel) (by decide +kernel)
set_option maxRecDepth 100000 in
theorem ggZL_law_L_plays_wsX80 : GoodIn wzL_law wsX80 := goodIn_r _ [819, 820, 821, 822] (by decide +kernel) (by decide +kernel)
set_option maxRecDepth 100000 in
theorem ggZL_law_L_plays_wsX90 : GoodIn wzL_law wsX90 := goodIn_r _ [823, 824, 825, 826] (by decide +kernel) (by decide +kernel)
set_option maxRecDepth 100000 in
theorem ggZL_law_L_plays_wsX50 : GoodIn wzL_law wsX50 := goodIn_r _ [827, 828, 829] (by decide +kernel) (by decide +kernel)
set_option maxRecDepth 100000 in
theorem ggZL_law_L_plays_wsX20 : GoodIn wzL_law wsX20 := goodIn_r _ [830] (by decide +kernel) (by decide +kernel)
set_option maxRecDepth 100000 in
theorem ggZL_law_L_plays_wsX70 : GoodIn wzL_law wsX70 := goodIn_r _ [831, 832, 833, 834, 835, 836] (by decide +kernel) (by decide +kernel)
set_option maxRecDepth 100000 in
theorem ggZL_law_L_plays_wsJ40 : GoodIn wzL_law wsJ40 := goodIn_r _ [837, 838, 839, 840] (by decide +kernel) (by decide +kernel)
set_option maxRecDepth 100000 in
theorem ggZL_law_L_plays_wsJ00 : GoodIn wzL_law wsJ00 := goodIn_r _ [841, 842, 843, 844] (by decide +kernel) (by decide +kernel)
set_option maxRecDepth 100000 in
theorem ggZL_law_L_plays : GoodIn wzL_law wzL_plays := goodIn_ca (goodIn_ca (goodIn_ca (goodIn_ca ((goodIn_c9 (goodIn_r _ [7] (by decide +kernel) (by decide +kernel)) (goodIn_app (goodIn_app (goodIn_app (goodIn_app (goodIn_app (goodIn_app (goodIn_app (goodIn_app (goodIn_app (goodIn_app (goodIn_app ggZL_law_L_plays_r1 (goodIn_app ggZL_law_L_plays_r2 (goodIn_app ggZL_law_L_plays_r3 (goodIn_app ggZL_law_L_plays_r4 (goodIn_app ggZL_law_L_plays_r5 (goodIn_app ggZL_law_L_plays_r6 (goodIn_app ggZL_law_L_plays_r7 (goodIn_app ggZL_law_L_plays_r8 (goodIn_app ggZL_law_L_plays_r9 (goodIn_app ggZL_law_L_plays_r10 (goodIn_app ggZL_law_L_plays_r11 (goodIn_app ggZL_law_L_plays_r12 (goodIn_app ggZL_law_L_plays_r13 (goodIn_app ggZL_law_L_plays_r14 (goodIn_app ggZL_law_L_plays_r15 (goodIn_app ggZL_law_L_plays_r16 (goodIn_app ggZL_law_L_plays_r17 (goodIn_app ggZL_law_L_plays_r18 (goodIn_app ggZL_law_L_plays_r19 (goodIn_app ggZL_law_L_plays_r20 (goodIn_app ggZL_law_L_plays_r21 (goodIn_app ggZL_law_L_plays_r22 (goodIn_app ggZL_law_L_plays_r23 (goodIn_app ggZL_law_L_plays_r24 (goodIn_app ggZL_law_L_plays_r25 (goodIn_app ggZL_law_L_plays_r26 (goodIn_app ggZL_law_L_plays_r27 (goodIn_app ggZL_law_L_plays_r28 (goodIn_app ggZL_law_L_plays_r29 (goodIn_app ggZL_law_L_plays_r30 (goodIn_app ggZL_law_L_plays_r31 (goodIn_app ggZL_law_L_plays_r32 (goodIn_app ggZL_law_L_plays_r33 (ggZL_law_L_plays_r34)))))))))))))))))))))))))))))))))) ggZL_law_L_plays_wsX100) ggZL_law_L_plays_wsX10) ggZL_law_L_plays_wsX60) ggZL_law_L_plays_wsX80) ggZL_law_L_plays_wsX90) ggZL_law_L_plays_wsX50) ggZL_law_L_plays_wsX20) ggZL_law_L_plays_wsX70) ggZL_law_L_plays_wsJ40) ggZL_law_L_plays_wsJ00))) (goodIn_sub (fun _ h => List.mem_append_left _ (List.mem_append_left _ (List.mem_append_left _ (List.mem_append_right _ h)))) (by decide +kernel))) (goodIn_sub (fun _ h => List.mem_append_left _ (List.mem_append_left _ (List.mem_append_right _ h))) (by decide +kernel))) (goodIn_sub (fun _ h => List.mem_append_left _ (List.mem_append_right _ h)) (by decide +kernel))) (goodIn_sub (fun _ h => List.mem_append_right _ h) (by decide +kernel))
set_option maxRecDepth 100000 in
theorem gZL_law_L_plays : GoodIn wzL_law (va_wsS RL 247 yL_plays wzL_plays) := goodIn_app (goodIn_of _ (by decide +kernel)) ggZL_law_L_plays
set_option maxRecDepth 100000 in
theorem wzL_law_x3 : ∀ w ∈ [Cond.classLink RX10 244 "java/util/NoSuchElementException", Cond.initialized "java/util/NoSuchElementException"] ++ zGood13, w ∈ lw_tbl := by decide +kernel
theorem wzL_law_in : ∀ w ∈ wzL_law, w ∈ lwx_tbl := List.forall_mem_append.mpr ⟨List.forall_mem_append.mpr ⟨List.forall_mem_append.mpr ⟨List.forall_mem_append.mpr ⟨wsL_law_in0, fun w h => List.mem_append_right _ (wsL_law_x0 w h)⟩, fun w h => List.mem_append_right _ (wsL_law_x1 w h)⟩, fun w h => List.mem_append_right _ (wsL_law_x2 w h)⟩, fun w h => List.mem_append_right _ (wzL_law_x3 w h)⟩
