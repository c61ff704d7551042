set_option maxRecDepth 100000 in
theorem wsL_law_in0_r15 : ∀ w ∈ wsL_law0_r15, w ∈ lw_tbl := fun w h => (goodIn_r wsL_law0_r15 [570, 578, 579, 580, 581, 96, 582, 584, 1, 585, 586, 51, 602, 603, 604, 605, 606, 607, 608, 609, 129, 610, 611, 612] (by decide +kernel) (by decide +kernel) w h).1
set_option maxRecDepth 100000 in
theorem wsL_law_in0_r16 : ∀ w ∈ wsL_law0_r16, w ∈ lw_tbl := fun w h => (goodIn_r wsL_law0_r16 [613, 614, 615, 616, 617, 618, 619, 620, 621, 622, 623, 624, 625, 626, 627, 628, 629, 630, 631, 632, 633, 634, 635, 636] (by decide +kernel) (by decide +kernel) w h).1
set_option maxRecDepth 100000 in
theorem wsL_law_in0_r17 : ∀ w ∈ wsL_law0_r17, w ∈ lw_tbl := fun w h => (goodIn_r wsL_law0_r17 [637, 638, 642, 52, 639, 640, 641, 658, 659, 660, 661, 130, 662, 663, 664, 665, 666, 667, 668, 669, 187, 131, 670, 671] (by decide +kernel) (by decide +kernel) w h).1
set_option maxRecDepth 100000 in
theorem wsL_law_in0_r18 : ∀ w ∈ wsL_law0_r18, w ∈ lw_tbl := fun w h => (goodIn_r wsL_law0_r18 [672, 673, 133, 674, 675, 676, 677, 132, 678, 679, 680, 681, 682, 683, 684, 685, 687, 2, 688, 689, 691, 3, 692, 693] (by decide +kernel) (by decide +kernel) w h).1
set_option maxRecDepth 100000 in
theorem wsL_law_in0_r19 : ∀ w ∈ wsL_law0_r19, w ∈ lw_tbl := fun w h => (goodIn_r wsL_law0_r19 [1109, 160, 695, 697, 4, 698, 699, 700, 701, 702, 703, 704, 705, 706, 708, 5, 709, 161, 710, 712, 6, 713, 714, 715] (by decide +kernel) (by decide +kernel) w h).1
set_option maxRecDepth 100000 in
theorem wsL_law_in0_r20 : ∀ w ∈ wsL_law0_r20, w ∈ lw_tbl := fun w h => (goodIn_r wsL_law0_r20 [716, 717, 718, 719, 721, 7, 722, 164, 724, 726, 8, 727, 1110, 166, 728, 730, 9, 731, 1111, 168, 732, 734, 10, 735] (by decide +kernel) (by decide +kernel) w h).1
set_option maxRecDepth 100000 in
theorem wsL_law_in0_r21 : ∀ w ∈ wsL_law0_r21, w ∈ lw_tbl := fun w h => (goodIn_r wsL_law0_r21 [170, 738, 739, 740, 741, 742, 743, 744, 745, 746, 747, 188, 186, 749, 750, 751, 752, 753, 754, 755, 757, 759, 11, 760] (by decide +kernel) (by decide +kernel) w h).1
set_option maxRecDepth 100000 in
theorem wsL_law_in0_r22 : ∀ w ∈ wsL_law0_r22, w ∈ lw_tbl := fun w h => (goodIn_r wsL_law0_r22 [76, 762, 764, 12, 765, 162, 766, 767, 768, 769, 770, 163, 165, 167, 772, 773, 775, 776, 32, 777, 1112, 779, 780, 781] (by decide +kernel) (by decide +kernel) w h).1
set_option maxRecDepth 100000 in
theorem wsL_law_in0_r23 : ∀ w ∈ wsL_law0_r23, w ∈ lw_tbl := fun w h => (goodIn_r wsL_law0_r23 [782, 783, 784, 785, 787, 788, 789, 790, 169, 791, 792, 793, 794, 75, 795, 796, 797, 798, 95, 799, 800, 801, 802, 803] (by decide +kernel) (by decide +kernel) w h).1
set_option maxRecDepth 100000 in
theorem wsL_law_in0_r24 : ∀ w ∈ wsL_law0_r24, w ∈ lw_tbl := fun w h => (goodIn_r wsL_law0_r24 [804, 805, 806, 807, 808, 810, 812, 13, 813, 814, 816, 14, 817, 818, 819, 820, 821, 112, 822, 823, 824, 825, 93, 826] (by decide +kernel) (by decide +kernel) w h).1
set_option maxRecDepth 100000 in
theorem wsL_law_in0_r25 : ∀ w ∈ wsL_law0_r25, w ∈ lw_tbl := fun w h => (goodIn_r wsL_law0_r25 [827, 828, 829, 830, 831, 833, 15, 834, 835, 837, 16, 838, 843, 839, 840, 841, 842, 845, 846, 847, 848, 849, 850, 851] (by decide +kernel) (by decide +kernel) w h).1
set_option maxRecDepth 100000 in
theorem wsL_law_in0_r26 : ∀ w ∈ wsL_law0_r26, w ∈ lw_tbl := fun w h => (goodIn_r wsL_law0_r26 [852, 853, 854, 855, 856, 857, 858, 859, 860, 861, 862, 864, 50, 867, 868, 869, 870, 872, 874, 875, 876, 877, 878, 880] (by decide +kernel) (by decide +kernel) w h).1
set_option maxRecDepth 100000 in
theorem wsL_law_in0_r27 : ∀ w ∈ wsL_law0_r27, w ∈ lw_tbl := fun w h => (goodIn_r wsL_law0_r27 [881, 882, 883, 884, 886, 887, 888, 889, 94, 890, 891, 892, 894, 895, 896, 897, 898, 899, 900, 901, 902, 903, 904, 905] (by decide +kernel) (by decide +kernel) w h).1
set_option maxRecDepth 100000 in
theorem wsL_law_in0_r28 : ∀ w ∈ wsL_law0_r28, w ∈ lw_tbl := fun w h => (goodIn_r wsL_law0_r28 [906, 907, 908, 909, 910, 911, 912, 914, 915, 916, 917, 918, 919, 920, 921, 922, 923, 924, 925, 926, 927, 928, 929, 930] (by decide +kernel) (by decide +kernel) w h).1
