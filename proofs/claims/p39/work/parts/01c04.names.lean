set_option maxRecDepth 100000 in
theorem wsL_law_in0_r15 : ∀ w ∈ wsL_law0_r15, w ∈ lwx_tbl := fun w h => (goodIn_r wsL_law0_r15 [576, 584, 585, 586, 587, 102, 588, 590, 7, 591, 592, 57, 608, 609, 610, 611, 612, 613, 614, 615, 135, 616, 617, 618] (by decide +kernel) (by decide +kernel) w h).1
set_option maxRecDepth 100000 in
theorem wsL_law_in0_r16 : ∀ w ∈ wsL_law0_r16, w ∈ lwx_tbl := fun w h => (goodIn_r wsL_law0_r16 [619, 620, 621, 622, 623, 624, 625, 626, 627, 628, 629, 630, 631, 632, 633, 634, 635, 636, 637, 638, 639, 640, 641, 642] (by decide +kernel) (by decide +kernel) w h).1
set_option maxRecDepth 100000 in
theorem wsL_law_in0_r17 : ∀ w ∈ wsL_law0_r17, w ∈ lwx_tbl := fun w h => (goodIn_r wsL_law0_r17 [643, 644, 648, 58, 645, 646, 647, 664, 665, 666, 667, 136, 668, 669, 670, 671, 672, 673, 674, 675, 193, 137, 676, 677] (by decide +kernel) (by decide +kernel) w h).1
set_option maxRecDepth 100000 in
theorem wsL_law_in0_r18 : ∀ w ∈ wsL_law0_r18, w ∈ lwx_tbl := fun w h => (goodIn_r wsL_law0_r18 [678, 679, 139, 680, 681, 682, 683, 138, 684, 685, 686, 687, 688, 689, 690, 691, 693, 8, 694, 695, 697, 9, 698, 699] (by decide +kernel) (by decide +kernel) w h).1
set_option maxRecDepth 100000 in
theorem wsL_law_in0_r19 : ∀ w ∈ wsL_law0_r19, w ∈ lwx_tbl := fun w h => (goodIn_r wsL_law0_r19 [1115, 166, 701, 703, 10, 704, 705, 706, 707, 708, 709, 710, 711, 712, 714, 11, 715, 167, 716, 718, 12, 719, 720, 721] (by decide +kernel) (by decide +kernel) w h).1
set_option maxRecDepth 100000 in
theorem wsL_law_in0_r20 : ∀ w ∈ wsL_law0_r20, w ∈ lwx_tbl := fun w h => (goodIn_r wsL_law0_r20 [722, 723, 724, 725, 727, 13, 728, 170, 730, 732, 14, 733, 1116, 172, 734, 736, 15, 737, 1117, 174, 738, 740, 16, 741] (by decide +kernel) (by decide +kernel) w h).1
set_option maxRecDepth 100000 in
theorem wsL_law_in0_r21 : ∀ w ∈ wsL_law0_r21, w ∈ lwx_tbl := fun w h => (goodIn_r wsL_law0_r21 [176, 744, 745, 746, 747, 748, 749, 750, 751, 752, 753, 194, 192, 755, 756, 757, 758, 759, 760, 761, 763, 765, 17, 766] (by decide +kernel) (by decide +kernel) w h).1
set_option maxRecDepth 100000 in
theorem wsL_law_in0_r22 : ∀ w ∈ wsL_law0_r22, w ∈ lwx_tbl := fun w h => (goodIn_r wsL_law0_r22 [82, 768, 770, 18, 771, 168, 772, 773, 774, 775, 776, 169, 171, 173, 778, 779, 781, 782, 38, 783, 1118, 785, 786, 787] (by decide +kernel) (by decide +kernel) w h).1
set_option maxRecDepth 100000 in
theorem wsL_law_in0_r23 : ∀ w ∈ wsL_law0_r23, w ∈ lwx_tbl := fun w h => (goodIn_r wsL_law0_r23 [788, 789, 790, 791, 793, 794, 795, 796, 175, 797, 798, 799, 800, 81, 801, 802, 803, 804, 101, 805, 806, 807, 808, 809] (by decide +kernel) (by decide +kernel) w h).1
set_option maxRecDepth 100000 in
theorem wsL_law_in0_r24 : ∀ w ∈ wsL_law0_r24, w ∈ lwx_tbl := fun w h => (goodIn_r wsL_law0_r24 [810, 811, 812, 813, 814, 816, 818, 19, 819, 820, 822, 20, 823, 824, 825, 826, 827, 118, 828, 829, 830, 831, 99, 832] (by decide +kernel) (by decide +kernel) w h).1
set_option maxRecDepth 100000 in
theorem wsL_law_in0_r25 : ∀ w ∈ wsL_law0_r25, w ∈ lwx_tbl := fun w h => (goodIn_r wsL_law0_r25 [833, 834, 835, 836, 837, 839, 21, 840, 841, 843, 22, 844, 849, 845, 846, 847, 848, 851, 852, 853, 854, 855, 856, 857] (by decide +kernel) (by decide +kernel) w h).1
set_option maxRecDepth 100000 in
theorem wsL_law_in0_r26 : ∀ w ∈ wsL_law0_r26, w ∈ lwx_tbl := fun w h => (goodIn_r wsL_law0_r26 [858, 859, 860, 861, 862, 863, 864, 865, 866, 867, 868, 870, 56, 873, 874, 875, 876, 878, 880, 881, 882, 883, 884, 886] (by decide +kernel) (by decide +kernel) w h).1
set_option maxRecDepth 100000 in
theorem wsL_law_in0_r27 : ∀ w ∈ wsL_law0_r27, w ∈ lwx_tbl := fun w h => (goodIn_r wsL_law0_r27 [887, 888, 889, 890, 892, 893, 894, 895, 100, 896, 897, 898, 900, 901, 902, 903, 904, 905, 906, 907, 908, 909, 910, 911] (by decide +kernel) (by decide +kernel) w h).1
set_option maxRecDepth 100000 in
theorem wsL_law_in0_r28 : ∀ w ∈ wsL_law0_r28, w ∈ lwx_tbl := fun w h => (goodIn_r wsL_law0_r28 [912, 913, 914, 915, 916, 917, 918, 920, 921, 922, 923, 924, 925, 926, 927, 928, 929, 930, 931, 932, 933, 934, 935, 936] (by decide +kernel) (by decide +kernel) w h).1
