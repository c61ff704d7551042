set_option maxRecDepth 100000 in
theorem wsL_law_in0_r15 : ∀ w ∈ wsL_law0_r15, w ∈ lw_tbl := fun w h => (goodIn_r wsL_law0_r15 [1079, 1081, 34, 1082, 562, 563, 564, 565, 566, 567, 568, 569, 206, 204, 570, 572, 18, 573, 574, 70, 591, 592, 593, 594] (by decide +kernel) (by decide +kernel) w h).1
set_option maxRecDepth 100000 in
theorem wsL_law_in0_r16 : ∀ w ∈ wsL_law0_r16, w ∈ lw_tbl := fun w h => (goodIn_r wsL_law0_r16 [595, 596, 597, 114, 599, 601, 19, 602, 94, 604, 606, 20, 607, 180, 608, 609, 610, 611, 612, 181, 183, 185, 614, 615] (by decide +kernel) (by decide +kernel) w h).1
set_option maxRecDepth 100000 in
theorem wsL_law_in0_r17 : ∀ w ∈ wsL_law0_r17, w ∈ lw_tbl := fun w h => (goodIn_r wsL_law0_r17 [616, 425, 58, 426, 1311, 618, 619, 620, 621, 622, 623, 624, 626, 627, 628, 629, 187, 630, 631, 632, 633, 93, 634, 635] (by decide +kernel) (by decide +kernel) w h).1
set_option maxRecDepth 100000 in
theorem wsL_law_in0_r18 : ∀ w ∈ wsL_law0_r18, w ∈ lw_tbl := fun w h => (goodIn_r wsL_law0_r18 [636, 637, 113, 638, 639, 640, 641, 451, 453, 452, 72, 1083, 1084, 1085, 1086, 933, 1087, 1088, 1089, 1090, 1092, 35, 1093, 1094] (by decide +kernel) (by decide +kernel) w h).1
set_option maxRecDepth 100000 in
theorem wsL_law_in0_r19 : ∀ w ∈ wsL_law0_r19, w ∈ lw_tbl := fun w h => (goodIn_r wsL_law0_r19 [1096, 36, 1097, 1098, 1099, 1101, 37, 1102, 642, 643, 644, 645, 646, 647, 648, 650, 1103, 1104, 1105, 1106, 382, 383, 384, 385] (by decide +kernel) (by decide +kernel) w h).1
set_option maxRecDepth 100000 in
theorem wsL_law_in0_r20 : ∀ w ∈ wsL_law0_r20, w ∈ lw_tbl := fun w h => (goodIn_r wsL_law0_r20 [221, 1107, 1108, 1109, 1110, 651, 652, 653, 654, 655, 656, 657, 398, 658, 660, 21, 661, 454, 456, 12, 457, 390, 391, 392] (by decide +kernel) (by decide +kernel) w h).1
set_option maxRecDepth 100000 in
theorem wsL_law_in0_r21 : ∀ w ∈ wsL_law0_r21, w ∈ lw_tbl := fun w h => (goodIn_r wsL_law0_r21 [393, 130, 394, 395, 396, 397, 111, 400, 401, 402, 403, 404, 405, 74, 406, 407, 409, 9, 410, 411, 413, 10, 414, 419] (by decide +kernel) (by decide +kernel) w h).1
set_option maxRecDepth 100000 in
theorem wsL_law_in0_r22 : ∀ w ∈ wsL_law0_r22, w ∈ lw_tbl := fun w h => (goodIn_r wsL_law0_r22 [415, 416, 417, 418, 421, 422, 424, 427, 428, 429, 430, 431, 432, 433, 434, 1111, 1112, 1113, 1114, 1115, 1117, 38, 1118, 1119] (by decide +kernel) (by decide +kernel) w h).1
set_option maxRecDepth 100000 in
theorem wsL_law_in0_r23 : ∀ w ∈ wsL_law0_r23, w ∈ lw_tbl := fun w h => (goodIn_r wsL_law0_r23 [1121, 39, 1122, 1123, 1125, 40, 1126, 386, 387, 388, 389, 1127, 1128, 1129, 1130, 662, 663, 664, 665, 666, 667, 668, 669, 670] (by decide +kernel) (by decide +kernel) w h).1
set_option maxRecDepth 100000 in
theorem wsL_law_in0_r24 : ∀ w ∈ wsL_law0_r24, w ∈ lw_tbl := fun w h => (goodIn_r wsL_law0_r24 [671, 672, 674, 75, 1131, 1132, 1133, 1134, 1135, 1137, 41, 1138, 690, 691, 692, 693, 694, 695, 696, 698, 1139, 1140, 1141, 1142] (by decide +kernel) (by decide +kernel) w h).1
set_option maxRecDepth 100000 in
theorem wsL_law_in0_r25 : ∀ w ∈ wsL_law0_r25, w ∈ lw_tbl := fun w h => (goodIn_r wsL_law0_r25 [700, 701, 702, 703, 704, 705, 706, 475, 1143, 1144, 1145, 1146, 707, 708, 709, 710, 711, 712, 713, 477, 1147, 1148, 1149, 1150] (by decide +kernel) (by decide +kernel) w h).1
set_option maxRecDepth 100000 in
theorem wsL_law_in0_r26 : ∀ w ∈ wsL_law0_r26, w ∈ lw_tbl := fun w h => (goodIn_r wsL_law0_r26 [714, 715, 716, 717, 718, 719, 720, 112, 721, 722, 723, 1151, 1152, 1153, 1154, 725, 726, 727, 728, 729, 730, 731, 1155, 1156] (by decide +kernel) (by decide +kernel) w h).1
set_option maxRecDepth 100000 in
theorem wsL_law_in0_r27 : ∀ w ∈ wsL_law0_r27, w ∈ lw_tbl := fun w h => (goodIn_r wsL_law0_r27 [1157, 1158, 732, 733, 734, 735, 736, 737, 738, 739, 740, 741, 742, 1159, 1160, 1161, 1162, 743, 744, 745, 746, 747, 748, 749] (by decide +kernel) (by decide +kernel) w h).1
set_option maxRecDepth 100000 in
theorem wsL_law_in0_r28 : ∀ w ∈ wsL_law0_r28, w ∈ lw_tbl := fun w h => (goodIn_r wsL_law0_r28 [750, 751, 752, 753, 754, 755, 756, 1163, 1164, 1165, 1166, 1167, 1169, 42, 1170, 757, 758, 759, 760, 761, 762, 763, 764, 1171] (by decide +kernel) (by decide +kernel) w h).1
