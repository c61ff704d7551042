set_option maxRecDepth 100000 in
theorem wsL_law_in0_r29 : ∀ w ∈ wsL_law0_r29, w ∈ lw_tbl := fun w h => (goodIn_r wsL_law0_r29 [1172, 1173, 1174, 765, 766, 767, 768, 769, 770, 771, 474, 1175, 1176, 1177, 1178, 772, 773, 774, 775, 776, 777, 778, 1179, 1180] (by decide +kernel) (by decide +kernel) w h).1
set_option maxRecDepth 100000 in
theorem wsL_law_in0_r30 : ∀ w ∈ wsL_law0_r30, w ∈ lw_tbl := fun w h => (goodIn_r wsL_law0_r30 [1181, 1182, 779, 780, 781, 782, 783, 784, 785, 443, 444, 445, 446, 447, 448, 449, 450, 1183, 1184, 1185, 1186, 786, 787, 788] (by decide +kernel) (by decide +kernel) w h).1
set_option maxRecDepth 100000 in
theorem wsL_law_in0_r31 : ∀ w ∈ wsL_law0_r31, w ∈ lw_tbl := fun w h => (goodIn_r wsL_law0_r31 [789, 790, 791, 792, 1187, 1188, 1189, 1190, 1191, 1192, 1193, 1194, 1195, 1196, 794, 795, 796, 797, 798, 799, 800, 1197, 1198, 1199] (by decide +kernel) (by decide +kernel) w h).1
set_option maxRecDepth 100000 in
theorem wsL_law_in0_r32 : ∀ w ∈ wsL_law0_r32, w ∈ lw_tbl := fun w h => (goodIn_r wsL_law0_r32 [1200, 801, 802, 803, 804, 805, 806, 807, 1201, 1202, 1203, 1204, 809, 810, 811, 812, 813, 814, 815, 1205, 1206, 1207, 1208, 816] (by decide +kernel) (by decide +kernel) w h).1
set_option maxRecDepth 100000 in
theorem wsL_law_in0_r33 : ∀ w ∈ wsL_law0_r33, w ∈ lw_tbl := fun w h => (goodIn_r wsL_law0_r33 [817, 818, 819, 820, 821, 822, 458, 460, 13, 461, 462, 464, 14, 465, 466, 468, 15, 469, 470, 472, 16, 473, 1209, 1210] (by decide +kernel) (by decide +kernel) w h).1
set_option maxRecDepth 100000 in
theorem wsL_law_in0_r34 : ∀ w ∈ wsL_law0_r34, w ∈ lw_tbl := fun w h => (goodIn_r wsL_law0_r34 [1211, 1212, 1213, 1215, 43, 1216, 1217, 1219, 44, 1220, 1221, 1223, 45, 1224, 824, 825, 826, 827, 828, 829, 830, 1225, 1226, 1227] (by decide +kernel) (by decide +kernel) w h).1
set_option maxRecDepth 100000 in
theorem wsL_law_in0_r35 : ∀ w ∈ wsL_law0_r35, w ∈ lw_tbl := fun w h => (goodIn_r wsL_law0_r35 [1228, 831, 832, 833, 834, 835, 836, 837, 1229, 1230, 1231, 1232, 838, 839, 840, 841, 842, 843, 844, 845, 847, 22, 848, 849] (by decide +kernel) (by decide +kernel) w h).1
set_option maxRecDepth 100000 in
theorem wsL_law_in0_r36 : ∀ w ∈ wsL_law0_r36, w ∈ lw_tbl := fun w h => (goodIn_r wsL_law0_r36 [1233, 1234, 1235, 1236, 1237, 1239, 46, 1240, 850, 851, 852, 853, 854, 855, 856, 857, 859, 23, 860, 1241, 1242, 1243, 1244, 861] (by decide +kernel) (by decide +kernel) w h).1
set_option maxRecDepth 100000 in
theorem wsL_law_in0_r37 : ∀ w ∈ wsL_law0_r37, w ∈ lw_tbl := fun w h => (goodIn_r wsL_law0_r37 [862, 863, 864, 865, 866, 867, 868, 869, 870, 871, 1245, 1246, 1247, 1248, 872, 873, 874, 875, 876, 877, 878, 1249, 1250, 1251] (by decide +kernel) (by decide +kernel) w h).1
set_option maxRecDepth 100000 in
theorem wsL_law_in0_r38 : ∀ w ∈ wsL_law0_r38, w ∈ lw_tbl := fun w h => (goodIn_r wsL_law0_r38 [1252, 879, 880, 881, 882, 883, 884, 885, 886, 1253, 1254, 1255, 1256, 887, 888, 889, 890, 891, 892, 893, 894, 895, 76, 1257] (by decide +kernel) (by decide +kernel) w h).1
set_option maxRecDepth 100000 in
theorem wsL_law_in0_r39 : ∀ w ∈ wsL_law0_r39, w ∈ lw_tbl := fun w h => (goodIn_r wsL_law0_r39 [1258, 1259, 1260, 911, 912, 913, 914, 915, 916, 917, 1261, 1262, 1263, 1264, 918, 919, 920, 921, 922, 923, 924, 1265, 1266, 1267] (by decide +kernel) (by decide +kernel) w h).1
set_option maxRecDepth 100000 in
theorem wsL_law_in0_r40 : ∀ w ∈ wsL_law0_r40, w ∈ lw_tbl := fun w h => (goodIn_r wsL_law0_r40 [1268, 435, 436, 437, 438, 439, 441, 11, 442, 1269, 1270, 1271, 1272, 1273, 1275, 47, 1276, 1277, 1279, 48, 1280, 1281, 1283, 49] (by decide +kernel) (by decide +kernel) w h).1
set_option maxRecDepth 100000 in
theorem wsL_law_in0_r41 : ∀ w ∈ wsL_law0_r41, w ∈ lw_tbl := fun w h => (goodIn_r wsL_law0_r41 [1284] (by decide +kernel) (by decide +kernel) w h).1
set_option maxRecDepth 100000 in
theorem inTX10 : ∀ w ∈ wsX100, w ∈ lw_tbl := fun w h => (goodIn_r wsX100 [235, 237, 239, 241, 243, 245, 247, 249, 251, 253] (by decide +kernel) (by decide +kernel) w h).1
