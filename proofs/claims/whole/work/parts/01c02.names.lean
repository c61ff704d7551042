set_option maxRecDepth 100000 in
theorem wsL_law_in0_r1 : ∀ w ∈ wsL_law0_r1, w ∈ lw_tbl := fun w h => (goodIn_r wsL_law0_r1 [77, 78, 51, 925, 926, 61, 1286, 1287, 1285, 79, 80, 81, 82, 83, 84, 85, 86, 52, 225, 103, 226, 227, 120, 228] (by decide +kernel) (by decide +kernel) w h).1
set_option maxRecDepth 100000 in
theorem wsL_law_in0_r2 : ∀ w ∈ wsL_law0_r2, w ∈ lw_tbl := fun w h => (goodIn_r wsL_law0_r2 [105, 53, 229, 230, 121, 122, 54, 231, 140, 141, 55, 232, 162, 163, 56, 233, 214, 215, 60, 234, 88, 89, 90, 102] (by decide +kernel) (by decide +kernel) w h).1
set_option maxRecDepth 100000 in
theorem wsL_law_in0_r3 : ∀ w ∈ wsL_law0_r3, w ∈ lw_tbl := fun w h => (goodIn_r wsL_law0_r3 [91, 92, 107, 108, 109, 110, 123, 124, 125, 126, 128, 129, 127, 143, 144, 145, 161, 146, 164, 165, 166, 167, 168, 203] (by decide +kernel) (by decide +kernel) w h).1
set_option maxRecDepth 100000 in
theorem wsL_law_in0_r4 : ∀ w ∈ wsL_law0_r4, w ∈ lw_tbl := fun w h => (goodIn_r wsL_law0_r4 [202, 170, 57, 172, 173, 174, 175, 177, 217, 218, 219, 220, 927, 928, 929, 930, 931, 932, 934, 935, 936, 937, 938, 940] (by decide +kernel) (by decide +kernel) w h).1
set_option maxRecDepth 100000 in
theorem wsL_law_in0_r5 : ∀ w ∈ wsL_law0_r5, w ∈ lw_tbl := fun w h => (goodIn_r wsL_law0_r5 [942, 943, 949, 950, 951, 952, 953, 954, 956, 957, 479, 480, 50, 481, 482, 483, 484, 485, 486, 490, 65, 147, 487, 488] (by decide +kernel) (by decide +kernel) w h).1
set_option maxRecDepth 100000 in
theorem wsL_law_in0_r6 : ∀ w ∈ wsL_law0_r6, w ∈ lw_tbl := fun w h => (goodIn_r wsL_law0_r6 [489, 558, 559, 560, 561, 148, 1017, 1018, 1019, 1020, 1021, 939, 1022, 1024, 24, 1025, 941, 1026, 1028, 25, 1029, 1013, 1014, 1015] (by decide +kernel) (by decide +kernel) w h).1
set_option maxRecDepth 100000 in
theorem wsL_law_in0_r7 : ∀ w ∈ wsL_law0_r7, w ∈ lw_tbl := fun w h => (goodIn_r wsL_law0_r7 [1016, 256, 257, 258, 259, 1030, 1031, 1032, 1033, 260, 261, 262, 263, 264, 265, 266, 267, 205, 149, 268, 269, 270, 271, 151] (by decide +kernel) (by decide +kernel) w h).1
set_option maxRecDepth 100000 in
theorem wsL_law_in0_r8 : ∀ w ∈ wsL_law0_r8, w ∈ lw_tbl := fun w h => (goodIn_r wsL_law0_r8 [272, 273, 274, 275, 150, 276, 277, 278, 279, 280, 281, 282, 283, 285, 0, 286, 287, 289, 1, 290, 291, 1306, 178, 293] (by decide +kernel) (by decide +kernel) w h).1
set_option maxRecDepth 100000 in
theorem wsL_law_in0_r9 : ∀ w ∈ wsL_law0_r9, w ∈ lw_tbl := fun w h => (goodIn_r wsL_law0_r9 [295, 2, 296, 297, 298, 299, 300, 301, 302, 303, 66, 304, 1307, 305, 306, 307, 308, 309, 1308, 311, 312, 313, 314, 315] (by decide +kernel) (by decide +kernel) w h).1
set_option maxRecDepth 100000 in
theorem wsL_law_in0_r10 : ∀ w ∈ wsL_law0_r10, w ∈ lw_tbl := fun w h => (goodIn_r wsL_law0_r10 [316, 317, 318, 319, 320, 67, 321, 322, 323, 324, 325, 327, 328, 68, 329, 330, 331, 69, 332, 333, 334, 335, 336, 337] (by decide +kernel) (by decide +kernel) w h).1
set_option maxRecDepth 100000 in
theorem wsL_law_in0_r11 : ∀ w ∈ wsL_law0_r11, w ∈ lw_tbl := fun w h => (goodIn_r wsL_law0_r11 [338, 339, 340, 341, 342, 343, 345, 347, 349, 350, 352, 3, 353, 179, 354, 356, 4, 357, 358, 359, 360, 361, 362, 363] (by decide +kernel) (by decide +kernel) w h).1
set_option maxRecDepth 100000 in
theorem wsL_law_in0_r12 : ∀ w ∈ wsL_law0_r12, w ∈ lw_tbl := fun w h => (goodIn_r wsL_law0_r12 [365, 5, 366, 182, 368, 370, 6, 371, 1309, 184, 372, 374, 7, 375, 1310, 186, 376, 378, 8, 379, 188, 1034, 1035, 1036] (by decide +kernel) (by decide +kernel) w h).1
set_option maxRecDepth 100000 in
theorem wsL_law_in0_r13 : ∀ w ∈ wsL_law0_r13, w ∈ lw_tbl := fun w h => (goodIn_r wsL_law0_r13 [1037, 1038, 1040, 26, 1041, 944, 948, 955, 945, 1042, 1044, 27, 1045, 946, 947, 1046, 1047, 1048, 1049, 1050, 1051, 1052, 1053, 1054] (by decide +kernel) (by decide +kernel) w h).1
set_option maxRecDepth 100000 in
theorem wsL_law_in0_r14 : ∀ w ∈ wsL_law0_r14, w ∈ lw_tbl := fun w h => (goodIn_r wsL_law0_r14 [1055, 1057, 28, 1058, 1059, 1061, 29, 1062, 1063, 1065, 30, 1066, 1067, 1069, 31, 1070, 1071, 1073, 32, 1074, 1075, 1077, 33, 1078] (by decide +kernel) (by decide +kernel) w h).1
