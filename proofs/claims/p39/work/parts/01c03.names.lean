set_option maxRecDepth 100000 in
theorem wsL_law_in0_r1 : ∀ w ∈ wsL_law0_r1, w ∈ lwx_tbl := fun w h => (goodIn_r wsL_law0_r1 [90, 1086, 1087, 108, 62, 63, 30, 64, 65, 66, 31, 67, 68, 69, 70, 71, 72, 73, 74, 32, 213, 91, 214, 215] (by decide +kernel) (by decide +kernel) w h).1
set_option maxRecDepth 100000 in
theorem wsL_law_in0_r2 : ∀ w ∈ wsL_law0_r2, w ∈ lwx_tbl := fun w h => (goodIn_r wsL_law0_r2 [216, 93, 33, 217, 218, 109, 110, 34, 219, 128, 129, 35, 220, 150, 151, 36, 221, 202, 203, 40, 222, 76, 77, 78] (by decide +kernel) (by decide +kernel) w h).1
set_option maxRecDepth 100000 in
theorem wsL_law_in0_r3 : ∀ w ∈ wsL_law0_r3, w ∈ lwx_tbl := fun w h => (goodIn_r wsL_law0_r3 [79, 80, 95, 96, 97, 98, 111, 112, 113, 114, 116, 117, 115, 131, 132, 133, 149, 134, 152, 153, 154, 155, 156, 191] (by decide +kernel) (by decide +kernel) w h).1
set_option maxRecDepth 100000 in
theorem wsL_law_in0_r4 : ∀ w ∈ wsL_law0_r4, w ∈ lwx_tbl := fun w h => (goodIn_r wsL_law0_r4 [190, 158, 37, 160, 161, 162, 163, 165, 205, 206, 207, 208, 244, 245, 246, 247, 248, 249, 250, 251, 209, 252, 253, 254] (by decide +kernel) (by decide +kernel) w h).1
set_option maxRecDepth 100000 in
theorem wsL_law_in0_r5 : ∀ w ∈ wsL_law0_r5, w ∈ lwx_tbl := fun w h => (goodIn_r wsL_law0_r5 [259, 260, 42, 256, 257, 258, 261, 262, 263, 264, 265, 41, 266, 267, 268, 277, 278, 270, 271, 44, 272, 273, 274, 275] (by decide +kernel) (by decide +kernel) w h).1
set_option maxRecDepth 100000 in
theorem wsL_law_in0_r6 : ∀ w ∈ wsL_law0_r6, w ∈ lwx_tbl := fun w h => (goodIn_r wsL_law0_r6 [276, 290, 291, 292, 293, 294, 1089, 289, 295, 296, 280, 297, 1090, 0, 299, 300, 301, 1091, 1, 303, 304, 305, 1092, 4] (by decide +kernel) (by decide +kernel) w h).1
set_option maxRecDepth 100000 in
theorem wsL_law_in0_r7 : ∀ w ∈ wsL_law0_r7, w ∈ lwx_tbl := fun w h => (goodIn_r wsL_law0_r7 [307, 308, 319, 309, 310, 45, 311, 312, 313, 46, 314, 315, 316, 317, 318, 320, 321, 47, 322, 323, 324, 325, 326, 327] (by decide +kernel) (by decide +kernel) w h).1
set_option maxRecDepth 100000 in
theorem wsL_law_in0_r8 : ∀ w ∈ wsL_law0_r8, w ∈ lwx_tbl := fun w h => (goodIn_r wsL_law0_r8 [329, 330, 331, 332, 333, 335, 334, 48, 336, 338, 339, 337, 340, 341, 342, 343, 361, 344, 345, 346, 347, 348, 349, 350] (by decide +kernel) (by decide +kernel) w h).1
set_option maxRecDepth 100000 in
theorem wsL_law_in0_r9 : ∀ w ∈ wsL_law0_r9, w ∈ lwx_tbl := fun w h => (goodIn_r wsL_law0_r9 [351, 43, 352, 353, 355, 356, 49, 357, 358, 359, 360, 363, 365, 367, 368, 369, 370, 561, 371, 372, 373, 374, 375, 562] (by decide +kernel) (by decide +kernel) w h).1
set_option maxRecDepth 100000 in
theorem wsL_law_in0_r10 : ∀ w ∈ wsL_law0_r10, w ∈ lwx_tbl := fun w h => (goodIn_r wsL_law0_r10 [376, 1093, 5, 378, 379, 380, 1094, 3, 382, 383, 384, 385, 1095, 2, 387, 388, 389, 390, 50, 391, 392, 393, 394, 395] (by decide +kernel) (by decide +kernel) w h).1
set_option maxRecDepth 100000 in
theorem wsL_law_in0_r11 : ∀ w ∈ wsL_law0_r11, w ∈ lwx_tbl := fun w h => (goodIn_r wsL_law0_r11 [396, 397, 398, 399, 400, 401, 402, 403, 404, 405, 406, 407, 408, 409, 410, 411, 412, 414, 415, 416, 417, 418, 1096, 419] (by decide +kernel) (by decide +kernel) w h).1
set_option maxRecDepth 100000 in
theorem wsL_law_in0_r12 : ∀ w ∈ wsL_law0_r12, w ∈ lwx_tbl := fun w h => (goodIn_r wsL_law0_r12 [420, 421, 422, 52, 423, 424, 425, 426, 427, 429, 431, 432, 433, 434, 435, 436, 437, 438, 439, 440, 441, 442, 443, 444] (by decide +kernel) (by decide +kernel) w h).1
set_option maxRecDepth 100000 in
theorem wsL_law_in0_r13 : ∀ w ∈ wsL_law0_r13, w ∈ lwx_tbl := fun w h => (goodIn_r wsL_law0_r13 [445, 446, 447, 448, 449, 450, 451, 279, 452, 454, 455, 453, 456, 457, 459, 458, 460, 461, 462, 463, 458, 464, 465, 466] (by decide +kernel) (by decide +kernel) w h).1
set_option maxRecDepth 100000 in
theorem wsL_law_in0_r14 : ∀ w ∈ wsL_law0_r14, w ∈ lwx_tbl := fun w h => (goodIn_r wsL_law0_r14 [467, 468, 469, 470, 471, 472, 473, 474, 517, 548, 549, 550, 551, 552, 553, 554, 555, 556, 557, 558, 559, 560, 574, 575] (by decide +kernel) (by decide +kernel) w h).1
