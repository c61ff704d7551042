set_option maxRecDepth 100000 in
theorem wsL_law_in0_r1 : ∀ w ∈ wsL_law0_r1, w ∈ lw_tbl := fun w h => (goodIn_r wsL_law0_r1 [84, 1080, 1081, 102, 56, 57, 24, 58, 59, 60, 25, 61, 62, 63, 64, 65, 66, 67, 68, 26, 207, 85, 208, 209] (by decide +kernel) (by decide +kernel) w h).1
set_option maxRecDepth 100000 in
theorem wsL_law_in0_r2 : ∀ w ∈ wsL_law0_r2, w ∈ lw_tbl := fun w h => (goodIn_r wsL_law0_r2 [210, 87, 27, 211, 212, 103, 104, 28, 213, 122, 123, 29, 214, 144, 145, 30, 215, 196, 197, 34, 216, 70, 71, 72] (by decide +kernel) (by decide +kernel) w h).1
set_option maxRecDepth 100000 in
theorem wsL_law_in0_r3 : ∀ w ∈ wsL_law0_r3, w ∈ lw_tbl := fun w h => (goodIn_r wsL_law0_r3 [73, 74, 89, 90, 91, 92, 105, 106, 107, 108, 110, 111, 109, 125, 126, 127, 143, 128, 146, 147, 148, 149, 150, 185] (by decide +kernel) (by decide +kernel) w h).1
set_option maxRecDepth 100000 in
theorem wsL_law_in0_r4 : ∀ w ∈ wsL_law0_r4, w ∈ lw_tbl := fun w h => (goodIn_r wsL_law0_r4 [184, 152, 31, 154, 155, 156, 157, 159, 199, 200, 201, 202, 238, 239, 240, 241, 242, 243, 244, 245, 203, 246, 247, 248] (by decide +kernel) (by decide +kernel) w h).1
set_option maxRecDepth 100000 in
theorem wsL_law_in0_r5 : ∀ w ∈ wsL_law0_r5, w ∈ lw_tbl := fun w h => (goodIn_r wsL_law0_r5 [253, 254, 36, 250, 251, 252, 255, 256, 257, 258, 259, 35, 260, 261, 262, 271, 272, 264, 265, 38, 266, 267, 268, 269] (by decide +kernel) (by decide +kernel) w h).1
set_option maxRecDepth 100000 in
theorem wsL_law_in0_r6 : ∀ w ∈ wsL_law0_r6, w ∈ lw_tbl := fun w h => (goodIn_r wsL_law0_r6 [270, 284, 285, 286, 287, 288, 1083, 283, 289, 290, 274, 291, 1084, 0, 293, 294, 295, 1085, 0, 297, 298, 299, 1086, 0] (by decide +kernel) (by decide +kernel) w h).1
set_option maxRecDepth 100000 in
theorem wsL_law_in0_r7 : ∀ w ∈ wsL_law0_r7, w ∈ lw_tbl := fun w h => (goodIn_r wsL_law0_r7 [301, 302, 313, 303, 304, 39, 305, 306, 307, 40, 308, 309, 310, 311, 312, 314, 315, 41, 316, 317, 318, 319, 320, 321] (by decide +kernel) (by decide +kernel) w h).1
set_option maxRecDepth 100000 in
theorem wsL_law_in0_r8 : ∀ w ∈ wsL_law0_r8, w ∈ lw_tbl := fun w h => (goodIn_r wsL_law0_r8 [323, 324, 325, 326, 327, 329, 328, 42, 330, 332, 333, 331, 334, 335, 336, 337, 355, 338, 339, 340, 341, 342, 343, 344] (by decide +kernel) (by decide +kernel) w h).1
set_option maxRecDepth 100000 in
theorem wsL_law_in0_r9 : ∀ w ∈ wsL_law0_r9, w ∈ lw_tbl := fun w h => (goodIn_r wsL_law0_r9 [345, 37, 346, 347, 349, 350, 43, 351, 352, 353, 354, 357, 359, 361, 362, 363, 364, 555, 365, 366, 367, 368, 369, 556] (by decide +kernel) (by decide +kernel) w h).1
set_option maxRecDepth 100000 in
theorem wsL_law_in0_r10 : ∀ w ∈ wsL_law0_r10, w ∈ lw_tbl := fun w h => (goodIn_r wsL_law0_r10 [370, 1087, 0, 372, 373, 374, 1088, 0, 376, 377, 378, 379, 1089, 0, 381, 382, 383, 384, 44, 385, 386, 387, 388, 389] (by decide +kernel) (by decide +kernel) w h).1
set_option maxRecDepth 100000 in
theorem wsL_law_in0_r11 : ∀ w ∈ wsL_law0_r11, w ∈ lw_tbl := fun w h => (goodIn_r wsL_law0_r11 [390, 391, 392, 393, 394, 395, 396, 397, 398, 399, 400, 401, 402, 403, 404, 405, 406, 408, 409, 410, 411, 412, 1090, 413] (by decide +kernel) (by decide +kernel) w h).1
set_option maxRecDepth 100000 in
theorem wsL_law_in0_r12 : ∀ w ∈ wsL_law0_r12, w ∈ lw_tbl := fun w h => (goodIn_r wsL_law0_r12 [414, 415, 416, 46, 417, 418, 419, 420, 421, 423, 425, 426, 427, 428, 429, 430, 431, 432, 433, 434, 435, 436, 437, 438] (by decide +kernel) (by decide +kernel) w h).1
set_option maxRecDepth 100000 in
theorem wsL_law_in0_r13 : ∀ w ∈ wsL_law0_r13, w ∈ lw_tbl := fun w h => (goodIn_r wsL_law0_r13 [439, 440, 441, 442, 443, 444, 445, 273, 446, 448, 449, 447, 450, 451, 453, 452, 454, 455, 456, 457, 452, 458, 459, 460] (by decide +kernel) (by decide +kernel) w h).1
set_option maxRecDepth 100000 in
theorem wsL_law_in0_r14 : ∀ w ∈ wsL_law0_r14, w ∈ lw_tbl := fun w h => (goodIn_r wsL_law0_r14 [461, 462, 463, 464, 465, 466, 467, 468, 511, 542, 543, 544, 545, 546, 547, 548, 549, 550, 551, 552, 553, 554, 568, 569] (by decide +kernel) (by decide +kernel) w h).1
