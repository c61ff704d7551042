set_option maxRecDepth 100000 in
theorem ggZL_sorts_L_sees_r1 : GoodIn wzL_sorts wsL_sees_r1 := goodIn_r _ [9, 10, 11, 12, 13, 14, 15, 16, 17, 18, 19, 20, 21, 22, 23, 24, 25, 26, 27, 28, 29, 30, 31, 32] (by decide +kernel) (by decide +kernel)
set_option maxRecDepth 100000 in
theorem ggZL_sorts_L_sees_r2 : GoodIn wzL_sorts wsL_sees_r2 := goodIn_r _ [33, 34, 35, 36, 37, 38, 39, 40, 41, 42, 43, 44] (by decide +kernel) (by decide +kernel)
set_option maxRecDepth 100000 in
theorem ggZL_sorts_L_sees_wsX60 : GoodIn wzL_sorts wsX60 := goodIn_r _ [461, 462] (by decide +kernel) (by decide +kernel)
set_option maxRecDepth 100000 in
theorem ggZL_sorts_L_sees_wsX100 : GoodIn wzL_sorts wsX100 := goodIn_r _ [463, 464, 465, 466, 467, 468, 469, 470, 471, 472] (by decide +kernel) (by decide +kernel)
set_option maxRecDepth 100000 in
theorem ggZL_sorts_L_sees_wsX10 : GoodIn wzL_sorts wsX10 := goodIn_r _ [473, 474, 475] (by decide +kernel) (by decide +kernel)
set_option maxRecDepth 100000 in
theorem ggZL_sorts_L_sees : GoodIn wzL_sorts wsL_sees := goodIn_ca (goodIn_ca ((goodIn_c9 (goodIn_r _ [8] (by decide +kernel) (by decide +kernel)) (goodIn_app (goodIn_app (goodIn_app (goodIn_app ggZL_sorts_L_sees_r1 (ggZL_sorts_L_sees_r2)) ggZL_sorts_L_sees_wsX60) ggZL_sorts_L_sees_wsX100) ggZL_sorts_L_sees_wsX10))) (goodIn_sub (fun _ h => List.mem_cons_of_mem _ (List.mem_append_left _ (List.mem_append_left _ (List.mem_append_left _ (List.mem_append_right _ h))))) (by decide +kernel))) (goodIn_sub (fun _ h => List.mem_cons_of_mem _ (List.mem_append_left _ (List.mem_append_left _ (List.mem_append_right _ h)))) (by decide +kernel))
set_option maxRecDepth 100000 in
theorem gZL_sorts_L_sees : GoodIn wzL_sorts (va_wsS RL 157 yL_sees wsL_sees) := goodIn_app (goodIn_of _ (by decide +kernel)) ggZL_sorts_L_sees
set_option maxRecDepth 100000 in
theorem ggZL_sorts_L_next : GoodIn wzL_sorts wsL_next := goodIn_r _ [47, 48] (by decide +kernel) (by decide +kernel)
set_option maxRecDepth 100000 in
theorem gZL_sorts_L_next : GoodIn wzL_sorts (va_wsS RL 8 yL_next wsL_next) := goodIn_app (goodIn_of _ (by decide +kernel)) ggZL_sorts_L_next
set_option maxRecDepth 100000 in
theorem ggZL_sorts_L_copies : GoodIn wzL_sorts wsL_copies := goodIn_r _ [51] (by decide +kernel) (by decide +kernel)
set_option maxRecDepth 100000 in
theorem gZL_sorts_L_copies : GoodIn wzL_sorts (va_wsS RL 153 yL_copies wsL_copies) := goodIn_app (goodIn_of _ (by decide +kernel)) ggZL_sorts_L_copies
set_option maxRecDepth 100000 in
theorem ggZL_sorts_L_due : GoodIn wzL_sorts wsL_due := goodIn_r _ [54, 55, 56, 7, 57, 49, 50, 51] (by decide +kernel) (by decide +kernel)
set_option maxRecDepth 100000 in
theorem gZL_sorts_L_due : GoodIn wzL_sorts (va_wsS RL 166 yL_due wsL_due) := goodIn_app (goodIn_of _ (by decide +kernel)) ggZL_sorts_L_due
set_option maxRecDepth 100000 in
theorem ggZL_sorts_L_done_r1 : GoodIn wzL_sorts wsL_done_r1 := goodIn_r _ [61, 62, 63, 64, 65, 66, 67, 12, 68, 69, 70, 71, 72, 73, 15, 16, 17, 18, 19, 20, 21, 74, 75, 76] (by decide +kernel) (by decide +kernel)
set_option maxRecDepth 100000 in
theorem ggZL_sorts_L_done_r2 : GoodIn wzL_sorts wsL_done_r2 := goodIn_r _ [77, 78, 79, 80, 81, 82, 83, 84, 85, 86, 87, 88, 89, 90, 91, 92, 93, 94, 95, 96, 97, 98, 99, 100] (by decide +kernel) (by decide +kernel)
set_option maxRecDepth 100000 in
theorem ggZL_sorts_L_done_r3 : GoodIn wzL_sorts wsL_done_r3 := goodIn_r _ [101, 102, 103, 104, 105, 106, 107, 108, 109, 110, 111, 112, 113, 114, 115, 116, 117, 118, 119, 120, 121, 122, 123, 124] (by decide +kernel) (by decide +kernel)
set_option maxRecDepth 100000 in
theorem ggZL_sorts_L_done_r4 : GoodIn wzL_sorts wsL_done_r4 := goodIn_r _ [125, 126, 127, 128, 129, 130, 131, 132, 133, 134, 135, 136, 137, 138, 139, 140, 141, 142, 143, 144, 145, 146, 147, 148] (by decide +kernel) (by decide +kernel)
set_option maxRecDepth 100000 in
theorem ggZL_sorts_L_done_r5 : GoodIn wzL_sorts wsL_done_r5 := goodIn_r _ [149, 150, 151, 152, 153, 154, 155, 156, 157, 158, 159, 160, 161, 162, 163, 164, 165, 166, 167, 168, 169, 170, 171, 172] (by decide +kernel) (by decide +kernel)
set_option maxRecDepth 100000 in
theorem ggZL_sorts_L_done_r6 : GoodIn wzL_sorts wsL_done_r6 := goodIn_r _ [173, 174, 175, 176, 177, 178, 179, 180, 181, 182, 183, 184, 185, 186, 187, 188, 189, 190, 191, 192, 193, 194, 195, 196] (by decide +kernel) (by decide +kernel)
set_option maxRecDepth 100000 in
theorem ggZL_sorts_L_done_r7 : GoodIn wzL_sorts wsL_done_r7 := goodIn_r _ [197, 198, 199, 200, 201, 202, 203, 204, 205, 206, 207, 208, 209, 210, 211, 212, 213, 214, 14, 215, 216, 217, 218, 29] (by decide +kernel) (by decide +kernel)
set_option maxRecDepth 100000 in
theorem ggZL_sorts_L_done_r8 : GoodIn wzL_sorts wsL_done_r8 := goodIn_r _ [219, 220, 221, 222, 223, 224, 225, 226, 227, 228, 229, 230, 231, 232, 233, 234, 235, 236, 237, 238, 239, 240, 241, 242] (by decide +kernel) (by decide +kernel)
set_option maxRecDepth 100000 in
theorem ggZL_sorts_L_done_r9 : GoodIn wzL_sorts wsL_done_r9 := goodIn_r _ [243, 244, 245, 246, 247, 248, 249, 250, 251, 252, 253, 254, 255, 256, 257, 258, 259, 36, 260, 38, 39, 44, 261, 262] (by decide +kernel) (by decide +kernel)
set_option maxRecDepth 100000 in
theorem ggZL_sorts_L_done_r10 : GoodIn wzL_sorts wsL_done_r10 := goodIn_r _ [263, 264, 265, 266, 267, 268, 269, 270, 271, 272, 273, 274, 275, 276, 277, 278, 279, 280, 281, 282, 283, 284, 285, 286] (by decide +kernel) (by decide +kernel)
set_option maxRecDepth 100000 in
theorem ggZL_sorts_L_done_r11 : GoodIn wzL_sorts wsL_done_r11 := goodIn_r _ [287, 288, 289, 290, 291, 292, 293, 294, 295, 296, 297, 298, 299, 300, 301, 302, 303, 304, 305, 306, 2, 3, 4, 307] (by decide +kernel) (by decide +kernel)
set_option maxRecDepth 100000 in
theorem ggZL_sorts_L_done_r12 : GoodIn wzL_sorts wsL_done_r12 := goodIn_r _ [308, 309, 310, 311, 312, 313, 314, 315, 316, 317, 318, 34, 35, 37, 319, 320, 321, 322, 41, 42, 43, 323, 324, 325] (by decide +kernel) (by decide +kernel)
set_option maxRecDepth 100000 in
theorem ggZL_sorts_L_done_r13 : GoodIn wzL_sorts wsL_done_r13 := goodIn_r _ [326, 327, 328, 329, 330, 331, 332, 333, 26, 27, 334, 335, 336, 337, 338, 339, 340, 341, 342, 343, 344, 345, 346, 347] (by decide +kernel) (by decide +kernel)
set_option maxRecDepth 100000 in
theorem ggZL_sorts_L_done_r14 : GoodIn wzL_sorts wsL_done_r14 := goodIn_r _ [348, 349, 350, 351, 352, 28, 353, 354, 355, 356, 357, 358, 359, 360, 361, 362, 363, 364, 365, 366, 367, 368, 369, 370] (by decide +kernel) (by decide +kernel)
set_option maxRecDepth 100000 in
theorem ggZL_sorts_L_done_r15 : GoodIn wzL_sorts wsL_done_r15 := goodIn_r _ [371, 30, 31, 32, 372, 373, 374, 375, 376, 377, 378, 379, 380, 40, 381, 382, 383, 384, 33, 385, 386, 387, 388, 389] (by decide +kernel) (by decide +kernel)
set_option maxRecDepth 100000 in
theorem ggZL_sorts_L_done_r16 : GoodIn wzL_sorts wsL_done_r16 := goodIn_r _ [390, 391, 392, 393, 394, 395, 396, 397, 398, 399, 400, 401, 402, 403, 404, 405, 406, 407, 408, 409, 410, 411, 412, 413] (by decide +kernel) (by decide +kernel)
set_option maxRecDepth 100000 in
theorem ggZL_sorts_L_done_r17 : GoodIn wzL_sorts wsL_done_r17 := goodIn_r _ [414, 415, 416, 417, 418, 419, 420, 421, 422, 423, 424, 425, 426, 427, 428, 429, 430, 431, 432, 433, 434, 435, 436, 22] (by decide +kernel) (by decide +kernel)
set_option maxRecDepth 100000 in
theorem ggZL_sorts_L_done_r18 : GoodIn wzL_sorts wsL_done_r18 := goodIn_r _ [23, 24, 25, 9, 10, 11, 13] (by decide +kernel) (by decide +kernel)
set_option maxRecDepth 100000 in
theorem ggZL_sorts_L_done_wsX100 : GoodIn wzL_sorts wsX100 := goodIn_r _ [463, 464, 465, 466, 467, 468, 469, 470, 471, 472] (by decide +kernel) (by decide +kernel)
set_option maxRecDepth 100000 in
theorem ggZL_sorts_L_done_wsX50 : GoodIn wzL_sorts wsX50 := goodIn_r _ [476, 477, 478] (by decide +kernel) (by decide +kernel)
set_option maxRecDepth 100000 in
theorem ggZL_sorts_L_done_wsX90 : GoodIn wzL_sorts wsX90 := goodIn_r _ [479, 480, 481, 482] (by decide +kernel) (by decide +kernel)
set_option maxRecDepth 100000 in
theorem ggZL_sorts_L_done_wsX70 : GoodIn wzL_sorts wsX70 := goodIn_r _ [483, 484, 485, 486, 487, 488] (by decide +kernel) (by decide +kernel)
set_option maxRecDepth 100000 in
theorem ggZL_sorts_L_done_wsJ00 : GoodIn wzL_sorts wsJ00 := goodIn_r _ [489, 490, 491, 492] (by decide +kernel) (by decide +kernel)
set_option maxRecDepth 100000 in
theorem ggZL_sorts_L_done_wsX60 : GoodIn wzL_sorts wsX60 := goodIn_r _ [461, 462] (by decide +kernel) (by decide +kernel)
set_option maxRecDepth 100000 in
theorem ggZL_sorts_L_done_wsX10 : GoodIn wzL_sorts wsX10 := goodIn_r _ [473, 474, 475] (by decide +kernel) (by decide +kernel)
set_option maxRecDepth 100000 in
theorem ggZL_sorts_L_done_wsX20 : GoodIn wzL_sorts wsX20 := goodIn_r _ [493] (by decide +kernel) (by decide +kernel)
set_option maxRecDepth 100000 in
theorem ggZL_sorts_L_done_wsX80 : GoodIn wzL_sorts wsX80 := goodIn_r _ [494, 495, 496, 497] (by decide +kernel) (by decide +kernel)
set_option maxRecDepth 100000 in
theorem ggZL_sorts_L_done : GoodIn wzL_sorts wzL_done := goodIn_ca (goodIn_ca (goodIn_ca (goodIn_ca ((goodIn_c9 (goodIn_r _ [60] (by decide +kernel) (by decide +kernel)) (goodIn_app (goodIn_app (goodIn_app (goodIn_app (goodIn_app (goodIn_app (goodIn_app (goodIn_app (goodIn_app (goodIn_app ggZL_sorts_L_done_r1 (goodIn_app ggZL_sorts_L_done_r2 (goodIn_app ggZL_sorts_L_done_r3 (goodIn_app ggZL_sorts_L_done_r4 (goodIn_app ggZL_sorts_L_done_r5 (goodIn_app ggZL_sorts_L_done_r6 (goodIn_app ggZL_sorts_L_done_r7 (goodIn_app ggZL_sorts_L_done_r8 (goodIn_app ggZL_sorts_L_done_r9 (goodIn_app ggZL_sorts_L_done_r10 (goodIn_app ggZL_sorts_L_done_r11 (goodIn_app ggZL_sorts_L_done_r12 (goodIn_app ggZL_sorts_L_done_r13 (goodIn_app ggZL_sorts_L_done_r14 (goodIn_app ggZL_sorts_L_done_r15 (goodIn_app ggZL_sorts_L_done_r16 (goodIn_app ggZL_sorts_L_done_r17 (ggZL_sorts_L_done_r18)))))))))))))))))) ggZL_sorts_L_done_wsX100) ggZL_sorts_L_done_wsX50) ggZL_sorts_L_done_wsX90) ggZL_sorts_L_done_wsX70) ggZL_sorts_L_done_wsJ00) ggZL_sorts_L_done_wsX60) ggZL_sorts_L_done_wsX10) ggZL_sorts_L_done_wsX20) ggZL_sorts_L_done_wsX80))) (goodIn_sub (fun _ h => List.mem_cons_of_mem _ (List.mem_append_left _ (List.mem_append_right _ h))) (by decide +kernel))) (goodIn_sub (fun _ h => List.mem_cons_of_mem _ (List.mem_append_left _ (List.mem_append_left _ (List.mem_append_left _ (List.mem_append_right _ h))))) (by decide +kernel))) (goodIn_sub (fun _ h => List.mem_cons_of_mem _ (List.mem_append_left _ (List.mem_append_left _ (List.mem_append_right _ h)))) (by decide +kernel))) (goodIn_sub (fun _ h => List.mem_cons_of_mem _ (List.mem_append_right _ h)) (by decide +kernel))
set_option maxRecDepth 100000 in
theorem gZL_sorts_L_done : GoodIn wzL_sorts (va_wsS RL 170 yL_done wzL_done) := goodIn_app (goodIn_of _ (by decide +kernel)) ggZL_sorts_L_done
set_option maxRecDepth 100000 in
theorem ggZL_sorts_L_isLike : GoodIn wzL_sorts wsL_isLike := goodIn_r _ [439] (by decide +kernel) (by decide +kernel)
set_option maxRecDepth 100000 in
theorem gZL_sorts_L_isLike : GoodIn wzL_sorts (va_wsS RL 174 yL_isLike wsL_isLike) := goodIn_app (goodIn_of _ (by decide +kernel)) ggZL_sorts_L_isLike
set_option maxRecDepth 100000 in
theorem ggZL_sorts_X10_isSorted_r1 : GoodIn wzL_sorts wsX10_isSorted_r1 := goodIn_r _ [15, 16, 17, 12, 18, 19, 20, 21, 407, 408, 409, 410, 411, 412, 413, 414, 14, 415, 416, 417, 418, 419, 420, 421] (by decide +kernel) (by decide +kernel)
set_option maxRecDepth 100000 in
theorem ggZL_sorts_X10_isSorted_r2 : GoodIn wzL_sorts wsX10_isSorted_r2 := goodIn_r _ [422, 29, 28, 33, 34, 35, 36, 37, 38, 39] (by decide +kernel) (by decide +kernel)
set_option maxRecDepth 100000 in
theorem ggZL_sorts_X10_isSorted_wsX100 : GoodIn wzL_sorts wsX100 := goodIn_r _ [463, 464, 465, 466, 467, 468, 469, 470, 471, 472] (by decide +kernel) (by decide +kernel)
set_option maxRecDepth 100000 in
theorem ggZL_sorts_X10_isSorted_wsX60 : GoodIn wzL_sorts wsX60 := goodIn_r _ [461, 462] (by decide +kernel) (by decide +kernel)
set_option maxRecDepth 100000 in
theorem ggZL_sorts_X10_isSorted_wsX10 : GoodIn wzL_sorts wsX10 := goodIn_r _ [473, 474, 475] (by decide +kernel) (by decide +kernel)
set_option maxRecDepth 100000 in
theorem ggZL_sorts_X10_isSorted : GoodIn wzL_sorts wsX10_isSorted := goodIn_ca ((goodIn_c9 (goodIn_r _ [443] (by decide +kernel) (by decide +kernel)) (goodIn_app (goodIn_app (goodIn_app (goodIn_app ggZL_sorts_X10_isSorted_r1 (ggZL_sorts_X10_isSorted_r2)) ggZL_sorts_X10_isSorted_wsX100) ggZL_sorts_X10_isSorted_wsX60) ggZL_sorts_X10_isSorted_wsX10))) (goodIn_sub (fun _ h => List.mem_cons_of_mem _ (List.mem_append_left _ (List.mem_append_left _ (List.mem_append_left _ (List.mem_append_right _ h))))) (by decide +kernel))
set_option maxRecDepth 100000 in
theorem gZL_sorts_X10_isSorted : GoodIn wzL_sorts (wsV RL 178 RX10 yX10_isSorted wsX10_isSorted) := goodIn_app (goodIn_of _ (by decide +kernel)) ggZL_sorts_X10_isSorted
set_option maxRecDepth 100000 in
theorem ggZL_sorts_X10_runs_r1 : GoodIn wzL_sorts wsX10_runs_r1 := goodIn_r _ [15, 16, 17, 12, 18, 19, 20, 21, 411, 412, 413, 414, 14, 415, 416, 417, 418, 419, 420, 421, 422, 29, 28, 33] (by decide +kernel) (by decide +kernel)
set_option maxRecDepth 100000 in
theorem ggZL_sorts_X10_runs_r2 : GoodIn wzL_sorts wsX10_runs_r2 := goodIn_r _ [34, 35, 36, 37, 38, 39] (by decide +kernel) (by decide +kernel)
set_option maxRecDepth 100000 in
theorem ggZL_sorts_X10_runs_wsX100 : GoodIn wzL_sorts wsX100 := goodIn_r _ [463, 464, 465, 466, 467, 468, 469, 470, 471, 472] (by decide +kernel) (by decide +kernel)
set_option maxRecDepth 100000 in
theorem ggZL_sorts_X10_runs_wsX60 : GoodIn wzL_sorts wsX60 := goodIn_r _ [461, 462] (by decide +kernel) (by decide +kernel)
set_option maxRecDepth 100000 in
theorem ggZL_sorts_X10_runs_wsX10 : GoodIn wzL_sorts wsX10 := goodIn_r _ [473, 474, 475] (by decide +kernel) (by decide +kernel)
set_option maxRecDepth 100000 in
theorem ggZL_sorts_X10_runs : GoodIn wzL_sorts wsX10_runs := goodIn_ca ((goodIn_c9 (goodIn_r _ [447] (by decide +kernel) (by decide +kernel)) (goodIn_app (goodIn_app (goodIn_app (goodIn_app ggZL_sorts_X10_runs_r1 (ggZL_sorts_X10_runs_r2)) ggZL_sorts_X10_runs_wsX100) ggZL_sorts_X10_runs_wsX60) ggZL_sorts_X10_runs_wsX10))) (goodIn_sub (fun _ h => List.mem_cons_of_mem _ (List.mem_append_left _ (List.mem_append_left _ (List.mem_append_left _ (List.mem_append_right _ h))))) (by decide +kernel))
set_option maxRecDepth 100000 in
theorem gZL_sorts_X10_runs : GoodIn wzL_sorts (wsV RL 182 RX10 yX10_runs wsX10_runs) := goodIn_app (goodIn_of _ (by decide +kernel)) ggZL_sorts_X10_runs
set_option maxRecDepth 100000 in
theorem ggZL_sorts_X10_longestRun_r1 : GoodIn wzL_sorts wsX10_longestRun_r1 := goodIn_r _ [15, 16, 17, 12, 18, 19, 20, 21, 452, 453, 454, 455, 14, 456, 397, 3, 398, 415, 416, 417, 418, 419, 420, 421] (by decide +kernel) (by decide +kernel)
set_option maxRecDepth 100000 in
theorem ggZL_sorts_X10_longestRun_r2 : GoodIn wzL_sorts wsX10_longestRun_r2 := goodIn_r _ [422, 29, 28, 33, 34, 35, 36, 37, 38, 39] (by decide +kernel) (by decide +kernel)
