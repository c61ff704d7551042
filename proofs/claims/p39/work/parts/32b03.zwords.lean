set_option maxRecDepth 100000 in
theorem ggZL_sorts_X10_longestRun_wsX100 : GoodIn wzL_sorts wsX100 := goodIn_r _ [463, 464, 465, 466, 467, 468, 469, 470, 471, 472] (by decide +kernel) (by decide +kernel)
set_option maxRecDepth 100000 in
theorem ggZL_sorts_X10_longestRun_wsX60 : GoodIn wzL_sorts wsX60 := goodIn_r _ [461, 462] (by decide +kernel) (by decide +kernel)
set_option maxRecDepth 100000 in
theorem ggZL_sorts_X10_longestRun_wsX10 : GoodIn wzL_sorts wsX10 := goodIn_r _ [473, 474, 475] (by decide +kernel) (by decide +kernel)
set_option maxRecDepth 100000 in
theorem ggZL_sorts_X10_longestRun : GoodIn wzL_sorts wsX10_longestRun := goodIn_ca ((goodIn_c9 (goodIn_r _ [451] (by decide +kernel) (by decide +kernel)) (goodIn_app (goodIn_app (goodIn_app (goodIn_app ggZL_sorts_X10_longestRun_r1 (ggZL_sorts_X10_longestRun_r2)) ggZL_sorts_X10_longestRun_wsX100) ggZL_sorts_X10_longestRun_wsX60) ggZL_sorts_X10_longestRun_wsX10))) (goodIn_sub (fun _ h => List.mem_cons_of_mem _ (List.mem_append_left _ (List.mem_append_left _ (List.mem_append_left _ (List.mem_append_right _ h))))) (by decide +kernel))
set_option maxRecDepth 100000 in
theorem gZL_sorts_X10_longestRun : GoodIn wzL_sorts (wsV RL 185 RX10 yX10_longestRun wsX10_longestRun) := goodIn_app (goodIn_of _ (by decide +kernel)) ggZL_sorts_X10_longestRun
set_option maxRecDepth 100000 in
theorem ggZL_sorts_X10_wrongPairs_r1 : GoodIn wzL_sorts wsX10_wrongPairs_r1 := goodIn_r _ [15, 16, 17, 12, 18, 19, 20, 21, 429, 430, 431, 432, 289, 14, 280, 290, 291, 292, 293, 294, 295, 296, 297, 298] (by decide +kernel) (by decide +kernel)
set_option maxRecDepth 100000 in
theorem ggZL_sorts_X10_wrongPairs_r2 : GoodIn wzL_sorts wsX10_wrongPairs_r2 := goodIn_r _ [299, 300, 301, 302, 303, 304, 305, 306, 2, 3, 4, 307, 308, 309, 310, 311, 312, 313, 314, 315, 316, 317, 318, 34] (by decide +kernel) (by decide +kernel)
set_option maxRecDepth 100000 in
theorem ggZL_sorts_X10_wrongPairs_r3 : GoodIn wzL_sorts wsX10_wrongPairs_r3 := goodIn_r _ [35, 36, 37, 38, 39, 319, 320, 321, 239, 240, 241, 242, 322, 41, 42, 43, 44] (by decide +kernel) (by decide +kernel)
set_option maxRecDepth 100000 in
theorem ggZL_sorts_X10_wrongPairs_wsX100 : GoodIn wzL_sorts wsX100 := goodIn_r _ [463, 464, 465, 466, 467, 468, 469, 470, 471, 472] (by decide +kernel) (by decide +kernel)
set_option maxRecDepth 100000 in
theorem ggZL_sorts_X10_wrongPairs_wsX60 : GoodIn wzL_sorts wsX60 := goodIn_r _ [461, 462] (by decide +kernel) (by decide +kernel)
set_option maxRecDepth 100000 in
theorem ggZL_sorts_X10_wrongPairs_wsX80 : GoodIn wzL_sorts wsX80 := goodIn_r _ [494, 495, 496, 497] (by decide +kernel) (by decide +kernel)
set_option maxRecDepth 100000 in
theorem ggZL_sorts_X10_wrongPairs_wsX10 : GoodIn wzL_sorts wsX10 := goodIn_r _ [473, 474, 475] (by decide +kernel) (by decide +kernel)
set_option maxRecDepth 100000 in
theorem ggZL_sorts_X10_wrongPairs : GoodIn wzL_sorts wsX10_wrongPairs := goodIn_ca ((goodIn_c9 (goodIn_r _ [460] (by decide +kernel) (by decide +kernel)) (goodIn_app (goodIn_app (goodIn_app (goodIn_app (goodIn_app ggZL_sorts_X10_wrongPairs_r1 (goodIn_app ggZL_sorts_X10_wrongPairs_r2 (ggZL_sorts_X10_wrongPairs_r3))) ggZL_sorts_X10_wrongPairs_wsX100) ggZL_sorts_X10_wrongPairs_wsX60) ggZL_sorts_X10_wrongPairs_wsX80) ggZL_sorts_X10_wrongPairs_wsX10))) (goodIn_sub (fun _ h => List.mem_cons_of_mem _ (List.mem_append_left _ (List.mem_append_left _ (List.mem_append_left _ (List.mem_append_right _ h))))) (by decide +kernel))
set_option maxRecDepth 100000 in
theorem gZL_sorts_X10_wrongPairs : GoodIn wzL_sorts (wsV RL 188 RX10 yX10_wrongPairs wsX10_wrongPairs) := goodIn_app (goodIn_of _ (by decide +kernel)) ggZL_sorts_X10_wrongPairs
set_option maxRecDepth 100000 in
theorem ggZL_isBoth_L_sees_r1 : GoodIn wzL_isBoth wsL_sees_r1 := goodIn_r _ [5, 6, 7, 8, 9, 10, 11, 12, 13, 14, 15, 16, 17, 18, 19, 20, 21, 22, 23, 24, 25, 26, 27, 28] (by decide +kernel) (by decide +kernel)
set_option maxRecDepth 100000 in
theorem ggZL_isBoth_L_sees_r2 : GoodIn wzL_isBoth wsL_sees_r2 := goodIn_r _ [29, 30, 31, 32, 33, 34, 35, 36, 37, 38, 39, 40] (by decide +kernel) (by decide +kernel)
set_option maxRecDepth 100000 in
theorem ggZL_isBoth_L_sees_wsX60 : GoodIn wzL_isBoth wsX60 := goodIn_r _ [439, 440] (by decide +kernel) (by decide +kernel)
set_option maxRecDepth 100000 in
theorem ggZL_isBoth_L_sees_wsX100 : GoodIn wzL_isBoth wsX100 := goodIn_r _ [441, 442, 443, 444, 445, 446, 447, 448, 449, 450] (by decide +kernel) (by decide +kernel)
set_option maxRecDepth 100000 in
theorem ggZL_isBoth_L_sees_wsX10 : GoodIn wzL_isBoth wsX10 := goodIn_r _ [451, 452, 453] (by decide +kernel) (by decide +kernel)
set_option maxRecDepth 100000 in
theorem ggZL_isBoth_L_sees : GoodIn wzL_isBoth wsL_sees := goodIn_ca (goodIn_ca ((goodIn_c9 (goodIn_r _ [4] (by decide +kernel) (by decide +kernel)) (goodIn_app (goodIn_app (goodIn_app (goodIn_app ggZL_isBoth_L_sees_r1 (ggZL_isBoth_L_sees_r2)) ggZL_isBoth_L_sees_wsX60) ggZL_isBoth_L_sees_wsX100) ggZL_isBoth_L_sees_wsX10))) (goodIn_sub (fun _ h => List.mem_cons_of_mem _ (List.mem_append_left _ (List.mem_append_left _ (List.mem_append_left _ (List.mem_append_right _ h))))) (by decide +kernel))) (goodIn_sub (fun _ h => List.mem_cons_of_mem _ (List.mem_append_left _ (List.mem_append_left _ (List.mem_append_right _ h)))) (by decide +kernel))
set_option maxRecDepth 100000 in
theorem gZL_isBoth_L_sees : GoodIn wzL_isBoth (va_wsS RL 157 yL_sees wsL_sees) := goodIn_app (goodIn_of _ (by decide +kernel)) ggZL_isBoth_L_sees
set_option maxRecDepth 100000 in
theorem ggZL_isBoth_L_done_r1 : GoodIn wzL_isBoth wsL_done_r1 := goodIn_r _ [44, 45, 46, 47, 48, 49, 50, 8, 51, 52, 53, 54, 55, 56, 11, 12, 13, 14, 15, 16, 17, 57, 58, 59] (by decide +kernel) (by decide +kernel)
set_option maxRecDepth 100000 in
theorem ggZL_isBoth_L_done_r2 : GoodIn wzL_isBoth wsL_done_r2 := goodIn_r _ [60, 61, 62, 63, 64, 65, 66, 67, 68, 69, 70, 71, 72, 73, 74, 75, 76, 77, 78, 79, 80, 81, 82, 83] (by decide +kernel) (by decide +kernel)
set_option maxRecDepth 100000 in
theorem ggZL_isBoth_L_done_r3 : GoodIn wzL_isBoth wsL_done_r3 := goodIn_r _ [84, 85, 86, 87, 88, 89, 90, 91, 92, 93, 94, 95, 96, 97, 98, 99, 100, 101, 102, 103, 104, 105, 106, 107] (by decide +kernel) (by decide +kernel)
set_option maxRecDepth 100000 in
theorem ggZL_isBoth_L_done_r4 : GoodIn wzL_isBoth wsL_done_r4 := goodIn_r _ [108, 109, 110, 111, 112, 113, 114, 115, 116, 117, 118, 119, 120, 121, 122, 123, 124, 125, 126, 127, 128, 129, 130, 131] (by decide +kernel) (by decide +kernel)
set_option maxRecDepth 100000 in
theorem ggZL_isBoth_L_done_r5 : GoodIn wzL_isBoth wsL_done_r5 := goodIn_r _ [132, 133, 134, 135, 136, 137, 138, 139, 140, 141, 142, 143, 144, 145, 146, 147, 148, 149, 150, 151, 152, 153, 154, 155] (by decide +kernel) (by decide +kernel)
set_option maxRecDepth 100000 in
theorem ggZL_isBoth_L_done_r6 : GoodIn wzL_isBoth wsL_done_r6 := goodIn_r _ [156, 157, 158, 159, 160, 161, 162, 163, 164, 165, 166, 167, 168, 169, 170, 171, 172, 173, 174, 175, 176, 177, 178, 179] (by decide +kernel) (by decide +kernel)
set_option maxRecDepth 100000 in
theorem ggZL_isBoth_L_done_r7 : GoodIn wzL_isBoth wsL_done_r7 := goodIn_r _ [180, 181, 182, 183, 184, 185, 186, 187, 188, 189, 190, 191, 192, 193, 194, 195, 196, 197, 10, 198, 199, 200, 201, 25] (by decide +kernel) (by decide +kernel)
set_option maxRecDepth 100000 in
theorem ggZL_isBoth_L_done_r8 : GoodIn wzL_isBoth wsL_done_r8 := goodIn_r _ [202, 203, 204, 205, 206, 207, 208, 209, 210, 211, 212, 213, 214, 215, 216, 217, 218, 219, 220, 221, 222, 223, 224, 225] (by decide +kernel) (by decide +kernel)
set_option maxRecDepth 100000 in
theorem ggZL_isBoth_L_done_r9 : GoodIn wzL_isBoth wsL_done_r9 := goodIn_r _ [226, 227, 228, 229, 230, 231, 232, 233, 234, 235, 236, 237, 238, 239, 240, 241, 242, 32, 243, 34, 35, 40, 244, 245] (by decide +kernel) (by decide +kernel)
set_option maxRecDepth 100000 in
theorem ggZL_isBoth_L_done_r10 : GoodIn wzL_isBoth wsL_done_r10 := goodIn_r _ [246, 247, 248, 249, 250, 251, 252, 253, 254, 255, 256, 257, 258, 259, 260, 261, 262, 263, 264, 265, 266, 267, 268, 269] (by decide +kernel) (by decide +kernel)
set_option maxRecDepth 100000 in
theorem ggZL_isBoth_L_done_r11 : GoodIn wzL_isBoth wsL_done_r11 := goodIn_r _ [270, 271, 272, 273, 274, 275, 276, 277, 278, 279, 280, 281, 282, 283, 284, 285, 286, 287, 288, 289, 290, 291, 292, 293] (by decide +kernel) (by decide +kernel)
set_option maxRecDepth 100000 in
theorem ggZL_isBoth_L_done_r12 : GoodIn wzL_isBoth wsL_done_r12 := goodIn_r _ [294, 295, 296, 297, 298, 299, 300, 301, 302, 303, 304, 30, 31, 33, 305, 306, 307, 308, 37, 38, 39, 309, 310, 311] (by decide +kernel) (by decide +kernel)
set_option maxRecDepth 100000 in
theorem ggZL_isBoth_L_done_r13 : GoodIn wzL_isBoth wsL_done_r13 := goodIn_r _ [312, 313, 314, 315, 316, 317, 318, 319, 22, 23, 320, 321, 322, 323, 324, 325, 326, 327, 328, 329, 330, 331, 332, 333] (by decide +kernel) (by decide +kernel)
set_option maxRecDepth 100000 in
theorem ggZL_isBoth_L_done_r14 : GoodIn wzL_isBoth wsL_done_r14 := goodIn_r _ [334, 335, 336, 337, 338, 24, 339, 340, 341, 342, 343, 344, 345, 346, 347, 348, 349, 350, 351, 352, 353, 354, 355, 356] (by decide +kernel) (by decide +kernel)
set_option maxRecDepth 100000 in
theorem ggZL_isBoth_L_done_r15 : GoodIn wzL_isBoth wsL_done_r15 := goodIn_r _ [357, 26, 27, 28, 358, 359, 360, 361, 362, 363, 364, 365, 366, 36, 367, 368, 369, 370, 29, 371, 372, 373, 374, 375] (by decide +kernel) (by decide +kernel)
set_option maxRecDepth 100000 in
theorem ggZL_isBoth_L_done_r16 : GoodIn wzL_isBoth wsL_done_r16 := goodIn_r _ [376, 377, 378, 379, 380, 381, 382, 383, 384, 385, 386, 387, 388, 389, 390, 391, 392, 393, 394, 395, 396, 397, 398, 399] (by decide +kernel) (by decide +kernel)
set_option maxRecDepth 100000 in
theorem ggZL_isBoth_L_done_r17 : GoodIn wzL_isBoth wsL_done_r17 := goodIn_r _ [400, 401, 402, 403, 404, 405, 406, 407, 408, 409, 410, 411, 412, 413, 414, 415, 416, 417, 418, 419, 420, 421, 422, 18] (by decide +kernel) (by decide +kernel)
set_option maxRecDepth 100000 in
theorem ggZL_isBoth_L_done_r18 : GoodIn wzL_isBoth wsL_done_r18 := goodIn_r _ [19, 20, 21, 5, 6, 7, 9] (by decide +kernel) (by decide +kernel)
set_option maxRecDepth 100000 in
theorem ggZL_isBoth_L_done_wsX100 : GoodIn wzL_isBoth wsX100 := goodIn_r _ [441, 442, 443, 444, 445, 446, 447, 448, 449, 450] (by decide +kernel) (by decide +kernel)
set_option maxRecDepth 100000 in
theorem ggZL_isBoth_L_done_wsX50 : GoodIn wzL_isBoth wsX50 := goodIn_r _ [454, 455, 456] (by decide +kernel) (by decide +kernel)
set_option maxRecDepth 100000 in
theorem ggZL_isBoth_L_done_wsX90 : GoodIn wzL_isBoth wsX90 := goodIn_r _ [457, 458, 459, 460] (by decide +kernel) (by decide +kernel)
set_option maxRecDepth 100000 in
theorem ggZL_isBoth_L_done_wsX70 : GoodIn wzL_isBoth wsX70 := goodIn_r _ [461, 462, 463, 464, 465, 466] (by decide +kernel) (by decide +kernel)
set_option maxRecDepth 100000 in
theorem ggZL_isBoth_L_done_wsJ00 : GoodIn wzL_isBoth wsJ00 := goodIn_r _ [467, 468, 469, 470] (by decide +kernel) (by decide +kernel)
set_option maxRecDepth 100000 in
theorem ggZL_isBoth_L_done_wsX60 : GoodIn wzL_isBoth wsX60 := goodIn_r _ [439, 440] (by decide +kernel) (by decide +kernel)
set_option maxRecDepth 100000 in
theorem ggZL_isBoth_L_done_wsX10 : GoodIn wzL_isBoth wsX10 := goodIn_r _ [451, 452, 453] (by decide +kernel) (by decide +kernel)
set_option maxRecDepth 100000 in
theorem ggZL_isBoth_L_done_wsX20 : GoodIn wzL_isBoth wsX20 := goodIn_r _ [471] (by decide +kernel) (by decide +kernel)
set_option maxRecDepth 100000 in
theorem ggZL_isBoth_L_done_wsX80 : GoodIn wzL_isBoth wsX80 := goodIn_r _ [472, 473, 474, 475] (by decide +kernel) (by decide +kernel)
set_option maxRecDepth 100000 in
theorem ggZL_isBoth_L_done : GoodIn wzL_isBoth wzL_done := goodIn_ca (goodIn_ca (goodIn_ca (goodIn_ca ((goodIn_c9 (goodIn_r _ [43] (by decide +kernel) (by decide +kernel)) (goodIn_app (goodIn_app (goodIn_app (goodIn_app (goodIn_app (goodIn_app (goodIn_app (goodIn_app (goodIn_app (goodIn_app ggZL_isBoth_L_done_r1 (goodIn_app ggZL_isBoth_L_done_r2 (goodIn_app ggZL_isBoth_L_done_r3 (goodIn_app ggZL_isBoth_L_done_r4 (goodIn_app ggZL_isBoth_L_done_r5 (goodIn_app ggZL_isBoth_L_done_r6 (goodIn_app ggZL_isBoth_L_done_r7 (goodIn_app ggZL_isBoth_L_done_r8 (goodIn_app ggZL_isBoth_L_done_r9 (goodIn_app ggZL_isBoth_L_done_r10 (goodIn_app ggZL_isBoth_L_done_r11 (goodIn_app ggZL_isBoth_L_done_r12 (goodIn_app ggZL_isBoth_L_done_r13 (goodIn_app ggZL_isBoth_L_done_r14 (goodIn_app ggZL_isBoth_L_done_r15 (goodIn_app ggZL_isBoth_L_done_r16 (goodIn_app ggZL_isBoth_L_done_r17 (ggZL_isBoth_L_done_r18)))))))))))))))))) ggZL_isBoth_L_done_wsX100) ggZL_isBoth_L_done_wsX50) ggZL_isBoth_L_done_wsX90) ggZL_isBoth_L_done_wsX70) ggZL_isBoth_L_done_wsJ00) ggZL_isBoth_L_done_wsX60) ggZL_isBoth_L_done_wsX10) ggZL_isBoth_L_done_wsX20) ggZL_isBoth_L_done_wsX80))) (goodIn_sub (fun _ h => List.mem_cons_of_mem _ (List.mem_append_left _ (List.mem_append_right _ h))) (by decide +kernel))) (goodIn_sub (fun _ h => List.mem_cons_of_mem _ (List.mem_append_left _ (List.mem_append_left _ (List.mem_append_left _ (List.mem_append_right _ h))))) (by decide +kernel))) (goodIn_sub (fun _ h => List.mem_cons_of_mem _ (List.mem_append_left _ (List.mem_append_left _ (List.mem_append_right _ h)))) (by decide +kernel))) (goodIn_sub (fun _ h => List.mem_cons_of_mem _ (List.mem_append_right _ h)) (by decide +kernel))
set_option maxRecDepth 100000 in
theorem gZL_isBoth_L_done : GoodIn wzL_isBoth (va_wsS RL 170 yL_done wzL_done) := goodIn_app (goodIn_of _ (by decide +kernel)) ggZL_isBoth_L_done
set_option maxRecDepth 100000 in
theorem ggZL_isBoth_L_due : GoodIn wzL_isBoth wsL_due := goodIn_r _ [425, 426, 427, 3, 428, 429, 430, 431] (by decide +kernel) (by decide +kernel)
set_option maxRecDepth 100000 in
theorem gZL_isBoth_L_due : GoodIn wzL_isBoth (va_wsS RL 166 yL_due wsL_due) := goodIn_app (goodIn_of _ (by decide +kernel)) ggZL_isBoth_L_due
set_option maxRecDepth 100000 in
theorem ggZL_isBoth_X10_cardAt_r1 : GoodIn wzL_isBoth wsX10_cardAt_r1 := goodIn_r _ [22, 23, 24, 25, 11, 12, 13, 8, 14, 15, 16, 17, 26, 27, 28, 10, 29, 30, 31, 32, 33, 34, 35, 36] (by decide +kernel) (by decide +kernel)
set_option maxRecDepth 100000 in
theorem ggZL_isBoth_X10_cardAt_r2 : GoodIn wzL_isBoth wsX10_cardAt_r2 := goodIn_r _ [37, 38, 39, 40] (by decide +kernel) (by decide +kernel)
set_option maxRecDepth 100000 in
theorem ggZL_isBoth_X10_cardAt_wsX60 : GoodIn wzL_isBoth wsX60 := goodIn_r _ [439, 440] (by decide +kernel) (by decide +kernel)
set_option maxRecDepth 100000 in
theorem ggZL_isBoth_X10_cardAt_wsX100 : GoodIn wzL_isBoth wsX100 := goodIn_r _ [441, 442, 443, 444, 445, 446, 447, 448, 449, 450] (by decide +kernel) (by decide +kernel)
set_option maxRecDepth 100000 in
theorem ggZL_isBoth_X10_cardAt_wsX10 : GoodIn wzL_isBoth wsX10 := goodIn_r _ [451, 452, 453] (by decide +kernel) (by decide +kernel)
set_option maxRecDepth 100000 in
theorem ggZL_isBoth_X10_cardAt : GoodIn wzL_isBoth wsX10_cardAt := goodIn_ca (goodIn_ca ((goodIn_c9 (goodIn_r _ [21] (by decide +kernel) (by decide +kernel)) (goodIn_app (goodIn_app (goodIn_app (goodIn_app ggZL_isBoth_X10_cardAt_r1 (ggZL_isBoth_X10_cardAt_r2)) ggZL_isBoth_X10_cardAt_wsX60) ggZL_isBoth_X10_cardAt_wsX100) ggZL_isBoth_X10_cardAt_wsX10))) (goodIn_sub (fun _ h => List.mem_cons_of_mem _ (List.mem_append_left _ (List.mem_append_left _ (List.mem_append_right _ h)))) (by decide +kernel))) (goodIn_sub (fun _ h => List.mem_cons_of_mem _ (List.mem_append_left _ (List.mem_append_left _ (List.mem_append_left _ (List.mem_append_right _ h))))) (by decide +kernel))
set_option maxRecDepth 100000 in
theorem gZL_isBoth_X10_cardAt : GoodIn wzL_isBoth (wsV RL 133 RX10 yX10_cardAt wsX10_cardAt) := goodIn_app (goodIn_of _ (by decide +kernel)) ggZL_isBoth_X10_cardAt
set_option maxRecDepth 100000 in
theorem ggZL_isBoth_X10_sum : GoodIn wzL_isBoth wsX10_sum := goodIn_ca (goodIn_r _ [435, 10, 24, 11, 12, 13, 8, 14, 15, 16, 17, 439, 440, 441, 442, 443, 444, 445, 446, 447, 448, 449, 450] (by decide +kernel) (by decide +kernel)) (goodIn_sub (fun _ h => List.mem_cons_of_mem _ (List.mem_append_left _ (List.mem_append_left _ (List.mem_append_left _ (List.mem_append_right _ h))))) (by decide +kernel))
