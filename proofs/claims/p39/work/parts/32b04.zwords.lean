set_option maxRecDepth 100000 in
theorem gZL_isBoth_X10_sum : GoodIn wzL_isBoth (wsV RL 191 RX10 yX10_sum wsX10_sum) := goodIn_app (goodIn_of _ (by decide +kernel)) ggZL_isBoth_X10_sum
set_option maxRecDepth 100000 in
theorem ggZL_isBoth_L_sum : GoodIn wzL_isBoth wsL_sum := goodIn_r _ [438] (by decide +kernel) (by decide +kernel)
set_option maxRecDepth 100000 in
theorem gZL_isBoth_L_sum : GoodIn wzL_isBoth (va_wsS RL 195 yL_sum wsL_sum) := goodIn_app (goodIn_of _ (by decide +kernel)) ggZL_isBoth_L_sum
set_option maxRecDepth 100000 in
theorem ggZL_moves_L_sees_r1 : GoodIn wzL_moves wsL_sees_r1 := goodIn_r _ [5, 6, 7, 8, 9, 10, 11, 12, 13, 14, 15, 16, 17, 18, 19, 20, 21, 22, 23, 24, 25, 26, 27, 28] (by decide +kernel) (by decide +kernel)
set_option maxRecDepth 100000 in
theorem ggZL_moves_L_sees_r2 : GoodIn wzL_moves wsL_sees_r2 := goodIn_r _ [29, 30, 31, 32, 33, 34, 35, 36, 37, 38, 39, 40] (by decide +kernel) (by decide +kernel)
set_option maxRecDepth 100000 in
theorem ggZL_moves_L_sees_wsX60 : GoodIn wzL_moves wsX60 := goodIn_r _ [433, 434] (by decide +kernel) (by decide +kernel)
set_option maxRecDepth 100000 in
theorem ggZL_moves_L_sees_wsX100 : GoodIn wzL_moves wsX100 := goodIn_r _ [435, 436, 437, 438, 439, 440, 441, 442, 443, 444] (by decide +kernel) (by decide +kernel)
set_option maxRecDepth 100000 in
theorem ggZL_moves_L_sees_wsX10 : GoodIn wzL_moves wsX10 := goodIn_r _ [445, 446, 447] (by decide +kernel) (by decide +kernel)
set_option maxRecDepth 100000 in
theorem ggZL_moves_L_sees : GoodIn wzL_moves wsL_sees := goodIn_ca (goodIn_ca ((goodIn_c9 (goodIn_r _ [4] (by decide +kernel) (by decide +kernel)) (goodIn_app (goodIn_app (goodIn_app (goodIn_app ggZL_moves_L_sees_r1 (ggZL_moves_L_sees_r2)) ggZL_moves_L_sees_wsX60) ggZL_moves_L_sees_wsX100) ggZL_moves_L_sees_wsX10))) (goodIn_sub (fun _ h => List.mem_cons_of_mem _ (List.mem_append_left _ (List.mem_append_left _ (List.mem_append_left _ (List.mem_append_right _ h))))) (by decide +kernel))) (goodIn_sub (fun _ h => List.mem_cons_of_mem _ (List.mem_append_left _ (List.mem_append_left _ (List.mem_append_right _ h)))) (by decide +kernel))
set_option maxRecDepth 100000 in
theorem gZL_moves_L_sees : GoodIn wzL_moves (va_wsS RL 157 yL_sees wsL_sees) := goodIn_app (goodIn_of _ (by decide +kernel)) ggZL_moves_L_sees
set_option maxRecDepth 100000 in
theorem ggZL_moves_L_next : GoodIn wzL_moves wsL_next := goodIn_r _ [43, 44] (by decide +kernel) (by decide +kernel)
set_option maxRecDepth 100000 in
theorem gZL_moves_L_next : GoodIn wzL_moves (va_wsS RL 8 yL_next wsL_next) := goodIn_app (goodIn_of _ (by decide +kernel)) ggZL_moves_L_next
set_option maxRecDepth 100000 in
theorem ggZL_moves_L_done_r1 : GoodIn wzL_moves wsL_done_r1 := goodIn_r _ [48, 49, 50, 51, 52, 53, 54, 8, 55, 56, 57, 58, 59, 60, 11, 12, 13, 14, 15, 16, 17, 61, 62, 63] (by decide +kernel) (by decide +kernel)
set_option maxRecDepth 100000 in
theorem ggZL_moves_L_done_r2 : GoodIn wzL_moves wsL_done_r2 := goodIn_r _ [64, 65, 66, 67, 68, 69, 70, 71, 72, 73, 74, 75, 76, 77, 78, 79, 80, 81, 82, 83, 84, 85, 86, 87] (by decide +kernel) (by decide +kernel)
set_option maxRecDepth 100000 in
theorem ggZL_moves_L_done_r3 : GoodIn wzL_moves wsL_done_r3 := goodIn_r _ [88, 89, 90, 91, 92, 93, 94, 95, 96, 97, 98, 99, 100, 101, 102, 103, 104, 105, 106, 107, 108, 109, 110, 111] (by decide +kernel) (by decide +kernel)
set_option maxRecDepth 100000 in
theorem ggZL_moves_L_done_r4 : GoodIn wzL_moves wsL_done_r4 := goodIn_r _ [112, 113, 114, 115, 116, 117, 118, 119, 120, 121, 122, 123, 124, 125, 126, 127, 128, 129, 130, 131, 132, 133, 134, 135] (by decide +kernel) (by decide +kernel)
set_option maxRecDepth 100000 in
theorem ggZL_moves_L_done_r5 : GoodIn wzL_moves wsL_done_r5 := goodIn_r _ [136, 137, 138, 139, 140, 141, 142, 143, 144, 145, 146, 147, 148, 149, 150, 151, 152, 153, 154, 155, 156, 157, 158, 159] (by decide +kernel) (by decide +kernel)
set_option maxRecDepth 100000 in
theorem ggZL_moves_L_done_r6 : GoodIn wzL_moves wsL_done_r6 := goodIn_r _ [160, 161, 162, 163, 164, 165, 166, 167, 168, 169, 170, 171, 172, 173, 174, 175, 176, 177, 178, 179, 180, 181, 182, 183] (by decide +kernel) (by decide +kernel)
set_option maxRecDepth 100000 in
theorem ggZL_moves_L_done_r7 : GoodIn wzL_moves wsL_done_r7 := goodIn_r _ [184, 185, 186, 187, 188, 189, 190, 191, 192, 193, 194, 195, 196, 197, 198, 199, 200, 201, 10, 202, 203, 204, 205, 25] (by decide +kernel) (by decide +kernel)
set_option maxRecDepth 100000 in
theorem ggZL_moves_L_done_r8 : GoodIn wzL_moves wsL_done_r8 := goodIn_r _ [206, 207, 208, 209, 210, 211, 212, 213, 214, 215, 216, 217, 218, 219, 220, 221, 222, 223, 224, 225, 226, 227, 228, 229] (by decide +kernel) (by decide +kernel)
set_option maxRecDepth 100000 in
theorem ggZL_moves_L_done_r9 : GoodIn wzL_moves wsL_done_r9 := goodIn_r _ [230, 231, 232, 233, 234, 235, 236, 237, 238, 239, 240, 241, 242, 243, 244, 245, 246, 32, 247, 34, 35, 40, 248, 249] (by decide +kernel) (by decide +kernel)
set_option maxRecDepth 100000 in
theorem ggZL_moves_L_done_r10 : GoodIn wzL_moves wsL_done_r10 := goodIn_r _ [250, 251, 252, 253, 254, 255, 256, 257, 258, 259, 260, 261, 262, 263, 264, 265, 266, 267, 268, 269, 270, 271, 272, 273] (by decide +kernel) (by decide +kernel)
set_option maxRecDepth 100000 in
theorem ggZL_moves_L_done_r11 : GoodIn wzL_moves wsL_done_r11 := goodIn_r _ [274, 275, 276, 277, 278, 279, 280, 281, 282, 283, 284, 285, 286, 287, 288, 289, 290, 291, 292, 293, 294, 295, 296, 297] (by decide +kernel) (by decide +kernel)
set_option maxRecDepth 100000 in
theorem ggZL_moves_L_done_r12 : GoodIn wzL_moves wsL_done_r12 := goodIn_r _ [298, 299, 300, 301, 302, 303, 304, 305, 306, 307, 308, 30, 31, 33, 309, 310, 311, 312, 37, 38, 39, 313, 314, 315] (by decide +kernel) (by decide +kernel)
set_option maxRecDepth 100000 in
theorem ggZL_moves_L_done_r13 : GoodIn wzL_moves wsL_done_r13 := goodIn_r _ [316, 317, 318, 319, 320, 321, 322, 323, 22, 23, 324, 325, 326, 327, 328, 329, 330, 331, 332, 333, 334, 335, 336, 337] (by decide +kernel) (by decide +kernel)
set_option maxRecDepth 100000 in
theorem ggZL_moves_L_done_r14 : GoodIn wzL_moves wsL_done_r14 := goodIn_r _ [338, 339, 340, 341, 342, 24, 343, 344, 345, 346, 347, 348, 349, 350, 351, 352, 353, 354, 355, 356, 357, 358, 359, 360] (by decide +kernel) (by decide +kernel)
set_option maxRecDepth 100000 in
theorem ggZL_moves_L_done_r15 : GoodIn wzL_moves wsL_done_r15 := goodIn_r _ [361, 26, 27, 28, 362, 363, 364, 365, 366, 367, 368, 369, 370, 36, 371, 372, 373, 374, 29, 375, 376, 377, 378, 379] (by decide +kernel) (by decide +kernel)
set_option maxRecDepth 100000 in
theorem ggZL_moves_L_done_r16 : GoodIn wzL_moves wsL_done_r16 := goodIn_r _ [380, 381, 382, 383, 384, 385, 386, 387, 388, 389, 390, 391, 392, 393, 394, 395, 396, 397, 398, 399, 400, 401, 402, 403] (by decide +kernel) (by decide +kernel)
set_option maxRecDepth 100000 in
theorem ggZL_moves_L_done_r17 : GoodIn wzL_moves wsL_done_r17 := goodIn_r _ [404, 405, 406, 407, 408, 409, 410, 411, 412, 413, 414, 415, 416, 417, 418, 419, 420, 421, 422, 423, 424, 425, 426, 18] (by decide +kernel) (by decide +kernel)
set_option maxRecDepth 100000 in
theorem ggZL_moves_L_done_r18 : GoodIn wzL_moves wsL_done_r18 := goodIn_r _ [19, 20, 21, 5, 6, 7, 9] (by decide +kernel) (by decide +kernel)
set_option maxRecDepth 100000 in
theorem ggZL_moves_L_done_wsX100 : GoodIn wzL_moves wsX100 := goodIn_r _ [435, 436, 437, 438, 439, 440, 441, 442, 443, 444] (by decide +kernel) (by decide +kernel)
set_option maxRecDepth 100000 in
theorem ggZL_moves_L_done_wsX50 : GoodIn wzL_moves wsX50 := goodIn_r _ [448, 449, 450] (by decide +kernel) (by decide +kernel)
set_option maxRecDepth 100000 in
theorem ggZL_moves_L_done_wsX90 : GoodIn wzL_moves wsX90 := goodIn_r _ [451, 452, 453, 454] (by decide +kernel) (by decide +kernel)
set_option maxRecDepth 100000 in
theorem ggZL_moves_L_done_wsX70 : GoodIn wzL_moves wsX70 := goodIn_r _ [455, 456, 457, 458, 459, 460] (by decide +kernel) (by decide +kernel)
set_option maxRecDepth 100000 in
theorem ggZL_moves_L_done_wsJ00 : GoodIn wzL_moves wsJ00 := goodIn_r _ [461, 462, 463, 464] (by decide +kernel) (by decide +kernel)
set_option maxRecDepth 100000 in
theorem ggZL_moves_L_done_wsX60 : GoodIn wzL_moves wsX60 := goodIn_r _ [433, 434] (by decide +kernel) (by decide +kernel)
set_option maxRecDepth 100000 in
theorem ggZL_moves_L_done_wsX10 : GoodIn wzL_moves wsX10 := goodIn_r _ [445, 446, 447] (by decide +kernel) (by decide +kernel)
set_option maxRecDepth 100000 in
theorem ggZL_moves_L_done_wsX20 : GoodIn wzL_moves wsX20 := goodIn_r _ [465] (by decide +kernel) (by decide +kernel)
set_option maxRecDepth 100000 in
theorem ggZL_moves_L_done_wsX80 : GoodIn wzL_moves wsX80 := goodIn_r _ [466, 467, 468, 469] (by decide +kernel) (by decide +kernel)
set_option maxRecDepth 100000 in
theorem ggZL_moves_L_done : GoodIn wzL_moves wzL_done := goodIn_ca (goodIn_ca (goodIn_ca (goodIn_ca ((goodIn_c9 (goodIn_r _ [47] (by decide +kernel) (by decide +kernel)) (goodIn_app (goodIn_app (goodIn_app (goodIn_app (goodIn_app (goodIn_app (goodIn_app (goodIn_app (goodIn_app (goodIn_app ggZL_moves_L_done_r1 (goodIn_app ggZL_moves_L_done_r2 (goodIn_app ggZL_moves_L_done_r3 (goodIn_app ggZL_moves_L_done_r4 (goodIn_app ggZL_moves_L_done_r5 (goodIn_app ggZL_moves_L_done_r6 (goodIn_app ggZL_moves_L_done_r7 (goodIn_app ggZL_moves_L_done_r8 (goodIn_app ggZL_moves_L_done_r9 (goodIn_app ggZL_moves_L_done_r10 (goodIn_app ggZL_moves_L_done_r11 (goodIn_app ggZL_moves_L_done_r12 (goodIn_app ggZL_moves_L_done_r13 (goodIn_app ggZL_moves_L_done_r14 (goodIn_app ggZL_moves_L_done_r15 (goodIn_app ggZL_moves_L_done_r16 (goodIn_app ggZL_moves_L_done_r17 (ggZL_moves_L_done_r18)))))))))))))))))) ggZL_moves_L_done_wsX100) ggZL_moves_L_done_wsX50) ggZL_moves_L_done_wsX90) ggZL_moves_L_done_wsX70) ggZL_moves_L_done_wsJ00) ggZL_moves_L_done_wsX60) ggZL_moves_L_done_wsX10) ggZL_moves_L_done_wsX20) ggZL_moves_L_done_wsX80))) (goodIn_sub (fun _ h => List.mem_cons_of_mem _ (List.mem_append_left _ (List.mem_append_right _ h))) (by decide +kernel))) (goodIn_sub (fun _ h => List.mem_cons_of_mem _ (List.mem_append_left _ (List.mem_append_left _ (List.mem_append_left _ (List.mem_append_right _ h))))) (by decide +kernel))) (goodIn_sub (fun _ h => List.mem_cons_of_mem _ (List.mem_append_left _ (List.mem_append_left _ (List.mem_append_right _ h)))) (by decide +kernel))) (goodIn_sub (fun _ h => List.mem_cons_of_mem _ (List.mem_append_right _ h)) (by decide +kernel))
set_option maxRecDepth 100000 in
theorem gZL_moves_L_done : GoodIn wzL_moves (va_wsS RL 170 yL_done wzL_done) := goodIn_app (goodIn_of _ (by decide +kernel)) ggZL_moves_L_done
set_option maxRecDepth 100000 in
theorem ggZL_moves_L_copies : GoodIn wzL_moves wsL_copies := goodIn_r _ [429] (by decide +kernel) (by decide +kernel)
set_option maxRecDepth 100000 in
theorem gZL_moves_L_copies : GoodIn wzL_moves (va_wsS RL 153 yL_copies wsL_copies) := goodIn_app (goodIn_of _ (by decide +kernel)) ggZL_moves_L_copies
set_option maxRecDepth 100000 in
theorem ggZL_moves_X10_count : GoodIn wzL_moves wsX10_count := goodIn_ca (goodIn_r _ [9, 10, 11, 12, 13, 8, 14, 15, 16, 17, 433, 434, 435, 436, 437, 438, 439, 440, 441, 442, 443, 444] (by decide +kernel) (by decide +kernel)) (goodIn_sub (fun _ h => List.mem_cons_of_mem _ (List.mem_append_left _ (List.mem_append_left _ (List.mem_append_left _ (List.mem_append_right _ h))))) (by decide +kernel))
set_option maxRecDepth 100000 in
theorem gZL_moves_X10_count : GoodIn wzL_moves (wsV RL 136 RX10 yX10_count wsX10_count) := goodIn_app (goodIn_of _ (by decide +kernel)) ggZL_moves_X10_count
set_option maxRecDepth 100000 in
theorem ggZL_moves_L_isLike : GoodIn wzL_moves wsL_isLike := goodIn_r _ [432] (by decide +kernel) (by decide +kernel)
set_option maxRecDepth 100000 in
theorem gZL_moves_L_isLike : GoodIn wzL_moves (va_wsS RL 174 yL_isLike wsL_isLike) := goodIn_app (goodIn_of _ (by decide +kernel)) ggZL_moves_L_isLike
set_option maxRecDepth 100000 in
theorem ggZL_comes_L_from : GoodIn wzL_comes wsL_from := goodIn_r _ [4, 5, 6, 3, 7, 8] (by decide +kernel) (by decide +kernel)
set_option maxRecDepth 100000 in
theorem gZL_comes_L_from : GoodIn wzL_comes (va_wsS RL 32 yL_from wsL_from) := goodIn_app (goodIn_of _ (by decide +kernel)) ggZL_comes_L_from
set_option maxRecDepth 100000 in
theorem ggZL_comes_L_done_r1 : GoodIn wzL_comes wsL_done_r1 := goodIn_r _ [12, 13, 14, 15, 16, 17, 18, 19, 20, 21, 22, 23, 24, 25, 26, 27, 28, 29, 30, 31, 32, 33, 34, 35] (by decide +kernel) (by decide +kernel)
set_option maxRecDepth 100000 in
theorem ggZL_comes_L_done_r2 : GoodIn wzL_comes wsL_done_r2 := goodIn_r _ [36, 37, 38, 39, 40, 41, 42, 43, 44, 45, 46, 47, 48, 49, 50, 51, 52, 53, 54, 55, 56, 57, 58, 59] (by decide +kernel) (by decide +kernel)
set_option maxRecDepth 100000 in
theorem ggZL_comes_L_done_r3 : GoodIn wzL_comes wsL_done_r3 := goodIn_r _ [60, 61, 62, 63, 64, 65, 66, 67, 68, 69, 70, 71, 72, 73, 74, 75, 76, 77, 78, 79, 80, 81, 82, 83] (by decide +kernel) (by decide +kernel)
set_option maxRecDepth 100000 in
theorem ggZL_comes_L_done_r4 : GoodIn wzL_comes wsL_done_r4 := goodIn_r _ [84, 85, 86, 87, 88, 89, 90, 91, 92, 93, 94, 95, 96, 97, 98, 99, 100, 101, 102, 103, 104, 105, 106, 107] (by decide +kernel) (by decide +kernel)
set_option maxRecDepth 100000 in
theorem ggZL_comes_L_done_r5 : GoodIn wzL_comes wsL_done_r5 := goodIn_r _ [108, 109, 110, 111, 112, 113, 114, 115, 116, 117, 118, 119, 120, 121, 122, 123, 124, 125, 126, 127, 128, 129, 130, 131] (by decide +kernel) (by decide +kernel)
set_option maxRecDepth 100000 in
theorem ggZL_comes_L_done_r6 : GoodIn wzL_comes wsL_done_r6 := goodIn_r _ [132, 133, 134, 135, 136, 137, 138, 139, 140, 141, 142, 143, 144, 145, 146, 147, 148, 149, 150, 151, 152, 153, 154, 155] (by decide +kernel) (by decide +kernel)
set_option maxRecDepth 100000 in
theorem ggZL_comes_L_done_r7 : GoodIn wzL_comes wsL_done_r7 := goodIn_r _ [156, 157, 158, 159, 160, 161, 162, 163, 164, 165, 166, 167, 168, 169, 170, 171, 172, 173, 174, 175, 176, 177, 178, 179] (by decide +kernel) (by decide +kernel)
set_option maxRecDepth 100000 in
theorem ggZL_comes_L_done_r8 : GoodIn wzL_comes wsL_done_r8 := goodIn_r _ [180, 181, 182, 183, 184, 185, 186, 187, 188, 189, 190, 191, 192, 193, 194, 195, 196, 197, 198, 199, 200, 201, 202, 203] (by decide +kernel) (by decide +kernel)
set_option maxRecDepth 100000 in
theorem ggZL_comes_L_done_r9 : GoodIn wzL_comes wsL_done_r9 := goodIn_r _ [204, 205, 206, 207, 208, 209, 210, 211, 212, 213, 214, 215, 216, 217, 218, 219, 220, 221, 222, 223, 224, 225, 226, 227] (by decide +kernel) (by decide +kernel)
set_option maxRecDepth 100000 in
theorem ggZL_comes_L_done_r10 : GoodIn wzL_comes wsL_done_r10 := goodIn_r _ [228, 229, 230, 231, 232, 233, 234, 235, 236, 237, 238, 239, 240, 241, 242, 243, 244, 245, 246, 247, 248, 249, 250, 251] (by decide +kernel) (by decide +kernel)
set_option maxRecDepth 100000 in
theorem ggZL_comes_L_done_r11 : GoodIn wzL_comes wsL_done_r11 := goodIn_r _ [252, 253, 254, 255, 256, 257, 258, 259, 260, 261, 262, 263, 264, 265, 266, 267, 268, 269, 270, 271, 272, 273, 274, 275] (by decide +kernel) (by decide +kernel)
