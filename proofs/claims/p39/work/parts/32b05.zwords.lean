set_option maxRecDepth 100000 in
theorem ggZL_comes_L_done_r12 : GoodIn wzL_comes wsL_done_r12 := goodIn_r _ [276, 277, 278, 279, 280, 281, 282, 283, 284, 285, 286, 287, 288, 289, 290, 291, 292, 293, 294, 295, 296, 297, 298, 299] (by decide +kernel) (by decide +kernel)
set_option maxRecDepth 100000 in
theorem ggZL_comes_L_done_r13 : GoodIn wzL_comes wsL_done_r13 := goodIn_r _ [300, 301, 302, 303, 304, 305, 306, 307, 308, 309, 310, 311, 312, 313, 314, 315, 316, 317, 318, 319, 320, 321, 322, 323] (by decide +kernel) (by decide +kernel)
set_option maxRecDepth 100000 in
theorem ggZL_comes_L_done_r14 : GoodIn wzL_comes wsL_done_r14 := goodIn_r _ [324, 325, 326, 327, 328, 329, 330, 331, 332, 333, 334, 335, 336, 337, 338, 339, 340, 341, 342, 343, 344, 345, 346, 347] (by decide +kernel) (by decide +kernel)
set_option maxRecDepth 100000 in
theorem ggZL_comes_L_done_r15 : GoodIn wzL_comes wsL_done_r15 := goodIn_r _ [348, 349, 350, 351, 352, 353, 354, 355, 356, 357, 358, 359, 360, 361, 362, 363, 364, 365, 366, 367, 368, 369, 370, 371] (by decide +kernel) (by decide +kernel)
set_option maxRecDepth 100000 in
theorem ggZL_comes_L_done_r16 : GoodIn wzL_comes wsL_done_r16 := goodIn_r _ [372, 373, 374, 375, 376, 377, 378, 379, 380, 381, 382, 383, 384, 385, 386, 387, 388, 389, 390, 391, 392, 393, 394, 395] (by decide +kernel) (by decide +kernel)
set_option maxRecDepth 100000 in
theorem ggZL_comes_L_done_r17 : GoodIn wzL_comes wsL_done_r17 := goodIn_r _ [396, 397, 398, 399, 400, 401, 402, 403, 404, 405, 406, 407, 408, 409, 410, 411, 412, 413, 414, 415, 416, 417, 418, 419] (by decide +kernel) (by decide +kernel)
set_option maxRecDepth 100000 in
theorem ggZL_comes_L_done_r18 : GoodIn wzL_comes wsL_done_r18 := goodIn_r _ [420, 421, 422, 423, 424, 425, 426] (by decide +kernel) (by decide +kernel)
set_option maxRecDepth 100000 in
theorem ggZL_comes_L_done_wsX100 : GoodIn wzL_comes wsX100 := goodIn_r _ [446, 447, 448, 449, 450, 451, 452, 453, 454, 455] (by decide +kernel) (by decide +kernel)
set_option maxRecDepth 100000 in
theorem ggZL_comes_L_done_wsX50 : GoodIn wzL_comes wsX50 := goodIn_r _ [456, 457, 458] (by decide +kernel) (by decide +kernel)
set_option maxRecDepth 100000 in
theorem ggZL_comes_L_done_wsX90 : GoodIn wzL_comes wsX90 := goodIn_r _ [459, 460, 461, 462] (by decide +kernel) (by decide +kernel)
set_option maxRecDepth 100000 in
theorem ggZL_comes_L_done_wsX70 : GoodIn wzL_comes wsX70 := goodIn_r _ [463, 464, 465, 466, 467, 468] (by decide +kernel) (by decide +kernel)
set_option maxRecDepth 100000 in
theorem ggZL_comes_L_done_wsJ00 : GoodIn wzL_comes wsJ00 := goodIn_r _ [469, 470, 471, 472] (by decide +kernel) (by decide +kernel)
set_option maxRecDepth 100000 in
theorem ggZL_comes_L_done_wsX60 : GoodIn wzL_comes wsX60 := goodIn_r _ [473, 474] (by decide +kernel) (by decide +kernel)
set_option maxRecDepth 100000 in
theorem ggZL_comes_L_done_wsX10 : GoodIn wzL_comes wsX10 := goodIn_r _ [475, 476, 477] (by decide +kernel) (by decide +kernel)
set_option maxRecDepth 100000 in
theorem ggZL_comes_L_done_wsX20 : GoodIn wzL_comes wsX20 := goodIn_r _ [478] (by decide +kernel) (by decide +kernel)
set_option maxRecDepth 100000 in
theorem ggZL_comes_L_done_wsX80 : GoodIn wzL_comes wsX80 := goodIn_r _ [479, 480, 481, 482] (by decide +kernel) (by decide +kernel)
set_option maxRecDepth 100000 in
theorem ggZL_comes_L_done : GoodIn wzL_comes wzL_done := goodIn_ca (goodIn_ca (goodIn_ca (goodIn_ca ((goodIn_c9 (goodIn_r _ [11] (by decide +kernel) (by decide +kernel)) (goodIn_app (goodIn_app (goodIn_app (goodIn_app (goodIn_app (goodIn_app (goodIn_app (goodIn_app (goodIn_app (goodIn_app ggZL_comes_L_done_r1 (goodIn_app ggZL_comes_L_done_r2 (goodIn_app ggZL_comes_L_done_r3 (goodIn_app ggZL_comes_L_done_r4 (goodIn_app ggZL_comes_L_done_r5 (goodIn_app ggZL_comes_L_done_r6 (goodIn_app ggZL_comes_L_done_r7 (goodIn_app ggZL_comes_L_done_r8 (goodIn_app ggZL_comes_L_done_r9 (goodIn_app ggZL_comes_L_done_r10 (goodIn_app ggZL_comes_L_done_r11 (goodIn_app ggZL_comes_L_done_r12 (goodIn_app ggZL_comes_L_done_r13 (goodIn_app ggZL_comes_L_done_r14 (goodIn_app ggZL_comes_L_done_r15 (goodIn_app ggZL_comes_L_done_r16 (goodIn_app ggZL_comes_L_done_r17 (ggZL_comes_L_done_r18)))))))))))))))))) ggZL_comes_L_done_wsX100) ggZL_comes_L_done_wsX50) ggZL_comes_L_done_wsX90) ggZL_comes_L_done_wsX70) ggZL_comes_L_done_wsJ00) ggZL_comes_L_done_wsX60) ggZL_comes_L_done_wsX10) ggZL_comes_L_done_wsX20) ggZL_comes_L_done_wsX80))) (goodIn_sub (fun _ h => List.mem_cons_of_mem _ (List.mem_append_left _ (List.mem_append_left _ (List.mem_append_left _ (List.mem_append_right _ h))))) (by decide +kernel))) (goodIn_sub (fun _ h => List.mem_cons_of_mem _ (List.mem_append_left _ (List.mem_append_left _ (List.mem_append_right _ h)))) (by decide +kernel))) (goodIn_sub (fun _ h => List.mem_cons_of_mem _ (List.mem_append_left _ (List.mem_append_right _ h))) (by decide +kernel))) (goodIn_sub (fun _ h => List.mem_cons_of_mem _ (List.mem_append_right _ h)) (by decide +kernel))
set_option maxRecDepth 100000 in
theorem gZL_comes_L_done : GoodIn wzL_comes (va_wsS RL 170 yL_done wzL_done) := goodIn_app (goodIn_of _ (by decide +kernel)) ggZL_comes_L_done
set_option maxRecDepth 100000 in
theorem ggZL_comes_X10_isSorted_r1 : GoodIn wzL_comes wsX10_isSorted_r1 := goodIn_r _ [26, 27, 28, 19, 29, 30, 31, 32, 389, 390, 391, 392, 393, 394, 395, 396, 174, 397, 398, 399, 400, 401, 402, 403] (by decide +kernel) (by decide +kernel)
set_option maxRecDepth 100000 in
theorem ggZL_comes_X10_isSorted_r2 : GoodIn wzL_comes wsX10_isSorted_r2 := goodIn_r _ [404, 179, 329, 366, 287, 288, 221, 289, 223, 224] (by decide +kernel) (by decide +kernel)
set_option maxRecDepth 100000 in
theorem ggZL_comes_X10_isSorted_wsX100 : GoodIn wzL_comes wsX100 := goodIn_r _ [446, 447, 448, 449, 450, 451, 452, 453, 454, 455] (by decide +kernel) (by decide +kernel)
set_option maxRecDepth 100000 in
theorem ggZL_comes_X10_isSorted_wsX60 : GoodIn wzL_comes wsX60 := goodIn_r _ [473, 474] (by decide +kernel) (by decide +kernel)
set_option maxRecDepth 100000 in
theorem ggZL_comes_X10_isSorted_wsX10 : GoodIn wzL_comes wsX10 := goodIn_r _ [475, 476, 477] (by decide +kernel) (by decide +kernel)
set_option maxRecDepth 100000 in
theorem ggZL_comes_X10_isSorted : GoodIn wzL_comes wsX10_isSorted := goodIn_ca ((goodIn_c9 (goodIn_r _ [430] (by decide +kernel) (by decide +kernel)) (goodIn_app (goodIn_app (goodIn_app (goodIn_app ggZL_comes_X10_isSorted_r1 (ggZL_comes_X10_isSorted_r2)) ggZL_comes_X10_isSorted_wsX100) ggZL_comes_X10_isSorted_wsX60) ggZL_comes_X10_isSorted_wsX10))) (goodIn_sub (fun _ h => List.mem_cons_of_mem _ (List.mem_append_left _ (List.mem_append_left _ (List.mem_append_right _ h)))) (by decide +kernel))
set_option maxRecDepth 100000 in
theorem gZL_comes_X10_isSorted : GoodIn wzL_comes (wsV RL 178 RX10 yX10_isSorted wsX10_isSorted) := goodIn_app (goodIn_of _ (by decide +kernel)) ggZL_comes_X10_isSorted
set_option maxRecDepth 100000 in
theorem ggZL_comes_X10_runs_r1 : GoodIn wzL_comes wsX10_runs_r1 := goodIn_r _ [26, 27, 28, 19, 29, 30, 31, 32, 393, 394, 395, 396, 174, 397, 398, 399, 400, 401, 402, 403, 404, 179, 329, 366] (by decide +kernel) (by decide +kernel)
set_option maxRecDepth 100000 in
theorem ggZL_comes_X10_runs_r2 : GoodIn wzL_comes wsX10_runs_r2 := goodIn_r _ [287, 288, 221, 289, 223, 224] (by decide +kernel) (by decide +kernel)
set_option maxRecDepth 100000 in
theorem ggZL_comes_X10_runs_wsX100 : GoodIn wzL_comes wsX100 := goodIn_r _ [446, 447, 448, 449, 450, 451, 452, 453, 454, 455] (by decide +kernel) (by decide +kernel)
set_option maxRecDepth 100000 in
theorem ggZL_comes_X10_runs_wsX60 : GoodIn wzL_comes wsX60 := goodIn_r _ [473, 474] (by decide +kernel) (by decide +kernel)
set_option maxRecDepth 100000 in
theorem ggZL_comes_X10_runs_wsX10 : GoodIn wzL_comes wsX10 := goodIn_r _ [475, 476, 477] (by decide +kernel) (by decide +kernel)
set_option maxRecDepth 100000 in
theorem ggZL_comes_X10_runs : GoodIn wzL_comes wsX10_runs := goodIn_ca ((goodIn_c9 (goodIn_r _ [434] (by decide +kernel) (by decide +kernel)) (goodIn_app (goodIn_app (goodIn_app (goodIn_app ggZL_comes_X10_runs_r1 (ggZL_comes_X10_runs_r2)) ggZL_comes_X10_runs_wsX100) ggZL_comes_X10_runs_wsX60) ggZL_comes_X10_runs_wsX10))) (goodIn_sub (fun _ h => List.mem_cons_of_mem _ (List.mem_append_left _ (List.mem_append_left _ (List.mem_append_right _ h)))) (by decide +kernel))
set_option maxRecDepth 100000 in
theorem gZL_comes_X10_runs : GoodIn wzL_comes (wsV RL 182 RX10 yX10_runs wsX10_runs) := goodIn_app (goodIn_of _ (by decide +kernel)) ggZL_comes_X10_runs
set_option maxRecDepth 100000 in
theorem ggZL_comes_X10_count : GoodIn wzL_comes wsX10_count := goodIn_ca (goodIn_r _ [426, 174, 26, 27, 28, 19, 29, 30, 31, 32, 473, 474, 446, 447, 448, 449, 450, 451, 452, 453, 454, 455] (by decide +kernel) (by decide +kernel)) (goodIn_sub (fun _ h => List.mem_cons_of_mem _ (List.mem_append_left _ (List.mem_append_left _ (List.mem_append_right _ h)))) (by decide +kernel))
set_option maxRecDepth 100000 in
theorem gZL_comes_X10_count : GoodIn wzL_comes (wsV RL 136 RX10 yX10_count wsX10_count) := goodIn_app (goodIn_of _ (by decide +kernel)) ggZL_comes_X10_count
set_option maxRecDepth 100000 in
theorem ggZL_comes_X10_cardAt_r1 : GoodIn wzL_comes wsX10_cardAt_r1 := goodIn_r _ [308, 309, 329, 179, 26, 27, 28, 19, 29, 30, 31, 32, 349, 350, 351, 174, 366, 287, 288, 221, 289, 223, 224, 361] (by decide +kernel) (by decide +kernel)
set_option maxRecDepth 100000 in
theorem ggZL_comes_X10_cardAt_r2 : GoodIn wzL_comes wsX10_cardAt_r2 := goodIn_r _ [294, 295, 296, 225] (by decide +kernel) (by decide +kernel)
set_option maxRecDepth 100000 in
theorem ggZL_comes_X10_cardAt_wsX60 : GoodIn wzL_comes wsX60 := goodIn_r _ [473, 474] (by decide +kernel) (by decide +kernel)
set_option maxRecDepth 100000 in
theorem ggZL_comes_X10_cardAt_wsX100 : GoodIn wzL_comes wsX100 := goodIn_r _ [446, 447, 448, 449, 450, 451, 452, 453, 454, 455] (by decide +kernel) (by decide +kernel)
set_option maxRecDepth 100000 in
theorem ggZL_comes_X10_cardAt_wsX10 : GoodIn wzL_comes wsX10 := goodIn_r _ [475, 476, 477] (by decide +kernel) (by decide +kernel)
set_option maxRecDepth 100000 in
theorem ggZL_comes_X10_cardAt : GoodIn wzL_comes wsX10_cardAt := goodIn_ca (goodIn_ca ((goodIn_c9 (goodIn_r _ [422] (by decide +kernel) (by decide +kernel)) (goodIn_app (goodIn_app (goodIn_app (goodIn_app ggZL_comes_X10_cardAt_r1 (ggZL_comes_X10_cardAt_r2)) ggZL_comes_X10_cardAt_wsX60) ggZL_comes_X10_cardAt_wsX100) ggZL_comes_X10_cardAt_wsX10))) (goodIn_sub (fun _ h => List.mem_cons_of_mem _ (List.mem_append_left _ (List.mem_append_right _ h))) (by decide +kernel))) (goodIn_sub (fun _ h => List.mem_cons_of_mem _ (List.mem_append_left _ (List.mem_append_left _ (List.mem_append_right _ h)))) (by decide +kernel))
set_option maxRecDepth 100000 in
theorem gZL_comes_X10_cardAt : GoodIn wzL_comes (wsV RL 133 RX10 yX10_cardAt wsX10_cardAt) := goodIn_app (goodIn_of _ (by decide +kernel)) ggZL_comes_X10_cardAt
set_option maxRecDepth 100000 in
theorem ggZL_comes_L_put_r1 : GoodIn wzL_comes wsL_put_r1 := goodIn_r _ [12, 14, 438, 439, 440, 19, 441, 30, 31, 174, 179, 26, 27, 28, 29, 32, 171, 172, 173, 21, 22, 175, 176, 177] (by decide +kernel) (by decide +kernel)
set_option maxRecDepth 100000 in
theorem ggZL_comes_L_put_r2 : GoodIn wzL_comes wsL_put_r2 := goodIn_r _ [178, 180, 218, 219, 220, 221, 222, 223, 224, 225, 356, 233, 234, 229, 235, 231, 236, 237, 238, 239, 240] (by decide +kernel) (by decide +kernel)
set_option maxRecDepth 100000 in
theorem ggZL_comes_L_put_wsX60 : GoodIn wzL_comes wsX60 := goodIn_r _ [473, 474] (by decide +kernel) (by decide +kernel)
set_option maxRecDepth 100000 in
theorem ggZL_comes_L_put_wsX100 : GoodIn wzL_comes wsX100 := goodIn_r _ [446, 447, 448, 449, 450, 451, 452, 453, 454, 455] (by decide +kernel) (by decide +kernel)
set_option maxRecDepth 100000 in
theorem ggZL_comes_L_put_wsX10 : GoodIn wzL_comes wsX10 := goodIn_r _ [475, 476, 477] (by decide +kernel) (by decide +kernel)
set_option maxRecDepth 100000 in
theorem ggZL_comes_L_put : GoodIn wzL_comes wsL_put := goodIn_ca (goodIn_ca ((goodIn_c9 (goodIn_r _ [437] (by decide +kernel) (by decide +kernel)) (goodIn_app (goodIn_app (goodIn_app (goodIn_app ggZL_comes_L_put_r1 (ggZL_comes_L_put_r2)) ggZL_comes_L_put_wsX60) ggZL_comes_L_put_wsX100) ggZL_comes_L_put_wsX10))) (goodIn_sub (fun _ h => List.mem_cons_of_mem _ (List.mem_append_left _ (List.mem_append_left _ (List.mem_append_right _ h)))) (by decide +kernel))) (goodIn_sub (fun _ h => List.mem_cons_of_mem _ (List.mem_append_left _ (List.mem_append_left _ (List.mem_append_left _ (List.mem_append_right _ h))))) (by decide +kernel))
set_option maxRecDepth 100000 in
theorem gZL_comes_L_put : GoodIn wzL_comes (va_wsS RL 201 yL_put wsL_put) := goodIn_app (goodIn_of _ (by decide +kernel)) ggZL_comes_L_put
set_option maxRecDepth 100000 in
theorem ggZL_comes_X10_placeOf : GoodIn wzL_comes wsX10_placeOf := goodIn_ca (goodIn_r _ [445, 174, 329, 26, 27, 28, 19, 29, 30, 31, 32, 473, 474, 446, 447, 448, 449, 450, 451, 452, 453, 454, 455] (by decide +kernel) (by decide +kernel)) (goodIn_sub (fun _ h => List.mem_cons_of_mem _ (List.mem_append_left _ (List.mem_append_left _ (List.mem_append_right _ h)))) (by decide +kernel))
set_option maxRecDepth 100000 in
theorem gZL_comes_X10_placeOf : GoodIn wzL_comes (wsV RL 203 RX10 yX10_placeOf wsX10_placeOf) := goodIn_app (goodIn_of _ (by decide +kernel)) ggZL_comes_X10_placeOf
set_option maxRecDepth 100000 in
theorem ggZL_lays_L_from : GoodIn wzL_lays wsL_from := goodIn_r _ [7, 8, 9, 6, 10, 11] (by decide +kernel) (by decide +kernel)
set_option maxRecDepth 100000 in
theorem gZL_lays_L_from : GoodIn wzL_lays (va_wsS RL 32 yL_from wsL_from) := goodIn_app (goodIn_of _ (by decide +kernel)) ggZL_lays_L_from
set_option maxRecDepth 100000 in
theorem ggZL_lays_J4_init_da8c8 : GoodIn wzL_lays wsJ4_init_da8c8 := goodIn_r _ [14, 15, 16, 17, 18, 19, 20, 21, 22, 23, 24, 25, 26, 27, 28, 29, 30, 31, 32, 33, 662, 663, 664, 665] (by decide +kernel) (by decide +kernel)
set_option maxRecDepth 100000 in
theorem gZL_lays_J4_init_da8c8 : GoodIn wzL_lays (wsJ4_init_da8c8) := ggZL_lays_J4_init_da8c8
set_option maxRecDepth 100000 in
theorem ggZL_lays_J4_append_15ec4_r1 : GoodIn wzL_lays wsJ4_append_15ec4_r1 := goodIn_r _ [38, 39, 40, 41, 17, 42, 43, 44, 45, 46, 47, 48, 24, 49, 50, 51, 52, 53, 25, 54, 55, 56, 57, 58] (by decide +kernel) (by decide +kernel)
set_option maxRecDepth 100000 in
theorem ggZL_lays_J4_append_15ec4_r2 : GoodIn wzL_lays wsJ4_append_15ec4_r2 := goodIn_r _ [59, 60, 61, 62, 63, 64, 65, 66, 67, 68, 69, 70, 71, 72, 73, 74, 75, 76, 77, 78, 79, 80, 81, 23] (by decide +kernel) (by decide +kernel)
set_option maxRecDepth 100000 in
theorem ggZL_lays_J4_append_15ec4_r3 : GoodIn wzL_lays wsJ4_append_15ec4_r3 := goodIn_r _ [82, 83, 84, 85, 86, 87, 88, 89, 90, 91, 92, 93, 22, 94, 95, 28, 96, 97, 98, 99, 100, 101, 102, 103] (by decide +kernel) (by decide +kernel)
set_option maxRecDepth 100000 in
theorem ggZL_lays_J4_append_15ec4_r4 : GoodIn wzL_lays wsJ4_append_15ec4_r4 := goodIn_r _ [104, 105, 106, 107, 108, 109, 110, 111, 112, 113, 114, 115, 116, 117, 118, 119, 120, 121, 122, 123, 124, 125, 126, 127] (by decide +kernel) (by decide +kernel)
set_option maxRecDepth 100000 in
theorem ggZL_lays_J4_append_15ec4_r5 : GoodIn wzL_lays wsJ4_append_15ec4_r5 := goodIn_r _ [128, 129, 130, 131, 132, 133, 134, 135, 136, 137, 138, 139, 140, 141, 142, 143, 144, 26, 27, 29, 30, 31, 32, 33] (by decide +kernel) (by decide +kernel)
set_option maxRecDepth 100000 in
theorem ggZL_lays_J4_append_15ec4_r6 : GoodIn wzL_lays wsJ4_append_15ec4_r6 := goodIn_r _ [145, 146, 147, 148, 149, 150, 151, 152, 153, 154, 155, 156, 157, 158, 159, 160, 161, 162, 163, 164, 165, 166] (by decide +kernel) (by decide +kernel)
