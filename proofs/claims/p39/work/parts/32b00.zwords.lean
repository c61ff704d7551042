set_option maxRecDepth 100000 in
theorem ggZL_done_X10_lay_r1 : GoodIn wzL_done wsX10_lay_r1 := goodIn_r _ [10, 11, 12, 13, 14, 15, 16, 17, 8, 18, 19, 20, 21, 22, 23, 24, 25, 26, 27, 28, 29, 30, 31, 32] (by decide +kernel) (by decide +kernel)
set_option maxRecDepth 100000 in
theorem ggZL_done_X10_lay_r2 : GoodIn wzL_done wsX10_lay_r2 := goodIn_r _ [33, 34, 35, 36, 37, 38, 39, 40, 41, 42, 43, 44, 45, 46, 47, 48, 49, 50, 51, 52, 53, 54, 55, 56] (by decide +kernel) (by decide +kernel)
set_option maxRecDepth 100000 in
theorem ggZL_done_X10_lay_r3 : GoodIn wzL_done wsX10_lay_r3 := goodIn_r _ [57, 58, 59, 60, 61, 62, 63, 64, 65, 66, 67, 68, 69, 70, 71, 72, 73, 74, 75, 76, 77, 78, 79, 80] (by decide +kernel) (by decide +kernel)
set_option maxRecDepth 100000 in
theorem ggZL_done_X10_lay_r4 : GoodIn wzL_done wsX10_lay_r4 := goodIn_r _ [81, 82, 83, 84, 85, 86, 87, 88, 89, 90, 91, 92, 93, 94, 95, 96, 97, 98, 99, 100, 101, 102, 103, 104] (by decide +kernel) (by decide +kernel)
set_option maxRecDepth 100000 in
theorem ggZL_done_X10_lay_r5 : GoodIn wzL_done wsX10_lay_r5 := goodIn_r _ [105, 106, 107, 108, 109, 110, 111, 112, 113, 114, 115, 116, 117, 118, 119, 120, 121, 122, 123, 124, 125, 126, 127, 128] (by decide +kernel) (by decide +kernel)
set_option maxRecDepth 100000 in
theorem ggZL_done_X10_lay_r6 : GoodIn wzL_done wsX10_lay_r6 := goodIn_r _ [129, 130, 131, 132, 133, 134, 135, 136, 137, 138, 139, 140, 141, 142, 143, 144, 145, 146, 147, 148, 149, 150, 151, 152] (by decide +kernel) (by decide +kernel)
set_option maxRecDepth 100000 in
theorem ggZL_done_X10_lay_r7 : GoodIn wzL_done wsX10_lay_r7 := goodIn_r _ [153, 154, 155, 156, 157, 158, 159, 160, 161, 162, 163, 164, 165, 166, 167, 168, 169, 170, 171, 172, 173, 174, 175, 176] (by decide +kernel) (by decide +kernel)
set_option maxRecDepth 100000 in
theorem ggZL_done_X10_lay_r8 : GoodIn wzL_done wsX10_lay_r8 := goodIn_r _ [177, 178, 179, 180, 181, 182, 183, 184, 185, 186, 187, 188, 189, 190, 191, 192, 193, 194, 195, 196, 197, 198, 199, 200] (by decide +kernel) (by decide +kernel)
set_option maxRecDepth 100000 in
theorem ggZL_done_X10_lay_r9 : GoodIn wzL_done wsX10_lay_r9 := goodIn_r _ [201, 202, 203, 204, 205, 206, 207, 208, 209, 210, 211, 212, 213, 214, 215, 216, 217, 218, 219, 220, 221, 222, 223, 224] (by decide +kernel) (by decide +kernel)
set_option maxRecDepth 100000 in
theorem ggZL_done_X10_lay_r10 : GoodIn wzL_done wsX10_lay_r10 := goodIn_r _ [225, 226, 227, 228, 229] (by decide +kernel) (by decide +kernel)
set_option maxRecDepth 100000 in
theorem ggZL_done_X10_lay_wsX100 : GoodIn wzL_done wsX100 := goodIn_r _ [416, 417, 418, 419, 420, 421, 422, 423, 424, 425] (by decide +kernel) (by decide +kernel)
set_option maxRecDepth 100000 in
theorem ggZL_done_X10_lay_wsX50 : GoodIn wzL_done wsX50 := goodIn_r _ [426, 427, 428] (by decide +kernel) (by decide +kernel)
set_option maxRecDepth 100000 in
theorem ggZL_done_X10_lay_wsX90 : GoodIn wzL_done wsX90 := goodIn_r _ [429, 430, 431, 432] (by decide +kernel) (by decide +kernel)
set_option maxRecDepth 100000 in
theorem ggZL_done_X10_lay_wsX70 : GoodIn wzL_done wsX70 := goodIn_r _ [433, 434, 435, 436, 437, 438] (by decide +kernel) (by decide +kernel)
set_option maxRecDepth 100000 in
theorem ggZL_done_X10_lay_wsJ00 : GoodIn wzL_done wsJ00 := goodIn_r _ [439, 440, 441, 442] (by decide +kernel) (by decide +kernel)
set_option maxRecDepth 100000 in
theorem ggZL_done_X10_lay_wsX60 : GoodIn wzL_done wsX60 := goodIn_r _ [443, 444] (by decide +kernel) (by decide +kernel)
set_option maxRecDepth 100000 in
theorem ggZL_done_X10_lay_wsX10 : GoodIn wzL_done wsX10 := goodIn_r _ [445, 446, 447] (by decide +kernel) (by decide +kernel)
set_option maxRecDepth 100000 in
theorem ggZL_done_X10_lay_wsX20 : GoodIn wzL_done wsX20 := goodIn_r _ [448] (by decide +kernel) (by decide +kernel)
set_option maxRecDepth 100000 in
theorem ggZL_done_X10_lay : GoodIn wzL_done wsX10_lay := goodIn_ca (goodIn_ca ((goodIn_c9 (goodIn_r _ [9] (by decide +kernel) (by decide +kernel)) (goodIn_app (goodIn_app (goodIn_app (goodIn_app (goodIn_app (goodIn_app (goodIn_app (goodIn_app (goodIn_app ggZL_done_X10_lay_r1 (goodIn_app ggZL_done_X10_lay_r2 (goodIn_app ggZL_done_X10_lay_r3 (goodIn_app ggZL_done_X10_lay_r4 (goodIn_app ggZL_done_X10_lay_r5 (goodIn_app ggZL_done_X10_lay_r6 (goodIn_app ggZL_done_X10_lay_r7 (goodIn_app ggZL_done_X10_lay_r8 (goodIn_app ggZL_done_X10_lay_r9 (ggZL_done_X10_lay_r10)))))))))) ggZL_done_X10_lay_wsX100) ggZL_done_X10_lay_wsX50) ggZL_done_X10_lay_wsX90) ggZL_done_X10_lay_wsX70) ggZL_done_X10_lay_wsJ00) ggZL_done_X10_lay_wsX60) ggZL_done_X10_lay_wsX10) ggZL_done_X10_lay_wsX20))) (goodIn_sub (fun _ h => List.mem_cons_of_mem _ (List.mem_append_left _ (List.mem_append_left _ (List.mem_append_left _ (List.mem_append_right _ h))))) (by decide +kernel))) (goodIn_sub (fun _ h => List.mem_cons_of_mem _ (List.mem_append_left _ (List.mem_append_left _ (List.mem_append_right _ h)))) (by decide +kernel))
set_option maxRecDepth 100000 in
theorem gZL_done_X10_lay : GoodIn wzL_done (wsV RL 82 RX10 yX10_lay wsX10_lay) := goodIn_app (goodIn_of _ (by decide +kernel)) ggZL_done_X10_lay
set_option maxRecDepth 100000 in
theorem ggZL_done_X10_sort_r1 : GoodIn wzL_done wsX10_sort_r1 := goodIn_r _ [234, 15, 16, 17, 8, 18, 19, 20, 21, 235, 236, 237, 238, 163, 239, 240, 241, 242, 243, 244, 245, 246, 247, 248] (by decide +kernel) (by decide +kernel)
set_option maxRecDepth 100000 in
theorem ggZL_done_X10_sort_r2 : GoodIn wzL_done wsX10_sort_r2 := goodIn_r _ [249, 250, 251, 252, 253, 254, 255, 256, 257, 258, 259, 260, 261, 262, 263, 264, 265, 266, 267, 268, 269, 270, 271, 272] (by decide +kernel) (by decide +kernel)
set_option maxRecDepth 100000 in
theorem ggZL_done_X10_sort_r3 : GoodIn wzL_done wsX10_sort_r3 := goodIn_r _ [273, 274, 275, 276, 277, 210, 278, 212, 213, 279, 280, 281, 189, 190, 191, 192, 282, 283, 284, 285, 214, 286, 287, 288] (by decide +kernel) (by decide +kernel)
set_option maxRecDepth 100000 in
theorem ggZL_done_X10_sort_r4 : GoodIn wzL_done wsX10_sort_r4 := goodIn_r _ [289] (by decide +kernel) (by decide +kernel)
set_option maxRecDepth 100000 in
theorem ggZL_done_X10_sort_wsX100 : GoodIn wzL_done wsX100 := goodIn_r _ [416, 417, 418, 419, 420, 421, 422, 423, 424, 425] (by decide +kernel) (by decide +kernel)
set_option maxRecDepth 100000 in
theorem ggZL_done_X10_sort_wsX60 : GoodIn wzL_done wsX60 := goodIn_r _ [443, 444] (by decide +kernel) (by decide +kernel)
set_option maxRecDepth 100000 in
theorem ggZL_done_X10_sort_wsX80 : GoodIn wzL_done wsX80 := goodIn_r _ [449, 450, 451, 452] (by decide +kernel) (by decide +kernel)
set_option maxRecDepth 100000 in
theorem ggZL_done_X10_sort_wsX10 : GoodIn wzL_done wsX10 := goodIn_r _ [445, 446, 447] (by decide +kernel) (by decide +kernel)
set_option maxRecDepth 100000 in
theorem ggZL_done_X10_sort : GoodIn wzL_done wsX10_sort := goodIn_ca ((goodIn_c9 (goodIn_r _ [233] (by decide +kernel) (by decide +kernel)) (goodIn_app (goodIn_app (goodIn_app (goodIn_app (goodIn_app ggZL_done_X10_sort_r1 (goodIn_app ggZL_done_X10_sort_r2 (goodIn_app ggZL_done_X10_sort_r3 (ggZL_done_X10_sort_r4)))) ggZL_done_X10_sort_wsX100) ggZL_done_X10_sort_wsX60) ggZL_done_X10_sort_wsX80) ggZL_done_X10_sort_wsX10))) (goodIn_sub (fun _ h => List.mem_cons_of_mem _ (List.mem_append_left _ (List.mem_append_left _ (List.mem_append_right _ h)))) (by decide +kernel))
set_option maxRecDepth 100000 in
theorem gZL_done_X10_sort : GoodIn wzL_done (wsV RL 86 RX10 yX10_sort wsX10_sort) := goodIn_app (goodIn_of _ (by decide +kernel)) ggZL_done_X10_sort
set_option maxRecDepth 100000 in
theorem ggZL_done_X10_sortPart_r1 : GoodIn wzL_done wsX10_sortPart_r1 := goodIn_r _ [234, 15, 16, 17, 8, 18, 19, 20, 21, 294, 295, 296, 297, 298, 163, 239, 240, 241, 242, 243, 244, 245, 246, 247] (by decide +kernel) (by decide +kernel)
set_option maxRecDepth 100000 in
theorem ggZL_done_X10_sortPart_r2 : GoodIn wzL_done wsX10_sortPart_r2 := goodIn_r _ [248, 249, 250, 251, 252, 253, 254, 255, 256, 257, 258, 259, 260, 261, 262, 263, 264, 265, 266, 267, 268, 269, 270, 271] (by decide +kernel) (by decide +kernel)
set_option maxRecDepth 100000 in
theorem ggZL_done_X10_sortPart_r3 : GoodIn wzL_done wsX10_sortPart_r3 := goodIn_r _ [272, 273, 274, 275, 276, 277, 210, 278, 212, 213, 279, 280, 281, 189, 190, 191, 192, 282, 283, 284, 285, 214, 286, 287] (by decide +kernel) (by decide +kernel)
set_option maxRecDepth 100000 in
theorem ggZL_done_X10_sortPart_r4 : GoodIn wzL_done wsX10_sortPart_r4 := goodIn_r _ [288, 289] (by decide +kernel) (by decide +kernel)
set_option maxRecDepth 100000 in
theorem ggZL_done_X10_sortPart_wsX100 : GoodIn wzL_done wsX100 := goodIn_r _ [416, 417, 418, 419, 420, 421, 422, 423, 424, 425] (by decide +kernel) (by decide +kernel)
set_option maxRecDepth 100000 in
theorem ggZL_done_X10_sortPart_wsX60 : GoodIn wzL_done wsX60 := goodIn_r _ [443, 444] (by decide +kernel) (by decide +kernel)
set_option maxRecDepth 100000 in
theorem ggZL_done_X10_sortPart_wsX80 : GoodIn wzL_done wsX80 := goodIn_r _ [449, 450, 451, 452] (by decide +kernel) (by decide +kernel)
set_option maxRecDepth 100000 in
theorem ggZL_done_X10_sortPart_wsX10 : GoodIn wzL_done wsX10 := goodIn_r _ [445, 446, 447] (by decide +kernel) (by decide +kernel)
set_option maxRecDepth 100000 in
theorem ggZL_done_X10_sortPart : GoodIn wzL_done wsX10_sortPart := goodIn_ca (goodIn_ca ((goodIn_c9 (goodIn_r _ [293] (by decide +kernel) (by decide +kernel)) (goodIn_app (goodIn_app (goodIn_app (goodIn_app (goodIn_app ggZL_done_X10_sortPart_r1 (goodIn_app ggZL_done_X10_sortPart_r2 (goodIn_app ggZL_done_X10_sortPart_r3 (ggZL_done_X10_sortPart_r4)))) ggZL_done_X10_sortPart_wsX100) ggZL_done_X10_sortPart_wsX60) ggZL_done_X10_sortPart_wsX80) ggZL_done_X10_sortPart_wsX10))) (goodIn_sub (fun _ h => List.mem_cons_of_mem _ (List.mem_append_left _ (List.mem_append_left _ (List.mem_append_right _ h)))) (by decide +kernel))) (goodIn_sub (fun _ h => List.mem_cons_of_mem _ (List.mem_append_left _ (List.mem_append_right _ h))) (by decide +kernel))
set_option maxRecDepth 100000 in
theorem gZL_done_X10_sortPart : GoodIn wzL_done (wsV RL 89 RX10 yX10_sortPart wsX10_sortPart) := goodIn_app (goodIn_of _ (by decide +kernel)) ggZL_done_X10_sortPart
set_option maxRecDepth 100000 in
theorem ggZL_done_X10_sortDown_r1 : GoodIn wzL_done wsX10_sortDown_r1 := goodIn_r _ [297, 298, 303, 15, 16, 17, 8, 18, 19, 20, 21, 294, 295, 296, 163, 239, 240, 241, 242, 243, 244, 245, 246, 247] (by decide +kernel) (by decide +kernel)
set_option maxRecDepth 100000 in
theorem ggZL_done_X10_sortDown_r2 : GoodIn wzL_done wsX10_sortDown_r2 := goodIn_r _ [248, 249, 250, 251, 252, 253, 254, 255, 256, 257, 258, 259, 260, 261, 262, 263, 264, 265, 266, 267, 268, 269, 270, 271] (by decide +kernel) (by decide +kernel)
set_option maxRecDepth 100000 in
theorem ggZL_done_X10_sortDown_r3 : GoodIn wzL_done wsX10_sortDown_r3 := goodIn_r _ [272, 273, 274, 275, 276, 277, 210, 278, 212, 213, 279, 280, 281, 189, 190, 191, 192, 282, 283, 284, 285, 214, 286, 287] (by decide +kernel) (by decide +kernel)
set_option maxRecDepth 100000 in
theorem ggZL_done_X10_sortDown_r4 : GoodIn wzL_done wsX10_sortDown_r4 := goodIn_r _ [288, 289] (by decide +kernel) (by decide +kernel)
set_option maxRecDepth 100000 in
theorem ggZL_done_X10_sortDown_wsX100 : GoodIn wzL_done wsX100 := goodIn_r _ [416, 417, 418, 419, 420, 421, 422, 423, 424, 425] (by decide +kernel) (by decide +kernel)
set_option maxRecDepth 100000 in
theorem ggZL_done_X10_sortDown_wsX60 : GoodIn wzL_done wsX60 := goodIn_r _ [443, 444] (by decide +kernel) (by decide +kernel)
set_option maxRecDepth 100000 in
theorem ggZL_done_X10_sortDown_wsX80 : GoodIn wzL_done wsX80 := goodIn_r _ [449, 450, 451, 452] (by decide +kernel) (by decide +kernel)
set_option maxRecDepth 100000 in
theorem ggZL_done_X10_sortDown_wsX10 : GoodIn wzL_done wsX10 := goodIn_r _ [445, 446, 447] (by decide +kernel) (by decide +kernel)
set_option maxRecDepth 100000 in
theorem ggZL_done_X10_sortDown : GoodIn wzL_done wsX10_sortDown := goodIn_ca (goodIn_ca ((goodIn_c9 (goodIn_r _ [302] (by decide +kernel) (by decide +kernel)) (goodIn_app (goodIn_app (goodIn_app (goodIn_app (goodIn_app ggZL_done_X10_sortDown_r1 (goodIn_app ggZL_done_X10_sortDown_r2 (goodIn_app ggZL_done_X10_sortDown_r3 (ggZL_done_X10_sortDown_r4)))) ggZL_done_X10_sortDown_wsX100) ggZL_done_X10_sortDown_wsX60) ggZL_done_X10_sortDown_wsX80) ggZL_done_X10_sortDown_wsX10))) (goodIn_sub (fun _ h => List.mem_cons_of_mem _ (List.mem_append_left _ (List.mem_append_right _ h))) (by decide +kernel))) (goodIn_sub (fun _ h => List.mem_cons_of_mem _ (List.mem_append_left _ (List.mem_append_left _ (List.mem_append_right _ h)))) (by decide +kernel))
set_option maxRecDepth 100000 in
theorem gZL_done_X10_sortDown : GoodIn wzL_done (wsV RL 93 RX10 yX10_sortDown wsX10_sortDown) := goodIn_app (goodIn_of _ (by decide +kernel)) ggZL_done_X10_sortDown
set_option maxRecDepth 100000 in
theorem ggZL_done_X10_sortBySecond_r1 : GoodIn wzL_done wsX10_sortBySecond_r1 := goodIn_r _ [308, 15, 16, 17, 8, 18, 19, 20, 21, 235, 236, 237, 238, 163, 239, 240, 241, 242, 243, 244, 245, 246, 247, 248] (by decide +kernel) (by decide +kernel)
set_option maxRecDepth 100000 in
theorem ggZL_done_X10_sortBySecond_r2 : GoodIn wzL_done wsX10_sortBySecond_r2 := goodIn_r _ [249, 250, 251, 252, 253, 254, 255, 256, 257, 258, 259, 260, 261, 262, 263, 264, 265, 266, 267, 268, 269, 270, 271, 272] (by decide +kernel) (by decide +kernel)
set_option maxRecDepth 100000 in
theorem ggZL_done_X10_sortBySecond_r3 : GoodIn wzL_done wsX10_sortBySecond_r3 := goodIn_r _ [273, 274, 275, 276, 277, 210, 278, 212, 213, 279, 280, 281, 189, 190, 191, 192, 282, 283, 284, 285, 214, 286, 287, 288] (by decide +kernel) (by decide +kernel)
set_option maxRecDepth 100000 in
theorem ggZL_done_X10_sortBySecond_r4 : GoodIn wzL_done wsX10_sortBySecond_r4 := goodIn_r _ [289] (by decide +kernel) (by decide +kernel)
set_option maxRecDepth 100000 in
theorem ggZL_done_X10_sortBySecond_wsX100 : GoodIn wzL_done wsX100 := goodIn_r _ [416, 417, 418, 419, 420, 421, 422, 423, 424, 425] (by decide +kernel) (by decide +kernel)
set_option maxRecDepth 100000 in
theorem ggZL_done_X10_sortBySecond_wsX60 : GoodIn wzL_done wsX60 := goodIn_r _ [443, 444] (by decide +kernel) (by decide +kernel)
set_option maxRecDepth 100000 in
theorem ggZL_done_X10_sortBySecond_wsX80 : GoodIn wzL_done wsX80 := goodIn_r _ [449, 450, 451, 452] (by decide +kernel) (by decide +kernel)
set_option maxRecDepth 100000 in
theorem ggZL_done_X10_sortBySecond_wsX10 : GoodIn wzL_done wsX10 := goodIn_r _ [445, 446, 447] (by decide +kernel) (by decide +kernel)
set_option maxRecDepth 100000 in
theorem ggZL_done_X10_sortBySecond : GoodIn wzL_done wsX10_sortBySecond := goodIn_ca ((goodIn_c9 (goodIn_r _ [307] (by decide +kernel) (by decide +kernel)) (goodIn_app (goodIn_app (goodIn_app (goodIn_app (goodIn_app ggZL_done_X10_sortBySecond_r1 (goodIn_app ggZL_done_X10_sortBySecond_r2 (goodIn_app ggZL_done_X10_sortBySecond_r3 (ggZL_done_X10_sortBySecond_r4)))) ggZL_done_X10_sortBySecond_wsX100) ggZL_done_X10_sortBySecond_wsX60) ggZL_done_X10_sortBySecond_wsX80) ggZL_done_X10_sortBySecond_wsX10))) (goodIn_sub (fun _ h => List.mem_cons_of_mem _ (List.mem_append_left _ (List.mem_append_left _ (List.mem_append_right _ h)))) (by decide +kernel))
set_option maxRecDepth 100000 in
theorem gZL_done_X10_sortBySecond : GoodIn wzL_done (wsV RL 96 RX10 yX10_sortBySecond wsX10_sortBySecond) := goodIn_app (goodIn_of _ (by decide +kernel)) ggZL_done_X10_sortBySecond
