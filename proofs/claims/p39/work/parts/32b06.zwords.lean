set_option maxRecDepth 100000 in
theorem ggZL_lays_J4_append_15ec4_wsJ40 : GoodIn wzL_lays wsJ40 := goodIn_r _ [662, 663, 664, 665] (by decide +kernel) (by decide +kernel)
set_option maxRecDepth 100000 in
theorem ggZL_lays_J4_append_15ec4_wsJ00 : GoodIn wzL_lays wsJ00 := goodIn_r _ [666, 667, 668, 669] (by decide +kernel) (by decide +kernel)
set_option maxRecDepth 100000 in
theorem ggZL_lays_J4_append_15ec4 : GoodIn wzL_lays wsJ4_append_15ec4 := (goodIn_c9 (goodIn_r _ [37] (by decide +kernel) (by decide +kernel)) (goodIn_app (goodIn_app (goodIn_app ggZL_lays_J4_append_15ec4_r1 (goodIn_app ggZL_lays_J4_append_15ec4_r2 (goodIn_app ggZL_lays_J4_append_15ec4_r3 (goodIn_app ggZL_lays_J4_append_15ec4_r4 (goodIn_app ggZL_lays_J4_append_15ec4_r5 (ggZL_lays_J4_append_15ec4_r6)))))) ggZL_lays_J4_append_15ec4_wsJ40) ggZL_lays_J4_append_15ec4_wsJ00))
set_option maxRecDepth 100000 in
theorem gZL_lays_J4_append_15ec4 : GoodIn wzL_lays (wsV RL 19 RJ4 yJ4_append_15ec4 wsJ4_append_15ec4) := goodIn_app (goodIn_of _ (by decide +kernel)) ggZL_lays_J4_append_15ec4
set_option maxRecDepth 100000 in
theorem ggZL_lays_L_run_r1 : GoodIn wzL_lays wsL_run_r1 := goodIn_r _ [1, 2, 3, 8, 9, 6, 10, 11, 4, 5, 7, 12, 13, 14, 15, 16, 17, 18, 19, 20, 21, 22, 23, 24] (by decide +kernel) (by decide +kernel)
set_option maxRecDepth 100000 in
theorem ggZL_lays_L_run_r2 : GoodIn wzL_lays wsL_run_r2 := goodIn_r _ [25, 26, 27, 28, 29, 30, 31, 32, 33, 34, 35, 36, 37, 38, 39, 40, 41, 42, 43, 44, 45, 46, 47, 48] (by decide +kernel) (by decide +kernel)
set_option maxRecDepth 100000 in
theorem ggZL_lays_L_run_r3 : GoodIn wzL_lays wsL_run_r3 := goodIn_r _ [49, 50, 51, 52, 53, 54, 55, 56, 57, 58, 59, 60, 61, 62, 63, 64, 65, 66, 67, 68, 69, 70, 71, 72] (by decide +kernel) (by decide +kernel)
set_option maxRecDepth 100000 in
theorem ggZL_lays_L_run_r4 : GoodIn wzL_lays wsL_run_r4 := goodIn_r _ [73, 74, 75, 76, 77, 78, 79, 80, 81, 82, 83, 84, 85, 86, 87, 88, 89, 90, 91, 92, 93, 94, 95, 96] (by decide +kernel) (by decide +kernel)
set_option maxRecDepth 100000 in
theorem ggZL_lays_L_run_r5 : GoodIn wzL_lays wsL_run_r5 := goodIn_r _ [97, 98, 99, 100, 101, 102, 103, 104, 105, 106, 107, 108, 109, 110, 111, 112, 113, 114, 115, 116, 117, 118, 119, 120] (by decide +kernel) (by decide +kernel)
set_option maxRecDepth 100000 in
theorem ggZL_lays_L_run_r6 : GoodIn wzL_lays wsL_run_r6 := goodIn_r _ [121, 122, 123, 124, 125, 126, 127, 128, 129, 130, 131, 132, 133, 134, 135, 136, 137, 138, 139, 140, 141, 142, 143, 144] (by decide +kernel) (by decide +kernel)
set_option maxRecDepth 100000 in
theorem ggZL_lays_L_run_r7 : GoodIn wzL_lays wsL_run_r7 := goodIn_r _ [145, 146, 147, 148, 149, 150, 151, 152, 153, 154, 155, 156, 157, 158, 159, 160, 161, 162, 163, 164, 165, 166, 170, 171] (by decide +kernel) (by decide +kernel)
set_option maxRecDepth 100000 in
theorem ggZL_lays_L_run_r8 : GoodIn wzL_lays wsL_run_r8 := goodIn_r _ [172, 173, 174, 175, 176, 177, 178, 179, 180, 181, 182, 183, 184, 185, 186, 187, 188, 189, 190, 191, 192, 193, 194, 195] (by decide +kernel) (by decide +kernel)
set_option maxRecDepth 100000 in
theorem ggZL_lays_L_run_r9 : GoodIn wzL_lays wsL_run_r9 := goodIn_r _ [196, 197, 198, 199, 200, 201, 202, 203, 204, 205, 206, 207, 208, 209, 210, 211, 212, 213, 214, 215, 216, 217, 218, 219] (by decide +kernel) (by decide +kernel)
set_option maxRecDepth 100000 in
theorem ggZL_lays_L_run_r10 : GoodIn wzL_lays wsL_run_r10 := goodIn_r _ [220, 221, 222, 223, 224, 225, 226, 227, 228, 229, 230, 231, 232, 233, 234, 235, 236, 237, 238, 239, 240, 241, 242, 243] (by decide +kernel) (by decide +kernel)
set_option maxRecDepth 100000 in
theorem ggZL_lays_L_run_r11 : GoodIn wzL_lays wsL_run_r11 := goodIn_r _ [244, 245, 246, 247, 248, 249] (by decide +kernel) (by decide +kernel)
set_option maxRecDepth 100000 in
theorem ggZL_lays_L_run_wsJ40 : GoodIn wzL_lays wsJ40 := goodIn_r _ [662, 663, 664, 665] (by decide +kernel) (by decide +kernel)
set_option maxRecDepth 100000 in
theorem ggZL_lays_L_run_wsJ00 : GoodIn wzL_lays wsJ00 := goodIn_r _ [666, 667, 668, 669] (by decide +kernel) (by decide +kernel)
set_option maxRecDepth 100000 in
theorem ggZL_lays_L_run : GoodIn wzL_lays wsL_run := (goodIn_c9 (goodIn_r _ [169] (by decide +kernel) (by decide +kernel)) (goodIn_app (goodIn_app (goodIn_app ggZL_lays_L_run_r1 (goodIn_app ggZL_lays_L_run_r2 (goodIn_app ggZL_lays_L_run_r3 (goodIn_app ggZL_lays_L_run_r4 (goodIn_app ggZL_lays_L_run_r5 (goodIn_app ggZL_lays_L_run_r6 (goodIn_app ggZL_lays_L_run_r7 (goodIn_app ggZL_lays_L_run_r8 (goodIn_app ggZL_lays_L_run_r9 (goodIn_app ggZL_lays_L_run_r10 (ggZL_lays_L_run_r11))))))))))) ggZL_lays_L_run_wsJ40) ggZL_lays_L_run_wsJ00))
set_option maxRecDepth 100000 in
theorem gZL_lays_L_run : GoodIn wzL_lays (va_wsS RL 206 yL_run wsL_run) := goodIn_app (goodIn_of _ (by decide +kernel)) ggZL_lays_L_run
set_option maxRecDepth 100000 in
theorem ggZL_lays_J4_toString_0e30d_r1 : GoodIn wzL_lays wsJ4_toString_0e30d_r1 := goodIn_r _ [199, 200, 106, 201, 202, 203, 204, 205, 206, 207, 20, 21, 128, 122, 127, 208, 209, 210, 211, 212, 17, 213, 24, 214] (by decide +kernel) (by decide +kernel)
set_option maxRecDepth 100000 in
theorem ggZL_lays_J4_toString_0e30d_r2 : GoodIn wzL_lays wsJ4_toString_0e30d_r2 := goodIn_r _ [215, 216, 217, 218, 3, 219, 220, 40, 221, 222, 43, 223, 90, 91, 92, 93, 22, 25, 224, 225, 74, 226, 76, 77] (by decide +kernel) (by decide +kernel)
set_option maxRecDepth 100000 in
theorem ggZL_lays_J4_toString_0e30d_r3 : GoodIn wzL_lays wsJ4_toString_0e30d_r3 := goodIn_r _ [78, 79, 80, 81, 227, 228, 229, 23, 82, 83, 66, 84, 85, 86, 87, 88, 230, 231, 232, 233, 2, 234, 235, 28] (by decide +kernel) (by decide +kernel)
set_option maxRecDepth 100000 in
theorem ggZL_lays_J4_toString_0e30d_r4 : GoodIn wzL_lays wsJ4_toString_0e30d_r4 := goodIn_r _ [236, 237, 238, 239, 152, 153, 154, 101, 102, 103, 155, 156, 157, 108, 158, 159, 111, 160, 240, 241, 242, 97, 116, 117] (by decide +kernel) (by decide +kernel)
set_option maxRecDepth 100000 in
theorem ggZL_lays_J4_toString_0e30d_r5 : GoodIn wzL_lays wsJ4_toString_0e30d_r5 := goodIn_r _ [30, 31, 32, 33, 243, 244, 245, 246] (by decide +kernel) (by decide +kernel)
set_option maxRecDepth 100000 in
theorem ggZL_lays_J4_toString_0e30d_wsJ00 : GoodIn wzL_lays wsJ00 := goodIn_r _ [666, 667, 668, 669] (by decide +kernel) (by decide +kernel)
set_option maxRecDepth 100000 in
theorem ggZL_lays_J4_toString_0e30d_wsJ40 : GoodIn wzL_lays wsJ40 := goodIn_r _ [662, 663, 664, 665] (by decide +kernel) (by decide +kernel)
set_option maxRecDepth 100000 in
theorem ggZL_lays_J4_toString_0e30d : GoodIn wzL_lays wsJ4_toString_0e30d := (goodIn_c9 (goodIn_r _ [198] (by decide +kernel) (by decide +kernel)) (goodIn_app (goodIn_app (goodIn_app ggZL_lays_J4_toString_0e30d_r1 (goodIn_app ggZL_lays_J4_toString_0e30d_r2 (goodIn_app ggZL_lays_J4_toString_0e30d_r3 (goodIn_app ggZL_lays_J4_toString_0e30d_r4 (ggZL_lays_J4_toString_0e30d_r5))))) ggZL_lays_J4_toString_0e30d_wsJ00) ggZL_lays_J4_toString_0e30d_wsJ40))
set_option maxRecDepth 100000 in
theorem gZL_lays_J4_toString_0e30d : GoodIn wzL_lays (wsV RL 26 RJ4 yJ4_toString_0e30d wsJ4_toString_0e30d) := goodIn_app (goodIn_of _ (by decide +kernel)) ggZL_lays_J4_toString_0e30d
set_option maxRecDepth 100000 in
theorem ggZL_lays_X10_count : GoodIn wzL_lays wsX10_count := goodIn_ca (goodIn_r _ [254, 255, 256, 257, 258, 253, 259, 260, 261, 262, 670, 671, 672, 673, 674, 675, 676, 677, 678, 679, 680, 681] (by decide +kernel) (by decide +kernel)) (goodIn_sub (fun _ h => List.mem_cons_of_mem _ (List.mem_append_left _ (List.mem_append_left _ (List.mem_append_left _ (List.mem_append_right _ h))))) (by decide +kernel))
set_option maxRecDepth 100000 in
theorem gZL_lays_X10_count : GoodIn wzL_lays (wsV RL 136 RX10 yX10_count wsX10_count) := goodIn_app (goodIn_of _ (by decide +kernel)) ggZL_lays_X10_count
set_option maxRecDepth 100000 in
theorem ggZL_lays_L_types_r1 : GoodIn wzL_lays wsL_types_r1 := goodIn_r _ [266, 267, 268, 269, 253, 270, 271, 272, 273, 119, 120, 106, 121, 122, 123, 124, 125, 126, 127, 128, 274, 275, 276, 277] (by decide +kernel) (by decide +kernel)
set_option maxRecDepth 100000 in
theorem ggZL_lays_L_types_r2 : GoodIn wzL_lays wsL_types_r2 := goodIn_r _ [278, 279, 280, 281, 282, 283, 147, 284, 285, 286, 287, 108, 288, 289, 111, 290, 291, 292, 28, 293, 294, 295, 296, 101] (by decide +kernel) (by decide +kernel)
set_option maxRecDepth 100000 in
theorem ggZL_lays_L_types_r3 : GoodIn wzL_lays wsL_types_r3 := goodIn_r _ [102, 103, 297, 240, 241, 242, 97, 116, 117, 298, 299, 300, 301, 302, 303, 304, 305, 306, 307, 308, 309, 310, 311, 312] (by decide +kernel) (by decide +kernel)
set_option maxRecDepth 100000 in
theorem ggZL_lays_L_types_r4 : GoodIn wzL_lays wsL_types_r4 := goodIn_r _ [313, 314, 315, 316, 317, 318, 319, 320, 321, 322, 323, 324, 325, 326, 327, 328, 329, 330, 331, 332, 333, 334, 335, 336] (by decide +kernel) (by decide +kernel)
set_option maxRecDepth 100000 in
theorem ggZL_lays_L_types_r5 : GoodIn wzL_lays wsL_types_r5 := goodIn_r _ [337, 338, 339, 340, 341, 342, 343, 344, 345, 346, 347, 348, 349, 350, 351, 352, 353, 354, 355, 356, 357, 358, 359, 360] (by decide +kernel) (by decide +kernel)
set_option maxRecDepth 100000 in
theorem ggZL_lays_L_types_r6 : GoodIn wzL_lays wsL_types_r6 := goodIn_r _ [361, 362, 363, 364, 365, 366, 367, 368, 369, 370, 371, 372, 373, 374, 375, 376, 377, 378, 379, 380, 381, 382, 383, 384] (by decide +kernel) (by decide +kernel)
set_option maxRecDepth 100000 in
theorem ggZL_lays_L_types_r7 : GoodIn wzL_lays wsL_types_r7 := goodIn_r _ [385, 386, 387, 388, 389, 390, 391, 392, 393, 394, 395, 396, 397, 398, 399, 400, 401, 402] (by decide +kernel) (by decide +kernel)
set_option maxRecDepth 100000 in
theorem ggZL_lays_L_types_wsX100 : GoodIn wzL_lays wsX100 := goodIn_r _ [672, 673, 674, 675, 676, 677, 678, 679, 680, 681] (by decide +kernel) (by decide +kernel)
set_option maxRecDepth 100000 in
theorem ggZL_lays_L_types_wsX90 : GoodIn wzL_lays wsX90 := goodIn_r _ [682, 683, 684, 685] (by decide +kernel) (by decide +kernel)
set_option maxRecDepth 100000 in
theorem ggZL_lays_L_types_wsJ00 : GoodIn wzL_lays wsJ00 := goodIn_r _ [666, 667, 668, 669] (by decide +kernel) (by decide +kernel)
set_option maxRecDepth 100000 in
theorem ggZL_lays_L_types_wsX50 : GoodIn wzL_lays wsX50 := goodIn_r _ [686, 687, 688] (by decide +kernel) (by decide +kernel)
set_option maxRecDepth 100000 in
theorem ggZL_lays_L_types_wsX70 : GoodIn wzL_lays wsX70 := goodIn_r _ [689, 690, 691, 692, 693, 694] (by decide +kernel) (by decide +kernel)
set_option maxRecDepth 100000 in
theorem ggZL_lays_L_types : GoodIn wzL_lays wsL_types := goodIn_ca ((goodIn_c9 (goodIn_r _ [265] (by decide +kernel) (by decide +kernel)) (goodIn_app (goodIn_app (goodIn_app (goodIn_app (goodIn_app (goodIn_app ggZL_lays_L_types_r1 (goodIn_app ggZL_lays_L_types_r2 (goodIn_app ggZL_lays_L_types_r3 (goodIn_app ggZL_lays_L_types_r4 (goodIn_app ggZL_lays_L_types_r5 (goodIn_app ggZL_lays_L_types_r6 (ggZL_lays_L_types_r7))))))) ggZL_lays_L_types_wsX100) ggZL_lays_L_types_wsX90) ggZL_lays_L_types_wsJ00) ggZL_lays_L_types_wsX50) ggZL_lays_L_types_wsX70))) (goodIn_sub (fun _ h => List.mem_cons_of_mem _ (List.mem_append_left _ (List.mem_append_left _ (List.mem_append_right _ h)))) (by decide +kernel))
set_option maxRecDepth 100000 in
theorem gZL_lays_L_types : GoodIn wzL_lays (va_wsS RL 210 yL_types wsL_types) := goodIn_app (goodIn_of _ (by decide +kernel)) ggZL_lays_L_types
set_option maxRecDepth 100000 in
theorem ggZL_lays_L_done_r1 : GoodIn wzL_lays wsL_done_r1 := goodIn_r _ [406, 407, 266, 408, 409, 410, 411, 253, 412, 302, 303, 318, 413, 414, 256, 257, 258, 259, 260, 261, 262, 319, 320, 321] (by decide +kernel) (by decide +kernel)
set_option maxRecDepth 100000 in
theorem ggZL_lays_L_done_r2 : GoodIn wzL_lays wsL_done_r2 := goodIn_r _ [322, 323, 324, 325, 326, 327, 328, 329, 330, 306, 331, 332, 333, 334, 335, 336, 337, 312, 313, 338, 339, 340, 341, 342] (by decide +kernel) (by decide +kernel)
set_option maxRecDepth 100000 in
theorem ggZL_lays_L_done_r3 : GoodIn wzL_lays wsL_done_r3 := goodIn_r _ [343, 344, 345, 346, 347, 348, 349, 350, 351, 352, 353, 354, 355, 356, 357, 358, 359, 360, 361, 362, 363, 364, 119, 120] (by decide +kernel) (by decide +kernel)
set_option maxRecDepth 100000 in
theorem ggZL_lays_L_done_r4 : GoodIn wzL_lays wsL_done_r4 := goodIn_r _ [106, 121, 122, 123, 124, 125, 126, 127, 128, 365, 275, 276, 277, 278, 279, 280, 281, 282, 283, 147, 284, 285, 286, 287] (by decide +kernel) (by decide +kernel)
set_option maxRecDepth 100000 in
theorem ggZL_lays_L_done_r5 : GoodIn wzL_lays wsL_done_r5 := goodIn_r _ [108, 288, 289, 111, 290, 291, 292, 28, 293, 294, 295, 296, 101, 102, 103, 297, 240, 241, 242, 97, 116, 117, 366, 367] (by decide +kernel) (by decide +kernel)
set_option maxRecDepth 100000 in
theorem ggZL_lays_L_done_r6 : GoodIn wzL_lays wsL_done_r6 := goodIn_r _ [368, 369, 370, 371, 372, 373, 374, 375, 376, 377, 378, 379, 380, 381, 382, 383, 384, 385, 386, 387, 388, 389, 390, 391] (by decide +kernel) (by decide +kernel)
set_option maxRecDepth 100000 in
theorem ggZL_lays_L_done_r7 : GoodIn wzL_lays wsL_done_r7 := goodIn_r _ [392, 393, 394, 395, 396, 397, 398, 399, 400, 401, 402, 415, 416, 417, 418, 419, 420, 421, 255, 422, 423, 424, 425, 426] (by decide +kernel) (by decide +kernel)
set_option maxRecDepth 100000 in
theorem ggZL_lays_L_done_r8 : GoodIn wzL_lays wsL_done_r8 := goodIn_r _ [427, 428, 429, 430, 431, 432, 433, 434, 435, 436, 437, 438, 439, 440, 441, 442, 443, 444, 445, 446, 447, 448, 449, 450] (by decide +kernel) (by decide +kernel)
set_option maxRecDepth 100000 in
theorem ggZL_lays_L_done_r9 : GoodIn wzL_lays wsL_done_r9 := goodIn_r _ [451, 452, 453, 454, 455, 456, 457, 458, 459, 460, 461, 462, 463, 464, 465, 466, 467, 468, 469, 470, 471, 472, 473, 474] (by decide +kernel) (by decide +kernel)
set_option maxRecDepth 100000 in
theorem ggZL_lays_L_done_r10 : GoodIn wzL_lays wsL_done_r10 := goodIn_r _ [475, 476, 477, 478, 479, 480, 481, 482, 483, 484, 86, 87, 88, 485, 486, 487, 488, 489, 490, 491, 492, 493, 494, 495] (by decide +kernel) (by decide +kernel)
set_option maxRecDepth 100000 in
theorem ggZL_lays_L_done_r11 : GoodIn wzL_lays wsL_done_r11 := goodIn_r _ [496, 497, 498, 499, 500, 501, 502, 503, 504, 505, 506, 507, 508, 509, 510, 511, 512, 513, 514, 515, 83, 66, 84, 516] (by decide +kernel) (by decide +kernel)
set_option maxRecDepth 100000 in
theorem ggZL_lays_L_done_r12 : GoodIn wzL_lays wsL_done_r12 := goodIn_r _ [517, 518, 519, 520, 521, 522, 523, 524, 525, 526, 527, 528, 529, 530, 531, 532, 533, 534, 535, 536, 537, 538, 539, 540] (by decide +kernel) (by decide +kernel)
set_option maxRecDepth 100000 in
theorem ggZL_lays_L_done_r13 : GoodIn wzL_lays wsL_done_r13 := goodIn_r _ [541, 542, 543, 544, 545, 546, 547, 548, 549, 550, 551, 552, 553, 554, 555, 556, 557, 558, 559, 560, 561, 562, 563, 564] (by decide +kernel) (by decide +kernel)
set_option maxRecDepth 100000 in
theorem ggZL_lays_L_done_r14 : GoodIn wzL_lays wsL_done_r14 := goodIn_r _ [565, 566, 567, 568, 569, 570, 571, 572, 573, 574, 575, 576, 577, 578, 579, 580, 581, 582, 583, 584, 585, 586, 587, 588] (by decide +kernel) (by decide +kernel)
set_option maxRecDepth 100000 in
theorem ggZL_lays_L_done_r15 : GoodIn wzL_lays wsL_done_r15 := goodIn_r _ [589, 590, 591, 592, 593, 594, 595, 596, 597, 598, 599, 600, 601, 602, 603, 604, 605, 606, 607, 608, 609, 610, 611, 612] (by decide +kernel) (by decide +kernel)
set_option maxRecDepth 100000 in
theorem ggZL_lays_L_done_r16 : GoodIn wzL_lays wsL_done_r16 := goodIn_r _ [613, 614, 615, 616, 617, 618, 619, 65, 67, 620, 621, 622, 623, 624, 625, 626, 627, 628, 629, 630, 631, 632, 633, 634] (by decide +kernel) (by decide +kernel)
