set_option maxRecDepth 100000 in
theorem ggZ_law_X11_lay : GoodIn wzL_law wsX11_lay := goodIn_r _ [422, 295, 99, 92, 423, 90, 103, 424, 425, 5, 426, 306, 307, 308, 132, 133, 134, 135, 136, 289, 290, 291, 292, 293, 294, 296, 297, 298, 299, 300, 131, 94, 301, 302, 303, 304, 305, 309, 310, 311, 312, 313, 314, 315, 98, 100, 101, 102, 316, 317, 318, 319, 320, 321, 322, 323, 324, 325, 326, 327, 328, 329, 330, 331, 332, 333, 334, 335, 336, 337, 338, 339, 427, 428, 429, 430, 431, 432, 433, 434, 95, 435, 436, 437, 438, 439, 88, 89, 137, 138, 139, 140, 971, 972, 973, 974, 975, 976, 977, 978, 979, 980, 981, 982, 983, 984, 985, 986, 987, 988, 989, 990, 991, 992, 993, 994, 995, 996, 997] (by decide +kernel) (by decide +kernel)
set_option maxRecDepth 100000 in
theorem gZ_law_X11_lay : GoodIn wzL_law (wsV RL 146 RX11 yX11_lay wsX11_lay) := goodIn_app (goodIn_of _ (by decide +kernel)) ggZ_law_X11_lay
set_option maxRecDepth 100000 in
theorem ggZ_law_L_put : GoodIn wzL_law wsL_put := goodIn_ca (goodIn_ca (goodIn_r _ [442, 343, 110, 443, 444, 445, 2, 446, 354, 355, 363, 18, 350, 351, 352, 353, 20, 360, 361, 362, 115, 116, 364, 365, 366, 367, 368, 401, 402, 403, 17, 404, 405, 48, 49, 447, 412, 413, 25, 414, 410, 53, 415, 416, 417, 418, 1001, 1002, 961, 962, 963, 964, 965, 966, 967, 968, 969, 970, 998, 999, 1000] (by decide +kernel) (by decide +kernel)) (goodIn_sub (fun _ h => List.mem_append_left _ (List.mem_append_left _ (List.mem_append_right _ h))) (by decide +kernel))) (goodIn_sub (fun _ h => List.mem_append_left _ (List.mem_append_left _ (List.mem_append_left _ (List.mem_append_right _ h)))) (by decide +kernel))
set_option maxRecDepth 100000 in
theorem gZ_law_L_put : GoodIn wzL_law (va_wsS RL 147 yL_put wsL_put) := goodIn_app (goodIn_of _ (by decide +kernel)) ggZ_law_L_put
set_option maxRecDepth 100000 in
theorem ggZ_law_X11_put : GoodIn wzL_law wsX11_put := goodIn_r _ [451, 92, 423, 90, 424, 425, 5, 426, 306, 307, 308, 132, 133, 134, 135, 136, 436, 437, 438, 439, 88, 89, 137, 138, 139, 140, 971, 972, 973, 974, 975, 976, 977, 978, 979, 980, 981, 982, 983, 984, 985, 986, 987, 988, 989, 990, 991, 992, 993, 994, 995, 996, 997] (by decide +kernel) (by decide +kernel)
set_option maxRecDepth 100000 in
theorem gZ_law_X11_put : GoodIn wzL_law (wsV RL 150 RX11 yX11_put wsX11_put) := goodIn_app (goodIn_of _ (by decide +kernel)) ggZ_law_X11_put
set_option maxRecDepth 100000 in
theorem ggZ_law_X10_setSeed : GoodIn wzL_law wsX10_setSeed := goodIn_r _ [455, 43, 456, 961, 962, 963, 964, 965, 966, 967, 968, 969, 970, 1014] (by decide +kernel) (by decide +kernel)
set_option maxRecDepth 100000 in
theorem gZ_law_X10_setSeed : GoodIn wzL_law (wsV RL 151 RX10 yX10_setSeed wsX10_setSeed) := goodIn_app (goodIn_of _ (by decide +kernel)) ggZ_law_X10_setSeed
set_option maxRecDepth 100000 in
theorem ggZ_law_X11_setSeed : GoodIn wzL_law wsX11_setSeed := goodIn_r _ [460, 95, 137, 138, 139, 5, 140, 136, 971, 972, 973, 974, 975, 976, 977, 978, 979, 980, 981, 982, 983, 984, 985, 986, 987, 988, 989, 990, 991, 992, 993, 994, 995, 996, 997] (by decide +kernel) (by decide +kernel)
set_option maxRecDepth 100000 in
theorem gZ_law_X11_setSeed : GoodIn wzL_law (wsV RL 154 RX11 yX11_setSeed wsX11_setSeed) := goodIn_app (goodIn_of _ (by decide +kernel)) ggZ_law_X11_setSeed
set_option maxRecDepth 100000 in
theorem ggZ_law_L_sort : GoodIn wzL_law wsL_sort := goodIn_ca (goodIn_r _ [463, 343, 464, 465, 466, 2, 467, 468, 350, 351, 352, 353, 354, 355, 20, 469, 470, 471, 472, 363, 473, 474, 475, 476, 31, 477, 478, 479, 30, 480, 481, 482, 483, 484, 485, 58, 486, 487, 488, 489, 490, 491, 492, 493, 494, 59, 495, 496, 497, 498, 499, 500, 501, 502, 60, 503, 504, 505, 506, 17, 507, 405, 48, 508, 509, 510, 385, 386, 387, 388, 511, 512, 513, 514, 49, 515, 516, 517, 518, 961, 962, 963, 964, 965, 966, 967, 968, 969, 970, 1001, 1002, 1003, 1004, 1005, 1006, 998, 999, 1000] (by decide +kernel) (by decide +kernel)) (goodIn_sub (fun _ h => List.mem_append_left _ (List.mem_append_left _ (List.mem_append_right _ h))) (by decide +kernel))
set_option maxRecDepth 100000 in
theorem gZ_law_L_sort : GoodIn wzL_law (va_wsS RL 155 yL_sort wsL_sort) := goodIn_app (goodIn_of _ (by decide +kernel)) ggZ_law_L_sort
set_option maxRecDepth 100000 in
theorem ggZ_law_X11_sort : GoodIn wzL_law wsX11_sort := goodIn_r _ [522, 92, 424, 425, 5, 426, 306, 307, 308, 523, 524, 525, 526, 96, 90, 527, 528, 529, 530, 97, 531, 532, 533, 534, 88, 89, 137, 138, 139, 140, 136, 132, 133, 134, 135, 971, 972, 973, 974, 975, 976, 977, 978, 979, 980, 981, 982, 983, 984, 985, 986, 987, 988, 989, 990, 991, 992, 993, 994, 995, 996, 997] (by decide +kernel) (by decide +kernel)
set_option maxRecDepth 100000 in
theorem gZ_law_X11_sort : GoodIn wzL_law (wsV RL 157 RX11 yX11_sort wsX11_sort) := goodIn_app (goodIn_of _ (by decide +kernel)) ggZ_law_X11_sort
set_option maxRecDepth 100000 in
theorem ggZ_law_X10_sortAll : GoodIn wzL_law wsX10_sortAll := goodIn_r _ [538, 31, 20, 363, 468, 477, 478, 479, 30, 480, 481, 482, 483, 484, 485, 58, 486, 487, 488, 489, 490, 491, 492, 493, 494, 59, 495, 496, 497, 498, 499, 500, 501, 502, 60, 503, 504, 505, 506, 17, 507, 405, 48, 508, 509, 510, 385, 386, 387, 388, 511, 512, 513, 514, 49, 515, 516, 517, 518, 961, 962, 963, 964, 965, 966, 967, 968, 969, 970, 1001, 1002, 1003, 1004, 1005, 1006, 998, 999, 1000] (by decide +kernel) (by decide +kernel)
set_option maxRecDepth 100000 in
theorem gZ_law_X10_sortAll : GoodIn wzL_law (wsV RL 158 RX10 yX10_sortAll wsX10_sortAll) := goodIn_app (goodIn_of _ (by decide +kernel)) ggZ_law_X10_sortAll
set_option maxRecDepth 100000 in
theorem ggZ_law_X11_sortAll : GoodIn wzL_law wsX11_sortAll := goodIn_r _ [542, 92, 96, 90, 527, 528, 529, 5, 530, 97, 531, 532, 533, 534, 88, 89, 137, 138, 139, 140, 136, 971, 972, 973, 974, 975, 976, 977, 978, 979, 980, 981, 982, 983, 984, 985, 986, 987, 988, 989, 990, 991, 992, 993, 994, 995, 996, 997] (by decide +kernel) (by decide +kernel)
set_option maxRecDepth 100000 in
theorem gZ_law_X11_sortAll : GoodIn wzL_law (wsV RL 161 RX11 yX11_sortAll wsX11_sortAll) := goodIn_app (goodIn_of _ (by decide +kernel)) ggZ_law_X11_sortAll
set_option maxRecDepth 100000 in
theorem ggZ_law_L_sortPart : GoodIn wzL_law wsL_sortPart := goodIn_ca (goodIn_ca (goodIn_r _ [545, 343, 546, 547, 548, 549, 2, 550, 468, 350, 351, 352, 353, 354, 355, 20, 551, 552, 553, 554, 555, 363, 473, 474, 475, 476, 31, 477, 478, 479, 30, 480, 481, 482, 483, 484, 485, 58, 486, 487, 488, 489, 490, 491, 492, 493, 494, 59, 495, 496, 497, 498, 499, 500, 501, 502, 60, 503, 504, 505, 506, 17, 507, 405, 48, 508, 509, 510, 385, 386, 387, 388, 511, 512, 513, 514, 49, 515, 516, 517, 518, 961, 962, 963, 964, 965, 966, 967, 968, 969, 970, 1001, 1002, 1003, 1004, 1005, 1006, 998, 999, 1000] (by decide +kernel) (by decide +kernel)) (goodIn_sub (fun _ h => List.mem_append_left _ (List.mem_append_left _ (List.mem_append_right _ h))) (by decide +kernel))) (goodIn_sub (fun _ h => List.mem_append_left _ (List.mem_append_right _ h)) (by decide +kernel))
set_option maxRecDepth 100000 in
theorem gZ_law_L_sortPart : GoodIn wzL_law (va_wsS RL 162 yL_sortPart wsL_sortPart) := goodIn_app (goodIn_of _ (by decide +kernel)) ggZ_law_L_sortPart
