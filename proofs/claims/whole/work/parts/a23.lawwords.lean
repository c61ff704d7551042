set_option maxRecDepth 100000 in
theorem ggZ_law_X11_deal : GoodIn wzL_law wsX11_deal := goodIn_r _ [625, 92, 90, 424, 425, 5, 426, 306, 307, 308, 132, 133, 134, 135, 136, 137, 138, 139, 140, 971, 972, 973, 974, 975, 976, 977, 978, 979, 980, 981, 982, 983, 984, 985, 986, 987, 988, 989, 990, 991, 992, 993, 994, 995, 996, 997] (by decide +kernel) (by decide +kernel)
set_option maxRecDepth 100000 in
theorem gZ_law_X11_deal : GoodIn wzL_law (wsV RL 181 RX11 yX11_deal wsX11_deal) := goodIn_app (goodIn_of _ (by decide +kernel)) ggZ_law_X11_deal
set_option maxRecDepth 100000 in
theorem ggZ_law_L_turn : GoodIn wzL_law wsL_turn := goodIn_ca (goodIn_r _ [628, 343, 629, 630, 631, 2, 632, 363, 350, 351, 352, 353, 354, 355, 20, 633, 634, 635, 25, 636, 410, 53, 1001, 1002, 961, 962, 963, 964, 965, 966, 967, 968, 969, 970] (by decide +kernel) (by decide +kernel)) (goodIn_sub (fun _ h => List.mem_append_left _ (List.mem_append_left _ (List.mem_append_right _ h))) (by decide +kernel))
set_option maxRecDepth 100000 in
theorem gZ_law_L_turn : GoodIn wzL_law (va_wsS RL 182 yL_turn wsL_turn) := goodIn_app (goodIn_of _ (by decide +kernel)) ggZ_law_L_turn
set_option maxRecDepth 100000 in
theorem ggZ_law_X11_turn : GoodIn wzL_law wsX11_turn := goodIn_r _ [640, 92, 90, 424, 425, 5, 426, 306, 307, 308, 132, 133, 134, 135, 136, 137, 138, 139, 140, 971, 972, 973, 974, 975, 976, 977, 978, 979, 980, 981, 982, 983, 984, 985, 986, 987, 988, 989, 990, 991, 992, 993, 994, 995, 996, 997] (by decide +kernel) (by decide +kernel)
set_option maxRecDepth 100000 in
theorem gZ_law_X11_turn : GoodIn wzL_law (wsV RL 184 RX11 yX11_turn wsX11_turn) := goodIn_app (goodIn_of _ (by decide +kernel)) ggZ_law_X11_turn
set_option maxRecDepth 100000 in
theorem ggZ_law_L_move : GoodIn wzL_law wsL_move := goodIn_ca (goodIn_r _ [643, 343, 644, 645, 646, 2, 647, 350, 351, 352, 353, 354, 355, 20, 648, 649, 650, 363, 651, 652, 653, 25, 654, 410, 53, 415, 416, 417, 418, 447, 412, 413, 414, 961, 962, 963, 964, 965, 966, 967, 968, 969, 970, 1001, 1002] (by decide +kernel) (by decide +kernel)) (goodIn_sub (fun _ h => List.mem_append_left _ (List.mem_append_left _ (List.mem_append_right _ h))) (by decide +kernel))
set_option maxRecDepth 100000 in
theorem gZ_law_L_move : GoodIn wzL_law (va_wsS RL 185 yL_move wsL_move) := goodIn_app (goodIn_of _ (by decide +kernel)) ggZ_law_L_move
set_option maxRecDepth 100000 in
theorem ggZ_law_X11_move : GoodIn wzL_law wsX11_move := goodIn_r _ [658, 90, 659, 660, 661, 5, 662, 92, 424, 425, 426, 306, 307, 308, 132, 133, 134, 135, 136, 137, 138, 139, 140, 971, 972, 973, 974, 975, 976, 977, 978, 979, 980, 981, 982, 983, 984, 985, 986, 987, 988, 989, 990, 991, 992, 993, 994, 995, 996, 997] (by decide +kernel) (by decide +kernel)
set_option maxRecDepth 100000 in
theorem gZ_law_X11_move : GoodIn wzL_law (wsV RL 187 RX11 yX11_move wsX11_move) := goodIn_app (goodIn_of _ (by decide +kernel)) ggZ_law_X11_move
set_option maxRecDepth 100000 in
theorem ggZ_law_L_thin : GoodIn wzL_law wsL_thin := goodIn_ca (goodIn_r _ [665, 343, 666, 667, 668, 2, 669, 363, 607, 18, 350, 351, 352, 353, 354, 355, 20, 670, 512, 513, 17, 514, 405, 49, 1001, 1002, 961, 962, 963, 964, 965, 966, 967, 968, 969, 970, 998, 999, 1000] (by decide +kernel) (by decide +kernel)) (goodIn_sub (fun _ h => List.mem_append_left _ (List.mem_append_left _ (List.mem_append_right _ h))) (by decide +kernel))
set_option maxRecDepth 100000 in
theorem gZ_law_L_thin : GoodIn wzL_law (va_wsS RL 188 yL_thin wsL_thin) := goodIn_app (goodIn_of _ (by decide +kernel)) ggZ_law_L_thin
set_option maxRecDepth 100000 in
theorem ggZ_law_X11_thin : GoodIn wzL_law wsX11_thin := goodIn_r _ [674, 92, 89, 90, 424, 425, 5, 426, 306, 307, 308, 132, 133, 134, 135, 136, 137, 138, 139, 140, 971, 972, 973, 974, 975, 976, 977, 978, 979, 980, 981, 982, 983, 984, 985, 986, 987, 988, 989, 990, 991, 992, 993, 994, 995, 996, 997] (by decide +kernel) (by decide +kernel)
set_option maxRecDepth 100000 in
theorem gZ_law_X11_thin : GoodIn wzL_law (wsV RL 190 RX11 yX11_thin wsX11_thin) := goodIn_app (goodIn_of _ (by decide +kernel)) ggZ_law_X11_thin
set_option maxRecDepth 100000 in
theorem ggZ_law_L_single : GoodIn wzL_law wsL_single := goodIn_ca (goodIn_r _ [677, 343, 678, 679, 680, 2, 681, 363, 607, 18, 350, 351, 352, 353, 354, 355, 20, 682, 505, 506, 17, 507, 405, 48, 1001, 1002, 961, 962, 963, 964, 965, 966, 967, 968, 969, 970, 998, 999, 1000] (by decide +kernel) (by decide +kernel)) (goodIn_sub (fun _ h => List.mem_append_left _ (List.mem_append_left _ (List.mem_append_right _ h))) (by decide +kernel))
set_option maxRecDepth 100000 in
theorem gZ_law_L_single : GoodIn wzL_law (va_wsS RL 191 yL_single wsL_single) := goodIn_app (goodIn_of _ (by decide +kernel)) ggZ_law_L_single
set_option maxRecDepth 100000 in
theorem ggZ_law_X11_single : GoodIn wzL_law wsX11_single := goodIn_r _ [686, 92, 90, 88, 424, 425, 5, 426, 306, 307, 308, 132, 133, 134, 135, 136, 137, 138, 139, 140, 971, 972, 973, 974, 975, 976, 977, 978, 979, 980, 981, 982, 983, 984, 985, 986, 987, 988, 989, 990, 991, 992, 993, 994, 995, 996, 997] (by decide +kernel) (by decide +kernel)
set_option maxRecDepth 100000 in
theorem gZ_law_X11_single : GoodIn wzL_law (wsV RL 193 RX11 yX11_single wsX11_single) := goodIn_app (goodIn_of _ (by decide +kernel)) ggZ_law_X11_single
set_option maxRecDepth 100000 in
theorem ggZ_law_L_empty : GoodIn wzL_law wsL_empty := goodIn_ca (goodIn_r _ [689, 343, 690, 691, 692, 2, 693, 363, 350, 351, 352, 353, 354, 355, 20, 1001, 1002, 961, 962, 963, 964, 965, 966, 967, 968, 969, 970] (by decide +kernel) (by decide +kernel)) (goodIn_sub (fun _ h => List.mem_append_left _ (List.mem_append_left _ (List.mem_append_right _ h))) (by decide +kernel))
set_option maxRecDepth 100000 in
theorem gZ_law_L_empty : GoodIn wzL_law (va_wsS RL 194 yL_empty wsL_empty) := goodIn_app (goodIn_of _ (by decide +kernel)) ggZ_law_L_empty
