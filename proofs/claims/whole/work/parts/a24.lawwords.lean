set_option maxRecDepth 100000 in
theorem ggZ_law_X11_empty : GoodIn wzL_law wsX11_empty := goodIn_r _ [697, 92, 424, 425, 5, 426, 306, 307, 308, 132, 133, 134, 135, 136, 137, 138, 139, 140, 971, 972, 973, 974, 975, 976, 977, 978, 979, 980, 981, 982, 983, 984, 985, 986, 987, 988, 989, 990, 991, 992, 993, 994, 995, 996, 997] (by decide +kernel) (by decide +kernel)
set_option maxRecDepth 100000 in
theorem gZ_law_X11_empty : GoodIn wzL_law (wsV RL 196 RX11 yX11_empty wsX11_empty) := goodIn_app (goodIn_of _ (by decide +kernel)) ggZ_law_X11_empty
set_option maxRecDepth 100000 in
theorem ggZ_law_L_keep : GoodIn wzL_law wsL_keep := goodIn_ca (goodIn_r _ [700, 343, 701, 702, 703, 2, 704, 21, 23, 363, 350, 351, 352, 353, 354, 355, 20, 705, 706, 707, 25, 708, 410, 709, 492, 493, 494, 710, 711, 712, 53, 415, 416, 417, 418, 961, 962, 963, 964, 965, 966, 967, 968, 969, 970, 1001, 1002] (by decide +kernel) (by decide +kernel)) (goodIn_sub (fun _ h => List.mem_append_left _ (List.mem_append_left _ (List.mem_append_right _ h))) (by decide +kernel))
set_option maxRecDepth 100000 in
theorem gZ_law_L_keep : GoodIn wzL_law (va_wsS RL 197 yL_keep wsL_keep) := goodIn_app (goodIn_of _ (by decide +kernel)) ggZ_law_L_keep
set_option maxRecDepth 100000 in
theorem ggZ_law_X11_keep : GoodIn wzL_law wsX11_keep := goodIn_r _ [716, 92, 91, 90, 93, 424, 425, 5, 426, 306, 307, 308, 132, 133, 134, 135, 136, 137, 138, 139, 140, 971, 972, 973, 974, 975, 976, 977, 978, 979, 980, 981, 982, 983, 984, 985, 986, 987, 988, 989, 990, 991, 992, 993, 994, 995, 996, 997] (by decide +kernel) (by decide +kernel)
set_option maxRecDepth 100000 in
theorem gZ_law_X11_keep : GoodIn wzL_law (wsV RL 199 RX11 yX11_keep wsX11_keep) := goodIn_app (goodIn_of _ (by decide +kernel)) ggZ_law_X11_keep
set_option maxRecDepth 100000 in
theorem ggZ_law_L_restore : GoodIn wzL_law wsL_restore := goodIn_ca (goodIn_ca (goodIn_r _ [719, 343, 110, 720, 721, 722, 2, 723, 115, 116, 23, 21, 350, 351, 352, 353, 354, 355, 20, 705, 706, 707, 25, 708, 410, 709, 492, 493, 494, 710, 711, 712, 53, 415, 416, 417, 418, 961, 962, 963, 964, 965, 966, 967, 968, 969, 970, 1001, 1002] (by decide +kernel) (by decide +kernel)) (goodIn_sub (fun _ h => List.mem_append_left _ (List.mem_append_left _ (List.mem_append_left _ (List.mem_append_right _ h)))) (by decide +kernel))) (goodIn_sub (fun _ h => List.mem_append_left _ (List.mem_append_left _ (List.mem_append_right _ h))) (by decide +kernel))
set_option maxRecDepth 100000 in
theorem gZ_law_L_restore : GoodIn wzL_law (va_wsS RL 200 yL_restore wsL_restore) := goodIn_app (goodIn_of _ (by decide +kernel)) ggZ_law_L_restore
set_option maxRecDepth 100000 in
theorem ggZ_law_X11_restore : GoodIn wzL_law wsX11_restore := goodIn_r _ [727, 93, 92, 90, 91, 424, 425, 5, 426, 306, 307, 308, 132, 133, 134, 135, 136, 728, 729, 730, 731, 732, 733, 137, 138, 139, 140, 971, 972, 973, 974, 975, 976, 977, 978, 979, 980, 981, 982, 983, 984, 985, 986, 987, 988, 989, 990, 991, 992, 993, 994, 995, 996, 997] (by decide +kernel) (by decide +kernel)
set_option maxRecDepth 100000 in
theorem gZ_law_X11_restore : GoodIn wzL_law (wsV RL 202 RX11 yX11_restore wsX11_restore) := goodIn_app (goodIn_of _ (by decide +kernel)) ggZ_law_X11_restore
set_option maxRecDepth 100000 in
theorem ggZ_law_L_count : GoodIn wzL_law wsL_count := goodIn_ca (goodIn_r _ [736, 343, 737, 738, 739, 2, 740, 363, 350, 351, 352, 353, 354, 355, 20, 1001, 1002, 961, 962, 963, 964, 965, 966, 967, 968, 969, 970] (by decide +kernel) (by decide +kernel)) (goodIn_sub (fun _ h => List.mem_append_left _ (List.mem_append_left _ (List.mem_append_right _ h))) (by decide +kernel))
set_option maxRecDepth 100000 in
theorem gZ_law_L_count : GoodIn wzL_law (va_wsS RL 203 yL_count wsL_count) := goodIn_app (goodIn_of _ (by decide +kernel)) ggZ_law_L_count
set_option maxRecDepth 100000 in
theorem ggZ_law_X11_count : GoodIn wzL_law wsX11_count := goodIn_r _ [744, 92, 424, 425, 5, 426, 306, 307, 308, 137, 138, 139, 140, 136, 132, 133, 134, 135, 971, 972, 973, 974, 975, 976, 977, 978, 979, 980, 981, 982, 983, 984, 985, 986, 987, 988, 989, 990, 991, 992, 993, 994, 995, 996, 997] (by decide +kernel) (by decide +kernel)
set_option maxRecDepth 100000 in
theorem gZ_law_X11_count : GoodIn wzL_law (wsV RL 205 RX11 yX11_count wsX11_count) := goodIn_app (goodIn_of _ (by decide +kernel)) ggZ_law_X11_count
set_option maxRecDepth 100000 in
theorem ggZ_law_L_cardAt : GoodIn wzL_law wsL_cardAt := goodIn_ca (goodIn_ca (goodIn_r _ [747, 343, 546, 748, 749, 750, 2, 751, 554, 555, 607, 18, 350, 351, 352, 353, 354, 355, 20, 648, 649, 650, 363, 682, 505, 506, 17, 507, 405, 48, 670, 512, 513, 514, 49, 1001, 1002, 961, 962, 963, 964, 965, 966, 967, 968, 969, 970, 998, 999, 1000] (by decide +kernel) (by decide +kernel)) (goodIn_sub (fun _ h => List.mem_append_left _ (List.mem_append_right _ h)) (by decide +kernel))) (goodIn_sub (fun _ h => List.mem_append_left _ (List.mem_append_left _ (List.mem_append_right _ h))) (by decide +kernel))
set_option maxRecDepth 100000 in
theorem gZ_law_L_cardAt : GoodIn wzL_law (va_wsS RL 206 yL_cardAt wsL_cardAt) := goodIn_app (goodIn_of _ (by decide +kernel)) ggZ_law_L_cardAt
set_option maxRecDepth 100000 in
theorem ggZ_law_X11_cardAt : GoodIn wzL_law wsX11_cardAt := goodIn_r _ [755, 90, 88, 89, 659, 660, 661, 5, 662, 92, 424, 425, 426, 306, 307, 308, 132, 133, 134, 135, 136, 137, 138, 139, 140, 971, 972, 973, 974, 975, 976, 977, 978, 979, 980, 981, 982, 983, 984, 985, 986, 987, 988, 989, 990, 991, 992, 993, 994, 995, 996, 997] (by decide +kernel) (by decide +kernel)
set_option maxRecDepth 100000 in
theorem gZ_law_X11_cardAt : GoodIn wzL_law (wsV RL 208 RX11 yX11_cardAt wsX11_cardAt) := goodIn_app (goodIn_of _ (by decide +kernel)) ggZ_law_X11_cardAt
set_option maxRecDepth 100000 in
theorem ggZ_law_L_placeOf : GoodIn wzL_law wsL_placeOf := goodIn_ca (goodIn_r _ [758, 343, 759, 760, 761, 2, 762, 363, 607, 350, 351, 352, 353, 354, 355, 20, 1001, 1002, 961, 962, 963, 964, 965, 966, 967, 968, 969, 970] (by decide +kernel) (by decide +kernel)) (goodIn_sub (fun _ h => List.mem_append_left _ (List.mem_append_left _ (List.mem_append_right _ h))) (by decide +kernel))
set_option maxRecDepth 100000 in
theorem gZ_law_L_placeOf : GoodIn wzL_law (va_wsS RL 209 yL_placeOf wsL_placeOf) := goodIn_app (goodIn_of _ (by decide +kernel)) ggZ_law_L_placeOf
