set_option maxRecDepth 100000 in
theorem ggZ_law_X11_placeOf : GoodIn wzL_law wsX11_placeOf := goodIn_r _ [766, 92, 90, 424, 425, 5, 426, 306, 307, 308, 132, 133, 134, 135, 136, 137, 138, 139, 140, 971, 972, 973, 974, 975, 976, 977, 978, 979, 980, 981, 982, 983, 984, 985, 986, 987, 988, 989, 990, 991, 992, 993, 994, 995, 996, 997] (by decide +kernel) (by decide +kernel)
set_option maxRecDepth 100000 in
theorem gZ_law_X11_placeOf : GoodIn wzL_law (wsV RL 211 RX11 yX11_placeOf wsX11_placeOf) := goodIn_app (goodIn_of _ (by decide +kernel)) ggZ_law_X11_placeOf
set_option maxRecDepth 100000 in
theorem ggZ_law_L_placeFor : GoodIn wzL_law wsL_placeFor := goodIn_ca (goodIn_ca (goodIn_r _ [769, 343, 110, 770, 771, 772, 2, 773, 115, 116, 363, 350, 351, 352, 353, 354, 355, 20, 774, 775, 776, 777, 778, 779, 780, 781, 782, 783, 784, 785, 786, 787, 788, 789, 18, 607, 682, 505, 506, 17, 507, 405, 48, 1001, 1002, 961, 962, 963, 964, 965, 966, 967, 968, 969, 970, 998, 999, 1000] (by decide +kernel) (by decide +kernel)) (goodIn_sub (fun _ h => List.mem_append_left _ (List.mem_append_left _ (List.mem_append_left _ (List.mem_append_right _ h)))) (by decide +kernel))) (goodIn_sub (fun _ h => List.mem_append_left _ (List.mem_append_left _ (List.mem_append_right _ h))) (by decide +kernel))
set_option maxRecDepth 100000 in
theorem gZ_law_L_placeFor : GoodIn wzL_law (va_wsS RL 212 yL_placeFor wsL_placeFor) := goodIn_app (goodIn_of _ (by decide +kernel)) ggZ_law_L_placeFor
set_option maxRecDepth 100000 in
theorem ggZ_law_X11_placeFor : GoodIn wzL_law wsX11_placeFor := goodIn_r _ [793, 92, 424, 425, 5, 426, 306, 307, 308, 132, 133, 134, 135, 136, 794, 795, 796, 797, 798, 799, 800, 801, 802, 803, 804, 805, 88, 90, 137, 138, 139, 140, 971, 972, 973, 974, 975, 976, 977, 978, 979, 980, 981, 982, 983, 984, 985, 986, 987, 988, 989, 990, 991, 992, 993, 994, 995, 996, 997] (by decide +kernel) (by decide +kernel)
set_option maxRecDepth 100000 in
theorem gZ_law_X11_placeFor : GoodIn wzL_law (wsV RL 214 RX11 yX11_placeFor wsX11_placeFor) := goodIn_app (goodIn_of _ (by decide +kernel)) ggZ_law_X11_placeFor
set_option maxRecDepth 100000 in
theorem ggZ_law_L_isSorted : GoodIn wzL_law wsL_isSorted := goodIn_ca (goodIn_r _ [808, 343, 809, 810, 811, 2, 812, 350, 351, 352, 353, 354, 355, 20, 774, 775, 776, 777, 778, 779, 780, 781, 363, 782, 783, 784, 785, 786, 787, 788, 789, 18, 607, 682, 505, 506, 17, 507, 405, 48, 961, 962, 963, 964, 965, 966, 967, 968, 969, 970, 1001, 1002, 998, 999, 1000] (by decide +kernel) (by decide +kernel)) (goodIn_sub (fun _ h => List.mem_append_left _ (List.mem_append_left _ (List.mem_append_right _ h))) (by decide +kernel))
set_option maxRecDepth 100000 in
theorem gZ_law_L_isSorted : GoodIn wzL_law (va_wsS RL 215 yL_isSorted wsL_isSorted) := goodIn_app (goodIn_of _ (by decide +kernel)) ggZ_law_L_isSorted
set_option maxRecDepth 100000 in
theorem ggZ_law_X11_isSorted : GoodIn wzL_law wsX11_isSorted := goodIn_r _ [816, 136, 424, 425, 5, 426, 306, 307, 308, 794, 795, 796, 797, 92, 798, 799, 800, 801, 802, 803, 804, 805, 88, 90, 971, 972, 973, 974, 975, 976, 977, 978, 979, 980, 981, 982, 983, 984, 985, 986, 987, 988, 989, 990, 991, 992, 993, 994, 995, 996, 997] (by decide +kernel) (by decide +kernel)
set_option maxRecDepth 100000 in
theorem gZ_law_X11_isSorted : GoodIn wzL_law (wsV RL 217 RX11 yX11_isSorted wsX11_isSorted) := goodIn_app (goodIn_of _ (by decide +kernel)) ggZ_law_X11_isSorted
set_option maxRecDepth 100000 in
theorem ggZ_law_L_runs : GoodIn wzL_law wsL_runs := goodIn_ca (goodIn_r _ [819, 343, 820, 821, 822, 2, 823, 350, 351, 352, 353, 354, 355, 20, 778, 779, 780, 781, 363, 782, 783, 784, 785, 786, 787, 788, 789, 18, 607, 682, 505, 506, 17, 507, 405, 48, 961, 962, 963, 964, 965, 966, 967, 968, 969, 970, 1001, 1002, 998, 999, 1000] (by decide +kernel) (by decide +kernel)) (goodIn_sub (fun _ h => List.mem_append_left _ (List.mem_append_left _ (List.mem_append_right _ h))) (by decide +kernel))
set_option maxRecDepth 100000 in
theorem gZ_law_L_runs : GoodIn wzL_law (va_wsS RL 218 yL_runs wsL_runs) := goodIn_app (goodIn_of _ (by decide +kernel)) ggZ_law_L_runs
set_option maxRecDepth 100000 in
theorem ggZ_law_X11_runs : GoodIn wzL_law wsX11_runs := goodIn_r _ [827, 424, 425, 5, 426, 306, 307, 308, 794, 795, 796, 797, 92, 798, 799, 800, 801, 802, 803, 804, 805, 88, 90, 137, 138, 139, 140, 136, 132, 133, 134, 135, 971, 972, 973, 974, 975, 976, 977, 978, 979, 980, 981, 982, 983, 984, 985, 986, 987, 988, 989, 990, 991, 992, 993, 994, 995, 996, 997] (by decide +kernel) (by decide +kernel)
set_option maxRecDepth 100000 in
theorem gZ_law_X11_runs : GoodIn wzL_law (wsV RL 220 RX11 yX11_runs wsX11_runs) := goodIn_app (goodIn_of _ (by decide +kernel)) ggZ_law_X11_runs
set_option maxRecDepth 100000 in
theorem ggZ_law_L_longestRun : GoodIn wzL_law wsL_longestRun := goodIn_ca (goodIn_r _ [830, 343, 831, 832, 833, 2, 834, 350, 351, 352, 353, 354, 355, 20, 835, 836, 837, 838, 363, 839, 711, 493, 712, 782, 783, 784, 785, 786, 787, 788, 789, 18, 607, 682, 505, 506, 17, 507, 405, 48, 961, 962, 963, 964, 965, 966, 967, 968, 969, 970, 1001, 1002, 998, 999, 1000] (by decide +kernel) (by decide +kernel)) (goodIn_sub (fun _ h => List.mem_append_left _ (List.mem_append_left _ (List.mem_append_right _ h))) (by decide +kernel))
set_option maxRecDepth 100000 in
theorem gZ_law_L_longestRun : GoodIn wzL_law (va_wsS RL 221 yL_longestRun wsL_longestRun) := goodIn_app (goodIn_of _ (by decide +kernel)) ggZ_law_L_longestRun
set_option maxRecDepth 100000 in
theorem ggZ_law_X11_longestRun : GoodIn wzL_law wsX11_longestRun := goodIn_r _ [843, 424, 425, 5, 426, 306, 307, 308, 844, 845, 846, 847, 92, 798, 799, 800, 801, 802, 803, 804, 805, 88, 90, 728, 729, 730, 137, 138, 139, 140, 136, 132, 133, 134, 135, 971, 972, 973, 974, 975, 976, 977, 978, 979, 980, 981, 982, 983, 984, 985, 986, 987, 988, 989, 990, 991, 992, 993, 994, 995, 996, 997] (by decide +kernel) (by decide +kernel)
set_option maxRecDepth 100000 in
theorem gZ_law_X11_longestRun : GoodIn wzL_law (wsV RL 223 RX11 yX11_longestRun wsX11_longestRun) := goodIn_app (goodIn_of _ (by decide +kernel)) ggZ_law_X11_longestRun
set_option maxRecDepth 100000 in
theorem ggZ_law_L_wrongPairs : GoodIn wzL_law wsL_wrongPairs := goodIn_ca (goodIn_r _ [850, 343, 851, 852, 853, 2, 854, 350, 351, 352, 353, 354, 355, 20, 855, 856, 857, 858, 31, 363, 468, 477, 478, 479, 30, 480, 481, 482, 483, 484, 485, 58, 486, 487, 488, 489, 490, 491, 492, 493, 494, 59, 495, 496, 497, 498, 499, 500, 501, 502, 60, 503, 504, 505, 506, 17, 507, 405, 48, 508, 509, 510, 385, 386, 387, 388, 511, 512, 513, 514, 49, 961, 962, 963, 964, 965, 966, 967, 968, 969, 970, 1001, 1002, 1003, 1004, 1005, 1006, 998, 999, 1000] (by decide +kernel) (by decide +kernel)) (goodIn_sub (fun _ h => List.mem_append_left _ (List.mem_append_left _ (List.mem_append_right _ h))) (by decide +kernel))
set_option maxRecDepth 100000 in
theorem gZ_law_L_wrongPairs : GoodIn wzL_law (va_wsS RL 224 yL_wrongPairs wsL_wrongPairs) := goodIn_app (goodIn_of _ (by decide +kernel)) ggZ_law_L_wrongPairs
