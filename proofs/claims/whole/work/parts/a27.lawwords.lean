set_option maxRecDepth 100000 in
theorem ggZ_law_X11_mean : GoodIn wzL_law wsX11_mean := goodIn_r _ [925, 136, 92, 424, 425, 5, 426, 306, 307, 308, 802, 803, 804, 805, 88, 90, 971, 972, 973, 974, 975, 976, 977, 978, 979, 980, 981, 982, 983, 984, 985, 986, 987, 988, 989, 990, 991, 992, 993, 994, 995, 996, 997] (by decide +kernel) (by decide +kernel)
set_option maxRecDepth 100000 in
theorem gZ_law_X11_mean : GoodIn wzL_law (wsV RL 242 RX11 yX11_mean wsX11_mean) := goodIn_app (goodIn_of _ (by decide +kernel)) ggZ_law_X11_mean
set_option maxRecDepth 100000 in
theorem ggZ_law_L_risingShare : GoodIn wzL_law wsL_risingShare := goodIn_ca (goodIn_r _ [928, 343, 929, 930, 931, 2, 932, 363, 350, 351, 352, 353, 354, 355, 20, 835, 836, 837, 838, 839, 711, 493, 712, 782, 783, 784, 785, 786, 787, 788, 789, 18, 607, 682, 505, 506, 17, 507, 405, 48, 1001, 1002, 961, 962, 963, 964, 965, 966, 967, 968, 969, 970, 998, 999, 1000] (by decide +kernel) (by decide +kernel)) (goodIn_sub (fun _ h => List.mem_append_left _ (List.mem_append_left _ (List.mem_append_right _ h))) (by decide +kernel))
set_option maxRecDepth 100000 in
theorem gZ_law_L_risingShare : GoodIn wzL_law (va_wsS RL 243 yL_risingShare wsL_risingShare) := goodIn_app (goodIn_of _ (by decide +kernel)) ggZ_law_L_risingShare
set_option maxRecDepth 100000 in
theorem ggZ_law_X11_risingShare : GoodIn wzL_law wsX11_risingShare := goodIn_r _ [936, 136, 92, 424, 425, 5, 426, 306, 307, 308, 844, 845, 846, 847, 798, 799, 800, 801, 802, 803, 804, 805, 88, 90, 728, 729, 730, 971, 972, 973, 974, 975, 976, 977, 978, 979, 980, 981, 982, 983, 984, 985, 986, 987, 988, 989, 990, 991, 992, 993, 994, 995, 996, 997] (by decide +kernel) (by decide +kernel)
set_option maxRecDepth 100000 in
theorem gZ_law_X11_risingShare : GoodIn wzL_law (wsV RL 245 RX11 yX11_risingShare wsX11_risingShare) := goodIn_app (goodIn_of _ (by decide +kernel)) ggZ_law_X11_risingShare
set_option maxRecDepth 100000 in
theorem ggZ_law_X10_errors : GoodIn wzL_law wsX10_errors := goodIn_r _ [940, 20, 941, 942, 943, 2, 944, 363, 26, 468, 583, 27, 595, 705, 706, 707, 25, 708, 410, 709, 492, 493, 494, 710, 711, 712, 53, 415, 416, 417, 418, 473, 474, 475, 476, 31, 477, 478, 479, 30, 480, 481, 482, 483, 484, 485, 58, 486, 487, 488, 489, 490, 491, 59, 495, 496, 497, 498, 499, 500, 501, 502, 60, 503, 504, 505, 506, 17, 507, 405, 48, 508, 509, 510, 385, 386, 387, 388, 511, 512, 513, 514, 49, 515, 516, 517, 518, 774, 775, 776, 777, 778, 779, 780, 781, 782, 783, 784, 785, 786, 787, 788, 789, 18, 607, 682, 961, 962, 963, 964, 965, 966, 967, 968, 969, 970, 1001, 1002, 1003, 1004, 1005, 1006, 998, 999, 1000] (by decide +kernel) (by decide +kernel)
set_option maxRecDepth 100000 in
theorem gZ_law_X10_errors : GoodIn wzL_law (wsV RL 246 RX10 yX10_errors wsX10_errors) := goodIn_app (goodIn_of _ (by decide +kernel)) ggZ_law_X10_errors
set_option maxRecDepth 100000 in
theorem ggZ_law_X11_errors : GoodIn wzL_law wsX11_errors := goodIn_r _ [948, 949, 950, 951, 5, 952, 92, 105, 96, 953, 954, 955, 956, 90, 527, 528, 529, 530, 97, 531, 532, 533, 534, 88, 89, 957, 958, 959, 960, 104, 802, 803, 804, 805, 137, 138, 139, 140, 136, 971, 972, 973, 974, 975, 976, 977, 978, 979, 980, 981, 982, 983, 984, 985, 986, 987, 988, 989, 990, 991, 992, 993, 994, 995, 996, 997] (by decide +kernel) (by decide +kernel)
set_option maxRecDepth 100000 in
theorem gZ_law_X11_errors : GoodIn wzL_law (wsV RL 249 RX11 yX11_errors wsX11_errors) := goodIn_app (goodIn_of _ (by decide +kernel)) ggZ_law_X11_errors
