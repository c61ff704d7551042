set_option maxRecDepth 100000 in
theorem ggZ_law_X11_wrongPairs : GoodIn wzL_law wsX11_wrongPairs := goodIn_r _ [862, 92, 424, 425, 5, 426, 306, 307, 308, 132, 133, 134, 135, 136, 802, 803, 804, 805, 88, 90, 137, 138, 139, 140, 971, 972, 973, 974, 975, 976, 977, 978, 979, 980, 981, 982, 983, 984, 985, 986, 987, 988, 989, 990, 991, 992, 993, 994, 995, 996, 997] (by decide +kernel) (by decide +kernel)
set_option maxRecDepth 100000 in
theorem gZ_law_X11_wrongPairs : GoodIn wzL_law (wsV RL 226 RX11 yX11_wrongPairs wsX11_wrongPairs) := goodIn_app (goodIn_of _ (by decide +kernel)) ggZ_law_X11_wrongPairs
set_option maxRecDepth 100000 in
theorem ggZ_law_L_unlike : GoodIn wzL_law wsL_unlike := goodIn_ca (goodIn_r _ [865, 343, 866, 867, 868, 2, 869, 363, 31, 350, 351, 352, 353, 354, 355, 20, 855, 856, 857, 858, 468, 477, 478, 479, 30, 480, 481, 482, 483, 484, 485, 58, 486, 487, 488, 489, 490, 491, 492, 493, 494, 59, 495, 496, 497, 498, 499, 500, 501, 502, 60, 503, 504, 505, 506, 17, 507, 405, 48, 508, 509, 510, 385, 386, 387, 388, 511, 512, 513, 514, 49, 870, 871, 872, 873, 1001, 1002, 961, 962, 963, 964, 965, 966, 967, 968, 969, 970, 1003, 1004, 1005, 1006, 998, 999, 1000] (by decide +kernel) (by decide +kernel)) (goodIn_sub (fun _ h => List.mem_append_left _ (List.mem_append_left _ (List.mem_append_right _ h))) (by decide +kernel))
set_option maxRecDepth 100000 in
theorem gZ_law_L_unlike : GoodIn wzL_law (va_wsS RL 227 yL_unlike wsL_unlike) := goodIn_app (goodIn_of _ (by decide +kernel)) ggZ_law_L_unlike
set_option maxRecDepth 100000 in
theorem ggZ_law_X11_unlike : GoodIn wzL_law wsX11_unlike := goodIn_r _ [877, 92, 424, 425, 5, 426, 306, 307, 308, 132, 133, 134, 135, 136, 802, 803, 804, 805, 88, 90, 137, 138, 139, 140, 971, 972, 973, 974, 975, 976, 977, 978, 979, 980, 981, 982, 983, 984, 985, 986, 987, 988, 989, 990, 991, 992, 993, 994, 995, 996, 997] (by decide +kernel) (by decide +kernel)
set_option maxRecDepth 100000 in
theorem gZ_law_X11_unlike : GoodIn wzL_law (wsV RL 229 RX11 yX11_unlike wsX11_unlike) := goodIn_app (goodIn_of _ (by decide +kernel)) ggZ_law_X11_unlike
set_option maxRecDepth 100000 in
theorem ggZ_law_L_sum : GoodIn wzL_law wsL_sum := goodIn_ca (goodIn_r _ [880, 343, 881, 882, 883, 2, 884, 363, 607, 350, 351, 352, 353, 354, 355, 20, 1001, 1002, 961, 962, 963, 964, 965, 966, 967, 968, 969, 970] (by decide +kernel) (by decide +kernel)) (goodIn_sub (fun _ h => List.mem_append_left _ (List.mem_append_left _ (List.mem_append_right _ h))) (by decide +kernel))
set_option maxRecDepth 100000 in
theorem gZ_law_L_sum : GoodIn wzL_law (va_wsS RL 230 yL_sum wsL_sum) := goodIn_app (goodIn_of _ (by decide +kernel)) ggZ_law_L_sum
set_option maxRecDepth 100000 in
theorem ggZ_law_X11_sum : GoodIn wzL_law wsX11_sum := goodIn_r _ [888, 136, 92, 90, 424, 425, 5, 426, 306, 307, 308, 971, 972, 973, 974, 975, 976, 977, 978, 979, 980, 981, 982, 983, 984, 985, 986, 987, 988, 989, 990, 991, 992, 993, 994, 995, 996, 997] (by decide +kernel) (by decide +kernel)
set_option maxRecDepth 100000 in
theorem gZ_law_X11_sum : GoodIn wzL_law (wsV RL 232 RX11 yX11_sum wsX11_sum) := goodIn_app (goodIn_of _ (by decide +kernel)) ggZ_law_X11_sum
set_option maxRecDepth 100000 in
theorem ggZ_law_L_compare : GoodIn wzL_law wsL_compare := goodIn_ca (goodIn_r _ [891, 343, 892, 893, 894, 2, 895, 363, 896, 492, 493, 494, 350, 351, 352, 353, 354, 355, 20, 786, 787, 788, 789, 18, 607, 682, 505, 506, 17, 507, 405, 48, 1001, 1002, 961, 962, 963, 964, 965, 966, 967, 968, 969, 970, 998, 999, 1000] (by decide +kernel) (by decide +kernel)) (goodIn_sub (fun _ h => List.mem_append_left _ (List.mem_append_left _ (List.mem_append_right _ h))) (by decide +kernel))
set_option maxRecDepth 100000 in
theorem gZ_law_L_compare : GoodIn wzL_law (va_wsS RL 233 yL_compare wsL_compare) := goodIn_app (goodIn_of _ (by decide +kernel)) ggZ_law_L_compare
set_option maxRecDepth 100000 in
theorem ggZ_law_X11_compare : GoodIn wzL_law wsX11_compare := goodIn_r _ [900, 92, 424, 425, 5, 426, 306, 307, 308, 132, 133, 134, 135, 136, 731, 732, 733, 802, 803, 804, 805, 88, 90, 137, 138, 139, 140, 971, 972, 973, 974, 975, 976, 977, 978, 979, 980, 981, 982, 983, 984, 985, 986, 987, 988, 989, 990, 991, 992, 993, 994, 995, 996, 997] (by decide +kernel) (by decide +kernel)
set_option maxRecDepth 100000 in
theorem gZ_law_X11_compare : GoodIn wzL_law (wsV RL 235 RX11 yX11_compare wsX11_compare) := goodIn_app (goodIn_of _ (by decide +kernel)) ggZ_law_X11_compare
set_option maxRecDepth 100000 in
theorem ggZ_law_L_middle : GoodIn wzL_law wzL_middle := by
  have h1 : GoodIn wzL_law (.codeWith yL_middle cL_middle 4 (some .int) [(0, 9, 12, 19), (0, 9, 15, 109)] :: ((wsL_middle_r1 ++ (wsL_middle_r2 ++ (wsL_middle_r3 ++ wsL_middle_r4))) ++ wsX60 ++ wsX100 ++ wsX80 ++ wsX10)) := goodIn_r _ [903, 343, 904, 905, 906, 907, 2, 908, 909, 910, 363, 31, 350, 351, 352, 353, 354, 355, 20, 855, 856, 857, 858, 468, 477, 478, 479, 30, 480, 481, 482, 483, 484, 485, 58, 486, 487, 488, 489, 490, 491, 492, 493, 494, 59, 495, 496, 497, 498, 499, 500, 501, 502, 60, 503, 504, 505, 506, 17, 507, 405, 48, 508, 509, 510, 385, 386, 387, 388, 511, 512, 513, 514, 49, 870, 871, 872, 873, 1001, 1002, 961, 962, 963, 964, 965, 966, 967, 968, 969, 970, 1003, 1004, 1005, 1006, 998, 999, 1000] (by decide +kernel) (by decide +kernel)
  have h2 : GoodIn wzL_law ([Cond.classLink RX10 244 "java/util/NoSuchElementException", Cond.initialized "java/util/NoSuchElementException"]) := goodIn_sub (fun _ h => List.mem_append_right _ (List.mem_append_left _ h)) (by decide +kernel)
  have h3 : GoodIn wzL_law zGood13 := goodIn_sub (fun _ h => List.mem_append_right _ (List.mem_append_right _ h)) (by decide +kernel)
  have h4 : GoodIn wzL_law ((vx_atS RX10 127 "java/lang/IndexOutOfBoundsException" ["java/lang/RuntimeException", "java/lang/Exception"]).filter goodWord) := goodIn_sub (fun _ h => List.mem_append_left _ (List.mem_append_left _ (List.mem_append_right _ h))) (by decide +kernel)
  have hA : GoodIn wzL_law (.codeWith yL_middle cL_middle 4 (some .int) [(0, 9, 12, 19), (0, 9, 15, 109)] :: ([Cond.classLink RX10 244 "java/util/NoSuchElementException", Cond.initialized "java/util/NoSuchElementException"] ++ (wsL_middle_r1 ++ (wsL_middle_r2 ++ (wsL_middle_r3 ++ wsL_middle_r4))) ++ wsX60 ++ wsX100 ++ wsX80 ++ wsX10)) := fun w hw => by
    rcases List.mem_cons.mp hw with e | hw
    · exact h1 w (List.mem_cons.mpr (Or.inl e))
    · simp only [List.append_assoc] at hw
      rcases List.mem_append.mp hw with hw | hw
      · exact h2 w hw
      · exact h1 w (List.mem_cons_of_mem _ (by simp only [List.append_assoc]; exact hw))
  exact goodIn_ca (goodIn_ca hA h3) h4
set_option maxRecDepth 100000 in
theorem gZ_law_L_middle : GoodIn wzL_law (va_wsS RL 236 yL_middle wzL_middle) := goodIn_app (goodIn_of _ (by decide +kernel)) ggZ_law_L_middle
set_option maxRecDepth 100000 in
theorem ggZ_law_X11_middle : GoodIn wzL_law wsX11_middle := goodIn_r _ [914, 92, 96, 90, 88, 424, 425, 5, 426, 306, 307, 308, 132, 133, 134, 135, 136, 527, 528, 529, 530, 97, 531, 532, 533, 534, 89, 137, 138, 139, 140, 971, 972, 973, 974, 975, 976, 977, 978, 979, 980, 981, 982, 983, 984, 985, 986, 987, 988, 989, 990, 991, 992, 993, 994, 995, 996, 997] (by decide +kernel) (by decide +kernel)
set_option maxRecDepth 100000 in
theorem gZ_law_X11_middle : GoodIn wzL_law (wsV RL 238 RX11 yX11_middle wsX11_middle) := goodIn_app (goodIn_of _ (by decide +kernel)) ggZ_law_X11_middle
set_option maxRecDepth 100000 in
theorem ggZ_law_L_mean : GoodIn wzL_law wsL_mean := goodIn_ca (goodIn_r _ [917, 343, 918, 919, 920, 2, 921, 363, 350, 351, 352, 353, 354, 355, 20, 786, 787, 788, 789, 18, 607, 682, 505, 506, 17, 507, 405, 48, 1001, 1002, 961, 962, 963, 964, 965, 966, 967, 968, 969, 970, 998, 999, 1000] (by decide +kernel) (by decide +kernel)) (goodIn_sub (fun _ h => List.mem_append_left _ (List.mem_append_left _ (List.mem_append_right _ h))) (by decide +kernel))
set_option maxRecDepth 100000 in
theorem gZ_law_L_mean : GoodIn wzL_law (va_wsS RL 239 yL_mean wsL_mean) := goodIn_app (goodIn_of _ (by decide +kernel)) ggZ_law_L_mean
