set_option maxRecDepth 100000 in
theorem wsL_law_in0_r29 : ∀ w ∈ wsL_law0_r29, w ∈ lwx_tbl := fun w h => (goodIn_r wsL_law0_r29 [937, 938, 939, 940, 941, 942, 943, 944, 945, 946, 947, 948, 950, 951, 952, 953, 954, 956, 23, 957, 958, 960, 24, 961] (by decide +kernel) (by decide +kernel) w h).1
set_option maxRecDepth 100000 in
theorem wsL_law_in0_r30 : ∀ w ∈ wsL_law0_r30, w ∈ lwx_tbl := fun w h => (goodIn_r wsL_law0_r30 [962, 964, 25, 965, 966, 968, 26, 969, 971, 972, 973, 974, 975, 61, 991, 993, 27, 994, 995, 996, 997, 998, 999, 1000] (by decide +kernel) (by decide +kernel) w h).1
