set_option maxRecDepth 100000 in
theorem wsL_law_in0_r34 : ∀ w ∈ wsL_law0_r34, w ∈ lwx_tbl := fun w h => (goodIn_r wsL_law0_r34 [1074, 1075, 1076, 1077, 1078, 1079, 1080, 1081, 1082, 1084, 29, 1085] (by decide +kernel) (by decide +kernel) w h).1
