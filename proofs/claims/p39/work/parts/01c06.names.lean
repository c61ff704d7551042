set_option maxRecDepth 100000 in
theorem wsL_law_in0_r31 : ∀ w ∈ wsL_law0_r31, w ∈ lwx_tbl := fun w h => (goodIn_r wsL_law0_r31 [1001, 1002, 1004, 1005, 1006, 1010, 1007, 1008, 1009, 1011, 1012, 1013, 1014, 1015, 1016, 1017, 1018, 1019, 1020, 1021, 1022, 1023, 1024, 1025] (by decide +kernel) (by decide +kernel) w h).1
