set_option maxRecDepth 100000 in
theorem wsL_law_in0_r32 : ∀ w ∈ wsL_law0_r32, w ∈ lwx_tbl := fun w h => (goodIn_r wsL_law0_r32 [1026, 1027, 1028, 1029, 1030, 1031, 1032, 1033, 1034, 1035, 1037, 28, 1038, 1039, 1040, 1041, 1042, 1043, 1044, 1045, 1046, 1047, 1048, 1049] (by decide +kernel) (by decide +kernel) w h).1
