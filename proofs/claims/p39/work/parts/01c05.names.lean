set_option maxRecDepth 100000 in
theorem wsL_law_in0_r29 : ∀ w ∈ wsL_law0_r29, w ∈ lwx_tbl := fun w h => (goodIn_r wsL_law0_r29 [937, 938, 939, 940, 941, 942, 943, 944, 945, 946, 947, 948, 950, 951, 952, 953, 954, 956, 23, 957, 958, 960, 24, 961] (by decide +kernel) (by decide +kernel) w h).1
set_option maxRecDepth 100000 in
theorem wsL_law_in0_r30 : ∀ w ∈ wsL_law0_r30, w ∈ lwx_tbl := fun w h => (goodIn_r wsL_law0_r30 [962, 964, 25, 965, 966, 968, 26, 969, 971, 972, 973, 974, 975, 61, 991, 993, 27, 994, 995, 996, 997, 998, 999, 1000] (by decide +kernel) (by decide +kernel) w h).1
set_option maxRecDepth 100000 in
theorem wsL_law_in0_r31 : ∀ w ∈ wsL_law0_r31, w ∈ lwx_tbl := fun w h => (goodIn_r wsL_law0_r31 [1001, 1002, 1004, 1005, 1006, 1010, 1007, 1008, 1009, 1011, 1012, 1013, 1014, 1015, 1016, 1017, 1018, 1019, 1020, 1021, 1022, 1023, 1024, 1025] (by decide +kernel) (by decide +kernel) w h).1
set_option maxRecDepth 100000 in
theorem wsL_law_in0_r32 : ∀ w ∈ wsL_law0_r32, w ∈ lwx_tbl := fun w h => (goodIn_r wsL_law0_r32 [1026, 1027, 1028, 1029, 1030, 1031, 1032, 1033, 1034, 1035, 1037, 28, 1038, 1039, 1040, 1041, 1042, 1043, 1044, 1045, 1046, 1047, 1048, 1049] (by decide +kernel) (by decide +kernel) w h).1
set_option maxRecDepth 100000 in
theorem wsL_law_in0_r33 : ∀ w ∈ wsL_law0_r33, w ∈ lwx_tbl := fun w h => (goodIn_r wsL_law0_r33 [1050, 1051, 1052, 1053, 1054, 1055, 1056, 1057, 1058, 1059, 1060, 1061, 1062, 1063, 1064, 1065, 1066, 1067, 1068, 1069, 1070, 1071, 1072, 1073] (by decide +kernel) (by decide +kernel) w h).1
set_option maxRecDepth 100000 in
theorem wsL_law_in0_r34 : ∀ w ∈ wsL_law0_r34, w ∈ lwx_tbl := fun w h => (goodIn_r wsL_law0_r34 [1074, 1075, 1076, 1077, 1078, 1079, 1080, 1081, 1082, 1084, 29, 1085] (by decide +kernel) (by decide +kernel) w h).1
set_option maxRecDepth 100000 in
theorem inTX10 : ∀ w ∈ wsX100, w ∈ lwx_tbl := fun w h => (goodIn_r wsX100 [223, 225, 227, 229, 231, 233, 235, 237, 239, 241] (by decide +kernel) (by decide +kernel) w h).1
set_option maxRecDepth 100000 in
theorem inTX1 : ∀ w ∈ wsX10, w ∈ lwx_tbl := fun w h => (goodIn_r wsX10 [83, 85, 87] (by decide +kernel) (by decide +kernel) w h).1
set_option maxRecDepth 100000 in
theorem inTX6 : ∀ w ∈ wsX60, w ∈ lwx_tbl := fun w h => (goodIn_r wsX60 [103, 105] (by decide +kernel) (by decide +kernel) w h).1
set_option maxRecDepth 100000 in
theorem inTX8 : ∀ w ∈ wsX80, w ∈ lwx_tbl := fun w h => (goodIn_r wsX80 [119, 121, 123, 125] (by decide +kernel) (by decide +kernel) w h).1
set_option maxRecDepth 100000 in
theorem inTX9 : ∀ w ∈ wsX90, w ∈ lwx_tbl := fun w h => (goodIn_r wsX90 [140, 142, 144, 146] (by decide +kernel) (by decide +kernel) w h).1
set_option maxRecDepth 100000 in
theorem inTX5 : ∀ w ∈ wsX50, w ∈ lwx_tbl := fun w h => (goodIn_r wsX50 [195, 197, 199] (by decide +kernel) (by decide +kernel) w h).1
set_option maxRecDepth 100000 in
theorem inTX2 : ∀ w ∈ wsX20, w ∈ lwx_tbl := fun w h => (goodIn_r wsX20 [210] (by decide +kernel) (by decide +kernel) w h).1
set_option maxRecDepth 100000 in
theorem inTX7 : ∀ w ∈ wsX70, w ∈ lwx_tbl := fun w h => (goodIn_r wsX70 [177, 179, 181, 183, 185, 187] (by decide +kernel) (by decide +kernel) w h).1
theorem wsL_law_in0 : ∀ w ∈ wsL_law0, w ∈ lwx_tbl := (List.forall_mem_append.mpr ⟨(List.forall_mem_append.mpr ⟨(List.forall_mem_append.mpr ⟨(List.forall_mem_append.mpr ⟨(List.forall_mem_append.mpr ⟨(List.forall_mem_append.mpr ⟨(List.forall_mem_append.mpr ⟨(List.forall_mem_append.mpr ⟨(List.forall_mem_append.mpr ⟨(List.forall_mem_append.mpr ⟨wsL_law_in0_r1, List.forall_mem_append.mpr ⟨wsL_law_in0_r2, List.forall_mem_append.mpr ⟨wsL_law_in0_r3, List.forall_mem_append.mpr ⟨wsL_law_in0_r4, List.forall_mem_append.mpr ⟨wsL_law_in0_r5, List.forall_mem_append.mpr ⟨wsL_law_in0_r6, List.forall_mem_append.mpr ⟨wsL_law_in0_r7, List.forall_mem_append.mpr ⟨wsL_law_in0_r8, List.forall_mem_append.mpr ⟨wsL_law_in0_r9, List.forall_mem_append.mpr ⟨wsL_law_in0_r10, List.forall_mem_append.mpr ⟨wsL_law_in0_r11, List.forall_mem_append.mpr ⟨wsL_law_in0_r12, List.forall_mem_append.mpr ⟨wsL_law_in0_r13, List.forall_mem_append.mpr ⟨wsL_law_in0_r14, List.forall_mem_append.mpr ⟨wsL_law_in0_r15, List.forall_mem_append.mpr ⟨wsL_law_in0_r16, List.forall_mem_append.mpr ⟨wsL_law_in0_r17, List.forall_mem_append.mpr ⟨wsL_law_in0_r18, List.forall_mem_append.mpr ⟨wsL_law_in0_r19, List.forall_mem_append.mpr ⟨wsL_law_in0_r20, List.forall_mem_append.mpr ⟨wsL_law_in0_r21, List.forall_mem_append.mpr ⟨wsL_law_in0_r22, List.forall_mem_append.mpr ⟨wsL_law_in0_r23, List.forall_mem_append.mpr ⟨wsL_law_in0_r24, List.forall_mem_append.mpr ⟨wsL_law_in0_r25, List.forall_mem_append.mpr ⟨wsL_law_in0_r26, List.forall_mem_append.mpr ⟨wsL_law_in0_r27, List.forall_mem_append.mpr ⟨wsL_law_in0_r28, List.forall_mem_append.mpr ⟨wsL_law_in0_r29, List.forall_mem_append.mpr ⟨wsL_law_in0_r30, List.forall_mem_append.mpr ⟨wsL_law_in0_r31, List.forall_mem_append.mpr ⟨wsL_law_in0_r32, List.forall_mem_append.mpr ⟨wsL_law_in0_r33, wsL_law_in0_r34⟩⟩⟩⟩⟩⟩⟩⟩⟩⟩⟩⟩⟩⟩⟩⟩⟩⟩⟩⟩⟩⟩⟩⟩⟩⟩⟩⟩⟩⟩⟩⟩⟩), inTX10⟩), inTX1⟩), inTX6⟩), inTX8⟩), inTX9⟩), inTX5⟩), inTX2⟩), inTX7⟩), fun _ h => absurd h List.not_mem_nil⟩)
