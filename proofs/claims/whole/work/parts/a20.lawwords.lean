/-! the law's words; its callees' among them -/
def wzL_law : List Cond := wsL_law0 ++ (vx_atS RX10 81 "java/lang/IllegalStateException" ["java/lang/RuntimeException", "java/lang/Exception"]).filter goodWord ++ (vx_atS RX10 127 "java/lang/IndexOutOfBoundsException" ["java/lang/RuntimeException", "java/lang/Exception"]).filter goodWord ++ (vx_atS RX10 175 "java/lang/IllegalArgumentException" ["java/lang/RuntimeException", "java/lang/Exception"]).filter goodWord ++ ([Cond.classLink RX10 244 "java/util/NoSuchElementException", Cond.initialized "java/util/NoSuchElementException"] ++ zGood13)
set_option maxRecDepth 100000 in
theorem wzL_law_x3 : ∀ w ∈ [Cond.classLink RX10 244 "java/util/NoSuchElementException", Cond.initialized "java/util/NoSuchElementException"] ++ zGood13, w ∈ lw_tbl := by decide +kernel
theorem wzL_law_in : ∀ w ∈ wzL_law, w ∈ lw_tbl := List.forall_mem_append.mpr ⟨List.forall_mem_append.mpr ⟨List.forall_mem_append.mpr ⟨List.forall_mem_append.mpr ⟨wsL_law_in0, wsL_law_x0⟩, wsL_law_x1⟩, wsL_law_x2⟩, wzL_law_x3⟩
set_option maxRecDepth 100000 in
theorem ggZ_law_X10_init : GoodIn wzL_law wsX10_init := goodIn_r _ [11, 12, 13, 14, 15, 16, 17, 18, 19, 20, 21, 22, 23, 24, 25, 26, 27, 28, 29, 30, 31, 32, 33, 34, 35, 36, 37, 38, 39, 40, 41, 42, 43, 44, 45, 46, 47, 48, 49, 50, 51, 52, 53, 54, 55, 56, 57, 58, 59, 60, 61, 62, 63, 64, 65, 66, 67, 68, 69, 70, 71, 72, 73, 74, 75, 76, 77, 78, 79, 80, 81, 82, 83, 998, 999, 1000, 961, 962, 963, 964, 965, 966, 967, 968, 969, 970, 1001, 1002, 1003, 1004, 1005, 1006, 1007, 1008, 1009, 1010, 1011, 1012, 1013, 1014, 1015, 1016, 1017, 1018, 1019, 1020] (by decide +kernel) (by decide +kernel)
set_option maxRecDepth 100000 in
theorem gZ_law_X10_init : GoodIn wzL_law (wsX10_init) := ggZ_law_X10_init
set_option maxRecDepth 100000 in
theorem ggZ_law_X11_init : GoodIn wzL_law wsX11_init := goodIn_r _ [86, 87, 13, 14, 47, 88, 89, 90, 91, 92, 93, 94, 95, 96, 97, 98, 99, 100, 101, 102, 103, 22, 104, 105, 971, 972, 973, 974, 975, 976, 977, 978, 979, 980, 981, 982, 983, 984, 985, 986, 987, 988, 989, 990, 991, 992, 993, 994, 995, 996, 997] (by decide +kernel) (by decide +kernel)
set_option maxRecDepth 100000 in
theorem gZ_law_X11_init : GoodIn wzL_law (wsX11_init) := ggZ_law_X11_init
set_option maxRecDepth 100000 in
theorem ggZ_law_L_type : GoodIn wzL_law wsL_type := goodIn_ca (goodIn_r _ [109, 110, 111, 112, 113, 2, 114, 115, 116, 35, 117, 118, 119, 34, 120, 121, 122, 123, 124, 125, 65, 961, 962, 963, 964, 965, 966, 967, 968, 969, 970, 1007, 1008, 1009, 1010] (by decide +kernel) (by decide +kernel)) (goodIn_sub (fun _ h => List.mem_append_left _ (List.mem_append_left _ (List.mem_append_left _ (List.mem_append_right _ h)))) (by decide +kernel))
set_option maxRecDepth 100000 in
theorem gZ_law_L_type : GoodIn wzL_law (va_wsS RL 125 yL_type wsL_type) := goodIn_app (goodIn_of _ (by decide +kernel)) ggZ_law_L_type
set_option maxRecDepth 100000 in
theorem ggZ_law_X11_type : GoodIn wzL_law wsX11_type := goodIn_r _ [129, 130, 131, 94, 132, 133, 134, 5, 135, 136, 137, 138, 139, 140, 971, 972, 973, 974, 975, 976, 977, 978, 979, 980, 981, 982, 983, 984, 985, 986, 987, 988, 989, 990, 991, 992, 993, 994, 995, 996, 997] (by decide +kernel) (by decide +kernel)
set_option maxRecDepth 100000 in
theorem gZ_law_X11_type : GoodIn wzL_law (wsV RL 130 RX11 yX11_type wsX11_type) := goodIn_app (goodIn_of _ (by decide +kernel)) ggZ_law_X11_type
set_option maxRecDepth 100000 in
theorem ggZ_law_X11_thrown : GoodIn wzL_law wsX11_thrown := goodIn_r _ [144, 136, 971, 972, 973, 974, 975, 976, 977, 978, 979, 980, 981, 982, 983, 984, 985, 986, 987, 988, 989, 990, 991, 992, 993, 994, 995, 996, 997] (by decide +kernel) (by decide +kernel)
set_option maxRecDepth 100000 in
theorem gZ_law_X11_thrown : GoodIn wzL_law (wsV RL 131 RX11 yX11_thrown wsX11_thrown) := goodIn_app (goodIn_of _ (by decide +kernel)) ggZ_law_X11_thrown
set_option maxRecDepth 100000 in
theorem ggZ_law_X10_clearText : GoodIn wzL_law wsX10_clearText := goodIn_r _ [148, 35, 117, 961, 962, 963, 964, 965, 966, 967, 968, 969, 970, 1007, 1008, 1009, 1010] (by decide +kernel) (by decide +kernel)
set_option maxRecDepth 100000 in
theorem gZ_law_X10_clearText : GoodIn wzL_law (wsV RL 135 RX10 yX10_clearText wsX10_clearText) := goodIn_app (goodIn_of _ (by decide +kernel)) ggZ_law_X10_clearText
set_option maxRecDepth 100000 in
theorem ggZ_law_X11_clearText : GoodIn wzL_law wsX11_clearText := goodIn_r _ [152, 131, 137, 138, 139, 5, 140, 136, 971, 972, 973, 974, 975, 976, 977, 978, 979, 980, 981, 982, 983, 984, 985, 986, 987, 988, 989, 990, 991, 992, 993, 994, 995, 996, 997] (by decide +kernel) (by decide +kernel)
set_option maxRecDepth 100000 in
theorem gZ_law_X11_clearText : GoodIn wzL_law (wsV RL 138 RX11 yX11_clearText wsX11_clearText) := goodIn_app (goodIn_of _ (by decide +kernel)) ggZ_law_X11_clearText
set_option maxRecDepth 100000 in
theorem ggZ_law_X10_fault : GoodIn wzL_law wsX10_fault := goodIn_r _ [156, 39, 157, 158, 159, 38, 160, 161, 72, 71, 162, 163, 164, 165, 34, 166, 167, 168, 169, 170, 171, 172, 125, 65, 173, 174, 175, 176, 177, 178, 179, 180, 181, 182, 183, 184, 185, 186, 187, 188, 189, 190, 191, 192, 193, 194, 195, 196, 197, 198, 199, 200, 201, 202, 203, 204, 205, 206, 207, 208, 209, 210, 211, 212, 213, 214, 215, 216, 217, 218, 219, 220, 221, 222, 223, 224, 225, 226, 227, 228, 229, 230, 231, 232, 233, 234, 235, 236, 237, 238, 239, 240, 241, 242, 243, 244, 245, 246, 247, 248, 249, 250, 251, 252, 253, 254, 255, 256, 257, 258, 259, 260, 261, 262, 263, 264, 265, 266, 267, 268, 269, 270, 271, 272, 273, 274, 275, 276, 277, 278, 279, 280, 281, 282, 283, 284, 961, 962, 963, 964, 965, 966, 967, 968, 969, 970, 1011, 1012, 1013, 1007, 1008, 1009, 1010, 1015, 1016, 1017, 1018, 1019, 1020] (by decide +kernel) (by decide +kernel)
set_option maxRecDepth 100000 in
theorem gZ_law_X10_fault : GoodIn wzL_law (wsV RL 139 RX10 yX10_fault wsX10_fault) := goodIn_app (goodIn_of _ (by decide +kernel)) ggZ_law_X10_fault
set_option maxRecDepth 100000 in
theorem ggZ_law_X11_fault : GoodIn wzL_law wsX11_fault := goodIn_r _ [288, 289, 290, 291, 5, 292, 293, 294, 295, 296, 297, 298, 299, 300, 131, 94, 301, 302, 303, 304, 305, 306, 307, 308, 309, 310, 311, 312, 313, 314, 315, 98, 99, 100, 101, 102, 103, 316, 317, 318, 319, 320, 321, 322, 323, 324, 325, 326, 327, 328, 329, 330, 331, 332, 333, 334, 335, 336, 337, 338, 339, 137, 138, 139, 140, 136, 971, 972, 973, 974, 975, 976, 977, 978, 979, 980, 981, 982, 983, 984, 985, 986, 987, 988, 989, 990, 991, 992, 993, 994, 995, 996, 997] (by decide +kernel) (by decide +kernel)
set_option maxRecDepth 100000 in
theorem gZ_law_X11_fault : GoodIn wzL_law (wsV RL 142 RX11 yX11_fault wsX11_fault) := goodIn_app (goodIn_of _ (by decide +kernel)) ggZ_law_X11_fault
set_option maxRecDepth 100000 in
theorem ggZ_law_L_lay : GoodIn wzL_law wsL_lay := goodIn_ca (goodIn_ca (goodIn_r _ [342, 343, 110, 344, 345, 346, 2, 347, 115, 116, 39, 348, 349, 350, 351, 352, 353, 354, 355, 20, 157, 158, 159, 38, 160, 161, 72, 71, 162, 163, 164, 165, 34, 166, 167, 168, 169, 170, 171, 172, 125, 65, 173, 174, 175, 176, 177, 178, 179, 180, 181, 182, 183, 184, 185, 186, 187, 188, 189, 190, 191, 192, 193, 194, 195, 196, 197, 198, 199, 200, 201, 202, 203, 204, 205, 206, 207, 208, 209, 210, 211, 212, 213, 214, 215, 216, 217, 218, 219, 220, 221, 222, 223, 224, 225, 226, 227, 228, 229, 230, 231, 232, 233, 234, 235, 236, 237, 238, 239, 240, 241, 242, 243, 244, 245, 246, 247, 248, 249, 250, 251, 252, 253, 254, 255, 256, 257, 258, 259, 260, 261, 262, 263, 264, 265, 266, 267, 268, 269, 270, 271, 272, 273, 274, 275, 276, 277, 278, 279, 280, 281, 282, 283, 284, 356, 357, 358, 359, 360, 361, 362, 363, 364, 365, 366, 367, 18, 368, 369, 370, 371, 372, 373, 43, 374, 375, 376, 74, 377, 378, 79, 379, 380, 381, 382, 383, 384, 385, 386, 387, 388, 389, 390, 391, 392, 393, 42, 394, 83, 395, 396, 397, 398, 399, 400, 401, 402, 403, 17, 404, 405, 48, 49, 406, 407, 408, 25, 409, 410, 411, 412, 413, 414, 53, 415, 416, 417, 418, 961, 962, 963, 964, 965, 966, 967, 968, 969, 970, 1011, 1012, 1013, 1007, 1008, 1009, 1010, 1015, 1016, 1017, 1018, 1019, 1020, 1001, 1002, 998, 999, 1000, 1014] (by decide +kernel) (by decide +kernel)) (goodIn_sub (fun _ h => List.mem_append_left _ (List.mem_append_left _ (List.mem_append_left _ (List.mem_append_right _ h)))) (by decide +kernel))) (goodIn_sub (fun _ h => List.mem_append_left _ (List.mem_append_left _ (List.mem_append_right _ h))) (by decide +kernel))
set_option maxRecDepth 100000 in
theorem gZ_law_L_lay : GoodIn wzL_law (va_wsS RL 143 yL_lay wsL_lay) := goodIn_app (goodIn_of _ (by decide +kernel)) ggZ_law_L_lay
