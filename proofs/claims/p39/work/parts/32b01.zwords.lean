set_option maxRecDepth 100000 in
theorem ggZL_done_X10_sortByBoth_r1 : GoodIn wzL_done wsX10_sortByBoth_r1 := goodIn_r _ [313, 15, 16, 17, 8, 18, 19, 20, 21, 235, 236, 237, 238, 163, 239, 240, 241, 242, 243, 244, 245, 246, 247, 248] (by decide +kernel) (by decide +kernel)
set_option maxRecDepth 100000 in
theorem ggZL_done_X10_sortByBoth_r2 : GoodIn wzL_done wsX10_sortByBoth_r2 := goodIn_r _ [249, 250, 251, 252, 253, 254, 255, 256, 257, 258, 259, 260, 261, 262, 263, 264, 265, 266, 267, 268, 269, 270, 271, 272] (by decide +kernel) (by decide +kernel)
set_option maxRecDepth 100000 in
theorem ggZL_done_X10_sortByBoth_r3 : GoodIn wzL_done wsX10_sortByBoth_r3 := goodIn_r _ [273, 274, 275, 276, 277, 210, 278, 212, 213, 279, 280, 281, 189, 190, 191, 192, 282, 283, 284, 285, 214, 286, 287, 288] (by decide +kernel) (by decide +kernel)
set_option maxRecDepth 100000 in
theorem ggZL_done_X10_sortByBoth_r4 : GoodIn wzL_done wsX10_sortByBoth_r4 := goodIn_r _ [289] (by decide +kernel) (by decide +kernel)
set_option maxRecDepth 100000 in
theorem ggZL_done_X10_sortByBoth_wsX100 : GoodIn wzL_done wsX100 := goodIn_r _ [416, 417, 418, 419, 420, 421, 422, 423, 424, 425] (by decide +kernel) (by decide +kernel)
set_option maxRecDepth 100000 in
theorem ggZL_done_X10_sortByBoth_wsX60 : GoodIn wzL_done wsX60 := goodIn_r _ [443, 444] (by decide +kernel) (by decide +kernel)
set_option maxRecDepth 100000 in
theorem ggZL_done_X10_sortByBoth_wsX80 : GoodIn wzL_done wsX80 := goodIn_r _ [449, 450, 451, 452] (by decide +kernel) (by decide +kernel)
set_option maxRecDepth 100000 in
theorem ggZL_done_X10_sortByBoth_wsX10 : GoodIn wzL_done wsX10 := goodIn_r _ [445, 446, 447] (by decide +kernel) (by decide +kernel)
set_option maxRecDepth 100000 in
theorem ggZL_done_X10_sortByBoth : GoodIn wzL_done wsX10_sortByBoth := goodIn_ca ((goodIn_c9 (goodIn_r _ [312] (by decide +kernel) (by decide +kernel)) (goodIn_app (goodIn_app (goodIn_app (goodIn_app (goodIn_app ggZL_done_X10_sortByBoth_r1 (goodIn_app ggZL_done_X10_sortByBoth_r2 (goodIn_app ggZL_done_X10_sortByBoth_r3 (ggZL_done_X10_sortByBoth_r4)))) ggZL_done_X10_sortByBoth_wsX100) ggZL_done_X10_sortByBoth_wsX60) ggZL_done_X10_sortByBoth_wsX80) ggZL_done_X10_sortByBoth_wsX10))) (goodIn_sub (fun _ h => List.mem_cons_of_mem _ (List.mem_append_left _ (List.mem_append_left _ (List.mem_append_right _ h)))) (by decide +kernel))
set_option maxRecDepth 100000 in
theorem gZL_done_X10_sortByBoth : GoodIn wzL_done (wsV RL 99 RX10 yX10_sortByBoth wsX10_sortByBoth) := goodIn_app (goodIn_of _ (by decide +kernel)) ggZL_done_X10_sortByBoth
set_option maxRecDepth 100000 in
theorem ggZL_done_X10_pour_r1 : GoodIn wzL_done wsX10_pour_r1 := goodIn_r _ [163, 318, 15, 16, 17, 8, 18, 19, 20, 21, 319, 320, 321, 297, 298, 160, 161, 162, 10, 11, 215, 216, 217, 218] (by decide +kernel) (by decide +kernel)
set_option maxRecDepth 100000 in
theorem ggZL_done_X10_pour_r2 : GoodIn wzL_done wsX10_pour_r2 := goodIn_r _ [219, 220, 221, 222, 223, 224, 225, 226, 227, 228, 229] (by decide +kernel) (by decide +kernel)
set_option maxRecDepth 100000 in
theorem ggZL_done_X10_pour_wsX60 : GoodIn wzL_done wsX60 := goodIn_r _ [443, 444] (by decide +kernel) (by decide +kernel)
set_option maxRecDepth 100000 in
theorem ggZL_done_X10_pour_wsX100 : GoodIn wzL_done wsX100 := goodIn_r _ [416, 417, 418, 419, 420, 421, 422, 423, 424, 425] (by decide +kernel) (by decide +kernel)
set_option maxRecDepth 100000 in
theorem ggZL_done_X10_pour : GoodIn wzL_done wsX10_pour := goodIn_ca (goodIn_ca (goodIn_ca ((goodIn_c9 (goodIn_r _ [317] (by decide +kernel) (by decide +kernel)) (goodIn_app (goodIn_app (goodIn_app ggZL_done_X10_pour_r1 (ggZL_done_X10_pour_r2)) ggZL_done_X10_pour_wsX60) ggZL_done_X10_pour_wsX100))) (goodIn_sub (fun _ h => List.mem_cons_of_mem _ (List.mem_append_left _ (List.mem_append_left _ (List.mem_append_right _ h)))) (by decide +kernel))) (goodIn_sub (fun _ h => List.mem_cons_of_mem _ (List.mem_append_left _ (List.mem_append_right _ h))) (by decide +kernel))) (goodIn_sub (fun _ h => List.mem_cons_of_mem _ (List.mem_append_left _ (List.mem_append_left _ (List.mem_append_left _ (List.mem_append_right _ h))))) (by decide +kernel))
set_option maxRecDepth 100000 in
theorem gZL_done_X10_pour : GoodIn wzL_done (wsV RL 102 RX10 yX10_pour wsX10_pour) := goodIn_app (goodIn_of _ (by decide +kernel)) ggZL_done_X10_pour
set_option maxRecDepth 100000 in
theorem ggZL_done_X10_deal_r1 : GoodIn wzL_done wsX10_deal_r1 := goodIn_r _ [163, 318, 15, 16, 17, 8, 18, 19, 20, 21, 319, 320, 321, 297, 298, 160, 161, 162, 10, 11, 215, 216, 217, 218] (by decide +kernel) (by decide +kernel)
set_option maxRecDepth 100000 in
theorem ggZL_done_X10_deal_r2 : GoodIn wzL_done wsX10_deal_r2 := goodIn_r _ [219, 220, 221, 222, 223, 224, 225, 226, 227, 228, 229] (by decide +kernel) (by decide +kernel)
set_option maxRecDepth 100000 in
theorem ggZL_done_X10_deal_wsX60 : GoodIn wzL_done wsX60 := goodIn_r _ [443, 444] (by decide +kernel) (by decide +kernel)
set_option maxRecDepth 100000 in
theorem ggZL_done_X10_deal_wsX100 : GoodIn wzL_done wsX100 := goodIn_r _ [416, 417, 418, 419, 420, 421, 422, 423, 424, 425] (by decide +kernel) (by decide +kernel)
set_option maxRecDepth 100000 in
theorem ggZL_done_X10_deal : GoodIn wzL_done wsX10_deal := goodIn_ca (goodIn_ca (goodIn_ca ((goodIn_c9 (goodIn_r _ [325] (by decide +kernel) (by decide +kernel)) (goodIn_app (goodIn_app (goodIn_app ggZL_done_X10_deal_r1 (ggZL_done_X10_deal_r2)) ggZL_done_X10_deal_wsX60) ggZL_done_X10_deal_wsX100))) (goodIn_sub (fun _ h => List.mem_cons_of_mem _ (List.mem_append_left _ (List.mem_append_left _ (List.mem_append_right _ h)))) (by decide +kernel))) (goodIn_sub (fun _ h => List.mem_cons_of_mem _ (List.mem_append_left _ (List.mem_append_right _ h))) (by decide +kernel))) (goodIn_sub (fun _ h => List.mem_cons_of_mem _ (List.mem_append_left _ (List.mem_append_left _ (List.mem_append_left _ (List.mem_append_right _ h))))) (by decide +kernel))
set_option maxRecDepth 100000 in
theorem gZL_done_X10_deal : GoodIn wzL_done (wsV RL 106 RX10 yX10_deal wsX10_deal) := goodIn_app (goodIn_of _ (by decide +kernel)) ggZL_done_X10_deal
set_option maxRecDepth 100000 in
theorem ggZL_done_X10_turn : GoodIn wzL_done wsX10_turn := goodIn_ca (goodIn_r _ [329, 163, 15, 16, 17, 8, 18, 19, 20, 21, 330, 331, 332, 218, 333, 220, 225, 443, 444, 416, 417, 418, 419, 420, 421, 422, 423, 424, 425] (by decide +kernel) (by decide +kernel)) (goodIn_sub (fun _ h => List.mem_cons_of_mem _ (List.mem_append_left _ (List.mem_append_left _ (List.mem_append_right _ h)))) (by decide +kernel))
set_option maxRecDepth 100000 in
theorem gZL_done_X10_turn : GoodIn wzL_done (wsV RL 109 RX10 yX10_turn wsX10_turn) := goodIn_app (goodIn_of _ (by decide +kernel)) ggZL_done_X10_turn
set_option maxRecDepth 100000 in
theorem ggZL_done_X10_move : GoodIn wzL_done wsX10_move := goodIn_ca (goodIn_r _ [337, 15, 16, 17, 8, 18, 19, 20, 21, 338, 339, 340, 163, 341, 342, 343, 218, 344, 220, 225, 226, 227, 228, 229, 345, 222, 223, 224, 416, 417, 418, 419, 420, 421, 422, 423, 424, 425, 443, 444] (by decide +kernel) (by decide +kernel)) (goodIn_sub (fun _ h => List.mem_cons_of_mem _ (List.mem_append_left _ (List.mem_append_left _ (List.mem_append_right _ h)))) (by decide +kernel))
set_option maxRecDepth 100000 in
theorem gZL_done_X10_move : GoodIn wzL_done (wsV RL 112 RX10 yX10_move wsX10_move) := goodIn_app (goodIn_of _ (by decide +kernel)) ggZL_done_X10_move
set_option maxRecDepth 100000 in
theorem ggZL_done_X10_thin : GoodIn wzL_done wsX10_thin := goodIn_ca (goodIn_r _ [349, 163, 318, 168, 15, 16, 17, 8, 18, 19, 20, 21, 350, 283, 284, 210, 285, 212, 214, 443, 444, 416, 417, 418, 419, 420, 421, 422, 423, 424, 425, 445, 446, 447] (by decide +kernel) (by decide +kernel)) (goodIn_sub (fun _ h => List.mem_cons_of_mem _ (List.mem_append_left _ (List.mem_append_left _ (List.mem_append_right _ h)))) (by decide +kernel))
set_option maxRecDepth 100000 in
theorem gZL_done_X10_thin : GoodIn wzL_done (wsV RL 115 RX10 yX10_thin wsX10_thin) := goodIn_app (goodIn_of _ (by decide +kernel)) ggZL_done_X10_thin
set_option maxRecDepth 100000 in
theorem ggZL_done_X10_single : GoodIn wzL_done wsX10_single := goodIn_ca (goodIn_r _ [354, 163, 318, 168, 15, 16, 17, 8, 18, 19, 20, 21, 355, 276, 277, 210, 278, 212, 213, 443, 444, 416, 417, 418, 419, 420, 421, 422, 423, 424, 425, 445, 446, 447] (by decide +kernel) (by decide +kernel)) (goodIn_sub (fun _ h => List.mem_cons_of_mem _ (List.mem_append_left _ (List.mem_append_left _ (List.mem_append_right _ h)))) (by decide +kernel))
set_option maxRecDepth 100000 in
theorem gZL_done_X10_single : GoodIn wzL_done (wsV RL 118 RX10 yX10_single wsX10_single) := goodIn_app (goodIn_of _ (by decide +kernel)) ggZL_done_X10_single
set_option maxRecDepth 100000 in
theorem ggZL_done_X10_keep_r1 : GoodIn wzL_done wsX10_keep_r1 := goodIn_r _ [360, 361, 163, 15, 16, 17, 8, 18, 19, 20, 21, 362, 363, 364, 218, 365, 220, 366, 261, 262, 263, 367, 368, 369] (by decide +kernel) (by decide +kernel)
set_option maxRecDepth 100000 in
theorem ggZL_done_X10_keep_r2 : GoodIn wzL_done wsX10_keep_r2 := goodIn_r _ [225, 226, 227, 228, 229] (by decide +kernel) (by decide +kernel)
set_option maxRecDepth 100000 in
theorem ggZL_done_X10_keep_wsX100 : GoodIn wzL_done wsX100 := goodIn_r _ [416, 417, 418, 419, 420, 421, 422, 423, 424, 425] (by decide +kernel) (by decide +kernel)
set_option maxRecDepth 100000 in
theorem ggZL_done_X10_keep_wsX60 : GoodIn wzL_done wsX60 := goodIn_r _ [443, 444] (by decide +kernel) (by decide +kernel)
set_option maxRecDepth 100000 in
theorem ggZL_done_X10_keep : GoodIn wzL_done wsX10_keep := goodIn_ca ((goodIn_c9 (goodIn_r _ [359] (by decide +kernel) (by decide +kernel)) (goodIn_app (goodIn_app (goodIn_app ggZL_done_X10_keep_r1 (ggZL_done_X10_keep_r2)) ggZL_done_X10_keep_wsX100) ggZL_done_X10_keep_wsX60))) (goodIn_sub (fun _ h => List.mem_cons_of_mem _ (List.mem_append_left _ (List.mem_append_left _ (List.mem_append_right _ h)))) (by decide +kernel))
set_option maxRecDepth 100000 in
theorem gZL_done_X10_keep : GoodIn wzL_done (wsV RL 121 RX10 yX10_keep wsX10_keep) := goodIn_app (goodIn_of _ (by decide +kernel)) ggZL_done_X10_keep
set_option maxRecDepth 100000 in
theorem ggZL_done_X10_restore_r1 : GoodIn wzL_done wsX10_restore_r1 := goodIn_r _ [10, 11, 361, 360, 15, 16, 17, 8, 18, 19, 20, 21, 362, 363, 364, 218, 365, 220, 366, 261, 262, 263, 367, 368] (by decide +kernel) (by decide +kernel)
set_option maxRecDepth 100000 in
theorem ggZL_done_X10_restore_r2 : GoodIn wzL_done wsX10_restore_r2 := goodIn_r _ [369, 225, 226, 227, 228, 229] (by decide +kernel) (by decide +kernel)
set_option maxRecDepth 100000 in
theorem ggZL_done_X10_restore_wsX100 : GoodIn wzL_done wsX100 := goodIn_r _ [416, 417, 418, 419, 420, 421, 422, 423, 424, 425] (by decide +kernel) (by decide +kernel)
set_option maxRecDepth 100000 in
theorem ggZL_done_X10_restore_wsX60 : GoodIn wzL_done wsX60 := goodIn_r _ [443, 444] (by decide +kernel) (by decide +kernel)
set_option maxRecDepth 100000 in
theorem ggZL_done_X10_restore : GoodIn wzL_done wsX10_restore := goodIn_ca (goodIn_ca ((goodIn_c9 (goodIn_r _ [373] (by decide +kernel) (by decide +kernel)) (goodIn_app (goodIn_app (goodIn_app ggZL_done_X10_restore_r1 (ggZL_done_X10_restore_r2)) ggZL_done_X10_restore_wsX100) ggZL_done_X10_restore_wsX60))) (goodIn_sub (fun _ h => List.mem_cons_of_mem _ (List.mem_append_left _ (List.mem_append_left _ (List.mem_append_left _ (List.mem_append_right _ h))))) (by decide +kernel))) (goodIn_sub (fun _ h => List.mem_cons_of_mem _ (List.mem_append_left _ (List.mem_append_left _ (List.mem_append_right _ h)))) (by decide +kernel))
set_option maxRecDepth 100000 in
theorem gZL_done_X10_restore : GoodIn wzL_done (wsV RL 124 RX10 yX10_restore wsX10_restore) := goodIn_app (goodIn_of _ (by decide +kernel)) ggZL_done_X10_restore
set_option maxRecDepth 100000 in
theorem ggZL_done_X10_placeFor_r1 : GoodIn wzL_done wsX10_placeFor_r1 := goodIn_r _ [10, 11, 163, 15, 16, 17, 8, 18, 19, 20, 21, 378, 379, 380, 381, 382, 383, 384, 385, 386, 387, 388, 389, 390] (by decide +kernel) (by decide +kernel)
set_option maxRecDepth 100000 in
theorem ggZL_done_X10_placeFor_r2 : GoodIn wzL_done wsX10_placeFor_r2 := goodIn_r _ [391, 392, 393, 168, 318, 355, 276, 277, 210, 278, 212, 213] (by decide +kernel) (by decide +kernel)
set_option maxRecDepth 100000 in
theorem ggZL_done_X10_placeFor_wsX60 : GoodIn wzL_done wsX60 := goodIn_r _ [443, 444] (by decide +kernel) (by decide +kernel)
set_option maxRecDepth 100000 in
theorem ggZL_done_X10_placeFor_wsX100 : GoodIn wzL_done wsX100 := goodIn_r _ [416, 417, 418, 419, 420, 421, 422, 423, 424, 425] (by decide +kernel) (by decide +kernel)
set_option maxRecDepth 100000 in
theorem ggZL_done_X10_placeFor_wsX10 : GoodIn wzL_done wsX10 := goodIn_r _ [445, 446, 447] (by decide +kernel) (by decide +kernel)
set_option maxRecDepth 100000 in
theorem ggZL_done_X10_placeFor : GoodIn wzL_done wsX10_placeFor := goodIn_ca (goodIn_ca ((goodIn_c9 (goodIn_r _ [377] (by decide +kernel) (by decide +kernel)) (goodIn_app (goodIn_app (goodIn_app (goodIn_app ggZL_done_X10_placeFor_r1 (ggZL_done_X10_placeFor_r2)) ggZL_done_X10_placeFor_wsX60) ggZL_done_X10_placeFor_wsX100) ggZL_done_X10_placeFor_wsX10))) (goodIn_sub (fun _ h => List.mem_cons_of_mem _ (List.mem_append_left _ (List.mem_append_left _ (List.mem_append_left _ (List.mem_append_right _ h))))) (by decide +kernel))) (goodIn_sub (fun _ h => List.mem_cons_of_mem _ (List.mem_append_left _ (List.mem_append_left _ (List.mem_append_right _ h)))) (by decide +kernel))
set_option maxRecDepth 100000 in
theorem gZL_done_X10_placeFor : GoodIn wzL_done (wsV RL 127 RX10 yX10_placeFor wsX10_placeFor) := goodIn_app (goodIn_of _ (by decide +kernel)) ggZL_done_X10_placeFor
set_option maxRecDepth 100000 in
theorem ggZL_done_X10_middle : GoodIn wzL_done wzX10_middle := by
  have h1 : GoodIn wzL_done (.code yX10_middle cX10_middle 3 (some .int) :: ((wsX10_middle_r1 ++ (wsX10_middle_r2 ++ wsX10_middle_r3)) ++ wsX60 ++ wsX100 ++ wsX80 ++ wsX10)) := goodIn_r _ [397, 398, 399, 163, 243, 15, 16, 17, 8, 18, 19, 20, 21, 400, 401, 402, 403, 234, 244, 245, 246, 247, 248, 249, 250, 251, 252, 253, 254, 255, 256, 257, 258, 259, 260, 261, 262, 263, 264, 265, 266, 267, 268, 269, 270, 271, 272, 273, 274, 275, 276, 277, 210, 278, 212, 213, 279, 280, 281, 189, 190, 191, 192, 282, 283, 284, 285, 214, 404, 405, 406, 407, 443, 444, 416, 417, 418, 419, 420, 421, 422, 423, 424, 425, 449, 450, 451, 452, 445, 446, 447] (by decide +kernel) (by decide +kernel)
  have h2 : GoodIn wzL_done ([Cond.classLink RX10 244 "java/util/NoSuchElementException", Cond.initialized "java/util/NoSuchElementException"]) := goodIn_sub (fun _ h => List.mem_cons_of_mem _ (List.mem_append_right _ (List.mem_append_left _ h))) (by decide +kernel)
  have h3 : GoodIn wzL_done zGood13 := goodIn_sub (fun _ h => List.mem_cons_of_mem _ (List.mem_append_right _ (List.mem_append_right _ h))) (by decide +kernel)
  have h4 : GoodIn wzL_done ((vx_atS RX10 127 "java/lang/IndexOutOfBoundsException" ["java/lang/RuntimeException", "java/lang/Exception"]).filter goodWord) := goodIn_sub (fun _ h => List.mem_cons_of_mem _ (List.mem_append_left _ (List.mem_append_left _ (List.mem_append_right _ h)))) (by decide +kernel)
  have hA : GoodIn wzL_done (.code yX10_middle cX10_middle 3 (some .int) :: ([Cond.classLink RX10 244 "java/util/NoSuchElementException", Cond.initialized "java/util/NoSuchElementException"] ++ (wsX10_middle_r1 ++ (wsX10_middle_r2 ++ wsX10_middle_r3)) ++ wsX60 ++ wsX100 ++ wsX80 ++ wsX10)) := fun w hw => by
    rcases List.mem_cons.mp hw with e | hw
    · exact h1 w (List.mem_cons.mpr (Or.inl e))
    · simp only [List.append_assoc] at hw
      rcases List.mem_append.mp hw with hw | hw
      · exact h2 w hw
      · exact h1 w (List.mem_cons_of_mem _ (by simp only [List.append_assoc]; exact hw))
  exact goodIn_ca (goodIn_ca hA h3) h4
set_option maxRecDepth 100000 in
theorem gZL_done_X10_middle : GoodIn wzL_done (wsV RL 130 RX10 yX10_middle wzX10_middle) := goodIn_app (goodIn_of _ (by decide +kernel)) ggZL_done_X10_middle
set_option maxRecDepth 100000 in
theorem ggZL_done_X10_cardAt_r1 : GoodIn wzL_done wsX10_cardAt_r1 := goodIn_r _ [297, 298, 318, 168, 15, 16, 17, 8, 18, 19, 20, 21, 338, 339, 340, 163, 355, 276, 277, 210, 278, 212, 213, 350] (by decide +kernel) (by decide +kernel)
set_option maxRecDepth 100000 in
theorem ggZL_done_X10_cardAt_r2 : GoodIn wzL_done wsX10_cardAt_r2 := goodIn_r _ [283, 284, 285, 214] (by decide +kernel) (by decide +kernel)
set_option maxRecDepth 100000 in
theorem ggZL_done_X10_cardAt_wsX60 : GoodIn wzL_done wsX60 := goodIn_r _ [443, 444] (by decide +kernel) (by decide +kernel)
set_option maxRecDepth 100000 in
theorem ggZL_done_X10_cardAt_wsX100 : GoodIn wzL_done wsX100 := goodIn_r _ [416, 417, 418, 419, 420, 421, 422, 423, 424, 425] (by decide +kernel) (by decide +kernel)
set_option maxRecDepth 100000 in
theorem ggZL_done_X10_cardAt_wsX10 : GoodIn wzL_done wsX10 := goodIn_r _ [445, 446, 447] (by decide +kernel) (by decide +kernel)
set_option maxRecDepth 100000 in
theorem ggZL_done_X10_cardAt : GoodIn wzL_done wsX10_cardAt := goodIn_ca (goodIn_ca ((goodIn_c9 (goodIn_r _ [411] (by decide +kernel) (by decide +kernel)) (goodIn_app (goodIn_app (goodIn_app (goodIn_app ggZL_done_X10_cardAt_r1 (ggZL_done_X10_cardAt_r2)) ggZL_done_X10_cardAt_wsX60) ggZL_done_X10_cardAt_wsX100) ggZL_done_X10_cardAt_wsX10))) (goodIn_sub (fun _ h => List.mem_cons_of_mem _ (List.mem_append_left _ (List.mem_append_right _ h))) (by decide +kernel))) (goodIn_sub (fun _ h => List.mem_cons_of_mem _ (List.mem_append_left _ (List.mem_append_left _ (List.mem_append_right _ h)))) (by decide +kernel))
set_option maxRecDepth 100000 in
theorem gZL_done_X10_cardAt : GoodIn wzL_done (wsV RL 133 RX10 yX10_cardAt wsX10_cardAt) := goodIn_app (goodIn_of _ (by decide +kernel)) ggZL_done_X10_cardAt
set_option maxRecDepth 100000 in
theorem ggZL_done_X10_count : GoodIn wzL_done wsX10_count := goodIn_ca (goodIn_r _ [415, 163, 15, 16, 17, 8, 18, 19, 20, 21, 443, 444, 416, 417, 418, 419, 420, 421, 422, 423, 424, 425] (by decide +kernel) (by decide +kernel)) (goodIn_sub (fun _ h => List.mem_cons_of_mem _ (List.mem_append_left _ (List.mem_append_left _ (List.mem_append_right _ h)))) (by decide +kernel))
set_option maxRecDepth 100000 in
theorem gZL_done_X10_count : GoodIn wzL_done (wsV RL 136 RX10 yX10_count wsX10_count) := goodIn_app (goodIn_of _ (by decide +kernel)) ggZL_done_X10_count
