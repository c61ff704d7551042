theorem inJx145de : ∀ w ∈ wsJx145de0, w ∈ lw_tbl := by decide +kernel
theorem inJ5 : ∀ w ∈ wsJ50, w ∈ lw_tbl := by decide +kernel
theorem inJx2cfe8 : ∀ w ∈ wsJx2cfe80, w ∈ lw_tbl := by decide +kernel
theorem inJx9f9b0 : ∀ w ∈ wsJx9f9b00, w ∈ lw_tbl := by decide +kernel
theorem inJx8e188 : ∀ w ∈ wsJx8e1880, w ∈ lw_tbl := by decide +kernel
theorem inJxb160c : ∀ w ∈ wsJxb160c0, w ∈ lw_tbl := by decide +kernel
theorem inJx29ce0 : ∀ w ∈ wsJx29ce00, w ∈ lw_tbl := by decide +kernel
theorem inJ6 : ∀ w ∈ wsJ60, w ∈ lw_tbl := by decide +kernel
theorem inJ9 : ∀ w ∈ wsJ90, w ∈ lw_tbl := by decide +kernel
theorem inJxd2413 : ∀ w ∈ wsJxd24130, w ∈ lw_tbl := by decide +kernel
theorem inlJ0 : ∀ w ∈ wsJ00, w ∈ wsL_law := fun _ h => List.mem_append_left _ (List.mem_append_left _ (List.mem_append_left _ (List.mem_append_left _ (List.mem_append_left _ (List.mem_append_right _ h)))))
theorem inJ0 : ∀ w ∈ wsJ00, w ∈ lw_tbl := by decide +kernel
theorem inlJ4 : ∀ w ∈ wsJ40, w ∈ wsL_law := fun _ h => List.mem_append_left _ (List.mem_append_left _ (List.mem_append_left _ (List.mem_append_left _ (List.mem_append_left _ (List.mem_append_left _ (List.mem_append_right _ h))))))
theorem inJ4 : ∀ w ∈ wsJ40, w ∈ lw_tbl := by decide +kernel
theorem inJ1 : ∀ w ∈ wsJ10, w ∈ lw_tbl := by decide +kernel
theorem inJ2 : ∀ w ∈ wsJ20, w ∈ lw_tbl := by decide +kernel
theorem inJ10 : ∀ w ∈ wsJ100, w ∈ lw_tbl := by decide +kernel
theorem inJxfd54e : ∀ w ∈ wsJxfd54e0, w ∈ lw_tbl := by decide +kernel
theorem inJx3cf43 : ∀ w ∈ wsJx3cf430, w ∈ lw_tbl := by decide +kernel
theorem inJ7 : ∀ w ∈ wsJ70, w ∈ lw_tbl := by decide +kernel
theorem inJ8 : ∀ w ∈ wsJ80, w ∈ lw_tbl := by decide +kernel
theorem inJ3 : ∀ w ∈ wsJ30, w ∈ lw_tbl := by decide +kernel
theorem dX1_init_0 : decode cX1_init 0 = .ok (.aload_n 0, 1) := by decide +kernel
theorem dX1_init_1 : decode cX1_init 1 = .ok (.invokespecial 3, 3) := by decide +kernel
theorem dX1_init_4 : decode cX1_init 4 = .ok (.aload_n 0, 1) := by decide +kernel
theorem dX1_init_5 : decode cX1_init 5 = .ok (.sipush 20000, 3) := by decide +kernel
theorem dX1_init_8 : decode cX1_init 8 = .ok (.newarray .int, 2) := by decide +kernel
theorem dX1_init_10 : decode cX1_init 10 = .ok (.putfield 9, 3) := by decide +kernel
theorem dX1_init_13 : decode cX1_init 13 = .ok (.aload_n 0, 1) := by decide +kernel
theorem dX1_init_14 : decode cX1_init 14 = .ok (.sipush 20000, 3) := by decide +kernel
theorem dX1_init_17 : decode cX1_init 17 = .ok (.newarray .int, 2) := by decide +kernel
theorem dX1_init_19 : decode cX1_init 19 = .ok (.putfield 15, 3) := by decide +kernel
theorem dX1_init_22 : decode cX1_init 22 = .ok (.return_, 1) := by decide +kernel
theorem dX1_make_0 : decode cX1_make 0 = .ok (.aload_n 0, 1) := by decide +kernel
theorem dX1_make_1 : decode cX1_make 1 = .ok (.getfield 18, 3) := by decide +kernel
theorem dX1_make_4 : decode cX1_make 4 = .ok (.sipush 20000, 3) := by decide +kernel
theorem dX1_make_7 : decode cX1_make 7 = .ok (.if_icmp .lt 5, 3) := by decide +kernel
theorem dX1_make_10 : decode cX1_make 10 = .ok (.iconst (-1), 1) := by decide +kernel
theorem dX1_make_11 : decode cX1_make 11 = .ok (.ireturn, 1) := by decide +kernel
theorem dX1_make_12 : decode cX1_make 12 = .ok (.aload_n 0, 1) := by decide +kernel
theorem dX1_make_13 : decode cX1_make 13 = .ok (.getfield 9, 3) := by decide +kernel
theorem dX1_make_16 : decode cX1_make 16 = .ok (.aload_n 0, 1) := by decide +kernel
theorem dX1_make_17 : decode cX1_make 17 = .ok (.getfield 18, 3) := by decide +kernel
theorem dX1_make_20 : decode cX1_make 20 = .ok (.iload_n 1, 1) := by decide +kernel
theorem dX1_make_21 : decode cX1_make 21 = .ok (.iastore, 1) := by decide +kernel
theorem dX1_make_22 : decode cX1_make 22 = .ok (.aload_n 0, 1) := by decide +kernel
theorem dX1_make_23 : decode cX1_make 23 = .ok (.getfield 15, 3) := by decide +kernel
theorem dX1_make_26 : decode cX1_make 26 = .ok (.aload_n 0, 1) := by decide +kernel
theorem dX1_make_27 : decode cX1_make 27 = .ok (.getfield 18, 3) := by decide +kernel
theorem dX1_make_30 : decode cX1_make 30 = .ok (.iload_n 2, 1) := by decide +kernel
theorem dX1_make_31 : decode cX1_make 31 = .ok (.iastore, 1) := by decide +kernel
theorem dX1_make_32 : decode cX1_make 32 = .ok (.aload_n 0, 1) := by decide +kernel
theorem dX1_make_33 : decode cX1_make 33 = .ok (.dup, 1) := by decide +kernel
theorem dX1_make_34 : decode cX1_make 34 = .ok (.getfield 18, 3) := by decide +kernel
theorem dX1_make_37 : decode cX1_make 37 = .ok (.iconst 1, 1) := by decide +kernel
theorem dX1_make_38 : decode cX1_make 38 = .ok (.iadd, 1) := by decide +kernel
theorem dX1_make_39 : decode cX1_make 39 = .ok (.putfield 18, 3) := by decide +kernel
theorem dX1_make_42 : decode cX1_make 42 = .ok (.aload_n 0, 1) := by decide +kernel
theorem dX1_make_43 : decode cX1_make 43 = .ok (.getfield 18, 3) := by decide +kernel
theorem dX1_make_46 : decode cX1_make 46 = .ok (.iconst 1, 1) := by decide +kernel
theorem dX1_make_47 : decode cX1_make 47 = .ok (.isub, 1) := by decide +kernel
theorem dX1_make_48 : decode cX1_make 48 = .ok (.ireturn, 1) := by decide +kernel
theorem dX1_firstOf_0 : decode cX1_firstOf 0 = .ok (.iload_n 1, 1) := by decide +kernel
theorem dX1_firstOf_1 : decode cX1_firstOf 1 = .ok (.ifCond .lt 20, 3) := by decide +kernel
theorem dX1_firstOf_4 : decode cX1_firstOf 4 = .ok (.iload_n 1, 1) := by decide +kernel
theorem dX1_firstOf_5 : decode cX1_firstOf 5 = .ok (.aload_n 0, 1) := by decide +kernel
theorem dX1_firstOf_6 : decode cX1_firstOf 6 = .ok (.getfield 18, 3) := by decide +kernel
theorem dX1_firstOf_9 : decode cX1_firstOf 9 = .ok (.if_icmp .ge 12, 3) := by decide +kernel
theorem dX1_firstOf_12 : decode cX1_firstOf 12 = .ok (.aload_n 0, 1) := by decide +kernel
theorem dX1_firstOf_13 : decode cX1_firstOf 13 = .ok (.getfield 9, 3) := by decide +kernel
theorem dX1_firstOf_16 : decode cX1_firstOf 16 = .ok (.iload_n 1, 1) := by decide +kernel
theorem dX1_firstOf_17 : decode cX1_firstOf 17 = .ok (.iaload, 1) := by decide +kernel
theorem dX1_firstOf_18 : decode cX1_firstOf 18 = .ok (.goto 4, 3) := by decide +kernel
theorem dX1_firstOf_21 : decode cX1_firstOf 21 = .ok (.iconst 0, 1) := by decide +kernel
theorem dX1_firstOf_22 : decode cX1_firstOf 22 = .ok (.ireturn, 1) := by decide +kernel
theorem dX1_secondOf_0 : decode cX1_secondOf 0 = .ok (.iload_n 1, 1) := by decide +kernel
theorem dX1_secondOf_1 : decode cX1_secondOf 1 = .ok (.ifCond .lt 20, 3) := by decide +kernel
theorem dX1_secondOf_4 : decode cX1_secondOf 4 = .ok (.iload_n 1, 1) := by decide +kernel
theorem dX1_secondOf_5 : decode cX1_secondOf 5 = .ok (.aload_n 0, 1) := by decide +kernel
theorem dX1_secondOf_6 : decode cX1_secondOf 6 = .ok (.getfield 18, 3) := by decide +kernel
theorem dX1_secondOf_9 : decode cX1_secondOf 9 = .ok (.if_icmp .ge 12, 3) := by decide +kernel
theorem dX1_secondOf_12 : decode cX1_secondOf 12 = .ok (.aload_n 0, 1) := by decide +kernel
theorem dX1_secondOf_13 : decode cX1_secondOf 13 = .ok (.getfield 15, 3) := by decide +kernel
theorem dX1_secondOf_16 : decode cX1_secondOf 16 = .ok (.iload_n 1, 1) := by decide +kernel
theorem dX1_secondOf_17 : decode cX1_secondOf 17 = .ok (.iaload, 1) := by decide +kernel
theorem dX1_secondOf_18 : decode cX1_secondOf 18 = .ok (.goto 4, 3) := by decide +kernel
theorem dX1_secondOf_21 : decode cX1_secondOf 21 = .ok (.iconst 0, 1) := by decide +kernel
theorem dX1_secondOf_22 : decode cX1_secondOf 22 = .ok (.ireturn, 1) := by decide +kernel
theorem dX2_init_0 : decode cX2_init 0 = .ok (.aload_n 0, 1) := by decide +kernel
theorem dX2_init_1 : decode cX2_init 1 = .ok (.invokespecial 1, 3) := by decide +kernel
theorem dX2_init_4 : decode cX2_init 4 = .ok (.aload_n 0, 1) := by decide +kernel
theorem dX2_init_5 : decode cX2_init 5 = .ok (.iconst 1, 1) := by decide +kernel
theorem dX2_init_6 : decode cX2_init 6 = .ok (.putfield 7, 3) := by decide +kernel
theorem dX2_init_9 : decode cX2_init 9 = .ok (.return_, 1) := by decide +kernel
set_option maxRecDepth 20000 in
theorem ggX2_draw_X10_rest : GoodIn wsX2_draw wsX10_rest := goodIn_r _ [5] (by decide +kernel) (by decide +kernel)
set_option maxRecDepth 20000 in
theorem gX2_draw_X10_rest_n14 : GoodIn wsX2_draw (wsX10_rest) := ggX2_draw_X10_rest
theorem dX2_draw_0 : decode cX2_draw 0 = .ok (.aload_n 0, 1) := by decide +kernel
theorem dX2_draw_1 : decode cX2_draw 1 = .ok (.aload_n 0, 1) := by decide +kernel
theorem dX2_draw_2 : decode cX2_draw 2 = .ok (.getfield 7, 3) := by decide +kernel
theorem dX2_draw_5 : decode cX2_draw 5 = .ok (.ldc 13, 2) := by decide +kernel
theorem dX2_draw_7 : decode cX2_draw 7 = .ok (.imul, 1) := by decide +kernel
theorem dX2_draw_8 : decode cX2_draw 8 = .ok (.sipush 12345, 3) := by decide +kernel
theorem dX2_draw_11 : decode cX2_draw 11 = .ok (.iadd, 1) := by decide +kernel
theorem dX2_draw_12 : decode cX2_draw 12 = .ok (.putfield 7, 3) := by decide +kernel
theorem dX2_draw_15 : decode cX2_draw 15 = .ok (.aload_n 0, 1) := by decide +kernel
theorem dX2_draw_16 : decode cX2_draw 16 = .ok (.getfield 7, 3) := by decide +kernel
theorem dX2_draw_19 : decode cX2_draw 19 = .ok (.bipush 16, 2) := by decide +kernel
theorem dX2_draw_21 : decode cX2_draw 21 = .ok (.iushr, 1) := by decide +kernel
theorem dX2_draw_22 : decode cX2_draw 22 = .ok (.iload_n 1, 1) := by decide +kernel
theorem dX2_draw_23 : decode cX2_draw 23 = .ok (.invokestatic 14, 3) := by decide +kernel
theorem dX2_draw_26 : decode cX2_draw 26 = .ok (.ireturn, 1) := by decide +kernel
set_option maxRecDepth 20000 in
theorem ggX5_init_X7_init : GoodIn wsX5_init wsX7_init := goodIn_r _ [10, 11, 2, 3, 12, 13, 17, 18, 19, 20, 21, 22] (by decide +kernel) (by decide +kernel)
set_option maxRecDepth 20000 in
theorem gX5_init_X7_init_n21 : GoodIn wsX5_init (wsX7_init) := ggX5_init_X7_init
theorem dX5_init_0 : decode cX5_init 0 = .ok (.aload_n 0, 1) := by decide +kernel
theorem dX5_init_1 : decode cX5_init 1 = .ok (.invokespecial 3, 3) := by decide +kernel
theorem dX5_init_4 : decode cX5_init 4 = .ok (.aload_n 0, 1) := by decide +kernel
theorem dX5_init_5 : decode cX5_init 5 = .ok (.bipush 50, 2) := by decide +kernel
theorem dX5_init_7 : decode cX5_init 7 = .ok (.anewarray 9, 3) := by decide +kernel
theorem dX5_init_10 : decode cX5_init 10 = .ok (.putfield 11, 3) := by decide +kernel
theorem dX5_init_13 : decode cX5_init 13 = .ok (.aload_n 0, 1) := by decide +kernel
theorem dX5_init_14 : decode cX5_init 14 = .ok (.aload_n 1, 1) := by decide +kernel
theorem dX5_init_15 : decode cX5_init 15 = .ok (.putfield 17, 3) := by decide +kernel
theorem dX5_init_18 : decode cX5_init 18 = .ok (.iconst 0, 1) := by decide +kernel
theorem dX5_init_19 : decode cX5_init 19 = .ok (.istore_n 2, 1) := by decide +kernel
theorem dX5_init_20 : decode cX5_init 20 = .ok (.iload_n 2, 1) := by decide +kernel
theorem dX5_init_21 : decode cX5_init 21 = .ok (.bipush 50, 2) := by decide +kernel
theorem dX5_init_23 : decode cX5_init 23 = .ok (.if_icmp .ge 22, 3) := by decide +kernel
theorem dX5_init_26 : decode cX5_init 26 = .ok (.aload_n 0, 1) := by decide +kernel
theorem dX5_init_27 : decode cX5_init 27 = .ok (.getfield 11, 3) := by decide +kernel
theorem dX5_init_30 : decode cX5_init 30 = .ok (.iload_n 2, 1) := by decide +kernel
theorem dX5_init_31 : decode cX5_init 31 = .ok (.new 9, 3) := by decide +kernel
theorem dX5_init_34 : decode cX5_init 34 = .ok (.dup, 1) := by decide +kernel
theorem dX5_init_35 : decode cX5_init 35 = .ok (.invokespecial 21, 3) := by decide +kernel
theorem dX5_init_38 : decode cX5_init 38 = .ok (.aastore, 1) := by decide +kernel
theorem dX5_init_39 : decode cX5_init 39 = .ok (.iinc 2 1, 3) := by decide +kernel
theorem dX5_init_42 : decode cX5_init 42 = .ok (.goto (-22), 3) := by decide +kernel
theorem dX5_init_45 : decode cX5_init 45 = .ok (.return_, 1) := by decide +kernel
set_option maxRecDepth 20000 in
theorem ggX5_readText_X9_toFirstToken : GoodIn wsX5_readText wsX9_toFirstToken := goodIn_r _ [9, 10, 11, 12, 13, 8, 14, 15, 16, 17, 18, 19, 20, 134, 135, 136, 137] (by decide +kernel) (by decide +kernel)
set_option maxRecDepth 20000 in
theorem gX5_readText_X9_toFirstToken : GoodIn wsX5_readText (wsV RX5 26 RX9 yX9_toFirstToken wsX9_toFirstToken) := goodIn_app (goodIn_of _ (by decide +kernel)) ggX5_readText_X9_toFirstToken
set_option maxRecDepth 20000 in
theorem ggX5_readText_X9_isAtEnd : GoodIn wsX5_readText wsX9_isAtEnd := goodIn_r _ [24, 15, 16, 134, 135, 136, 137] (by decide +kernel) (by decide +kernel)
set_option maxRecDepth 20000 in
theorem gX5_readText_X9_isAtEnd : GoodIn wsX5_readText (wsV RX5 31 RX9 yX9_isAtEnd wsX9_isAtEnd) := goodIn_app (goodIn_of _ (by decide +kernel)) ggX5_readText_X9_isAtEnd
set_option maxRecDepth 20000 in
theorem ggX5_readText_X5_readRun : GoodIn wsX5_readText wsX5_readRun := goodIn_r _ [29, 30, 31, 32, 28, 33, 34, 35, 36, 37, 38, 39, 40, 2, 41, 42, 43, 8, 44, 10, 15, 17, 45, 46, 47, 48, 49, 50, 51, 52, 53, 54, 55, 56, 57, 58, 59, 60, 61, 62, 63, 64, 65, 66, 67, 68, 69, 70, 71, 72, 73, 74, 75, 76, 77, 78, 79, 80, 81, 82, 83, 84, 85, 86, 87, 88, 89, 90, 91, 92, 93, 94, 12, 13, 14, 16, 18, 19, 20, 95, 96, 97, 98, 99, 100, 101, 102, 103, 104, 105, 106, 107, 108, 22, 23, 24, 109, 110, 111, 112, 113, 114, 115, 116, 117, 118, 119, 120, 121, 122, 123, 124, 125, 126, 127, 128, 129, 130, 138, 139, 140, 141, 142, 143, 131, 132, 133, 134, 135, 136, 137, 144, 145, 146, 147] (by decide +kernel) (by decide +kernel)
set_option maxRecDepth 20000 in
theorem gX5_readText_X5_readRun : GoodIn wsX5_readText (wsV RX5 35 RX5 yX5_readRun wsX5_readRun) := goodIn_app (goodIn_of _ (by decide +kernel)) ggX5_readText_X5_readRun
theorem dX5_readText_0 : decode cX5_readText 0 = .ok (.aload_n 0, 1) := by decide +kernel
theorem dX5_readText_1 : decode cX5_readText 1 = .ok (.iconst 0, 1) := by decide +kernel
theorem dX5_readText_2 : decode cX5_readText 2 = .ok (.putfield 22, 3) := by decide +kernel
theorem dX5_readText_5 : decode cX5_readText 5 = .ok (.aload_n 0, 1) := by decide +kernel
theorem dX5_readText_6 : decode cX5_readText 6 = .ok (.getfield 17, 3) := by decide +kernel
theorem dX5_readText_9 : decode cX5_readText 9 = .ok (.invokevirtual 26, 3) := by decide +kernel
theorem dX5_readText_12 : decode cX5_readText 12 = .ok (.aload_n 0, 1) := by decide +kernel
theorem dX5_readText_13 : decode cX5_readText 13 = .ok (.getfield 17, 3) := by decide +kernel
theorem dX5_readText_16 : decode cX5_readText 16 = .ok (.invokevirtual 31, 3) := by decide +kernel
theorem dX5_readText_19 : decode cX5_readText 19 = .ok (.ifCond .ne 49, 3) := by decide +kernel
theorem dX5_readText_22 : decode cX5_readText 22 = .ok (.aload_n 0, 1) := by decide +kernel
theorem dX5_readText_23 : decode cX5_readText 23 = .ok (.getfield 22, 3) := by decide +kernel
theorem dX5_readText_26 : decode cX5_readText 26 = .ok (.bipush 50, 2) := by decide +kernel
theorem dX5_readText_28 : decode cX5_readText 28 = .ok (.if_icmp .ge 40, 3) := by decide +kernel
theorem dX5_readText_31 : decode cX5_readText 31 = .ok (.aload_n 0, 1) := by decide +kernel
theorem dX5_readText_32 : decode cX5_readText 32 = .ok (.aload_n 0, 1) := by decide +kernel
theorem dX5_readText_33 : decode cX5_readText 33 = .ok (.getfield 11, 3) := by decide +kernel
theorem dX5_readText_36 : decode cX5_readText 36 = .ok (.aload_n 0, 1) := by decide +kernel
theorem dX5_readText_37 : decode cX5_readText 37 = .ok (.getfield 22, 3) := by decide +kernel
theorem dX5_readText_40 : decode cX5_readText 40 = .ok (.aaload, 1) := by decide +kernel
theorem dX5_readText_41 : decode cX5_readText 41 = .ok (.invokevirtual 35, 3) := by decide +kernel
theorem dX5_readText_44 : decode cX5_readText 44 = .ok (.ifCond .ne 11, 3) := by decide +kernel
theorem dX5_readText_47 : decode cX5_readText 47 = .ok (.aload_n 0, 1) := by decide +kernel
theorem dX5_readText_48 : decode cX5_readText 48 = .ok (.getfield 17, 3) := by decide +kernel
theorem dX5_readText_51 : decode cX5_readText 51 = .ok (.getfield 39, 3) := by decide +kernel
theorem dX5_readText_54 : decode cX5_readText 54 = .ok (.ireturn, 1) := by decide +kernel
theorem dX5_readText_55 : decode cX5_readText 55 = .ok (.aload_n 0, 1) := by decide +kernel
theorem dX5_readText_56 : decode cX5_readText 56 = .ok (.dup, 1) := by decide +kernel
theorem dX5_readText_57 : decode cX5_readText 57 = .ok (.getfield 22, 3) := by decide +kernel
theorem dX5_readText_60 : decode cX5_readText 60 = .ok (.iconst 1, 1) := by decide +kernel
theorem dX5_readText_61 : decode cX5_readText 61 = .ok (.iadd, 1) := by decide +kernel
theorem dX5_readText_62 : decode cX5_readText 62 = .ok (.putfield 22, 3) := by decide +kernel
theorem dX5_readText_65 : decode cX5_readText 65 = .ok (.goto (-53), 3) := by decide +kernel
theorem dX5_readText_68 : decode cX5_readText 68 = .ok (.iconst (-1), 1) := by decide +kernel
theorem dX5_readText_69 : decode cX5_readText 69 = .ok (.ireturn, 1) := by decide +kernel
theorem dX5_cardsOfAllRuns_0 : decode cX5_cardsOfAllRuns 0 = .ok (.iconst 0, 1) := by decide +kernel
theorem dX5_cardsOfAllRuns_1 : decode cX5_cardsOfAllRuns 1 = .ok (.istore_n 1, 1) := by decide +kernel
theorem dX5_cardsOfAllRuns_2 : decode cX5_cardsOfAllRuns 2 = .ok (.iconst 0, 1) := by decide +kernel
theorem dX5_cardsOfAllRuns_3 : decode cX5_cardsOfAllRuns 3 = .ok (.istore_n 2, 1) := by decide +kernel
theorem dX5_cardsOfAllRuns_4 : decode cX5_cardsOfAllRuns 4 = .ok (.iload_n 2, 1) := by decide +kernel
theorem dX5_cardsOfAllRuns_5 : decode cX5_cardsOfAllRuns 5 = .ok (.aload_n 0, 1) := by decide +kernel
theorem dX5_cardsOfAllRuns_6 : decode cX5_cardsOfAllRuns 6 = .ok (.getfield 22, 3) := by decide +kernel
theorem dX5_cardsOfAllRuns_9 : decode cX5_cardsOfAllRuns 9 = .ok (.if_icmp .ge 21, 3) := by decide +kernel
theorem dX5_cardsOfAllRuns_12 : decode cX5_cardsOfAllRuns 12 = .ok (.iload_n 1, 1) := by decide +kernel
theorem dX5_cardsOfAllRuns_13 : decode cX5_cardsOfAllRuns 13 = .ok (.aload_n 0, 1) := by decide +kernel
theorem dX5_cardsOfAllRuns_14 : decode cX5_cardsOfAllRuns 14 = .ok (.getfield 11, 3) := by decide +kernel
theorem dX5_cardsOfAllRuns_17 : decode cX5_cardsOfAllRuns 17 = .ok (.iload_n 2, 1) := by decide +kernel
theorem dX5_cardsOfAllRuns_18 : decode cX5_cardsOfAllRuns 18 = .ok (.aaload, 1) := by decide +kernel
theorem dX5_cardsOfAllRuns_19 : decode cX5_cardsOfAllRuns 19 = .ok (.getfield 42, 3) := by decide +kernel
theorem dX5_cardsOfAllRuns_22 : decode cX5_cardsOfAllRuns 22 = .ok (.iadd, 1) := by decide +kernel
theorem dX5_cardsOfAllRuns_23 : decode cX5_cardsOfAllRuns 23 = .ok (.istore_n 1, 1) := by decide +kernel
theorem dX5_cardsOfAllRuns_24 : decode cX5_cardsOfAllRuns 24 = .ok (.iinc 2 1, 3) := by decide +kernel
theorem dX5_cardsOfAllRuns_27 : decode cX5_cardsOfAllRuns 27 = .ok (.goto (-23), 3) := by decide +kernel
theorem dX5_cardsOfAllRuns_30 : decode cX5_cardsOfAllRuns 30 = .ok (.iload_n 1, 1) := by decide +kernel
theorem dX5_cardsOfAllRuns_31 : decode cX5_cardsOfAllRuns 31 = .ok (.ireturn, 1) := by decide +kernel
set_option maxRecDepth 20000 in
theorem ggX5_readRun_X5_readKind : GoodIn wsX5_readRun wsX5_readKind := goodIn_r _ [5, 6, 7, 8, 9, 10, 11, 4, 12, 13, 14, 15, 16, 17, 18, 19, 20, 21, 22, 23, 24, 25, 26, 27, 28, 29, 30, 31, 32, 33, 34, 35, 36, 37, 38, 39, 40, 41, 42, 43, 44, 45, 46, 47, 48, 49, 50, 51, 52, 53, 54, 55, 56, 57, 58, 59, 60, 61, 62, 63, 64, 65, 66, 67, 68, 69, 70, 71, 72, 73, 74, 75, 76, 77, 78, 118, 119, 120, 121, 122, 123, 124, 125, 126, 127, 128, 129, 130, 131, 132, 133, 134] (by decide +kernel) (by decide +kernel)
set_option maxRecDepth 20000 in
theorem gX5_readRun_X5_readKind : GoodIn wsX5_readRun (wsV RX5 45 RX5 yX5_readKind wsX5_readKind) := goodIn_app (goodIn_of _ (by decide +kernel)) ggX5_readRun_X5_readKind
set_option maxRecDepth 20000 in
theorem ggX5_readRun_X5_readCards : GoodIn wsX5_readRun wsX5_readCards := goodIn_r _ [82, 83, 84, 85, 86, 4, 87, 13, 88, 89, 90, 17, 91, 21, 20, 19, 92, 93, 94, 95, 75, 76, 77, 78, 71, 72, 73, 74, 118, 119, 120, 121, 122, 123, 124, 125, 126, 127, 128, 129, 130] (by decide +kernel) (by decide +kernel)
set_option maxRecDepth 20000 in
theorem gX5_readRun_X5_readCards : GoodIn wsX5_readRun (wsV RX5 48 RX5 yX5_readCards wsX5_readCards) := goodIn_app (goodIn_of _ (by decide +kernel)) ggX5_readRun_X5_readCards
set_option maxRecDepth 20000 in
theorem ggX5_readRun_X5_readStart : GoodIn wsX5_readRun wsX5_readStart := goodIn_r _ [99, 100, 9, 10, 11, 4, 12, 13, 14, 15, 16, 17, 18, 19, 20, 21, 22, 23, 24, 25, 26, 27, 28, 29, 30, 31, 32, 33, 34, 35, 36, 37, 38, 39, 40, 41, 42, 43, 44, 45, 46, 47, 48, 49, 50, 51, 52, 53, 54, 55, 56, 57, 58, 59, 60, 61, 62, 63, 64, 65, 66, 67, 68, 69, 70, 71, 72, 73, 74, 75, 76, 77, 78, 84, 85, 86, 87, 88, 89, 90, 91, 92, 93, 94, 95, 118, 119, 120, 121, 122, 123, 124, 125, 126, 127, 128, 129, 130, 131, 132, 133, 134] (by decide +kernel) (by decide +kernel)
set_option maxRecDepth 20000 in
theorem gX5_readRun_X5_readStart : GoodIn wsX5_readRun (wsV RX5 51 RX5 yX5_readStart wsX5_readStart) := goodIn_app (goodIn_of _ (by decide +kernel)) ggX5_readRun_X5_readStart
set_option maxRecDepth 20000 in
theorem ggX5_readRun_X5_readStep : GoodIn wsX5_readRun wsX5_readStep := goodIn_r _ [104, 8, 105, 106, 84, 85, 86, 4, 87, 13, 88, 89, 90, 17, 91, 21, 20, 19, 92, 93, 94, 95, 75, 76, 77, 78, 71, 72, 73, 74, 118, 119, 120, 121, 122, 123, 124, 125, 126, 127, 128, 129, 130] (by decide +kernel) (by decide +kernel)
set_option maxRecDepth 20000 in
theorem gX5_readRun_X5_readStep : GoodIn wsX5_readRun (wsV RX5 54 RX5 yX5_readStep wsX5_readStep) := goodIn_app (goodIn_of _ (by decide +kernel)) ggX5_readRun_X5_readStep
set_option maxRecDepth 20000 in
theorem ggX5_readRun_X5_readLength : GoodIn wsX5_readRun wsX5_readLength := goodIn_r _ [110, 8, 111, 112, 84, 85, 86, 4, 87, 13, 88, 89, 90, 17, 91, 21, 20, 19, 92, 93, 94, 95, 75, 76, 77, 78, 71, 72, 73, 74, 118, 119, 120, 121, 122, 123, 124, 125, 126, 127, 128, 129, 130] (by decide +kernel) (by decide +kernel)
set_option maxRecDepth 20000 in
theorem gX5_readRun_X5_readLength : GoodIn wsX5_readRun (wsV RX5 57 RX5 yX5_readLength wsX5_readLength) := goodIn_app (goodIn_of _ (by decide +kernel)) ggX5_readRun_X5_readLength
set_option maxRecDepth 20000 in
theorem ggX5_readRun_X5_readDivisor : GoodIn wsX5_readRun wsX5_readDivisor := goodIn_r _ [116, 117, 9, 10, 11, 4, 12, 13, 14, 15, 16, 17, 18, 19, 20, 21, 22, 23, 24, 25, 26, 27, 28, 29, 30, 31, 32, 33, 34, 35, 36, 37, 38, 39, 40, 41, 42, 43, 44, 45, 46, 47, 48, 49, 50, 51, 52, 53, 54, 55, 56, 57, 58, 59, 60, 61, 62, 63, 64, 65, 66, 67, 68, 69, 70, 71, 72, 73, 74, 75, 76, 77, 78, 84, 85, 86, 87, 88, 89, 90, 91, 92, 93, 94, 95, 118, 119, 120, 121, 122, 123, 124, 125, 126, 127, 128, 129, 130, 131, 132, 133, 134] (by decide +kernel) (by decide +kernel)
set_option maxRecDepth 20000 in
theorem gX5_readRun_X5_readDivisor : GoodIn wsX5_readRun (wsV RX5 60 RX5 yX5_readDivisor wsX5_readDivisor) := goodIn_app (goodIn_of _ (by decide +kernel)) ggX5_readRun_X5_readDivisor
set_option maxRecDepth 20000 in
theorem ggX5_readRun_X5_readToken : GoodIn wsX5_readRun wsX5_readToken := goodIn_r _ [12, 13, 14, 15, 16, 17, 18, 19, 20, 21, 22, 23, 24, 25, 26, 27, 28, 29, 30, 31, 32, 33, 34, 35, 36, 37, 38, 39, 40, 41, 42, 43, 44, 45, 46, 47, 48, 49, 50, 51, 52, 53, 54, 55, 56, 57, 58, 59, 60, 61, 62, 63, 64, 65, 66, 67, 68, 69, 70, 71, 72, 73, 74, 75, 76, 77, 78, 124, 125, 126, 127, 128, 129, 130, 131, 132, 133, 134] (by decide +kernel) (by decide +kernel)
set_option maxRecDepth 20000 in
theorem gX5_readRun_X5_readToken : GoodIn wsX5_readRun (wsV RX5 65 RX5 yX5_readToken wsX5_readToken) := goodIn_app (goodIn_of _ (by decide +kernel)) ggX5_readRun_X5_readToken
theorem dX5_readRun_0 : decode cX5_readRun 0 = .ok (.aload_n 0, 1) := by decide +kernel
theorem dX5_readRun_1 : decode cX5_readRun 1 = .ok (.aload_n 1, 1) := by decide +kernel
theorem dX5_readRun_2 : decode cX5_readRun 2 = .ok (.invokevirtual 45, 3) := by decide +kernel
theorem dX5_readRun_5 : decode cX5_readRun 5 = .ok (.ifCond .eq 56, 3) := by decide +kernel
theorem dX5_readRun_8 : decode cX5_readRun 8 = .ok (.aload_n 0, 1) := by decide +kernel
theorem dX5_readRun_9 : decode cX5_readRun 9 = .ok (.aload_n 1, 1) := by decide +kernel
theorem dX5_readRun_10 : decode cX5_readRun 10 = .ok (.invokevirtual 48, 3) := by decide +kernel
theorem dX5_readRun_13 : decode cX5_readRun 13 = .ok (.ifCond .eq 48, 3) := by decide +kernel
theorem dX5_readRun_16 : decode cX5_readRun 16 = .ok (.aload_n 0, 1) := by decide +kernel
theorem dX5_readRun_17 : decode cX5_readRun 17 = .ok (.aload_n 1, 1) := by decide +kernel
theorem dX5_readRun_18 : decode cX5_readRun 18 = .ok (.invokevirtual 51, 3) := by decide +kernel
theorem dX5_readRun_21 : decode cX5_readRun 21 = .ok (.ifCond .eq 40, 3) := by decide +kernel
theorem dX5_readRun_24 : decode cX5_readRun 24 = .ok (.aload_n 0, 1) := by decide +kernel
theorem dX5_readRun_25 : decode cX5_readRun 25 = .ok (.aload_n 1, 1) := by decide +kernel
theorem dX5_readRun_26 : decode cX5_readRun 26 = .ok (.invokevirtual 54, 3) := by decide +kernel
theorem dX5_readRun_29 : decode cX5_readRun 29 = .ok (.ifCond .eq 32, 3) := by decide +kernel
theorem dX5_readRun_32 : decode cX5_readRun 32 = .ok (.aload_n 0, 1) := by decide +kernel
theorem dX5_readRun_33 : decode cX5_readRun 33 = .ok (.aload_n 1, 1) := by decide +kernel
theorem dX5_readRun_34 : decode cX5_readRun 34 = .ok (.invokevirtual 57, 3) := by decide +kernel
theorem dX5_readRun_37 : decode cX5_readRun 37 = .ok (.ifCond .eq 24, 3) := by decide +kernel
theorem dX5_readRun_40 : decode cX5_readRun 40 = .ok (.aload_n 0, 1) := by decide +kernel
theorem dX5_readRun_41 : decode cX5_readRun 41 = .ok (.aload_n 1, 1) := by decide +kernel
theorem dX5_readRun_42 : decode cX5_readRun 42 = .ok (.invokevirtual 60, 3) := by decide +kernel
theorem dX5_readRun_45 : decode cX5_readRun 45 = .ok (.ifCond .eq 16, 3) := by decide +kernel
theorem dX5_readRun_48 : decode cX5_readRun 48 = .ok (.aload_n 0, 1) := by decide +kernel
theorem dX5_readRun_49 : decode cX5_readRun 49 = .ok (.ldc 63, 2) := by decide +kernel
theorem dX5_readRun_51 : decode cX5_readRun 51 = .ok (.invokevirtual 65, 3) := by decide +kernel
theorem dX5_readRun_54 : decode cX5_readRun 54 = .ok (.ifCond .eq 7, 3) := by decide +kernel
theorem dX5_readRun_57 : decode cX5_readRun 57 = .ok (.iconst 1, 1) := by decide +kernel
theorem dX5_readRun_58 : decode cX5_readRun 58 = .ok (.goto 4, 3) := by decide +kernel
theorem dX5_readRun_61 : decode cX5_readRun 61 = .ok (.iconst 0, 1) := by decide +kernel
theorem dX5_readRun_62 : decode cX5_readRun 62 = .ok (.ireturn, 1) := by decide +kernel
set_option maxRecDepth 20000 in
theorem ggX5_readKind_X5_readToken : GoodIn wsX5_readKind wsX5_readToken := goodIn_r _ [8, 9, 10, 11, 12, 13, 14, 15, 16, 17, 18, 19, 20, 21, 22, 23, 24, 25, 26, 27, 28, 29, 30, 31, 32, 33, 34, 35, 36, 37, 38, 39, 40, 41, 42, 43, 44, 45, 46, 47, 48, 49, 50, 51, 52, 53, 54, 55, 56, 57, 58, 59, 60, 61, 62, 63, 64, 65, 66, 67, 68, 69, 70, 71, 72, 73, 74, 81, 82, 83, 84, 85, 86, 87, 88, 89, 90, 91] (by decide +kernel) (by decide +kernel)
set_option maxRecDepth 20000 in
theorem gX5_readKind_X5_readToken : GoodIn wsX5_readKind (wsV RX5 65 RX5 yX5_readToken wsX5_readToken) := goodIn_app (goodIn_of _ (by decide +kernel)) ggX5_readKind_X5_readToken
theorem dX5_readKind_0 : decode cX5_readKind 0 = .ok (.iconst 0, 1) := by decide +kernel
theorem dX5_readKind_1 : decode cX5_readKind 1 = .ok (.istore_n 2, 1) := by decide +kernel
theorem dX5_readKind_2 : decode cX5_readKind 2 = .ok (.iload_n 2, 1) := by decide +kernel
theorem dX5_readKind_3 : decode cX5_readKind 3 = .ok (.getstatic 69, 3) := by decide +kernel
theorem dX5_readKind_6 : decode cX5_readKind 6 = .ok (.arraylength, 1) := by decide +kernel
theorem dX5_readKind_7 : decode cX5_readKind 7 = .ok (.if_icmp .ge 35, 3) := by decide +kernel
theorem dX5_readKind_10 : decode cX5_readKind 10 = .ok (.aload_n 0, 1) := by decide +kernel
theorem dX5_readKind_11 : decode cX5_readKind 11 = .ok (.getstatic 69, 3) := by decide +kernel
theorem dX5_readKind_14 : decode cX5_readKind 14 = .ok (.iload_n 2, 1) := by decide +kernel
theorem dX5_readKind_15 : decode cX5_readKind 15 = .ok (.aaload, 1) := by decide +kernel
theorem dX5_readKind_16 : decode cX5_readKind 16 = .ok (.getfield 73, 3) := by decide +kernel
theorem dX5_readKind_19 : decode cX5_readKind 19 = .ok (.invokevirtual 65, 3) := by decide +kernel
theorem dX5_readKind_22 : decode cX5_readKind 22 = .ok (.ifCond .eq 14, 3) := by decide +kernel
theorem dX5_readKind_25 : decode cX5_readKind 25 = .ok (.aload_n 1, 1) := by decide +kernel
theorem dX5_readKind_26 : decode cX5_readKind 26 = .ok (.getstatic 69, 3) := by decide +kernel
theorem dX5_readKind_29 : decode cX5_readKind 29 = .ok (.iload_n 2, 1) := by decide +kernel
theorem dX5_readKind_30 : decode cX5_readKind 30 = .ok (.aaload, 1) := by decide +kernel
theorem dX5_readKind_31 : decode cX5_readKind 31 = .ok (.putfield 79, 3) := by decide +kernel
theorem dX5_readKind_34 : decode cX5_readKind 34 = .ok (.iconst 1, 1) := by decide +kernel
theorem dX5_readKind_35 : decode cX5_readKind 35 = .ok (.ireturn, 1) := by decide +kernel
theorem dX5_readKind_36 : decode cX5_readKind 36 = .ok (.iinc 2 1, 3) := by decide +kernel
theorem dX5_readKind_39 : decode cX5_readKind 39 = .ok (.goto (-37), 3) := by decide +kernel
theorem dX5_readKind_42 : decode cX5_readKind 42 = .ok (.iconst 0, 1) := by decide +kernel
theorem dX5_readKind_43 : decode cX5_readKind 43 = .ok (.ireturn, 1) := by decide +kernel
set_option maxRecDepth 20000 in
theorem ggX5_readCards_X5_readNumber : GoodIn wsX5_readCards wsX5_readNumber := goodIn_r _ [6, 7, 8, 9, 10, 11, 12, 13, 14, 15, 16, 17, 18, 19, 20, 21, 22, 23, 24, 25, 26, 27, 34, 35, 36, 37, 38, 39, 40] (by decide +kernel) (by decide +kernel)
set_option maxRecDepth 20000 in
theorem gX5_readCards_X5_readNumber : GoodIn wsX5_readCards (wsV RX5 83 RX5 yX5_readNumber wsX5_readNumber) := goodIn_app (goodIn_of _ (by decide +kernel)) ggX5_readCards_X5_readNumber
theorem dX5_readCards_0 : decode cX5_readCards 0 = .ok (.aload_n 1, 1) := by decide +kernel
theorem dX5_readCards_1 : decode cX5_readCards 1 = .ok (.aload_n 0, 1) := by decide +kernel
theorem dX5_readCards_2 : decode cX5_readCards 2 = .ok (.iconst 1, 1) := by decide +kernel
theorem dX5_readCards_3 : decode cX5_readCards 3 = .ok (.sipush 400, 3) := by decide +kernel
theorem dX5_readCards_6 : decode cX5_readCards 6 = .ok (.invokevirtual 83, 3) := by decide +kernel
theorem dX5_readCards_9 : decode cX5_readCards 9 = .ok (.putfield 42, 3) := by decide +kernel
theorem dX5_readCards_12 : decode cX5_readCards 12 = .ok (.aload_n 1, 1) := by decide +kernel
theorem dX5_readCards_13 : decode cX5_readCards 13 = .ok (.getfield 42, 3) := by decide +kernel
theorem dX5_readCards_16 : decode cX5_readCards 16 = .ok (.iconst (-1), 1) := by decide +kernel
theorem dX5_readCards_17 : decode cX5_readCards 17 = .ok (.if_icmp .eq 7, 3) := by decide +kernel
theorem dX5_readCards_20 : decode cX5_readCards 20 = .ok (.iconst 1, 1) := by decide +kernel
theorem dX5_readCards_21 : decode cX5_readCards 21 = .ok (.goto 4, 3) := by decide +kernel
theorem dX5_readCards_24 : decode cX5_readCards 24 = .ok (.iconst 0, 1) := by decide +kernel
theorem dX5_readCards_25 : decode cX5_readCards 25 = .ok (.ireturn, 1) := by decide +kernel
set_option maxRecDepth 20000 in
theorem ggX5_readStart_X5_readToken : GoodIn wsX5_readStart wsX5_readToken := goodIn_r _ [6, 7, 8, 9, 10, 11, 12, 13, 14, 15, 16, 17, 18, 19, 20, 21, 22, 23, 24, 25, 26, 27, 28, 29, 30, 31, 32, 33, 34, 35, 36, 37, 38, 39, 40, 41, 42, 43, 44, 45, 46, 47, 48, 49, 50, 51, 52, 53, 54, 55, 56, 57, 58, 59, 60, 61, 62, 63, 64, 65, 66, 67, 68, 69, 70, 71, 72, 91, 92, 93, 94, 95, 96, 97, 98, 99, 100, 101] (by decide +kernel) (by decide +kernel)
set_option maxRecDepth 20000 in
theorem gX5_readStart_X5_readToken : GoodIn wsX5_readStart (wsV RX5 65 RX5 yX5_readToken wsX5_readToken) := goodIn_app (goodIn_of _ (by decide +kernel)) ggX5_readStart_X5_readToken
set_option maxRecDepth 20000 in
theorem ggX5_readStart_X5_readNumber : GoodIn wsX5_readStart wsX5_readNumber := goodIn_r _ [76, 7, 77, 78, 79, 11, 80, 15, 14, 13, 81, 82, 83, 84, 69, 70, 71, 72, 65, 66, 67, 68, 91, 92, 93, 94, 95, 96, 97] (by decide +kernel) (by decide +kernel)
set_option maxRecDepth 20000 in
theorem gX5_readStart_X5_readNumber : GoodIn wsX5_readStart (wsV RX5 83 RX5 yX5_readNumber wsX5_readNumber) := goodIn_app (goodIn_of _ (by decide +kernel)) ggX5_readStart_X5_readNumber
theorem dX5_readStart_0 : decode cX5_readStart 0 = .ok (.aload_n 0, 1) := by decide +kernel
theorem dX5_readStart_1 : decode cX5_readStart 1 = .ok (.ldc 87, 2) := by decide +kernel
theorem dX5_readStart_3 : decode cX5_readStart 3 = .ok (.invokevirtual 65, 3) := by decide +kernel
theorem dX5_readStart_6 : decode cX5_readStart 6 = .ok (.istore_n 2, 1) := by decide +kernel
theorem dX5_readStart_7 : decode cX5_readStart 7 = .ok (.aload_n 0, 1) := by decide +kernel
theorem dX5_readStart_8 : decode cX5_readStart 8 = .ok (.iconst 0, 1) := by decide +kernel
theorem dX5_readStart_9 : decode cX5_readStart 9 = .ok (.sipush 9999, 3) := by decide +kernel
theorem dX5_readStart_12 : decode cX5_readStart 12 = .ok (.invokevirtual 83, 3) := by decide +kernel
theorem dX5_readStart_15 : decode cX5_readStart 15 = .ok (.istore_n 3, 1) := by decide +kernel
theorem dX5_readStart_16 : decode cX5_readStart 16 = .ok (.aload_n 1, 1) := by decide +kernel
theorem dX5_readStart_17 : decode cX5_readStart 17 = .ok (.iload_n 2, 1) := by decide +kernel
theorem dX5_readStart_18 : decode cX5_readStart 18 = .ok (.ifCond .eq 8, 3) := by decide +kernel
theorem dX5_readStart_21 : decode cX5_readStart 21 = .ok (.iload_n 3, 1) := by decide +kernel
theorem dX5_readStart_22 : decode cX5_readStart 22 = .ok (.ineg, 1) := by decide +kernel
theorem dX5_readStart_23 : decode cX5_readStart 23 = .ok (.goto 4, 3) := by decide +kernel
theorem dX5_readStart_26 : decode cX5_readStart 26 = .ok (.iload_n 3, 1) := by decide +kernel
theorem dX5_readStart_27 : decode cX5_readStart 27 = .ok (.putfield 89, 3) := by decide +kernel
theorem dX5_readStart_30 : decode cX5_readStart 30 = .ok (.iload_n 3, 1) := by decide +kernel
theorem dX5_readStart_31 : decode cX5_readStart 31 = .ok (.iconst (-1), 1) := by decide +kernel
theorem dX5_readStart_32 : decode cX5_readStart 32 = .ok (.if_icmp .eq 7, 3) := by decide +kernel
theorem dX5_readStart_35 : decode cX5_readStart 35 = .ok (.iconst 1, 1) := by decide +kernel
theorem dX5_readStart_36 : decode cX5_readStart 36 = .ok (.goto 4, 3) := by decide +kernel
theorem dX5_readStart_39 : decode cX5_readStart 39 = .ok (.iconst 0, 1) := by decide +kernel
theorem dX5_readStart_40 : decode cX5_readStart 40 = .ok (.ireturn, 1) := by decide +kernel
set_option maxRecDepth 20000 in
theorem ggX5_readStep_X5_readNumber : GoodIn wsX5_readStep wsX5_readNumber := goodIn_r _ [8, 9, 10, 11, 12, 13, 14, 15, 16, 17, 18, 19, 20, 21, 22, 23, 24, 25, 26, 27, 28, 29, 36, 37, 38, 39, 40, 41, 42] (by decide +kernel) (by decide +kernel)
set_option maxRecDepth 20000 in
theorem gX5_readStep_X5_readNumber : GoodIn wsX5_readStep (wsV RX5 83 RX5 yX5_readNumber wsX5_readNumber) := goodIn_app (goodIn_of _ (by decide +kernel)) ggX5_readStep_X5_readNumber
theorem dX5_readStep_0 : decode cX5_readStep 0 = .ok (.aload_n 1, 1) := by decide +kernel
theorem dX5_readStep_1 : decode cX5_readStep 1 = .ok (.aload_n 1, 1) := by decide +kernel
theorem dX5_readStep_2 : decode cX5_readStep 2 = .ok (.getfield 79, 3) := by decide +kernel
theorem dX5_readStep_5 : decode cX5_readStep 5 = .ok (.getfield 92, 3) := by decide +kernel
theorem dX5_readStep_8 : decode cX5_readStep 8 = .ok (.ifCond .eq 14, 3) := by decide +kernel
theorem dX5_readStep_11 : decode cX5_readStep 11 = .ok (.aload_n 0, 1) := by decide +kernel
theorem dX5_readStep_12 : decode cX5_readStep 12 = .ok (.iconst 0, 1) := by decide +kernel
theorem dX5_readStep_13 : decode cX5_readStep 13 = .ok (.sipush 999, 3) := by decide +kernel
theorem dX5_readStep_16 : decode cX5_readStep 16 = .ok (.invokevirtual 83, 3) := by decide +kernel
theorem dX5_readStep_19 : decode cX5_readStep 19 = .ok (.goto 4, 3) := by decide +kernel
theorem dX5_readStep_22 : decode cX5_readStep 22 = .ok (.iconst 0, 1) := by decide +kernel
theorem dX5_readStep_23 : decode cX5_readStep 23 = .ok (.putfield 96, 3) := by decide +kernel
theorem dX5_readStep_26 : decode cX5_readStep 26 = .ok (.aload_n 1, 1) := by decide +kernel
theorem dX5_readStep_27 : decode cX5_readStep 27 = .ok (.getfield 96, 3) := by decide +kernel
theorem dX5_readStep_30 : decode cX5_readStep 30 = .ok (.iconst (-1), 1) := by decide +kernel
theorem dX5_readStep_31 : decode cX5_readStep 31 = .ok (.if_icmp .eq 7, 3) := by decide +kernel
theorem dX5_readStep_34 : decode cX5_readStep 34 = .ok (.iconst 1, 1) := by decide +kernel
theorem dX5_readStep_35 : decode cX5_readStep 35 = .ok (.goto 4, 3) := by decide +kernel
theorem dX5_readStep_38 : decode cX5_readStep 38 = .ok (.iconst 0, 1) := by decide +kernel
theorem dX5_readStep_39 : decode cX5_readStep 39 = .ok (.ireturn, 1) := by decide +kernel
set_option maxRecDepth 20000 in
theorem ggX5_readLength_X5_readNumber : GoodIn wsX5_readLength wsX5_readNumber := goodIn_r _ [8, 9, 10, 11, 12, 13, 14, 15, 16, 17, 18, 19, 20, 21, 22, 23, 24, 25, 26, 27, 28, 29, 36, 37, 38, 39, 40, 41, 42] (by decide +kernel) (by decide +kernel)
set_option maxRecDepth 20000 in
theorem gX5_readLength_X5_readNumber : GoodIn wsX5_readLength (wsV RX5 83 RX5 yX5_readNumber wsX5_readNumber) := goodIn_app (goodIn_of _ (by decide +kernel)) ggX5_readLength_X5_readNumber
theorem dX5_readLength_0 : decode cX5_readLength 0 = .ok (.aload_n 1, 1) := by decide +kernel
theorem dX5_readLength_1 : decode cX5_readLength 1 = .ok (.aload_n 1, 1) := by decide +kernel
theorem dX5_readLength_2 : decode cX5_readLength 2 = .ok (.getfield 79, 3) := by decide +kernel
theorem dX5_readLength_5 : decode cX5_readLength 5 = .ok (.getfield 99, 3) := by decide +kernel
theorem dX5_readLength_8 : decode cX5_readLength 8 = .ok (.ifCond .eq 13, 3) := by decide +kernel
theorem dX5_readLength_11 : decode cX5_readLength 11 = .ok (.aload_n 0, 1) := by decide +kernel
theorem dX5_readLength_12 : decode cX5_readLength 12 = .ok (.iconst 1, 1) := by decide +kernel
theorem dX5_readLength_13 : decode cX5_readLength 13 = .ok (.bipush 99, 2) := by decide +kernel
theorem dX5_readLength_15 : decode cX5_readLength 15 = .ok (.invokevirtual 83, 3) := by decide +kernel
theorem dX5_readLength_18 : decode cX5_readLength 18 = .ok (.goto 4, 3) := by decide +kernel
theorem dX5_readLength_21 : decode cX5_readLength 21 = .ok (.iconst 0, 1) := by decide +kernel
theorem dX5_readLength_22 : decode cX5_readLength 22 = .ok (.putfield 102, 3) := by decide +kernel
theorem dX5_readLength_25 : decode cX5_readLength 25 = .ok (.aload_n 1, 1) := by decide +kernel
theorem dX5_readLength_26 : decode cX5_readLength 26 = .ok (.getfield 102, 3) := by decide +kernel
theorem dX5_readLength_29 : decode cX5_readLength 29 = .ok (.iconst (-1), 1) := by decide +kernel
theorem dX5_readLength_30 : decode cX5_readLength 30 = .ok (.if_icmp .eq 7, 3) := by decide +kernel
theorem dX5_readLength_33 : decode cX5_readLength 33 = .ok (.iconst 1, 1) := by decide +kernel
theorem dX5_readLength_34 : decode cX5_readLength 34 = .ok (.goto 4, 3) := by decide +kernel
theorem dX5_readLength_37 : decode cX5_readLength 37 = .ok (.iconst 0, 1) := by decide +kernel
theorem dX5_readLength_38 : decode cX5_readLength 38 = .ok (.ireturn, 1) := by decide +kernel
set_option maxRecDepth 20000 in
theorem ggX5_readDivisor_X5_readToken : GoodIn wsX5_readDivisor wsX5_readToken := goodIn_r _ [6, 7, 8, 9, 10, 11, 12, 13, 14, 15, 16, 17, 18, 19, 20, 21, 22, 23, 24, 25, 26, 27, 28, 29, 30, 31, 32, 33, 34, 35, 36, 37, 38, 39, 40, 41, 42, 43, 44, 45, 46, 47, 48, 49, 50, 51, 52, 53, 54, 55, 56, 57, 58, 59, 60, 61, 62, 63, 64, 65, 66, 67, 68, 69, 70, 71, 72, 91, 92, 93, 94, 95, 96, 97, 98, 99, 100, 101] (by decide +kernel) (by decide +kernel)
set_option maxRecDepth 20000 in
theorem gX5_readDivisor_X5_readToken : GoodIn wsX5_readDivisor (wsV RX5 65 RX5 yX5_readToken wsX5_readToken) := goodIn_app (goodIn_of _ (by decide +kernel)) ggX5_readDivisor_X5_readToken
set_option maxRecDepth 20000 in
theorem ggX5_readDivisor_X5_readNumber : GoodIn wsX5_readDivisor wsX5_readNumber := goodIn_r _ [76, 7, 77, 78, 79, 11, 80, 15, 14, 13, 81, 82, 83, 84, 69, 70, 71, 72, 65, 66, 67, 68, 91, 92, 93, 94, 95, 96, 97] (by decide +kernel) (by decide +kernel)
set_option maxRecDepth 20000 in
theorem gX5_readDivisor_X5_readNumber : GoodIn wsX5_readDivisor (wsV RX5 83 RX5 yX5_readNumber wsX5_readNumber) := goodIn_app (goodIn_of _ (by decide +kernel)) ggX5_readDivisor_X5_readNumber
theorem dX5_readDivisor_0 : decode cX5_readDivisor 0 = .ok (.aload_n 1, 1) := by decide +kernel
theorem dX5_readDivisor_1 : decode cX5_readDivisor 1 = .ok (.aload_n 0, 1) := by decide +kernel
theorem dX5_readDivisor_2 : decode cX5_readDivisor 2 = .ok (.ldc 105, 2) := by decide +kernel
theorem dX5_readDivisor_4 : decode cX5_readDivisor 4 = .ok (.invokevirtual 65, 3) := by decide +kernel
theorem dX5_readDivisor_7 : decode cX5_readDivisor 7 = .ok (.ifCond .eq 13, 3) := by decide +kernel
theorem dX5_readDivisor_10 : decode cX5_readDivisor 10 = .ok (.aload_n 0, 1) := by decide +kernel
theorem dX5_readDivisor_11 : decode cX5_readDivisor 11 = .ok (.iconst 1, 1) := by decide +kernel
theorem dX5_readDivisor_12 : decode cX5_readDivisor 12 = .ok (.bipush 99, 2) := by decide +kernel
theorem dX5_readDivisor_14 : decode cX5_readDivisor 14 = .ok (.invokevirtual 83, 3) := by decide +kernel
theorem dX5_readDivisor_17 : decode cX5_readDivisor 17 = .ok (.goto 4, 3) := by decide +kernel
theorem dX5_readDivisor_20 : decode cX5_readDivisor 20 = .ok (.iconst 0, 1) := by decide +kernel
theorem dX5_readDivisor_21 : decode cX5_readDivisor 21 = .ok (.putfield 107, 3) := by decide +kernel
theorem dX5_readDivisor_24 : decode cX5_readDivisor 24 = .ok (.aload_n 1, 1) := by decide +kernel
theorem dX5_readDivisor_25 : decode cX5_readDivisor 25 = .ok (.getfield 107, 3) := by decide +kernel
theorem dX5_readDivisor_28 : decode cX5_readDivisor 28 = .ok (.iconst (-1), 1) := by decide +kernel
theorem dX5_readDivisor_29 : decode cX5_readDivisor 29 = .ok (.if_icmp .eq 7, 3) := by decide +kernel
theorem dX5_readDivisor_32 : decode cX5_readDivisor 32 = .ok (.iconst 1, 1) := by decide +kernel
theorem dX5_readDivisor_33 : decode cX5_readDivisor 33 = .ok (.goto 4, 3) := by decide +kernel
theorem dX5_readDivisor_36 : decode cX5_readDivisor 36 = .ok (.iconst 0, 1) := by decide +kernel
theorem dX5_readDivisor_37 : decode cX5_readDivisor 37 = .ok (.ireturn, 1) := by decide +kernel
set_option maxRecDepth 20000 in
theorem ggX5_readToken_X9_isToken : GoodIn wsX5_readToken wsX9_isToken := goodIn_r _ [6, 7, 8, 9, 10, 11, 12, 13, 14, 15, 16, 17, 18, 19, 20, 21, 22, 23, 24, 25, 26, 27, 28, 29, 30, 31, 32, 33, 34, 35, 36, 37, 38, 39, 40, 41, 42, 43, 44, 45, 46, 47, 48, 49, 50, 51, 52, 53, 54, 55, 56, 57, 58, 70, 71, 72, 73, 74, 75, 76, 77] (by decide +kernel) (by decide +kernel)
set_option maxRecDepth 20000 in
theorem gX5_readToken_X9_isToken : GoodIn wsX5_readToken (wsV RX5 110 RX9 yX9_isToken wsX9_isToken) := goodIn_app (goodIn_of _ (by decide +kernel)) ggX5_readToken_X9_isToken
set_option maxRecDepth 20000 in
theorem ggX5_readToken_X9_toNextToken : GoodIn wsX5_readToken wsX9_toNextToken := goodIn_r _ [62, 7, 8, 63, 9, 64, 65, 5, 66, 70, 71, 72, 73] (by decide +kernel) (by decide +kernel)
set_option maxRecDepth 20000 in
theorem gX5_readToken_X9_toNextToken : GoodIn wsX5_readToken (wsV RX5 113 RX9 yX9_toNextToken wsX9_toNextToken) := goodIn_app (goodIn_of _ (by decide +kernel)) ggX5_readToken_X9_toNextToken
theorem dX5_readToken_0 : decode cX5_readToken 0 = .ok (.aload_n 0, 1) := by decide +kernel
theorem dX5_readToken_1 : decode cX5_readToken 1 = .ok (.getfield 17, 3) := by decide +kernel
theorem dX5_readToken_4 : decode cX5_readToken 4 = .ok (.aload_n 1, 1) := by decide +kernel
theorem dX5_readToken_5 : decode cX5_readToken 5 = .ok (.invokevirtual 110, 3) := by decide +kernel
theorem dX5_readToken_8 : decode cX5_readToken 8 = .ok (.ifCond .ne 5, 3) := by decide +kernel
theorem dX5_readToken_11 : decode cX5_readToken 11 = .ok (.iconst 0, 1) := by decide +kernel
theorem dX5_readToken_12 : decode cX5_readToken 12 = .ok (.ireturn, 1) := by decide +kernel
theorem dX5_readToken_13 : decode cX5_readToken 13 = .ok (.aload_n 0, 1) := by decide +kernel
theorem dX5_readToken_14 : decode cX5_readToken 14 = .ok (.getfield 17, 3) := by decide +kernel
theorem dX5_readToken_17 : decode cX5_readToken 17 = .ok (.invokevirtual 113, 3) := by decide +kernel
theorem dX5_readToken_20 : decode cX5_readToken 20 = .ok (.iconst 1, 1) := by decide +kernel
theorem dX5_readToken_21 : decode cX5_readToken 21 = .ok (.ireturn, 1) := by decide +kernel
set_option maxRecDepth 20000 in
theorem ggX5_readNumber_X9_valueOfNumber : GoodIn wsX5_readNumber wsX9_valueOfNumber := goodIn_r _ [6, 7, 8, 9, 10, 11, 12, 5, 13, 14, 15, 16, 17, 25, 26, 27, 28] (by decide +kernel) (by decide +kernel)
set_option maxRecDepth 20000 in
theorem gX5_readNumber_X9_valueOfNumber : GoodIn wsX5_readNumber (wsV RX5 116 RX9 yX9_valueOfNumber wsX9_valueOfNumber) := goodIn_app (goodIn_of _ (by decide +kernel)) ggX5_readNumber_X9_valueOfNumber
set_option maxRecDepth 20000 in
theorem ggX5_readNumber_X9_toNextToken : GoodIn wsX5_readNumber wsX9_toNextToken := goodIn_r _ [21, 9, 8, 14, 7, 15, 16, 5, 17, 25, 26, 27, 28] (by decide +kernel) (by decide +kernel)
set_option maxRecDepth 20000 in
theorem gX5_readNumber_X9_toNextToken : GoodIn wsX5_readNumber (wsV RX5 113 RX9 yX9_toNextToken wsX9_toNextToken) := goodIn_app (goodIn_of _ (by decide +kernel)) ggX5_readNumber_X9_toNextToken
theorem dX5_readNumber_0 : decode cX5_readNumber 0 = .ok (.aload_n 0, 1) := by decide +kernel
theorem dX5_readNumber_1 : decode cX5_readNumber 1 = .ok (.getfield 17, 3) := by decide +kernel
theorem dX5_readNumber_4 : decode cX5_readNumber 4 = .ok (.invokevirtual 116, 3) := by decide +kernel
theorem dX5_readNumber_7 : decode cX5_readNumber 7 = .ok (.istore_n 3, 1) := by decide +kernel
theorem dX5_readNumber_8 : decode cX5_readNumber 8 = .ok (.iload_n 3, 1) := by decide +kernel
theorem dX5_readNumber_9 : decode cX5_readNumber 9 = .ok (.iload_n 1, 1) := by decide +kernel
theorem dX5_readNumber_10 : decode cX5_readNumber 10 = .ok (.if_icmp .lt 8, 3) := by decide +kernel
theorem dX5_readNumber_13 : decode cX5_readNumber 13 = .ok (.iload_n 3, 1) := by decide +kernel
theorem dX5_readNumber_14 : decode cX5_readNumber 14 = .ok (.iload_n 2, 1) := by decide +kernel
theorem dX5_readNumber_15 : decode cX5_readNumber 15 = .ok (.if_icmp .le 5, 3) := by decide +kernel
theorem dX5_readNumber_18 : decode cX5_readNumber 18 = .ok (.iconst (-1), 1) := by decide +kernel
theorem dX5_readNumber_19 : decode cX5_readNumber 19 = .ok (.ireturn, 1) := by decide +kernel
theorem dX5_readNumber_20 : decode cX5_readNumber 20 = .ok (.aload_n 0, 1) := by decide +kernel
theorem dX5_readNumber_21 : decode cX5_readNumber 21 = .ok (.getfield 17, 3) := by decide +kernel
theorem dX5_readNumber_24 : decode cX5_readNumber 24 = .ok (.invokevirtual 113, 3) := by decide +kernel
theorem dX5_readNumber_27 : decode cX5_readNumber 27 = .ok (.iload_n 3, 1) := by decide +kernel
theorem dX5_readNumber_28 : decode cX5_readNumber 28 = .ok (.ireturn, 1) := by decide +kernel
theorem dX6_init_0 : decode cX6_init 0 = .ok (.aload_n 0, 1) := by decide +kernel
theorem dX6_init_1 : decode cX6_init 1 = .ok (.invokespecial 3, 3) := by decide +kernel
theorem dX6_init_4 : decode cX6_init 4 = .ok (.aload_n 0, 1) := by decide +kernel
theorem dX6_init_5 : decode cX6_init 5 = .ok (.sipush 800, 3) := by decide +kernel
theorem dX6_init_8 : decode cX6_init 8 = .ok (.newarray .int, 2) := by decide +kernel
theorem dX6_init_10 : decode cX6_init 10 = .ok (.putfield 9, 3) := by decide +kernel
theorem dX6_init_13 : decode cX6_init 13 = .ok (.return_, 1) := by decide +kernel
set_option maxRecDepth 20000 in
theorem ggX6_append_X6_insert : GoodIn wsX6_append wsX6_insert := goodIn_r _ [6, 1, 7, 8, 9, 10, 11, 12, 13] (by decide +kernel) (by decide +kernel)
set_option maxRecDepth 20000 in
theorem gX6_append_X6_insert : GoodIn wsX6_append (wsV RX6 19 RX6 yX6_insert wsX6_insert) := goodIn_app (goodIn_of _ (by decide +kernel)) ggX6_append_X6_insert
theorem dX6_append_0 : decode cX6_append 0 = .ok (.aload_n 0, 1) := by decide +kernel
theorem dX6_append_1 : decode cX6_append 1 = .ok (.aload_n 0, 1) := by decide +kernel
theorem dX6_append_2 : decode cX6_append 2 = .ok (.getfield 15, 3) := by decide +kernel
theorem dX6_append_5 : decode cX6_append 5 = .ok (.iload_n 1, 1) := by decide +kernel
theorem dX6_append_6 : decode cX6_append 6 = .ok (.invokevirtual 19, 3) := by decide +kernel
theorem dX6_append_9 : decode cX6_append 9 = .ok (.return_, 1) := by decide +kernel
theorem dX6_insert_0 : decode cX6_insert 0 = .ok (.aload_n 0, 1) := by decide +kernel
theorem dX6_insert_1 : decode cX6_insert 1 = .ok (.getfield 15, 3) := by decide +kernel
theorem dX6_insert_4 : decode cX6_insert 4 = .ok (.sipush 800, 3) := by decide +kernel
theorem dX6_insert_7 : decode cX6_insert 7 = .ok (.if_icmp .ge 15, 3) := by decide +kernel
theorem dX6_insert_10 : decode cX6_insert 10 = .ok (.iload_n 1, 1) := by decide +kernel
theorem dX6_insert_11 : decode cX6_insert 11 = .ok (.ifCond .lt 11, 3) := by decide +kernel
theorem dX6_insert_14 : decode cX6_insert 14 = .ok (.iload_n 1, 1) := by decide +kernel
theorem dX6_insert_15 : decode cX6_insert 15 = .ok (.aload_n 0, 1) := by decide +kernel
theorem dX6_insert_16 : decode cX6_insert 16 = .ok (.getfield 15, 3) := by decide +kernel
theorem dX6_insert_19 : decode cX6_insert 19 = .ok (.if_icmp .le 4, 3) := by decide +kernel
theorem dX6_insert_22 : decode cX6_insert 22 = .ok (.return_, 1) := by decide +kernel
theorem dX6_insert_23 : decode cX6_insert 23 = .ok (.aload_n 0, 1) := by decide +kernel
theorem dX6_insert_24 : decode cX6_insert 24 = .ok (.getfield 9, 3) := by decide +kernel
theorem dX6_insert_27 : decode cX6_insert 27 = .ok (.iload_n 1, 1) := by decide +kernel
theorem dX6_insert_28 : decode cX6_insert 28 = .ok (.aload_n 0, 1) := by decide +kernel
theorem dX6_insert_29 : decode cX6_insert 29 = .ok (.getfield 9, 3) := by decide +kernel
theorem dX6_insert_32 : decode cX6_insert 32 = .ok (.iload_n 1, 1) := by decide +kernel
theorem dX6_insert_33 : decode cX6_insert 33 = .ok (.iconst 1, 1) := by decide +kernel
theorem dX6_insert_34 : decode cX6_insert 34 = .ok (.iadd, 1) := by decide +kernel
theorem dX6_insert_35 : decode cX6_insert 35 = .ok (.aload_n 0, 1) := by decide +kernel
theorem dX6_insert_36 : decode cX6_insert 36 = .ok (.getfield 15, 3) := by decide +kernel
theorem dX6_insert_39 : decode cX6_insert 39 = .ok (.iload_n 1, 1) := by decide +kernel
theorem dX6_insert_40 : decode cX6_insert 40 = .ok (.isub, 1) := by decide +kernel
theorem dX6_insert_41 : decode cX6_insert 41 = .ok (.invokestatic 23, 3) := by decide +kernel
theorem dX6_insert_44 : decode cX6_insert 44 = .ok (.aload_n 0, 1) := by decide +kernel
theorem dX6_insert_45 : decode cX6_insert 45 = .ok (.getfield 9, 3) := by decide +kernel
theorem dX6_insert_48 : decode cX6_insert 48 = .ok (.iload_n 1, 1) := by decide +kernel
theorem dX6_insert_49 : decode cX6_insert 49 = .ok (.iload_n 2, 1) := by decide +kernel
theorem dX6_insert_50 : decode cX6_insert 50 = .ok (.iastore, 1) := by decide +kernel
theorem dX6_insert_51 : decode cX6_insert 51 = .ok (.aload_n 0, 1) := by decide +kernel
theorem dX6_insert_52 : decode cX6_insert 52 = .ok (.dup, 1) := by decide +kernel
theorem dX6_insert_53 : decode cX6_insert 53 = .ok (.getfield 15, 3) := by decide +kernel
theorem dX6_insert_56 : decode cX6_insert 56 = .ok (.iconst 1, 1) := by decide +kernel
theorem dX6_insert_57 : decode cX6_insert 57 = .ok (.iadd, 1) := by decide +kernel
theorem dX6_insert_58 : decode cX6_insert 58 = .ok (.putfield 15, 3) := by decide +kernel
theorem dX6_insert_61 : decode cX6_insert 61 = .ok (.return_, 1) := by decide +kernel
theorem dX6_takeOut_0 : decode cX6_takeOut 0 = .ok (.iload_n 1, 1) := by decide +kernel
theorem dX6_takeOut_1 : decode cX6_takeOut 1 = .ok (.ifCond .lt 11, 3) := by decide +kernel
theorem dX6_takeOut_4 : decode cX6_takeOut 4 = .ok (.iload_n 1, 1) := by decide +kernel
theorem dX6_takeOut_5 : decode cX6_takeOut 5 = .ok (.aload_n 0, 1) := by decide +kernel
theorem dX6_takeOut_6 : decode cX6_takeOut 6 = .ok (.getfield 15, 3) := by decide +kernel
theorem dX6_takeOut_9 : decode cX6_takeOut 9 = .ok (.if_icmp .lt 5, 3) := by decide +kernel
theorem dX6_takeOut_12 : decode cX6_takeOut 12 = .ok (.iconst (-1), 1) := by decide +kernel
theorem dX6_takeOut_13 : decode cX6_takeOut 13 = .ok (.ireturn, 1) := by decide +kernel
theorem dX6_takeOut_14 : decode cX6_takeOut 14 = .ok (.aload_n 0, 1) := by decide +kernel
theorem dX6_takeOut_15 : decode cX6_takeOut 15 = .ok (.getfield 9, 3) := by decide +kernel
theorem dX6_takeOut_18 : decode cX6_takeOut 18 = .ok (.iload_n 1, 1) := by decide +kernel
theorem dX6_takeOut_19 : decode cX6_takeOut 19 = .ok (.iaload, 1) := by decide +kernel
theorem dX6_takeOut_20 : decode cX6_takeOut 20 = .ok (.istore_n 2, 1) := by decide +kernel
theorem dX6_takeOut_21 : decode cX6_takeOut 21 = .ok (.aload_n 0, 1) := by decide +kernel
theorem dX6_takeOut_22 : decode cX6_takeOut 22 = .ok (.dup, 1) := by decide +kernel
theorem dX6_takeOut_23 : decode cX6_takeOut 23 = .ok (.getfield 15, 3) := by decide +kernel
theorem dX6_takeOut_26 : decode cX6_takeOut 26 = .ok (.iconst 1, 1) := by decide +kernel
theorem dX6_takeOut_27 : decode cX6_takeOut 27 = .ok (.isub, 1) := by decide +kernel
theorem dX6_takeOut_28 : decode cX6_takeOut 28 = .ok (.putfield 15, 3) := by decide +kernel
theorem dX6_takeOut_31 : decode cX6_takeOut 31 = .ok (.aload_n 0, 1) := by decide +kernel
theorem dX6_takeOut_32 : decode cX6_takeOut 32 = .ok (.getfield 9, 3) := by decide +kernel
theorem dX6_takeOut_35 : decode cX6_takeOut 35 = .ok (.iload_n 1, 1) := by decide +kernel
theorem dX6_takeOut_36 : decode cX6_takeOut 36 = .ok (.iconst 1, 1) := by decide +kernel
theorem dX6_takeOut_37 : decode cX6_takeOut 37 = .ok (.iadd, 1) := by decide +kernel
theorem dX6_takeOut_38 : decode cX6_takeOut 38 = .ok (.aload_n 0, 1) := by decide +kernel
theorem dX6_takeOut_39 : decode cX6_takeOut 39 = .ok (.getfield 9, 3) := by decide +kernel
theorem dX6_takeOut_42 : decode cX6_takeOut 42 = .ok (.iload_n 1, 1) := by decide +kernel
theorem dX6_takeOut_43 : decode cX6_takeOut 43 = .ok (.aload_n 0, 1) := by decide +kernel
theorem dX6_takeOut_44 : decode cX6_takeOut 44 = .ok (.getfield 15, 3) := by decide +kernel
theorem dX6_takeOut_47 : decode cX6_takeOut 47 = .ok (.iload_n 1, 1) := by decide +kernel
theorem dX6_takeOut_48 : decode cX6_takeOut 48 = .ok (.isub, 1) := by decide +kernel
theorem dX6_takeOut_49 : decode cX6_takeOut 49 = .ok (.invokestatic 23, 3) := by decide +kernel
theorem dX6_takeOut_52 : decode cX6_takeOut 52 = .ok (.iload_n 2, 1) := by decide +kernel
theorem dX6_takeOut_53 : decode cX6_takeOut 53 = .ok (.ireturn, 1) := by decide +kernel
theorem dX6_reverse_0 : decode cX6_reverse 0 = .ok (.iconst 0, 1) := by decide +kernel
theorem dX6_reverse_1 : decode cX6_reverse 1 = .ok (.istore_n 1, 1) := by decide +kernel
theorem dX6_reverse_2 : decode cX6_reverse 2 = .ok (.iload_n 1, 1) := by decide +kernel
theorem dX6_reverse_3 : decode cX6_reverse 3 = .ok (.aload_n 0, 1) := by decide +kernel
theorem dX6_reverse_4 : decode cX6_reverse 4 = .ok (.getfield 15, 3) := by decide +kernel
theorem dX6_reverse_7 : decode cX6_reverse 7 = .ok (.iconst 2, 1) := by decide +kernel
theorem dX6_reverse_8 : decode cX6_reverse 8 = .ok (.idiv, 1) := by decide +kernel
theorem dX6_reverse_9 : decode cX6_reverse 9 = .ok (.if_icmp .ge 49, 3) := by decide +kernel
theorem dX6_reverse_12 : decode cX6_reverse 12 = .ok (.aload_n 0, 1) := by decide +kernel
theorem dX6_reverse_13 : decode cX6_reverse 13 = .ok (.getfield 9, 3) := by decide +kernel
theorem dX6_reverse_16 : decode cX6_reverse 16 = .ok (.iload_n 1, 1) := by decide +kernel
theorem dX6_reverse_17 : decode cX6_reverse 17 = .ok (.iaload, 1) := by decide +kernel
theorem dX6_reverse_18 : decode cX6_reverse 18 = .ok (.istore_n 2, 1) := by decide +kernel
theorem dX6_reverse_19 : decode cX6_reverse 19 = .ok (.aload_n 0, 1) := by decide +kernel
theorem dX6_reverse_20 : decode cX6_reverse 20 = .ok (.getfield 9, 3) := by decide +kernel
theorem dX6_reverse_23 : decode cX6_reverse 23 = .ok (.iload_n 1, 1) := by decide +kernel
theorem dX6_reverse_24 : decode cX6_reverse 24 = .ok (.aload_n 0, 1) := by decide +kernel
theorem dX6_reverse_25 : decode cX6_reverse 25 = .ok (.getfield 9, 3) := by decide +kernel
theorem dX6_reverse_28 : decode cX6_reverse 28 = .ok (.aload_n 0, 1) := by decide +kernel
theorem dX6_reverse_29 : decode cX6_reverse 29 = .ok (.getfield 15, 3) := by decide +kernel
theorem dX6_reverse_32 : decode cX6_reverse 32 = .ok (.iconst 1, 1) := by decide +kernel
theorem dX6_reverse_33 : decode cX6_reverse 33 = .ok (.isub, 1) := by decide +kernel
theorem dX6_reverse_34 : decode cX6_reverse 34 = .ok (.iload_n 1, 1) := by decide +kernel
theorem dX6_reverse_35 : decode cX6_reverse 35 = .ok (.isub, 1) := by decide +kernel
theorem dX6_reverse_36 : decode cX6_reverse 36 = .ok (.iaload, 1) := by decide +kernel
theorem dX6_reverse_37 : decode cX6_reverse 37 = .ok (.iastore, 1) := by decide +kernel
theorem dX6_reverse_38 : decode cX6_reverse 38 = .ok (.aload_n 0, 1) := by decide +kernel
theorem dX6_reverse_39 : decode cX6_reverse 39 = .ok (.getfield 9, 3) := by decide +kernel
theorem dX6_reverse_42 : decode cX6_reverse 42 = .ok (.aload_n 0, 1) := by decide +kernel
theorem dX6_reverse_43 : decode cX6_reverse 43 = .ok (.getfield 15, 3) := by decide +kernel
theorem dX6_reverse_46 : decode cX6_reverse 46 = .ok (.iconst 1, 1) := by decide +kernel
theorem dX6_reverse_47 : decode cX6_reverse 47 = .ok (.isub, 1) := by decide +kernel
theorem dX6_reverse_48 : decode cX6_reverse 48 = .ok (.iload_n 1, 1) := by decide +kernel
theorem dX6_reverse_49 : decode cX6_reverse 49 = .ok (.isub, 1) := by decide +kernel
theorem dX6_reverse_50 : decode cX6_reverse 50 = .ok (.iload_n 2, 1) := by decide +kernel
theorem dX6_reverse_51 : decode cX6_reverse 51 = .ok (.iastore, 1) := by decide +kernel
theorem dX6_reverse_52 : decode cX6_reverse 52 = .ok (.iinc 1 1, 3) := by decide +kernel
theorem dX6_reverse_55 : decode cX6_reverse 55 = .ok (.goto (-53), 3) := by decide +kernel
theorem dX6_reverse_58 : decode cX6_reverse 58 = .ok (.return_, 1) := by decide +kernel
theorem dX6_become_0 : decode cX6_become 0 = .ok (.aload_n 0, 1) := by decide +kernel
theorem dX6_become_1 : decode cX6_become 1 = .ok (.getfield 15, 3) := by decide +kernel
theorem dX6_become_4 : decode cX6_become 4 = .ok (.aload_n 1, 1) := by decide +kernel
theorem dX6_become_5 : decode cX6_become 5 = .ok (.getfield 15, 3) := by decide +kernel
theorem dX6_become_8 : decode cX6_become 8 = .ok (.invokestatic 29, 3) := by decide +kernel
theorem dX6_become_11 : decode cX6_become 11 = .ok (.istore_n 2, 1) := by decide +kernel
theorem dX6_become_12 : decode cX6_become 12 = .ok (.aload_n 0, 1) := by decide +kernel
theorem dX6_become_13 : decode cX6_become 13 = .ok (.getfield 15, 3) := by decide +kernel
theorem dX6_become_16 : decode cX6_become 16 = .ok (.aload_n 1, 1) := by decide +kernel
theorem dX6_become_17 : decode cX6_become 17 = .ok (.getfield 15, 3) := by decide +kernel
theorem dX6_become_20 : decode cX6_become 20 = .ok (.invokestatic 35, 3) := by decide +kernel
theorem dX6_become_23 : decode cX6_become 23 = .ok (.iload_n 2, 1) := by decide +kernel
theorem dX6_become_24 : decode cX6_become 24 = .ok (.isub, 1) := by decide +kernel
theorem dX6_become_25 : decode cX6_become 25 = .ok (.istore_n 3, 1) := by decide +kernel
theorem dX6_become_26 : decode cX6_become 26 = .ok (.iconst 0, 1) := by decide +kernel
theorem dX6_become_27 : decode cX6_become 27 = .ok (.istore 4, 2) := by decide +kernel
theorem dX6_become_29 : decode cX6_become 29 = .ok (.iload 4, 2) := by decide +kernel
theorem dX6_become_31 : decode cX6_become 31 = .ok (.iload_n 2, 1) := by decide +kernel
theorem dX6_become_32 : decode cX6_become 32 = .ok (.if_icmp .ge 29, 3) := by decide +kernel
theorem dX6_become_35 : decode cX6_become 35 = .ok (.aload_n 0, 1) := by decide +kernel
theorem dX6_become_36 : decode cX6_become 36 = .ok (.getfield 9, 3) := by decide +kernel
theorem dX6_become_39 : decode cX6_become 39 = .ok (.iload 4, 2) := by decide +kernel
theorem dX6_become_41 : decode cX6_become 41 = .ok (.iaload, 1) := by decide +kernel
theorem dX6_become_42 : decode cX6_become 42 = .ok (.aload_n 1, 1) := by decide +kernel
theorem dX6_become_43 : decode cX6_become 43 = .ok (.getfield 9, 3) := by decide +kernel
theorem dX6_become_46 : decode cX6_become 46 = .ok (.iload 4, 2) := by decide +kernel
theorem dX6_become_48 : decode cX6_become 48 = .ok (.iaload, 1) := by decide +kernel
theorem dX6_become_49 : decode cX6_become 49 = .ok (.if_icmp .eq 6, 3) := by decide +kernel
theorem dX6_become_52 : decode cX6_become 52 = .ok (.iinc 3 1, 3) := by decide +kernel
theorem dX6_become_55 : decode cX6_become 55 = .ok (.iinc 4 1, 3) := by decide +kernel
theorem dX6_become_58 : decode cX6_become 58 = .ok (.goto (-29), 3) := by decide +kernel
theorem dX6_become_61 : decode cX6_become 61 = .ok (.aload_n 1, 1) := by decide +kernel
theorem dX6_become_62 : decode cX6_become 62 = .ok (.getfield 9, 3) := by decide +kernel
theorem dX6_become_65 : decode cX6_become 65 = .ok (.iconst 0, 1) := by decide +kernel
theorem dX6_become_66 : decode cX6_become 66 = .ok (.aload_n 0, 1) := by decide +kernel
theorem dX6_become_67 : decode cX6_become 67 = .ok (.getfield 9, 3) := by decide +kernel
theorem dX6_become_70 : decode cX6_become 70 = .ok (.iconst 0, 1) := by decide +kernel
theorem dX6_become_71 : decode cX6_become 71 = .ok (.aload_n 1, 1) := by decide +kernel
theorem dX6_become_72 : decode cX6_become 72 = .ok (.getfield 15, 3) := by decide +kernel
theorem dX6_become_75 : decode cX6_become 75 = .ok (.invokestatic 23, 3) := by decide +kernel
theorem dX6_become_78 : decode cX6_become 78 = .ok (.aload_n 0, 1) := by decide +kernel
theorem dX6_become_79 : decode cX6_become 79 = .ok (.aload_n 1, 1) := by decide +kernel
theorem dX6_become_80 : decode cX6_become 80 = .ok (.getfield 15, 3) := by decide +kernel
theorem dX6_become_83 : decode cX6_become 83 = .ok (.putfield 15, 3) := by decide +kernel
theorem dX6_become_86 : decode cX6_become 86 = .ok (.iload_n 3, 1) := by decide +kernel
theorem dX6_become_87 : decode cX6_become 87 = .ok (.ireturn, 1) := by decide +kernel
theorem dX7_init_0 : decode cX7_init 0 = .ok (.aload_n 0, 1) := by decide +kernel
theorem dX7_init_1 : decode cX7_init 1 = .ok (.invokespecial 1, 3) := by decide +kernel
theorem dX7_init_4 : decode cX7_init 4 = .ok (.aload_n 0, 1) := by decide +kernel
theorem dX7_init_5 : decode cX7_init 5 = .ok (.getstatic 7, 3) := by decide +kernel
theorem dX7_init_8 : decode cX7_init 8 = .ok (.putfield 13, 3) := by decide +kernel
theorem dX7_init_11 : decode cX7_init 11 = .ok (.return_, 1) := by decide +kernel
set_option maxRecDepth 20000 in
theorem ggX7_firstOf_Jx29ce0_ordinal_8abf5 : GoodIn wsX7_firstOf wsJx29ce0_ordinal_8abf5 := goodIn_r _ [11, 12] (by decide +kernel) (by decide +kernel)
set_option maxRecDepth 20000 in
theorem gX7_firstOf_Jx29ce0_ordinal_8abf5_u24X3 : GoodIn wsX7_firstOf (va_wsU RX7 24 RX3 "java/lang/Enum" ⟨"Cardcabinet$Kind", "ordinal", "()I"⟩ yJx29ce0_ordinal_8abf5 wsJx29ce0_ordinal_8abf5) := goodIn_app (goodIn_of _ (by decide +kernel)) ggX7_firstOf_Jx29ce0_ordinal_8abf5
set_option maxRecDepth 20000 in
theorem ggX7_firstOf_X10_rest : GoodIn wsX7_firstOf wsX10_rest := goodIn_r _ [15] (by decide +kernel) (by decide +kernel)
set_option maxRecDepth 20000 in
theorem gX7_firstOf_X10_rest_n38 : GoodIn wsX7_firstOf (wsX10_rest) := ggX7_firstOf_X10_rest
set_option maxRecDepth 20000 in
theorem ggX7_firstOf_X2_draw : GoodIn wsX7_firstOf wsX2_draw := goodIn_r _ [20, 21, 22, 13, 14, 15, 29] (by decide +kernel) (by decide +kernel)
set_option maxRecDepth 20000 in
theorem gX7_firstOf_X2_draw : GoodIn wsX7_firstOf (wsV RX7 44 RX2 yX2_draw wsX2_draw) := goodIn_app (goodIn_of _ (by decide +kernel)) ggX7_firstOf_X2_draw
theorem dX7_firstOf_0 : decode cX7_firstOf 0 = .ok (.getstatic 18, 3) := by decide +kernel
theorem dX7_firstOf_3 : decode cX7_firstOf 3 = .ok (.aload_n 0, 1) := by decide +kernel
theorem dX7_firstOf_4 : decode cX7_firstOf 4 = .ok (.getfield 13, 3) := by decide +kernel
theorem dX7_firstOf_7 : decode cX7_firstOf 7 = .ok (.invokevirtual 24, 3) := by decide +kernel
theorem dX7_firstOf_10 : decode cX7_firstOf 10 = .ok (.iaload, 1) := by decide +kernel
theorem dX7_firstOf_11 : decode cX7_firstOf 11 = .ok (.tableswitch 115 1 5 #[33, 45, 57, 80, 99], 33) := by decide +kernel
theorem dX7_firstOf_44 : decode cX7_firstOf 44 = .ok (.aload_n 0, 1) := by decide +kernel
theorem dX7_firstOf_45 : decode cX7_firstOf 45 = .ok (.getfield 28, 3) := by decide +kernel
theorem dX7_firstOf_48 : decode cX7_firstOf 48 = .ok (.iload_n 1, 1) := by decide +kernel
theorem dX7_firstOf_49 : decode cX7_firstOf 49 = .ok (.aload_n 0, 1) := by decide +kernel
theorem dX7_firstOf_50 : decode cX7_firstOf 50 = .ok (.getfield 32, 3) := by decide +kernel
theorem dX7_firstOf_53 : decode cX7_firstOf 53 = .ok (.imul, 1) := by decide +kernel
theorem dX7_firstOf_54 : decode cX7_firstOf 54 = .ok (.iadd, 1) := by decide +kernel
theorem dX7_firstOf_55 : decode cX7_firstOf 55 = .ok (.ireturn, 1) := by decide +kernel
theorem dX7_firstOf_56 : decode cX7_firstOf 56 = .ok (.aload_n 0, 1) := by decide +kernel
theorem dX7_firstOf_57 : decode cX7_firstOf 57 = .ok (.getfield 28, 3) := by decide +kernel
theorem dX7_firstOf_60 : decode cX7_firstOf 60 = .ok (.iload_n 1, 1) := by decide +kernel
theorem dX7_firstOf_61 : decode cX7_firstOf 61 = .ok (.aload_n 0, 1) := by decide +kernel
theorem dX7_firstOf_62 : decode cX7_firstOf 62 = .ok (.getfield 32, 3) := by decide +kernel
theorem dX7_firstOf_65 : decode cX7_firstOf 65 = .ok (.imul, 1) := by decide +kernel
theorem dX7_firstOf_66 : decode cX7_firstOf 66 = .ok (.isub, 1) := by decide +kernel
theorem dX7_firstOf_67 : decode cX7_firstOf 67 = .ok (.ireturn, 1) := by decide +kernel
theorem dX7_firstOf_68 : decode cX7_firstOf 68 = .ok (.iload_n 1, 1) := by decide +kernel
theorem dX7_firstOf_69 : decode cX7_firstOf 69 = .ok (.iconst 2, 1) := by decide +kernel
theorem dX7_firstOf_70 : decode cX7_firstOf 70 = .ok (.irem, 1) := by decide +kernel
theorem dX7_firstOf_71 : decode cX7_firstOf 71 = .ok (.ifCond .ne 10, 3) := by decide +kernel
theorem dX7_firstOf_74 : decode cX7_firstOf 74 = .ok (.aload_n 0, 1) := by decide +kernel
theorem dX7_firstOf_75 : decode cX7_firstOf 75 = .ok (.getfield 28, 3) := by decide +kernel
theorem dX7_firstOf_78 : decode cX7_firstOf 78 = .ok (.goto 12, 3) := by decide +kernel
theorem dX7_firstOf_81 : decode cX7_firstOf 81 = .ok (.aload_n 0, 1) := by decide +kernel
theorem dX7_firstOf_82 : decode cX7_firstOf 82 = .ok (.getfield 28, 3) := by decide +kernel
theorem dX7_firstOf_85 : decode cX7_firstOf 85 = .ok (.aload_n 0, 1) := by decide +kernel
theorem dX7_firstOf_86 : decode cX7_firstOf 86 = .ok (.getfield 32, 3) := by decide +kernel
theorem dX7_firstOf_89 : decode cX7_firstOf 89 = .ok (.iadd, 1) := by decide +kernel
theorem dX7_firstOf_90 : decode cX7_firstOf 90 = .ok (.ireturn, 1) := by decide +kernel
theorem dX7_firstOf_91 : decode cX7_firstOf 91 = .ok (.aload_n 0, 1) := by decide +kernel
theorem dX7_firstOf_92 : decode cX7_firstOf 92 = .ok (.getfield 28, 3) := by decide +kernel
theorem dX7_firstOf_95 : decode cX7_firstOf 95 = .ok (.aload_n 0, 1) := by decide +kernel
theorem dX7_firstOf_96 : decode cX7_firstOf 96 = .ok (.getfield 32, 3) := by decide +kernel
theorem dX7_firstOf_99 : decode cX7_firstOf 99 = .ok (.iload_n 1, 1) := by decide +kernel
theorem dX7_firstOf_100 : decode cX7_firstOf 100 = .ok (.aload_n 0, 1) := by decide +kernel
theorem dX7_firstOf_101 : decode cX7_firstOf 101 = .ok (.getfield 35, 3) := by decide +kernel
theorem dX7_firstOf_104 : decode cX7_firstOf 104 = .ok (.invokestatic 38, 3) := by decide +kernel
theorem dX7_firstOf_107 : decode cX7_firstOf 107 = .ok (.imul, 1) := by decide +kernel
theorem dX7_firstOf_108 : decode cX7_firstOf 108 = .ok (.iadd, 1) := by decide +kernel
theorem dX7_firstOf_109 : decode cX7_firstOf 109 = .ok (.ireturn, 1) := by decide +kernel
theorem dX7_firstOf_110 : decode cX7_firstOf 110 = .ok (.aload_n 0, 1) := by decide +kernel
theorem dX7_firstOf_111 : decode cX7_firstOf 111 = .ok (.getfield 28, 3) := by decide +kernel
theorem dX7_firstOf_114 : decode cX7_firstOf 114 = .ok (.aload_n 2, 1) := by decide +kernel
theorem dX7_firstOf_115 : decode cX7_firstOf 115 = .ok (.aload_n 0, 1) := by decide +kernel
theorem dX7_firstOf_116 : decode cX7_firstOf 116 = .ok (.getfield 32, 3) := by decide +kernel
theorem dX7_firstOf_119 : decode cX7_firstOf 119 = .ok (.iconst 1, 1) := by decide +kernel
theorem dX7_firstOf_120 : decode cX7_firstOf 120 = .ok (.iadd, 1) := by decide +kernel
theorem dX7_firstOf_121 : decode cX7_firstOf 121 = .ok (.invokevirtual 44, 3) := by decide +kernel
theorem dX7_firstOf_124 : decode cX7_firstOf 124 = .ok (.iadd, 1) := by decide +kernel
theorem dX7_firstOf_125 : decode cX7_firstOf 125 = .ok (.ireturn, 1) := by decide +kernel
theorem dX7_firstOf_126 : decode cX7_firstOf 126 = .ok (.aload_n 0, 1) := by decide +kernel
theorem dX7_firstOf_127 : decode cX7_firstOf 127 = .ok (.getfield 28, 3) := by decide +kernel
theorem dX7_firstOf_130 : decode cX7_firstOf 130 = .ok (.ireturn, 1) := by decide +kernel
set_option maxRecDepth 20000 in
theorem ggX7_secondOf_X10_rest : GoodIn wsX7_secondOf wsX10_rest := goodIn_r _ [4] (by decide +kernel) (by decide +kernel)
set_option maxRecDepth 20000 in
theorem gX7_secondOf_X10_rest_n38 : GoodIn wsX7_secondOf (wsX10_rest) := ggX7_secondOf_X10_rest
theorem dX7_secondOf_0 : decode cX7_secondOf 0 = .ok (.iload_n 1, 1) := by decide +kernel
theorem dX7_secondOf_1 : decode cX7_secondOf 1 = .ok (.aload_n 0, 1) := by decide +kernel
theorem dX7_secondOf_2 : decode cX7_secondOf 2 = .ok (.getfield 50, 3) := by decide +kernel
theorem dX7_secondOf_5 : decode cX7_secondOf 5 = .ok (.invokestatic 38, 3) := by decide +kernel
theorem dX7_secondOf_8 : decode cX7_secondOf 8 = .ok (.ireturn, 1) := by decide +kernel
theorem dX8_init_0 : decode cX8_init 0 = .ok (.aload_n 0, 1) := by decide +kernel
theorem dX8_init_1 : decode cX8_init 1 = .ok (.invokespecial 3, 3) := by decide +kernel
theorem dX8_init_4 : decode cX8_init 4 = .ok (.aload_n 0, 1) := by decide +kernel
theorem dX8_init_5 : decode cX8_init 5 = .ok (.sipush 3200, 3) := by decide +kernel
theorem dX8_init_8 : decode cX8_init 8 = .ok (.newarray .int, 2) := by decide +kernel
theorem dX8_init_10 : decode cX8_init 10 = .ok (.putfield 9, 3) := by decide +kernel
theorem dX8_init_13 : decode cX8_init 13 = .ok (.aload_n 0, 1) := by decide +kernel
theorem dX8_init_14 : decode cX8_init 14 = .ok (.sipush 3200, 3) := by decide +kernel
theorem dX8_init_17 : decode cX8_init 17 = .ok (.newarray .int, 2) := by decide +kernel
theorem dX8_init_19 : decode cX8_init 19 = .ok (.putfield 15, 3) := by decide +kernel
theorem dX8_init_22 : decode cX8_init 22 = .ok (.aload_n 0, 1) := by decide +kernel
theorem dX8_init_23 : decode cX8_init 23 = .ok (.aload_n 1, 1) := by decide +kernel
theorem dX8_init_24 : decode cX8_init 24 = .ok (.putfield 18, 3) := by decide +kernel
theorem dX8_init_27 : decode cX8_init 27 = .ok (.return_, 1) := by decide +kernel
theorem dX8_clear_0 : decode cX8_clear 0 = .ok (.aload_n 0, 1) := by decide +kernel
theorem dX8_clear_1 : decode cX8_clear 1 = .ok (.iconst 0, 1) := by decide +kernel
theorem dX8_clear_2 : decode cX8_clear 2 = .ok (.putfield 22, 3) := by decide +kernel
theorem dX8_clear_5 : decode cX8_clear 5 = .ok (.return_, 1) := by decide +kernel
theorem dX8_take_0 : decode cX8_take 0 = .ok (.iload_n 2, 1) := by decide +kernel
theorem dX8_take_1 : decode cX8_take 1 = .ok (.istore 4, 2) := by decide +kernel
theorem dX8_take_3 : decode cX8_take 3 = .ok (.iload 4, 2) := by decide +kernel
theorem dX8_take_5 : decode cX8_take 5 = .ok (.iload_n 3, 1) := by decide +kernel
theorem dX8_take_6 : decode cX8_take 6 = .ok (.if_icmp .ge 47, 3) := by decide +kernel
theorem dX8_take_9 : decode cX8_take 9 = .ok (.aload_n 0, 1) := by decide +kernel
theorem dX8_take_10 : decode cX8_take 10 = .ok (.getfield 22, 3) := by decide +kernel
theorem dX8_take_13 : decode cX8_take 13 = .ok (.aload_n 0, 1) := by decide +kernel
theorem dX8_take_14 : decode cX8_take 14 = .ok (.getfield 9, 3) := by decide +kernel
theorem dX8_take_17 : decode cX8_take 17 = .ok (.arraylength, 1) := by decide +kernel
theorem dX8_take_18 : decode cX8_take 18 = .ok (.if_icmp .ge 35, 3) := by decide +kernel
theorem dX8_take_21 : decode cX8_take 21 = .ok (.aload_n 0, 1) := by decide +kernel
theorem dX8_take_22 : decode cX8_take 22 = .ok (.getfield 9, 3) := by decide +kernel
theorem dX8_take_25 : decode cX8_take 25 = .ok (.aload_n 0, 1) := by decide +kernel
theorem dX8_take_26 : decode cX8_take 26 = .ok (.getfield 22, 3) := by decide +kernel
theorem dX8_take_29 : decode cX8_take 29 = .ok (.aload_n 1, 1) := by decide +kernel
theorem dX8_take_30 : decode cX8_take 30 = .ok (.getfield 26, 3) := by decide +kernel
theorem dX8_take_33 : decode cX8_take 33 = .ok (.iload 4, 2) := by decide +kernel
theorem dX8_take_35 : decode cX8_take 35 = .ok (.iaload, 1) := by decide +kernel
theorem dX8_take_36 : decode cX8_take 36 = .ok (.iastore, 1) := by decide +kernel
theorem dX8_take_37 : decode cX8_take 37 = .ok (.aload_n 0, 1) := by decide +kernel
theorem dX8_take_38 : decode cX8_take 38 = .ok (.dup, 1) := by decide +kernel
theorem dX8_take_39 : decode cX8_take 39 = .ok (.getfield 22, 3) := by decide +kernel
theorem dX8_take_42 : decode cX8_take 42 = .ok (.iconst 1, 1) := by decide +kernel
theorem dX8_take_43 : decode cX8_take 43 = .ok (.iadd, 1) := by decide +kernel
theorem dX8_take_44 : decode cX8_take 44 = .ok (.putfield 22, 3) := by decide +kernel
theorem dX8_take_47 : decode cX8_take 47 = .ok (.iinc 4 1, 3) := by decide +kernel
theorem dX8_take_50 : decode cX8_take 50 = .ok (.goto (-47), 3) := by decide +kernel
theorem dX8_take_53 : decode cX8_take 53 = .ok (.return_, 1) := by decide +kernel
theorem dX8_layBack_0 : decode cX8_layBack 0 = .ok (.iconst 0, 1) := by decide +kernel
theorem dX8_layBack_1 : decode cX8_layBack 1 = .ok (.istore 5, 2) := by decide +kernel
theorem dX8_layBack_3 : decode cX8_layBack 3 = .ok (.iload_n 1, 1) := by decide +kernel
theorem dX8_layBack_4 : decode cX8_layBack 4 = .ok (.istore 6, 2) := by decide +kernel
theorem dX8_layBack_6 : decode cX8_layBack 6 = .ok (.iload_n 3, 1) := by decide +kernel
theorem dX8_layBack_7 : decode cX8_layBack 7 = .ok (.istore 7, 2) := by decide +kernel
theorem dX8_layBack_9 : decode cX8_layBack 9 = .ok (.iload 7, 2) := by decide +kernel
theorem dX8_layBack_11 : decode cX8_layBack 11 = .ok (.iload 4, 2) := by decide +kernel
theorem dX8_layBack_13 : decode cX8_layBack 13 = .ok (.if_icmp .ge 55, 3) := by decide +kernel
theorem dX8_layBack_16 : decode cX8_layBack 16 = .ok (.iload 6, 2) := by decide +kernel
theorem dX8_layBack_18 : decode cX8_layBack 18 = .ok (.aload_n 0, 1) := by decide +kernel
theorem dX8_layBack_19 : decode cX8_layBack 19 = .ok (.getfield 22, 3) := by decide +kernel
theorem dX8_layBack_22 : decode cX8_layBack 22 = .ok (.if_icmp .ge 46, 3) := by decide +kernel
theorem dX8_layBack_25 : decode cX8_layBack 25 = .ok (.aload_n 2, 1) := by decide +kernel
theorem dX8_layBack_26 : decode cX8_layBack 26 = .ok (.getfield 26, 3) := by decide +kernel
theorem dX8_layBack_29 : decode cX8_layBack 29 = .ok (.iload 7, 2) := by decide +kernel
theorem dX8_layBack_31 : decode cX8_layBack 31 = .ok (.iaload, 1) := by decide +kernel
theorem dX8_layBack_32 : decode cX8_layBack 32 = .ok (.aload_n 0, 1) := by decide +kernel
theorem dX8_layBack_33 : decode cX8_layBack 33 = .ok (.getfield 9, 3) := by decide +kernel
theorem dX8_layBack_36 : decode cX8_layBack 36 = .ok (.iload 6, 2) := by decide +kernel
theorem dX8_layBack_38 : decode cX8_layBack 38 = .ok (.iaload, 1) := by decide +kernel
theorem dX8_layBack_39 : decode cX8_layBack 39 = .ok (.if_icmp .eq 20, 3) := by decide +kernel
theorem dX8_layBack_42 : decode cX8_layBack 42 = .ok (.iinc 5 1, 3) := by decide +kernel
theorem dX8_layBack_45 : decode cX8_layBack 45 = .ok (.aload_n 2, 1) := by decide +kernel
theorem dX8_layBack_46 : decode cX8_layBack 46 = .ok (.getfield 26, 3) := by decide +kernel
theorem dX8_layBack_49 : decode cX8_layBack 49 = .ok (.iload 7, 2) := by decide +kernel
theorem dX8_layBack_51 : decode cX8_layBack 51 = .ok (.aload_n 0, 1) := by decide +kernel
theorem dX8_layBack_52 : decode cX8_layBack 52 = .ok (.getfield 9, 3) := by decide +kernel
theorem dX8_layBack_55 : decode cX8_layBack 55 = .ok (.iload 6, 2) := by decide +kernel
theorem dX8_layBack_57 : decode cX8_layBack 57 = .ok (.iaload, 1) := by decide +kernel
theorem dX8_layBack_58 : decode cX8_layBack 58 = .ok (.iastore, 1) := by decide +kernel
theorem dX8_layBack_59 : decode cX8_layBack 59 = .ok (.iinc 6 1, 3) := by decide +kernel
theorem dX8_layBack_62 : decode cX8_layBack 62 = .ok (.iinc 7 1, 3) := by decide +kernel
theorem dX8_layBack_65 : decode cX8_layBack 65 = .ok (.goto (-56), 3) := by decide +kernel
theorem dX8_layBack_68 : decode cX8_layBack 68 = .ok (.iload 5, 2) := by decide +kernel
theorem dX8_layBack_70 : decode cX8_layBack 70 = .ok (.ireturn, 1) := by decide +kernel
set_option maxRecDepth 20000 in
theorem ggX8_firstAt_X1_firstOf : GoodIn wsX8_firstAt wsX1_firstOf := goodIn_r _ [8, 9, 10, 15, 16, 17] (by decide +kernel) (by decide +kernel)
set_option maxRecDepth 20000 in
theorem gX8_firstAt_X1_firstOf : GoodIn wsX8_firstAt (wsV RX8 29 RX1 yX1_firstOf wsX1_firstOf) := goodIn_app (goodIn_of _ (by decide +kernel)) ggX8_firstAt_X1_firstOf
theorem dX8_firstAt_0 : decode cX8_firstAt 0 = .ok (.iload_n 1, 1) := by decide +kernel
theorem dX8_firstAt_1 : decode cX8_firstAt 1 = .ok (.ifCond .lt 27, 3) := by decide +kernel
theorem dX8_firstAt_4 : decode cX8_firstAt 4 = .ok (.iload_n 1, 1) := by decide +kernel
theorem dX8_firstAt_5 : decode cX8_firstAt 5 = .ok (.aload_n 0, 1) := by decide +kernel
theorem dX8_firstAt_6 : decode cX8_firstAt 6 = .ok (.getfield 22, 3) := by decide +kernel
theorem dX8_firstAt_9 : decode cX8_firstAt 9 = .ok (.if_icmp .ge 19, 3) := by decide +kernel
theorem dX8_firstAt_12 : decode cX8_firstAt 12 = .ok (.aload_n 0, 1) := by decide +kernel
theorem dX8_firstAt_13 : decode cX8_firstAt 13 = .ok (.getfield 18, 3) := by decide +kernel
theorem dX8_firstAt_16 : decode cX8_firstAt 16 = .ok (.aload_n 0, 1) := by decide +kernel
theorem dX8_firstAt_17 : decode cX8_firstAt 17 = .ok (.getfield 9, 3) := by decide +kernel
theorem dX8_firstAt_20 : decode cX8_firstAt 20 = .ok (.iload_n 1, 1) := by decide +kernel
theorem dX8_firstAt_21 : decode cX8_firstAt 21 = .ok (.iaload, 1) := by decide +kernel
theorem dX8_firstAt_22 : decode cX8_firstAt 22 = .ok (.invokevirtual 29, 3) := by decide +kernel
theorem dX8_firstAt_25 : decode cX8_firstAt 25 = .ok (.goto 4, 3) := by decide +kernel
theorem dX8_firstAt_28 : decode cX8_firstAt 28 = .ok (.iconst 0, 1) := by decide +kernel
theorem dX8_firstAt_29 : decode cX8_firstAt 29 = .ok (.ireturn, 1) := by decide +kernel
set_option maxRecDepth 20000 in
theorem ggX8_arrange_X8_merge : GoodIn wsX8_arrange wsX8_merge := goodIn_r _ [12, 6, 7, 13, 14, 15, 11, 16, 17, 18, 19, 20, 21, 22, 23, 24, 25, 26, 27, 28, 29, 30, 31, 32, 33, 34, 35, 36, 37, 38, 39, 40, 41, 42, 43, 44] (by decide +kernel) (by decide +kernel)
set_option maxRecDepth 20000 in
theorem gX8_arrange_X8_merge : GoodIn wsX8_arrange (wsV RX8 41 RX8 yX8_merge wsX8_merge) := goodIn_app (goodIn_of _ (by decide +kernel)) ggX8_arrange_X8_merge
theorem dX8_arrange_0 : decode cX8_arrange 0 = .ok (.iconst 0, 1) := by decide +kernel
theorem dX8_arrange_1 : decode cX8_arrange 1 = .ok (.istore_n 2, 1) := by decide +kernel
theorem dX8_arrange_2 : decode cX8_arrange 2 = .ok (.iconst 1, 1) := by decide +kernel
theorem dX8_arrange_3 : decode cX8_arrange 3 = .ok (.istore_n 3, 1) := by decide +kernel
theorem dX8_arrange_4 : decode cX8_arrange 4 = .ok (.iload_n 3, 1) := by decide +kernel
theorem dX8_arrange_5 : decode cX8_arrange 5 = .ok (.aload_n 0, 1) := by decide +kernel
theorem dX8_arrange_6 : decode cX8_arrange 6 = .ok (.getfield 22, 3) := by decide +kernel
theorem dX8_arrange_9 : decode cX8_arrange 9 = .ok (.if_icmp .ge 93, 3) := by decide +kernel
theorem dX8_arrange_12 : decode cX8_arrange 12 = .ok (.iconst 0, 1) := by decide +kernel
theorem dX8_arrange_13 : decode cX8_arrange 13 = .ok (.istore 4, 2) := by decide +kernel
theorem dX8_arrange_15 : decode cX8_arrange 15 = .ok (.iload 4, 2) := by decide +kernel
theorem dX8_arrange_17 : decode cX8_arrange 17 = .ok (.aload_n 0, 1) := by decide +kernel
theorem dX8_arrange_18 : decode cX8_arrange 18 = .ok (.getfield 22, 3) := by decide +kernel
theorem dX8_arrange_21 : decode cX8_arrange 21 = .ok (.if_icmp .ge 54, 3) := by decide +kernel
theorem dX8_arrange_24 : decode cX8_arrange 24 = .ok (.iload 4, 2) := by decide +kernel
theorem dX8_arrange_26 : decode cX8_arrange 26 = .ok (.iload_n 3, 1) := by decide +kernel
theorem dX8_arrange_27 : decode cX8_arrange 27 = .ok (.iadd, 1) := by decide +kernel
theorem dX8_arrange_28 : decode cX8_arrange 28 = .ok (.aload_n 0, 1) := by decide +kernel
theorem dX8_arrange_29 : decode cX8_arrange 29 = .ok (.getfield 22, 3) := by decide +kernel
theorem dX8_arrange_32 : decode cX8_arrange 32 = .ok (.invokestatic 35, 3) := by decide +kernel
theorem dX8_arrange_35 : decode cX8_arrange 35 = .ok (.istore 5, 2) := by decide +kernel
theorem dX8_arrange_37 : decode cX8_arrange 37 = .ok (.iload 5, 2) := by decide +kernel
theorem dX8_arrange_39 : decode cX8_arrange 39 = .ok (.iload_n 3, 1) := by decide +kernel
theorem dX8_arrange_40 : decode cX8_arrange 40 = .ok (.iadd, 1) := by decide +kernel
theorem dX8_arrange_41 : decode cX8_arrange 41 = .ok (.aload_n 0, 1) := by decide +kernel
theorem dX8_arrange_42 : decode cX8_arrange 42 = .ok (.getfield 22, 3) := by decide +kernel
theorem dX8_arrange_45 : decode cX8_arrange 45 = .ok (.invokestatic 35, 3) := by decide +kernel
theorem dX8_arrange_48 : decode cX8_arrange 48 = .ok (.istore 6, 2) := by decide +kernel
theorem dX8_arrange_50 : decode cX8_arrange 50 = .ok (.iload_n 2, 1) := by decide +kernel
theorem dX8_arrange_51 : decode cX8_arrange 51 = .ok (.aload_n 0, 1) := by decide +kernel
theorem dX8_arrange_52 : decode cX8_arrange 52 = .ok (.iload 4, 2) := by decide +kernel
theorem dX8_arrange_54 : decode cX8_arrange 54 = .ok (.iload 5, 2) := by decide +kernel
theorem dX8_arrange_56 : decode cX8_arrange 56 = .ok (.iload 6, 2) := by decide +kernel
theorem dX8_arrange_58 : decode cX8_arrange 58 = .ok (.aload_n 1, 1) := by decide +kernel
theorem dX8_arrange_59 : decode cX8_arrange 59 = .ok (.invokevirtual 41, 3) := by decide +kernel
theorem dX8_arrange_62 : decode cX8_arrange 62 = .ok (.iadd, 1) := by decide +kernel
theorem dX8_arrange_63 : decode cX8_arrange 63 = .ok (.istore_n 2, 1) := by decide +kernel
theorem dX8_arrange_64 : decode cX8_arrange 64 = .ok (.iload 4, 2) := by decide +kernel
theorem dX8_arrange_66 : decode cX8_arrange 66 = .ok (.iconst 2, 1) := by decide +kernel
theorem dX8_arrange_67 : decode cX8_arrange 67 = .ok (.iload_n 3, 1) := by decide +kernel
theorem dX8_arrange_68 : decode cX8_arrange 68 = .ok (.imul, 1) := by decide +kernel
theorem dX8_arrange_69 : decode cX8_arrange 69 = .ok (.iadd, 1) := by decide +kernel
theorem dX8_arrange_70 : decode cX8_arrange 70 = .ok (.istore 4, 2) := by decide +kernel
theorem dX8_arrange_72 : decode cX8_arrange 72 = .ok (.goto (-57), 3) := by decide +kernel
theorem dX8_arrange_75 : decode cX8_arrange 75 = .ok (.aload_n 0, 1) := by decide +kernel
theorem dX8_arrange_76 : decode cX8_arrange 76 = .ok (.getfield 9, 3) := by decide +kernel
theorem dX8_arrange_79 : decode cX8_arrange 79 = .ok (.astore 4, 2) := by decide +kernel
theorem dX8_arrange_81 : decode cX8_arrange 81 = .ok (.aload_n 0, 1) := by decide +kernel
theorem dX8_arrange_82 : decode cX8_arrange 82 = .ok (.aload_n 0, 1) := by decide +kernel
theorem dX8_arrange_83 : decode cX8_arrange 83 = .ok (.getfield 15, 3) := by decide +kernel
theorem dX8_arrange_86 : decode cX8_arrange 86 = .ok (.putfield 9, 3) := by decide +kernel
theorem dX8_arrange_89 : decode cX8_arrange 89 = .ok (.aload_n 0, 1) := by decide +kernel
theorem dX8_arrange_90 : decode cX8_arrange 90 = .ok (.aload 4, 2) := by decide +kernel
theorem dX8_arrange_92 : decode cX8_arrange 92 = .ok (.putfield 15, 3) := by decide +kernel
theorem dX8_arrange_95 : decode cX8_arrange 95 = .ok (.iload_n 3, 1) := by decide +kernel
theorem dX8_arrange_96 : decode cX8_arrange 96 = .ok (.iconst 2, 1) := by decide +kernel
theorem dX8_arrange_97 : decode cX8_arrange 97 = .ok (.imul, 1) := by decide +kernel
theorem dX8_arrange_98 : decode cX8_arrange 98 = .ok (.istore_n 3, 1) := by decide +kernel
theorem dX8_arrange_99 : decode cX8_arrange 99 = .ok (.goto (-95), 3) := by decide +kernel
theorem dX8_arrange_102 : decode cX8_arrange 102 = .ok (.iload_n 2, 1) := by decide +kernel
theorem dX8_arrange_103 : decode cX8_arrange 103 = .ok (.ireturn, 1) := by decide +kernel
set_option maxRecDepth 20000 in
theorem ggX8_merge_X8_isWrongPair : GoodIn wsX8_merge wsX8_isWrongPair := goodIn_r _ [7, 8, 9, 10, 11, 12, 13, 14, 15, 16, 17, 18, 19, 20, 21, 22, 23, 24, 25, 26, 27, 28, 29, 30, 31, 32, 33, 34, 35] (by decide +kernel) (by decide +kernel)
set_option maxRecDepth 20000 in
theorem gX8_merge_X8_isWrongPair : GoodIn wsX8_merge (wsV RX8 45 RX8 yX8_isWrongPair wsX8_isWrongPair) := goodIn_app (goodIn_of _ (by decide +kernel)) ggX8_merge_X8_isWrongPair
theorem dX8_merge_0 : decode cX8_merge 0 = .ok (.iconst 0, 1) := by decide +kernel
theorem dX8_merge_1 : decode cX8_merge 1 = .ok (.istore 5, 2) := by decide +kernel
theorem dX8_merge_3 : decode cX8_merge 3 = .ok (.iload_n 1, 1) := by decide +kernel
theorem dX8_merge_4 : decode cX8_merge 4 = .ok (.istore 6, 2) := by decide +kernel
theorem dX8_merge_6 : decode cX8_merge 6 = .ok (.iload_n 2, 1) := by decide +kernel
theorem dX8_merge_7 : decode cX8_merge 7 = .ok (.istore 7, 2) := by decide +kernel
theorem dX8_merge_9 : decode cX8_merge 9 = .ok (.iload_n 1, 1) := by decide +kernel
theorem dX8_merge_10 : decode cX8_merge 10 = .ok (.istore 8, 2) := by decide +kernel
theorem dX8_merge_12 : decode cX8_merge 12 = .ok (.iload 8, 2) := by decide +kernel
theorem dX8_merge_14 : decode cX8_merge 14 = .ok (.iload_n 3, 1) := by decide +kernel
theorem dX8_merge_15 : decode cX8_merge 15 = .ok (.if_icmp .ge 90, 3) := by decide +kernel
theorem dX8_merge_18 : decode cX8_merge 18 = .ok (.iload 6, 2) := by decide +kernel
theorem dX8_merge_20 : decode cX8_merge 20 = .ok (.iload_n 2, 1) := by decide +kernel
theorem dX8_merge_21 : decode cX8_merge 21 = .ok (.if_icmp .ge 32, 3) := by decide +kernel
theorem dX8_merge_24 : decode cX8_merge 24 = .ok (.iload 7, 2) := by decide +kernel
theorem dX8_merge_26 : decode cX8_merge 26 = .ok (.iload_n 3, 1) := by decide +kernel
theorem dX8_merge_27 : decode cX8_merge 27 = .ok (.if_icmp .ge 55, 3) := by decide +kernel
theorem dX8_merge_30 : decode cX8_merge 30 = .ok (.aload_n 0, 1) := by decide +kernel
theorem dX8_merge_31 : decode cX8_merge 31 = .ok (.aload_n 0, 1) := by decide +kernel
theorem dX8_merge_32 : decode cX8_merge 32 = .ok (.getfield 9, 3) := by decide +kernel
theorem dX8_merge_35 : decode cX8_merge 35 = .ok (.iload 6, 2) := by decide +kernel
theorem dX8_merge_37 : decode cX8_merge 37 = .ok (.iaload, 1) := by decide +kernel
theorem dX8_merge_38 : decode cX8_merge 38 = .ok (.aload_n 0, 1) := by decide +kernel
theorem dX8_merge_39 : decode cX8_merge 39 = .ok (.getfield 9, 3) := by decide +kernel
theorem dX8_merge_42 : decode cX8_merge 42 = .ok (.iload 7, 2) := by decide +kernel
theorem dX8_merge_44 : decode cX8_merge 44 = .ok (.iaload, 1) := by decide +kernel
theorem dX8_merge_45 : decode cX8_merge 45 = .ok (.aload 4, 2) := by decide +kernel
theorem dX8_merge_47 : decode cX8_merge 47 = .ok (.invokevirtual 45, 3) := by decide +kernel
theorem dX8_merge_50 : decode cX8_merge 50 = .ok (.ifCond .eq 32, 3) := by decide +kernel
theorem dX8_merge_53 : decode cX8_merge 53 = .ok (.iload 5, 2) := by decide +kernel
theorem dX8_merge_55 : decode cX8_merge 55 = .ok (.iload_n 2, 1) := by decide +kernel
theorem dX8_merge_56 : decode cX8_merge 56 = .ok (.iload 6, 2) := by decide +kernel
theorem dX8_merge_58 : decode cX8_merge 58 = .ok (.isub, 1) := by decide +kernel
theorem dX8_merge_59 : decode cX8_merge 59 = .ok (.iadd, 1) := by decide +kernel
theorem dX8_merge_60 : decode cX8_merge 60 = .ok (.istore 5, 2) := by decide +kernel
theorem dX8_merge_62 : decode cX8_merge 62 = .ok (.aload_n 0, 1) := by decide +kernel
theorem dX8_merge_63 : decode cX8_merge 63 = .ok (.getfield 15, 3) := by decide +kernel
theorem dX8_merge_66 : decode cX8_merge 66 = .ok (.iload 8, 2) := by decide +kernel
theorem dX8_merge_68 : decode cX8_merge 68 = .ok (.aload_n 0, 1) := by decide +kernel
theorem dX8_merge_69 : decode cX8_merge 69 = .ok (.getfield 9, 3) := by decide +kernel
theorem dX8_merge_72 : decode cX8_merge 72 = .ok (.iload 7, 2) := by decide +kernel
theorem dX8_merge_74 : decode cX8_merge 74 = .ok (.iaload, 1) := by decide +kernel
theorem dX8_merge_75 : decode cX8_merge 75 = .ok (.iastore, 1) := by decide +kernel
theorem dX8_merge_76 : decode cX8_merge 76 = .ok (.iinc 7 1, 3) := by decide +kernel
theorem dX8_merge_79 : decode cX8_merge 79 = .ok (.goto 20, 3) := by decide +kernel
theorem dX8_merge_82 : decode cX8_merge 82 = .ok (.aload_n 0, 1) := by decide +kernel
theorem dX8_merge_83 : decode cX8_merge 83 = .ok (.getfield 15, 3) := by decide +kernel
theorem dX8_merge_86 : decode cX8_merge 86 = .ok (.iload 8, 2) := by decide +kernel
theorem dX8_merge_88 : decode cX8_merge 88 = .ok (.aload_n 0, 1) := by decide +kernel
theorem dX8_merge_89 : decode cX8_merge 89 = .ok (.getfield 9, 3) := by decide +kernel
theorem dX8_merge_92 : decode cX8_merge 92 = .ok (.iload 6, 2) := by decide +kernel
theorem dX8_merge_94 : decode cX8_merge 94 = .ok (.iaload, 1) := by decide +kernel
theorem dX8_merge_95 : decode cX8_merge 95 = .ok (.iastore, 1) := by decide +kernel
theorem dX8_merge_96 : decode cX8_merge 96 = .ok (.iinc 6 1, 3) := by decide +kernel
theorem dX8_merge_99 : decode cX8_merge 99 = .ok (.iinc 8 1, 3) := by decide +kernel
theorem dX8_merge_102 : decode cX8_merge 102 = .ok (.goto (-90), 3) := by decide +kernel
theorem dX8_merge_105 : decode cX8_merge 105 = .ok (.iload 5, 2) := by decide +kernel
theorem dX8_merge_107 : decode cX8_merge 107 = .ok (.ireturn, 1) := by decide +kernel
set_option maxRecDepth 20000 in
theorem ggX8_isWrongPair_X1_firstOf : GoodIn wsX8_isWrongPair wsX1_firstOf := goodIn_r _ [7, 8, 9, 26, 27, 28] (by decide +kernel) (by decide +kernel)
set_option maxRecDepth 20000 in
theorem gX8_isWrongPair_X1_firstOf : GoodIn wsX8_isWrongPair (wsV RX8 29 RX1 yX1_firstOf wsX1_firstOf) := goodIn_app (goodIn_of _ (by decide +kernel)) ggX8_isWrongPair_X1_firstOf
set_option maxRecDepth 20000 in
theorem ggX8_isWrongPair_Jx29ce0_ordinal_8abf5 : GoodIn wsX8_isWrongPair wsJx29ce0_ordinal_8abf5 := goodIn_r _ [15, 16] (by decide +kernel) (by decide +kernel)
set_option maxRecDepth 20000 in
theorem gX8_isWrongPair_Jx29ce0_ordinal_8abf5_u54X4 : GoodIn wsX8_isWrongPair (va_wsU RX8 54 RX4 "java/lang/Enum" ⟨"Cardcabinet$Order", "ordinal", "()I"⟩ yJx29ce0_ordinal_8abf5 wsJx29ce0_ordinal_8abf5) := goodIn_app (goodIn_of _ (by decide +kernel)) ggX8_isWrongPair_Jx29ce0_ordinal_8abf5
set_option maxRecDepth 20000 in
theorem ggX8_isWrongPair_X1_secondOf : GoodIn wsX8_isWrongPair wsX1_secondOf := goodIn_r _ [20, 8, 21, 26, 27, 28] (by decide +kernel) (by decide +kernel)
set_option maxRecDepth 20000 in
theorem gX8_isWrongPair_X1_secondOf : GoodIn wsX8_isWrongPair (wsV RX8 60 RX1 yX1_secondOf wsX1_secondOf) := goodIn_app (goodIn_of _ (by decide +kernel)) ggX8_isWrongPair_X1_secondOf
theorem dX8_isWrongPair_0 : decode cX8_isWrongPair 0 = .ok (.aload_n 0, 1) := by decide +kernel
theorem dX8_isWrongPair_1 : decode cX8_isWrongPair 1 = .ok (.getfield 18, 3) := by decide +kernel
theorem dX8_isWrongPair_4 : decode cX8_isWrongPair 4 = .ok (.iload_n 1, 1) := by decide +kernel
theorem dX8_isWrongPair_5 : decode cX8_isWrongPair 5 = .ok (.invokevirtual 29, 3) := by decide +kernel
theorem dX8_isWrongPair_8 : decode cX8_isWrongPair 8 = .ok (.istore 4, 2) := by decide +kernel
theorem dX8_isWrongPair_10 : decode cX8_isWrongPair 10 = .ok (.aload_n 0, 1) := by decide +kernel
theorem dX8_isWrongPair_11 : decode cX8_isWrongPair 11 = .ok (.getfield 18, 3) := by decide +kernel
theorem dX8_isWrongPair_14 : decode cX8_isWrongPair 14 = .ok (.iload_n 2, 1) := by decide +kernel
theorem dX8_isWrongPair_15 : decode cX8_isWrongPair 15 = .ok (.invokevirtual 29, 3) := by decide +kernel
theorem dX8_isWrongPair_18 : decode cX8_isWrongPair 18 = .ok (.istore 5, 2) := by decide +kernel
theorem dX8_isWrongPair_20 : decode cX8_isWrongPair 20 = .ok (.getstatic 49, 3) := by decide +kernel
theorem dX8_isWrongPair_23 : decode cX8_isWrongPair 23 = .ok (.aload_n 3, 1) := by decide +kernel
theorem dX8_isWrongPair_24 : decode cX8_isWrongPair 24 = .ok (.invokevirtual 54, 3) := by decide +kernel
theorem dX8_isWrongPair_27 : decode cX8_isWrongPair 27 = .ok (.iaload, 1) := by decide +kernel
theorem dX8_isWrongPair_28 : decode cX8_isWrongPair 28 = .ok (.tableswitch 105 1 3 #[28, 53, 92], 28) := by decide +kernel
theorem dX8_isWrongPair_56 : decode cX8_isWrongPair 56 = .ok (.aload_n 0, 1) := by decide +kernel
theorem dX8_isWrongPair_57 : decode cX8_isWrongPair 57 = .ok (.getfield 18, 3) := by decide +kernel
theorem dX8_isWrongPair_60 : decode cX8_isWrongPair 60 = .ok (.iload_n 1, 1) := by decide +kernel
theorem dX8_isWrongPair_61 : decode cX8_isWrongPair 61 = .ok (.invokevirtual 60, 3) := by decide +kernel
theorem dX8_isWrongPair_64 : decode cX8_isWrongPair 64 = .ok (.aload_n 0, 1) := by decide +kernel
theorem dX8_isWrongPair_65 : decode cX8_isWrongPair 65 = .ok (.getfield 18, 3) := by decide +kernel
theorem dX8_isWrongPair_68 : decode cX8_isWrongPair 68 = .ok (.iload_n 2, 1) := by decide +kernel
theorem dX8_isWrongPair_69 : decode cX8_isWrongPair 69 = .ok (.invokevirtual 60, 3) := by decide +kernel
theorem dX8_isWrongPair_72 : decode cX8_isWrongPair 72 = .ok (.if_icmp .le 7, 3) := by decide +kernel
theorem dX8_isWrongPair_75 : decode cX8_isWrongPair 75 = .ok (.iconst 1, 1) := by decide +kernel
theorem dX8_isWrongPair_76 : decode cX8_isWrongPair 76 = .ok (.goto 4, 3) := by decide +kernel
theorem dX8_isWrongPair_79 : decode cX8_isWrongPair 79 = .ok (.iconst 0, 1) := by decide +kernel
theorem dX8_isWrongPair_80 : decode cX8_isWrongPair 80 = .ok (.ireturn, 1) := by decide +kernel
theorem dX8_isWrongPair_81 : decode cX8_isWrongPair 81 = .ok (.iload 4, 2) := by decide +kernel
theorem dX8_isWrongPair_83 : decode cX8_isWrongPair 83 = .ok (.iload 5, 2) := by decide +kernel
theorem dX8_isWrongPair_85 : decode cX8_isWrongPair 85 = .ok (.if_icmp .gt 29, 3) := by decide +kernel
theorem dX8_isWrongPair_88 : decode cX8_isWrongPair 88 = .ok (.iload 4, 2) := by decide +kernel
theorem dX8_isWrongPair_90 : decode cX8_isWrongPair 90 = .ok (.iload 5, 2) := by decide +kernel
theorem dX8_isWrongPair_92 : decode cX8_isWrongPair 92 = .ok (.if_icmp .ne 26, 3) := by decide +kernel
theorem dX8_isWrongPair_95 : decode cX8_isWrongPair 95 = .ok (.aload_n 0, 1) := by decide +kernel
theorem dX8_isWrongPair_96 : decode cX8_isWrongPair 96 = .ok (.getfield 18, 3) := by decide +kernel
theorem dX8_isWrongPair_99 : decode cX8_isWrongPair 99 = .ok (.iload_n 1, 1) := by decide +kernel
theorem dX8_isWrongPair_100 : decode cX8_isWrongPair 100 = .ok (.invokevirtual 60, 3) := by decide +kernel
theorem dX8_isWrongPair_103 : decode cX8_isWrongPair 103 = .ok (.aload_n 0, 1) := by decide +kernel
theorem dX8_isWrongPair_104 : decode cX8_isWrongPair 104 = .ok (.getfield 18, 3) := by decide +kernel
theorem dX8_isWrongPair_107 : decode cX8_isWrongPair 107 = .ok (.iload_n 2, 1) := by decide +kernel
theorem dX8_isWrongPair_108 : decode cX8_isWrongPair 108 = .ok (.invokevirtual 60, 3) := by decide +kernel
theorem dX8_isWrongPair_111 : decode cX8_isWrongPair 111 = .ok (.if_icmp .le 7, 3) := by decide +kernel
theorem dX8_isWrongPair_114 : decode cX8_isWrongPair 114 = .ok (.iconst 1, 1) := by decide +kernel
theorem dX8_isWrongPair_115 : decode cX8_isWrongPair 115 = .ok (.goto 4, 3) := by decide +kernel
theorem dX8_isWrongPair_118 : decode cX8_isWrongPair 118 = .ok (.iconst 0, 1) := by decide +kernel
theorem dX8_isWrongPair_119 : decode cX8_isWrongPair 119 = .ok (.ireturn, 1) := by decide +kernel
theorem dX8_isWrongPair_120 : decode cX8_isWrongPair 120 = .ok (.iload 4, 2) := by decide +kernel
theorem dX8_isWrongPair_122 : decode cX8_isWrongPair 122 = .ok (.iload 5, 2) := by decide +kernel
theorem dX8_isWrongPair_124 : decode cX8_isWrongPair 124 = .ok (.if_icmp .ge 7, 3) := by decide +kernel
theorem dX8_isWrongPair_127 : decode cX8_isWrongPair 127 = .ok (.iconst 1, 1) := by decide +kernel
theorem dX8_isWrongPair_128 : decode cX8_isWrongPair 128 = .ok (.goto 4, 3) := by decide +kernel
theorem dX8_isWrongPair_131 : decode cX8_isWrongPair 131 = .ok (.iconst 0, 1) := by decide +kernel
theorem dX8_isWrongPair_132 : decode cX8_isWrongPair 132 = .ok (.ireturn, 1) := by decide +kernel
theorem dX8_isWrongPair_133 : decode cX8_isWrongPair 133 = .ok (.iload 4, 2) := by decide +kernel
theorem dX8_isWrongPair_135 : decode cX8_isWrongPair 135 = .ok (.iload 5, 2) := by decide +kernel
theorem dX8_isWrongPair_137 : decode cX8_isWrongPair 137 = .ok (.if_icmp .le 7, 3) := by decide +kernel
theorem dX8_isWrongPair_140 : decode cX8_isWrongPair 140 = .ok (.iconst 1, 1) := by decide +kernel
theorem dX8_isWrongPair_141 : decode cX8_isWrongPair 141 = .ok (.goto 4, 3) := by decide +kernel
theorem dX8_isWrongPair_144 : decode cX8_isWrongPair 144 = .ok (.iconst 0, 1) := by decide +kernel
theorem dX8_isWrongPair_145 : decode cX8_isWrongPair 145 = .ok (.ireturn, 1) := by decide +kernel
theorem dX9_init_0 : decode cX9_init 0 = .ok (.aload_n 0, 1) := by decide +kernel
theorem dX9_init_1 : decode cX9_init 1 = .ok (.invokespecial 3, 3) := by decide +kernel
theorem dX9_init_4 : decode cX9_init 4 = .ok (.aload_n 0, 1) := by decide +kernel
theorem dX9_init_5 : decode cX9_init 5 = .ok (.sipush 400, 3) := by decide +kernel
theorem dX9_init_8 : decode cX9_init 8 = .ok (.newarray .byte, 2) := by decide +kernel
theorem dX9_init_10 : decode cX9_init 10 = .ok (.putfield 9, 3) := by decide +kernel
theorem dX9_init_13 : decode cX9_init 13 = .ok (.return_, 1) := by decide +kernel
theorem dX9_bytesIn_0 : decode cX9_bytesIn 0 = .ok (.iconst 0, 1) := by decide +kernel
theorem dX9_bytesIn_1 : decode cX9_bytesIn 1 = .ok (.istore_n 2, 1) := by decide +kernel
theorem dX9_bytesIn_2 : decode cX9_bytesIn 2 = .ok (.bipush 56, 2) := by decide +kernel
theorem dX9_bytesIn_4 : decode cX9_bytesIn 4 = .ok (.istore_n 3, 1) := by decide +kernel
theorem dX9_bytesIn_5 : decode cX9_bytesIn 5 = .ok (.iload_n 3, 1) := by decide +kernel
theorem dX9_bytesIn_6 : decode cX9_bytesIn 6 = .ok (.ifCond .lt 20, 3) := by decide +kernel
theorem dX9_bytesIn_9 : decode cX9_bytesIn 9 = .ok (.lload_n 0, 1) := by decide +kernel
theorem dX9_bytesIn_10 : decode cX9_bytesIn 10 = .ok (.iload_n 3, 1) := by decide +kernel
theorem dX9_bytesIn_11 : decode cX9_bytesIn 11 = .ok (.lushr, 1) := by decide +kernel
theorem dX9_bytesIn_12 : decode cX9_bytesIn 12 = .ok (.l2i, 1) := by decide +kernel
theorem dX9_bytesIn_13 : decode cX9_bytesIn 13 = .ok (.i2b, 1) := by decide +kernel
theorem dX9_bytesIn_14 : decode cX9_bytesIn 14 = .ok (.ifCond .eq 6, 3) := by decide +kernel
theorem dX9_bytesIn_17 : decode cX9_bytesIn 17 = .ok (.iinc 2 1, 3) := by decide +kernel
theorem dX9_bytesIn_20 : decode cX9_bytesIn 20 = .ok (.iinc 3 (-8), 3) := by decide +kernel
theorem dX9_bytesIn_23 : decode cX9_bytesIn 23 = .ok (.goto (-18), 3) := by decide +kernel
theorem dX9_bytesIn_26 : decode cX9_bytesIn 26 = .ok (.iload_n 2, 1) := by decide +kernel
theorem dX9_bytesIn_27 : decode cX9_bytesIn 27 = .ok (.ireturn, 1) := by decide +kernel
theorem dX9_append_0 : decode cX9_append 0 = .ok (.bipush 56, 2) := by decide +kernel
theorem dX9_append_2 : decode cX9_append 2 = .ok (.istore_n 3, 1) := by decide +kernel
theorem dX9_append_3 : decode cX9_append 3 = .ok (.iload_n 3, 1) := by decide +kernel
theorem dX9_append_4 : decode cX9_append 4 = .ok (.ifCond .lt 52, 3) := by decide +kernel
theorem dX9_append_7 : decode cX9_append 7 = .ok (.lload_n 1, 1) := by decide +kernel
theorem dX9_append_8 : decode cX9_append 8 = .ok (.iload_n 3, 1) := by decide +kernel
theorem dX9_append_9 : decode cX9_append 9 = .ok (.lushr, 1) := by decide +kernel
theorem dX9_append_10 : decode cX9_append 10 = .ok (.l2i, 1) := by decide +kernel
theorem dX9_append_11 : decode cX9_append 11 = .ok (.i2b, 1) := by decide +kernel
theorem dX9_append_12 : decode cX9_append 12 = .ok (.istore 4, 2) := by decide +kernel
theorem dX9_append_14 : decode cX9_append 14 = .ok (.iload 4, 2) := by decide +kernel
theorem dX9_append_16 : decode cX9_append 16 = .ok (.ifCond .eq 34, 3) := by decide +kernel
theorem dX9_append_19 : decode cX9_append 19 = .ok (.aload_n 0, 1) := by decide +kernel
theorem dX9_append_20 : decode cX9_append 20 = .ok (.getfield 15, 3) := by decide +kernel
theorem dX9_append_23 : decode cX9_append 23 = .ok (.sipush 400, 3) := by decide +kernel
theorem dX9_append_26 : decode cX9_append 26 = .ok (.if_icmp .ge 24, 3) := by decide +kernel
theorem dX9_append_29 : decode cX9_append 29 = .ok (.aload_n 0, 1) := by decide +kernel
theorem dX9_append_30 : decode cX9_append 30 = .ok (.getfield 9, 3) := by decide +kernel
theorem dX9_append_33 : decode cX9_append 33 = .ok (.aload_n 0, 1) := by decide +kernel
theorem dX9_append_34 : decode cX9_append 34 = .ok (.getfield 15, 3) := by decide +kernel
theorem dX9_append_37 : decode cX9_append 37 = .ok (.iload 4, 2) := by decide +kernel
theorem dX9_append_39 : decode cX9_append 39 = .ok (.bastore, 1) := by decide +kernel
theorem dX9_append_40 : decode cX9_append 40 = .ok (.aload_n 0, 1) := by decide +kernel
theorem dX9_append_41 : decode cX9_append 41 = .ok (.dup, 1) := by decide +kernel
theorem dX9_append_42 : decode cX9_append 42 = .ok (.getfield 15, 3) := by decide +kernel
theorem dX9_append_45 : decode cX9_append 45 = .ok (.iconst 1, 1) := by decide +kernel
theorem dX9_append_46 : decode cX9_append 46 = .ok (.iadd, 1) := by decide +kernel
theorem dX9_append_47 : decode cX9_append 47 = .ok (.putfield 15, 3) := by decide +kernel
theorem dX9_append_50 : decode cX9_append 50 = .ok (.iinc 3 (-8), 3) := by decide +kernel
theorem dX9_append_53 : decode cX9_append 53 = .ok (.goto (-50), 3) := by decide +kernel
theorem dX9_append_56 : decode cX9_append 56 = .ok (.return_, 1) := by decide +kernel
set_option maxRecDepth 20000 in
theorem ggX9_toFirstToken_X9_toNextToken : GoodIn wsX9_toFirstToken wsX9_toNextToken := goodIn_r _ [6, 1, 7, 8, 9, 10, 11, 5, 12, 13, 14, 15, 16] (by decide +kernel) (by decide +kernel)
set_option maxRecDepth 20000 in
theorem gX9_toFirstToken_X9_toNextToken : GoodIn wsX9_toFirstToken (wsV RX9 22 RX9 yX9_toNextToken wsX9_toNextToken) := goodIn_app (goodIn_of _ (by decide +kernel)) ggX9_toFirstToken_X9_toNextToken
theorem dX9_toFirstToken_0 : decode cX9_toFirstToken 0 = .ok (.aload_n 0, 1) := by decide +kernel
theorem dX9_toFirstToken_1 : decode cX9_toFirstToken 1 = .ok (.iconst 0, 1) := by decide +kernel
theorem dX9_toFirstToken_2 : decode cX9_toFirstToken 2 = .ok (.putfield 19, 3) := by decide +kernel
theorem dX9_toFirstToken_5 : decode cX9_toFirstToken 5 = .ok (.aload_n 0, 1) := by decide +kernel
theorem dX9_toFirstToken_6 : decode cX9_toFirstToken 6 = .ok (.invokevirtual 22, 3) := by decide +kernel
theorem dX9_toFirstToken_9 : decode cX9_toFirstToken 9 = .ok (.return_, 1) := by decide +kernel
set_option maxRecDepth 20000 in
theorem ggX9_toNextToken_X9_alphabetOf : GoodIn wsX9_toNextToken wsX9_alphabetOf := goodIn_r _ [8] (by decide +kernel) (by decide +kernel)
set_option maxRecDepth 20000 in
theorem gX9_toNextToken_X9_alphabetOf : GoodIn wsX9_toNextToken (va_wsS RX9 28 yX9_alphabetOf wsX9_alphabetOf) := goodIn_app (goodIn_of _ (by decide +kernel)) ggX9_toNextToken_X9_alphabetOf
theorem dX9_toNextToken_0 : decode cX9_toNextToken 0 = .ok (.aload_n 0, 1) := by decide +kernel
theorem dX9_toNextToken_1 : decode cX9_toNextToken 1 = .ok (.aload_n 0, 1) := by decide +kernel
theorem dX9_toNextToken_2 : decode cX9_toNextToken 2 = .ok (.getfield 19, 3) := by decide +kernel
theorem dX9_toNextToken_5 : decode cX9_toNextToken 5 = .ok (.putfield 25, 3) := by decide +kernel
theorem dX9_toNextToken_8 : decode cX9_toNextToken 8 = .ok (.aload_n 0, 1) := by decide +kernel
theorem dX9_toNextToken_9 : decode cX9_toNextToken 9 = .ok (.getfield 25, 3) := by decide +kernel
theorem dX9_toNextToken_12 : decode cX9_toNextToken 12 = .ok (.aload_n 0, 1) := by decide +kernel
theorem dX9_toNextToken_13 : decode cX9_toNextToken 13 = .ok (.getfield 15, 3) := by decide +kernel
theorem dX9_toNextToken_16 : decode cX9_toNextToken 16 = .ok (.if_icmp .ge 30, 3) := by decide +kernel
theorem dX9_toNextToken_19 : decode cX9_toNextToken 19 = .ok (.aload_n 0, 1) := by decide +kernel
theorem dX9_toNextToken_20 : decode cX9_toNextToken 20 = .ok (.getfield 9, 3) := by decide +kernel
theorem dX9_toNextToken_23 : decode cX9_toNextToken 23 = .ok (.aload_n 0, 1) := by decide +kernel
theorem dX9_toNextToken_24 : decode cX9_toNextToken 24 = .ok (.getfield 25, 3) := by decide +kernel
theorem dX9_toNextToken_27 : decode cX9_toNextToken 27 = .ok (.baload, 1) := by decide +kernel
theorem dX9_toNextToken_28 : decode cX9_toNextToken 28 = .ok (.bipush 32, 2) := by decide +kernel
theorem dX9_toNextToken_30 : decode cX9_toNextToken 30 = .ok (.if_icmp .ne 16, 3) := by decide +kernel
theorem dX9_toNextToken_33 : decode cX9_toNextToken 33 = .ok (.aload_n 0, 1) := by decide +kernel
theorem dX9_toNextToken_34 : decode cX9_toNextToken 34 = .ok (.dup, 1) := by decide +kernel
theorem dX9_toNextToken_35 : decode cX9_toNextToken 35 = .ok (.getfield 25, 3) := by decide +kernel
theorem dX9_toNextToken_38 : decode cX9_toNextToken 38 = .ok (.iconst 1, 1) := by decide +kernel
theorem dX9_toNextToken_39 : decode cX9_toNextToken 39 = .ok (.iadd, 1) := by decide +kernel
theorem dX9_toNextToken_40 : decode cX9_toNextToken 40 = .ok (.putfield 25, 3) := by decide +kernel
theorem dX9_toNextToken_43 : decode cX9_toNextToken 43 = .ok (.goto (-35), 3) := by decide +kernel
theorem dX9_toNextToken_46 : decode cX9_toNextToken 46 = .ok (.aload_n 0, 1) := by decide +kernel
theorem dX9_toNextToken_47 : decode cX9_toNextToken 47 = .ok (.aload_n 0, 1) := by decide +kernel
theorem dX9_toNextToken_48 : decode cX9_toNextToken 48 = .ok (.getfield 25, 3) := by decide +kernel
theorem dX9_toNextToken_51 : decode cX9_toNextToken 51 = .ok (.putfield 19, 3) := by decide +kernel
theorem dX9_toNextToken_54 : decode cX9_toNextToken 54 = .ok (.aload_n 0, 1) := by decide +kernel
theorem dX9_toNextToken_55 : decode cX9_toNextToken 55 = .ok (.getfield 25, 3) := by decide +kernel
theorem dX9_toNextToken_58 : decode cX9_toNextToken 58 = .ok (.aload_n 0, 1) := by decide +kernel
theorem dX9_toNextToken_59 : decode cX9_toNextToken 59 = .ok (.getfield 15, 3) := by decide +kernel
theorem dX9_toNextToken_62 : decode cX9_toNextToken 62 = .ok (.if_icmp .lt 4, 3) := by decide +kernel
theorem dX9_toNextToken_65 : decode cX9_toNextToken 65 = .ok (.return_, 1) := by decide +kernel
theorem dX9_toNextToken_66 : decode cX9_toNextToken 66 = .ok (.aload_n 0, 1) := by decide +kernel
theorem dX9_toNextToken_67 : decode cX9_toNextToken 67 = .ok (.getfield 9, 3) := by decide +kernel
theorem dX9_toNextToken_70 : decode cX9_toNextToken 70 = .ok (.aload_n 0, 1) := by decide +kernel
theorem dX9_toNextToken_71 : decode cX9_toNextToken 71 = .ok (.getfield 25, 3) := by decide +kernel
theorem dX9_toNextToken_74 : decode cX9_toNextToken 74 = .ok (.baload, 1) := by decide +kernel
theorem dX9_toNextToken_75 : decode cX9_toNextToken 75 = .ok (.invokestatic 28, 3) := by decide +kernel
theorem dX9_toNextToken_78 : decode cX9_toNextToken 78 = .ok (.istore_n 1, 1) := by decide +kernel
theorem dX9_toNextToken_79 : decode cX9_toNextToken 79 = .ok (.aload_n 0, 1) := by decide +kernel
theorem dX9_toNextToken_80 : decode cX9_toNextToken 80 = .ok (.dup, 1) := by decide +kernel
theorem dX9_toNextToken_81 : decode cX9_toNextToken 81 = .ok (.getfield 19, 3) := by decide +kernel
theorem dX9_toNextToken_84 : decode cX9_toNextToken 84 = .ok (.iconst 1, 1) := by decide +kernel
theorem dX9_toNextToken_85 : decode cX9_toNextToken 85 = .ok (.iadd, 1) := by decide +kernel
theorem dX9_toNextToken_86 : decode cX9_toNextToken 86 = .ok (.putfield 19, 3) := by decide +kernel
theorem dX9_toNextToken_89 : decode cX9_toNextToken 89 = .ok (.aload_n 0, 1) := by decide +kernel
theorem dX9_toNextToken_90 : decode cX9_toNextToken 90 = .ok (.getfield 19, 3) := by decide +kernel
theorem dX9_toNextToken_93 : decode cX9_toNextToken 93 = .ok (.aload_n 0, 1) := by decide +kernel
theorem dX9_toNextToken_94 : decode cX9_toNextToken 94 = .ok (.getfield 15, 3) := by decide +kernel
theorem dX9_toNextToken_97 : decode cX9_toNextToken 97 = .ok (.if_icmp .ge 37, 3) := by decide +kernel
theorem dX9_toNextToken_100 : decode cX9_toNextToken 100 = .ok (.iload_n 1, 1) := by decide +kernel
theorem dX9_toNextToken_101 : decode cX9_toNextToken 101 = .ok (.iconst (-1), 1) := by decide +kernel
theorem dX9_toNextToken_102 : decode cX9_toNextToken 102 = .ok (.if_icmp .eq 32, 3) := by decide +kernel
theorem dX9_toNextToken_105 : decode cX9_toNextToken 105 = .ok (.aload_n 0, 1) := by decide +kernel
theorem dX9_toNextToken_106 : decode cX9_toNextToken 106 = .ok (.getfield 9, 3) := by decide +kernel
theorem dX9_toNextToken_109 : decode cX9_toNextToken 109 = .ok (.aload_n 0, 1) := by decide +kernel
theorem dX9_toNextToken_110 : decode cX9_toNextToken 110 = .ok (.getfield 19, 3) := by decide +kernel
theorem dX9_toNextToken_113 : decode cX9_toNextToken 113 = .ok (.baload, 1) := by decide +kernel
theorem dX9_toNextToken_114 : decode cX9_toNextToken 114 = .ok (.invokestatic 28, 3) := by decide +kernel
theorem dX9_toNextToken_117 : decode cX9_toNextToken 117 = .ok (.iload_n 1, 1) := by decide +kernel
theorem dX9_toNextToken_118 : decode cX9_toNextToken 118 = .ok (.if_icmp .ne 16, 3) := by decide +kernel
theorem dX9_toNextToken_121 : decode cX9_toNextToken 121 = .ok (.aload_n 0, 1) := by decide +kernel
theorem dX9_toNextToken_122 : decode cX9_toNextToken 122 = .ok (.dup, 1) := by decide +kernel
theorem dX9_toNextToken_123 : decode cX9_toNextToken 123 = .ok (.getfield 19, 3) := by decide +kernel
theorem dX9_toNextToken_126 : decode cX9_toNextToken 126 = .ok (.iconst 1, 1) := by decide +kernel
theorem dX9_toNextToken_127 : decode cX9_toNextToken 127 = .ok (.iadd, 1) := by decide +kernel
theorem dX9_toNextToken_128 : decode cX9_toNextToken 128 = .ok (.putfield 19, 3) := by decide +kernel
theorem dX9_toNextToken_131 : decode cX9_toNextToken 131 = .ok (.goto (-42), 3) := by decide +kernel
theorem dX9_toNextToken_134 : decode cX9_toNextToken 134 = .ok (.return_, 1) := by decide +kernel
theorem dX9_isAtEnd_0 : decode cX9_isAtEnd 0 = .ok (.aload_n 0, 1) := by decide +kernel
theorem dX9_isAtEnd_1 : decode cX9_isAtEnd 1 = .ok (.getfield 25, 3) := by decide +kernel
theorem dX9_isAtEnd_4 : decode cX9_isAtEnd 4 = .ok (.aload_n 0, 1) := by decide +kernel
theorem dX9_isAtEnd_5 : decode cX9_isAtEnd 5 = .ok (.getfield 15, 3) := by decide +kernel
theorem dX9_isAtEnd_8 : decode cX9_isAtEnd 8 = .ok (.if_icmp .lt 7, 3) := by decide +kernel
theorem dX9_isAtEnd_11 : decode cX9_isAtEnd 11 = .ok (.iconst 1, 1) := by decide +kernel
theorem dX9_isAtEnd_12 : decode cX9_isAtEnd 12 = .ok (.goto 4, 3) := by decide +kernel
theorem dX9_isAtEnd_15 : decode cX9_isAtEnd 15 = .ok (.iconst 0, 1) := by decide +kernel
theorem dX9_isAtEnd_16 : decode cX9_isAtEnd 16 = .ok (.ireturn, 1) := by decide +kernel
set_option maxRecDepth 20000 in
theorem ggX9_isToken_J0_length_8abf5 : GoodIn wsX9_isToken wsJ0_length_8abf5 := goodIn_r _ [8, 9, 10, 11, 12, 7, 13, 14, 15, 57, 58, 59, 60] (by decide +kernel) (by decide +kernel)
set_option maxRecDepth 20000 in
theorem gX9_isToken_J0_length_8abf5 : GoodIn wsX9_isToken (wsV RX9 32 RJ0 yJ0_length_8abf5 wsJ0_length_8abf5) := goodIn_app (goodIn_of _ (by decide +kernel)) ggX9_isToken_J0_length_8abf5
set_option maxRecDepth 20000 in
theorem ggX9_isToken_J0_charAt_5068e : GoodIn wsX9_isToken wsJ0_charAt_5068e := goodIn_r _ [19, 9, 20, 21, 22, 7, 23, 14, 15, 24, 25, 26, 27, 28, 29, 30, 31, 32, 33, 34, 35, 36, 37, 38, 39, 40, 41, 42, 43, 44, 45, 46, 47, 48, 49, 50, 51, 52, 57, 58, 59, 60] (by decide +kernel) (by decide +kernel)
set_option maxRecDepth 20000 in
theorem gX9_isToken_J0_charAt_5068e : GoodIn wsX9_isToken (wsV RX9 37 RJ0 yJ0_charAt_5068e wsJ0_charAt_5068e) := goodIn_app (goodIn_of _ (by decide +kernel)) ggX9_isToken_J0_charAt_5068e
theorem dX9_isToken_0 : decode cX9_isToken 0 = .ok (.aload_n 0, 1) := by decide +kernel
theorem dX9_isToken_1 : decode cX9_isToken 1 = .ok (.getfield 19, 3) := by decide +kernel
theorem dX9_isToken_4 : decode cX9_isToken 4 = .ok (.aload_n 0, 1) := by decide +kernel
theorem dX9_isToken_5 : decode cX9_isToken 5 = .ok (.getfield 25, 3) := by decide +kernel
theorem dX9_isToken_8 : decode cX9_isToken 8 = .ok (.isub, 1) := by decide +kernel
theorem dX9_isToken_9 : decode cX9_isToken 9 = .ok (.aload_n 1, 1) := by decide +kernel
theorem dX9_isToken_10 : decode cX9_isToken 10 = .ok (.invokevirtual 32, 3) := by decide +kernel
theorem dX9_isToken_13 : decode cX9_isToken 13 = .ok (.if_icmp .eq 5, 3) := by decide +kernel
theorem dX9_isToken_16 : decode cX9_isToken 16 = .ok (.iconst 0, 1) := by decide +kernel
theorem dX9_isToken_17 : decode cX9_isToken 17 = .ok (.ireturn, 1) := by decide +kernel
theorem dX9_isToken_18 : decode cX9_isToken 18 = .ok (.aload_n 0, 1) := by decide +kernel
theorem dX9_isToken_19 : decode cX9_isToken 19 = .ok (.getfield 25, 3) := by decide +kernel
theorem dX9_isToken_22 : decode cX9_isToken 22 = .ok (.istore_n 2, 1) := by decide +kernel
theorem dX9_isToken_23 : decode cX9_isToken 23 = .ok (.iload_n 2, 1) := by decide +kernel
theorem dX9_isToken_24 : decode cX9_isToken 24 = .ok (.aload_n 0, 1) := by decide +kernel
theorem dX9_isToken_25 : decode cX9_isToken 25 = .ok (.getfield 19, 3) := by decide +kernel
theorem dX9_isToken_28 : decode cX9_isToken 28 = .ok (.if_icmp .ge 30, 3) := by decide +kernel
theorem dX9_isToken_31 : decode cX9_isToken 31 = .ok (.aload_n 0, 1) := by decide +kernel
theorem dX9_isToken_32 : decode cX9_isToken 32 = .ok (.getfield 9, 3) := by decide +kernel
theorem dX9_isToken_35 : decode cX9_isToken 35 = .ok (.iload_n 2, 1) := by decide +kernel
theorem dX9_isToken_36 : decode cX9_isToken 36 = .ok (.baload, 1) := by decide +kernel
theorem dX9_isToken_37 : decode cX9_isToken 37 = .ok (.aload_n 1, 1) := by decide +kernel
theorem dX9_isToken_38 : decode cX9_isToken 38 = .ok (.iload_n 2, 1) := by decide +kernel
theorem dX9_isToken_39 : decode cX9_isToken 39 = .ok (.aload_n 0, 1) := by decide +kernel
theorem dX9_isToken_40 : decode cX9_isToken 40 = .ok (.getfield 25, 3) := by decide +kernel
theorem dX9_isToken_43 : decode cX9_isToken 43 = .ok (.isub, 1) := by decide +kernel
theorem dX9_isToken_44 : decode cX9_isToken 44 = .ok (.invokevirtual 37, 3) := by decide +kernel
theorem dX9_isToken_47 : decode cX9_isToken 47 = .ok (.if_icmp .eq 5, 3) := by decide +kernel
theorem dX9_isToken_50 : decode cX9_isToken 50 = .ok (.iconst 0, 1) := by decide +kernel
theorem dX9_isToken_51 : decode cX9_isToken 51 = .ok (.ireturn, 1) := by decide +kernel
theorem dX9_isToken_52 : decode cX9_isToken 52 = .ok (.iinc 2 1, 3) := by decide +kernel
theorem dX9_isToken_55 : decode cX9_isToken 55 = .ok (.goto (-32), 3) := by decide +kernel
theorem dX9_isToken_58 : decode cX9_isToken 58 = .ok (.iconst 1, 1) := by decide +kernel
theorem dX9_isToken_59 : decode cX9_isToken 59 = .ok (.ireturn, 1) := by decide +kernel
set_option maxRecDepth 20000 in
theorem ggX9_valueOfNumber_X9_isAtEnd : GoodIn wsX9_valueOfNumber wsX9_isAtEnd := goodIn_r _ [8, 2, 9, 13, 14, 15, 16] (by decide +kernel) (by decide +kernel)
set_option maxRecDepth 20000 in
theorem gX9_valueOfNumber_X9_isAtEnd : GoodIn wsX9_valueOfNumber (wsV RX9 41 RX9 yX9_isAtEnd wsX9_isAtEnd) := goodIn_app (goodIn_of _ (by decide +kernel)) ggX9_valueOfNumber_X9_isAtEnd
set_option maxRecDepth 20000 in
theorem ggX9_valueOfNumber_X9_alphabetOf : GoodIn wsX9_valueOfNumber wsX9_alphabetOf := goodIn_r _ [12] (by decide +kernel) (by decide +kernel)
set_option maxRecDepth 20000 in
theorem gX9_valueOfNumber_X9_alphabetOf : GoodIn wsX9_valueOfNumber (va_wsS RX9 28 yX9_alphabetOf wsX9_alphabetOf) := goodIn_app (goodIn_of _ (by decide +kernel)) ggX9_valueOfNumber_X9_alphabetOf
theorem dX9_valueOfNumber_0 : decode cX9_valueOfNumber 0 = .ok (.aload_n 0, 1) := by decide +kernel
theorem dX9_valueOfNumber_1 : decode cX9_valueOfNumber 1 = .ok (.invokevirtual 41, 3) := by decide +kernel
theorem dX9_valueOfNumber_4 : decode cX9_valueOfNumber 4 = .ok (.ifCond .ne 32, 3) := by decide +kernel
theorem dX9_valueOfNumber_7 : decode cX9_valueOfNumber 7 = .ok (.aload_n 0, 1) := by decide +kernel
theorem dX9_valueOfNumber_8 : decode cX9_valueOfNumber 8 = .ok (.getfield 9, 3) := by decide +kernel
theorem dX9_valueOfNumber_11 : decode cX9_valueOfNumber 11 = .ok (.aload_n 0, 1) := by decide +kernel
theorem dX9_valueOfNumber_12 : decode cX9_valueOfNumber 12 = .ok (.getfield 25, 3) := by decide +kernel
theorem dX9_valueOfNumber_15 : decode cX9_valueOfNumber 15 = .ok (.baload, 1) := by decide +kernel
theorem dX9_valueOfNumber_16 : decode cX9_valueOfNumber 16 = .ok (.invokestatic 28, 3) := by decide +kernel
theorem dX9_valueOfNumber_19 : decode cX9_valueOfNumber 19 = .ok (.iconst 1, 1) := by decide +kernel
theorem dX9_valueOfNumber_20 : decode cX9_valueOfNumber 20 = .ok (.if_icmp .ne 16, 3) := by decide +kernel
theorem dX9_valueOfNumber_23 : decode cX9_valueOfNumber 23 = .ok (.aload_n 0, 1) := by decide +kernel
theorem dX9_valueOfNumber_24 : decode cX9_valueOfNumber 24 = .ok (.getfield 19, 3) := by decide +kernel
theorem dX9_valueOfNumber_27 : decode cX9_valueOfNumber 27 = .ok (.aload_n 0, 1) := by decide +kernel
theorem dX9_valueOfNumber_28 : decode cX9_valueOfNumber 28 = .ok (.getfield 25, 3) := by decide +kernel
theorem dX9_valueOfNumber_31 : decode cX9_valueOfNumber 31 = .ok (.isub, 1) := by decide +kernel
theorem dX9_valueOfNumber_32 : decode cX9_valueOfNumber 32 = .ok (.iconst 4, 1) := by decide +kernel
theorem dX9_valueOfNumber_33 : decode cX9_valueOfNumber 33 = .ok (.if_icmp .le 5, 3) := by decide +kernel
theorem dX9_valueOfNumber_36 : decode cX9_valueOfNumber 36 = .ok (.iconst (-1), 1) := by decide +kernel
theorem dX9_valueOfNumber_37 : decode cX9_valueOfNumber 37 = .ok (.ireturn, 1) := by decide +kernel
theorem dX9_valueOfNumber_38 : decode cX9_valueOfNumber 38 = .ok (.iconst 0, 1) := by decide +kernel
theorem dX9_valueOfNumber_39 : decode cX9_valueOfNumber 39 = .ok (.istore_n 1, 1) := by decide +kernel
theorem dX9_valueOfNumber_40 : decode cX9_valueOfNumber 40 = .ok (.aload_n 0, 1) := by decide +kernel
theorem dX9_valueOfNumber_41 : decode cX9_valueOfNumber 41 = .ok (.getfield 25, 3) := by decide +kernel
theorem dX9_valueOfNumber_44 : decode cX9_valueOfNumber 44 = .ok (.istore_n 2, 1) := by decide +kernel
theorem dX9_valueOfNumber_45 : decode cX9_valueOfNumber 45 = .ok (.iload_n 2, 1) := by decide +kernel
theorem dX9_valueOfNumber_46 : decode cX9_valueOfNumber 46 = .ok (.aload_n 0, 1) := by decide +kernel
theorem dX9_valueOfNumber_47 : decode cX9_valueOfNumber 47 = .ok (.getfield 19, 3) := by decide +kernel
theorem dX9_valueOfNumber_50 : decode cX9_valueOfNumber 50 = .ok (.if_icmp .ge 24, 3) := by decide +kernel
theorem dX9_valueOfNumber_53 : decode cX9_valueOfNumber 53 = .ok (.iload_n 1, 1) := by decide +kernel
theorem dX9_valueOfNumber_54 : decode cX9_valueOfNumber 54 = .ok (.bipush 10, 2) := by decide +kernel
theorem dX9_valueOfNumber_56 : decode cX9_valueOfNumber 56 = .ok (.imul, 1) := by decide +kernel
theorem dX9_valueOfNumber_57 : decode cX9_valueOfNumber 57 = .ok (.aload_n 0, 1) := by decide +kernel
theorem dX9_valueOfNumber_58 : decode cX9_valueOfNumber 58 = .ok (.getfield 9, 3) := by decide +kernel
theorem dX9_valueOfNumber_61 : decode cX9_valueOfNumber 61 = .ok (.iload_n 2, 1) := by decide +kernel
theorem dX9_valueOfNumber_62 : decode cX9_valueOfNumber 62 = .ok (.baload, 1) := by decide +kernel
theorem dX9_valueOfNumber_63 : decode cX9_valueOfNumber 63 = .ok (.bipush 48, 2) := by decide +kernel
theorem dX9_valueOfNumber_65 : decode cX9_valueOfNumber 65 = .ok (.isub, 1) := by decide +kernel
theorem dX9_valueOfNumber_66 : decode cX9_valueOfNumber 66 = .ok (.iadd, 1) := by decide +kernel
theorem dX9_valueOfNumber_67 : decode cX9_valueOfNumber 67 = .ok (.istore_n 1, 1) := by decide +kernel
theorem dX9_valueOfNumber_68 : decode cX9_valueOfNumber 68 = .ok (.iinc 2 1, 3) := by decide +kernel
theorem dX9_valueOfNumber_71 : decode cX9_valueOfNumber 71 = .ok (.goto (-26), 3) := by decide +kernel
theorem dX9_valueOfNumber_74 : decode cX9_valueOfNumber 74 = .ok (.iload_n 1, 1) := by decide +kernel
theorem dX9_valueOfNumber_75 : decode cX9_valueOfNumber 75 = .ok (.ireturn, 1) := by decide +kernel
theorem dX9_alphabetOf_0 : decode cX9_alphabetOf 0 = .ok (.iload_n 0, 1) := by decide +kernel
theorem dX9_alphabetOf_1 : decode cX9_alphabetOf 1 = .ok (.bipush 97, 2) := by decide +kernel
theorem dX9_alphabetOf_3 : decode cX9_alphabetOf 3 = .ok (.if_icmp .lt 11, 3) := by decide +kernel
theorem dX9_alphabetOf_6 : decode cX9_alphabetOf 6 = .ok (.iload_n 0, 1) := by decide +kernel
theorem dX9_alphabetOf_7 : decode cX9_alphabetOf 7 = .ok (.bipush 122, 2) := by decide +kernel
theorem dX9_alphabetOf_9 : decode cX9_alphabetOf 9 = .ok (.if_icmp .gt 5, 3) := by decide +kernel
theorem dX9_alphabetOf_12 : decode cX9_alphabetOf 12 = .ok (.iconst 0, 1) := by decide +kernel
theorem dX9_alphabetOf_13 : decode cX9_alphabetOf 13 = .ok (.ireturn, 1) := by decide +kernel
theorem dX9_alphabetOf_14 : decode cX9_alphabetOf 14 = .ok (.iload_n 0, 1) := by decide +kernel
theorem dX9_alphabetOf_15 : decode cX9_alphabetOf 15 = .ok (.bipush 48, 2) := by decide +kernel
theorem dX9_alphabetOf_17 : decode cX9_alphabetOf 17 = .ok (.if_icmp .lt 13, 3) := by decide +kernel
theorem dX9_alphabetOf_20 : decode cX9_alphabetOf 20 = .ok (.iload_n 0, 1) := by decide +kernel
theorem dX9_alphabetOf_21 : decode cX9_alphabetOf 21 = .ok (.bipush 57, 2) := by decide +kernel
theorem dX9_alphabetOf_23 : decode cX9_alphabetOf 23 = .ok (.if_icmp .gt 7, 3) := by decide +kernel
theorem dX9_alphabetOf_26 : decode cX9_alphabetOf 26 = .ok (.iconst 1, 1) := by decide +kernel
theorem dX9_alphabetOf_27 : decode cX9_alphabetOf 27 = .ok (.goto 4, 3) := by decide +kernel
theorem dX9_alphabetOf_30 : decode cX9_alphabetOf 30 = .ok (.iconst (-1), 1) := by decide +kernel
theorem dX9_alphabetOf_31 : decode cX9_alphabetOf 31 = .ok (.ireturn, 1) := by decide +kernel
set_option maxRecDepth 20000 in
theorem ggX10_init_X1_init : GoodIn wsX10_init wsX1_init := goodIn_r _ [34, 35, 2, 3, 36, 37, 38, 73, 74, 75] (by decide +kernel) (by decide +kernel)
set_option maxRecDepth 20000 in
theorem gX10_init_X1_init_n11 : GoodIn wsX10_init (wsX1_init) := ggX10_init_X1_init
set_option maxRecDepth 20000 in
theorem ggX10_init_X6_init : GoodIn wsX10_init wsX6_init := goodIn_r _ [40, 41, 2, 3, 36, 42, 86, 87] (by decide +kernel) (by decide +kernel)
set_option maxRecDepth 20000 in
theorem gX10_init_X6_init_n29 : GoodIn wsX10_init (wsX6_init) := ggX10_init_X6_init
set_option maxRecDepth 20000 in
theorem ggX10_init_X8_init : GoodIn wsX10_init wsX8_init := goodIn_r _ [45, 46, 2, 3, 36, 47, 48, 49, 88, 89, 90, 91] (by decide +kernel) (by decide +kernel)
set_option maxRecDepth 20000 in
theorem gX10_init_X8_init : GoodIn wsX10_init (wsX8_init) := ggX10_init_X8_init
set_option maxRecDepth 20000 in
theorem ggX10_init_X9_init : GoodIn wsX10_init wsX9_init := goodIn_r _ [51, 52, 2, 3, 53, 54, 92, 93, 94, 95] (by decide +kernel) (by decide +kernel)
set_option maxRecDepth 20000 in
theorem gX10_init_X9_init_n48 : GoodIn wsX10_init (wsX9_init) := ggX10_init_X9_init
set_option maxRecDepth 20000 in
theorem ggX10_init_X5_init : GoodIn wsX10_init wsX5_init := goodIn_r _ [57, 58, 2, 3, 59, 60, 61, 62, 63, 64, 65, 66, 67, 68, 96, 97, 98, 100, 101, 102, 103, 104, 105] (by decide +kernel) (by decide +kernel)
set_option maxRecDepth 20000 in
theorem gX10_init_X5_init : GoodIn wsX10_init (wsX5_init) := ggX10_init_X5_init
set_option maxRecDepth 20000 in
theorem ggX10_init_X2_init : GoodIn wsX10_init wsX2_init := goodIn_r _ [70, 71, 2, 3, 72, 99] (by decide +kernel) (by decide +kernel)
set_option maxRecDepth 20000 in
theorem gX10_init_X2_init_n64 : GoodIn wsX10_init (wsX2_init) := ggX10_init_X2_init
theorem dX10_init_0 : decode cX10_init 0 = .ok (.aload_n 0, 1) := by decide +kernel
theorem dX10_init_1 : decode cX10_init 1 = .ok (.invokespecial 3, 3) := by decide +kernel
theorem dX10_init_4 : decode cX10_init 4 = .ok (.aload_n 0, 1) := by decide +kernel
theorem dX10_init_5 : decode cX10_init 5 = .ok (.new 9, 3) := by decide +kernel
theorem dX10_init_8 : decode cX10_init 8 = .ok (.dup, 1) := by decide +kernel
theorem dX10_init_9 : decode cX10_init 9 = .ok (.invokespecial 11, 3) := by decide +kernel
theorem dX10_init_12 : decode cX10_init 12 = .ok (.putfield 12, 3) := by decide +kernel
theorem dX10_init_15 : decode cX10_init 15 = .ok (.aload_n 0, 1) := by decide +kernel
theorem dX10_init_16 : decode cX10_init 16 = .ok (.iconst 4, 1) := by decide +kernel
theorem dX10_init_17 : decode cX10_init 17 = .ok (.anewarray 16, 3) := by decide +kernel
theorem dX10_init_20 : decode cX10_init 20 = .ok (.putfield 18, 3) := by decide +kernel
theorem dX10_init_23 : decode cX10_init 23 = .ok (.aload_n 0, 1) := by decide +kernel
theorem dX10_init_24 : decode cX10_init 24 = .ok (.iconst 4, 1) := by decide +kernel
theorem dX10_init_25 : decode cX10_init 25 = .ok (.anewarray 16, 3) := by decide +kernel
theorem dX10_init_28 : decode cX10_init 28 = .ok (.putfield 22, 3) := by decide +kernel
theorem dX10_init_31 : decode cX10_init 31 = .ok (.aload_n 0, 1) := by decide +kernel
theorem dX10_init_32 : decode cX10_init 32 = .ok (.iconst 4, 1) := by decide +kernel
theorem dX10_init_33 : decode cX10_init 33 = .ok (.newarray .boolean, 2) := by decide +kernel
theorem dX10_init_35 : decode cX10_init 35 = .ok (.putfield 25, 3) := by decide +kernel
theorem dX10_init_38 : decode cX10_init 38 = .ok (.iconst 0, 1) := by decide +kernel
theorem dX10_init_39 : decode cX10_init 39 = .ok (.istore_n 1, 1) := by decide +kernel
theorem dX10_init_40 : decode cX10_init 40 = .ok (.iload_n 1, 1) := by decide +kernel
theorem dX10_init_41 : decode cX10_init 41 = .ok (.iconst 4, 1) := by decide +kernel
theorem dX10_init_42 : decode cX10_init 42 = .ok (.if_icmp .ge 35, 3) := by decide +kernel
theorem dX10_init_45 : decode cX10_init 45 = .ok (.aload_n 0, 1) := by decide +kernel
theorem dX10_init_46 : decode cX10_init 46 = .ok (.getfield 18, 3) := by decide +kernel
theorem dX10_init_49 : decode cX10_init 49 = .ok (.iload_n 1, 1) := by decide +kernel
theorem dX10_init_50 : decode cX10_init 50 = .ok (.new 16, 3) := by decide +kernel
theorem dX10_init_53 : decode cX10_init 53 = .ok (.dup, 1) := by decide +kernel
theorem dX10_init_54 : decode cX10_init 54 = .ok (.invokespecial 29, 3) := by decide +kernel
theorem dX10_init_57 : decode cX10_init 57 = .ok (.aastore, 1) := by decide +kernel
theorem dX10_init_58 : decode cX10_init 58 = .ok (.aload_n 0, 1) := by decide +kernel
theorem dX10_init_59 : decode cX10_init 59 = .ok (.getfield 22, 3) := by decide +kernel
theorem dX10_init_62 : decode cX10_init 62 = .ok (.iload_n 1, 1) := by decide +kernel
theorem dX10_init_63 : decode cX10_init 63 = .ok (.new 16, 3) := by decide +kernel
theorem dX10_init_66 : decode cX10_init 66 = .ok (.dup, 1) := by decide +kernel
theorem dX10_init_67 : decode cX10_init 67 = .ok (.invokespecial 29, 3) := by decide +kernel
theorem dX10_init_70 : decode cX10_init 70 = .ok (.aastore, 1) := by decide +kernel
theorem dX10_init_71 : decode cX10_init 71 = .ok (.iinc 1 1, 3) := by decide +kernel
theorem dX10_init_74 : decode cX10_init 74 = .ok (.goto (-34), 3) := by decide +kernel
theorem dX10_init_77 : decode cX10_init 77 = .ok (.aload_n 0, 1) := by decide +kernel
theorem dX10_init_78 : decode cX10_init 78 = .ok (.new 16, 3) := by decide +kernel
theorem dX10_init_81 : decode cX10_init 81 = .ok (.dup, 1) := by decide +kernel
theorem dX10_init_82 : decode cX10_init 82 = .ok (.invokespecial 29, 3) := by decide +kernel
theorem dX10_init_85 : decode cX10_init 85 = .ok (.putfield 30, 3) := by decide +kernel
theorem dX10_init_88 : decode cX10_init 88 = .ok (.aload_n 0, 1) := by decide +kernel
theorem dX10_init_89 : decode cX10_init 89 = .ok (.new 16, 3) := by decide +kernel
theorem dX10_init_92 : decode cX10_init 92 = .ok (.dup, 1) := by decide +kernel
theorem dX10_init_93 : decode cX10_init 93 = .ok (.invokespecial 29, 3) := by decide +kernel
theorem dX10_init_96 : decode cX10_init 96 = .ok (.putfield 34, 3) := by decide +kernel
theorem dX10_init_99 : decode cX10_init 99 = .ok (.aload_n 0, 1) := by decide +kernel
theorem dX10_init_100 : decode cX10_init 100 = .ok (.new 37, 3) := by decide +kernel
theorem dX10_init_103 : decode cX10_init 103 = .ok (.dup, 1) := by decide +kernel
theorem dX10_init_104 : decode cX10_init 104 = .ok (.aload_n 0, 1) := by decide +kernel
theorem dX10_init_105 : decode cX10_init 105 = .ok (.getfield 12, 3) := by decide +kernel
theorem dX10_init_108 : decode cX10_init 108 = .ok (.invokespecial 39, 3) := by decide +kernel
theorem dX10_init_111 : decode cX10_init 111 = .ok (.putfield 42, 3) := by decide +kernel
theorem dX10_init_114 : decode cX10_init 114 = .ok (.aload_n 0, 1) := by decide +kernel
theorem dX10_init_115 : decode cX10_init 115 = .ok (.new 46, 3) := by decide +kernel
theorem dX10_init_118 : decode cX10_init 118 = .ok (.dup, 1) := by decide +kernel
theorem dX10_init_119 : decode cX10_init 119 = .ok (.invokespecial 48, 3) := by decide +kernel
theorem dX10_init_122 : decode cX10_init 122 = .ok (.putfield 49, 3) := by decide +kernel
theorem dX10_init_125 : decode cX10_init 125 = .ok (.aload_n 0, 1) := by decide +kernel
theorem dX10_init_126 : decode cX10_init 126 = .ok (.new 53, 3) := by decide +kernel
theorem dX10_init_129 : decode cX10_init 129 = .ok (.dup, 1) := by decide +kernel
theorem dX10_init_130 : decode cX10_init 130 = .ok (.aload_n 0, 1) := by decide +kernel
theorem dX10_init_131 : decode cX10_init 131 = .ok (.getfield 49, 3) := by decide +kernel
theorem dX10_init_134 : decode cX10_init 134 = .ok (.invokespecial 55, 3) := by decide +kernel
theorem dX10_init_137 : decode cX10_init 137 = .ok (.putfield 58, 3) := by decide +kernel
theorem dX10_init_140 : decode cX10_init 140 = .ok (.aload_n 0, 1) := by decide +kernel
theorem dX10_init_141 : decode cX10_init 141 = .ok (.new 62, 3) := by decide +kernel
theorem dX10_init_144 : decode cX10_init 144 = .ok (.dup, 1) := by decide +kernel
theorem dX10_init_145 : decode cX10_init 145 = .ok (.invokespecial 64, 3) := by decide +kernel
theorem dX10_init_148 : decode cX10_init 148 = .ok (.putfield 65, 3) := by decide +kernel
theorem dX10_init_151 : decode cX10_init 151 = .ok (.return_, 1) := by decide +kernel
set_option maxRecDepth 20000 in
theorem ggX10_type_X9_bytesIn : GoodIn wsX10_type wsX9_bytesIn := goodIn_r _ [8] (by decide +kernel) (by decide +kernel)
set_option maxRecDepth 20000 in
theorem gX10_type_X9_bytesIn : GoodIn wsX10_type (va_wsS RX10 73 yX9_bytesIn wsX9_bytesIn) := goodIn_app (goodIn_of _ (by decide +kernel)) ggX10_type_X9_bytesIn
set_option maxRecDepth 20000 in
theorem ggX10_type_X9_append : GoodIn wsX10_type wsX9_append := goodIn_r _ [12, 13, 14, 25, 26, 27, 28] (by decide +kernel) (by decide +kernel)
set_option maxRecDepth 20000 in
theorem gX10_type_X9_append : GoodIn wsX10_type (wsV RX10 84 RX9 yX9_append wsX9_append) := goodIn_app (goodIn_of _ (by decide +kernel)) ggX10_type_X9_append
theorem dX10_type_0 : decode cX10_type 0 = .ok (.aload_n 0, 1) := by decide +kernel
theorem dX10_type_1 : decode cX10_type 1 = .ok (.getfield 49, 3) := by decide +kernel
theorem dX10_type_4 : decode cX10_type 4 = .ok (.getfield 69, 3) := by decide +kernel
theorem dX10_type_7 : decode cX10_type 7 = .ok (.lload_n 1, 1) := by decide +kernel
theorem dX10_type_8 : decode cX10_type 8 = .ok (.invokestatic 73, 3) := by decide +kernel
theorem dX10_type_11 : decode cX10_type 11 = .ok (.iadd, 1) := by decide +kernel
theorem dX10_type_12 : decode cX10_type 12 = .ok (.sipush 400, 3) := by decide +kernel
theorem dX10_type_15 : decode cX10_type 15 = .ok (.if_icmp .le 13, 3) := by decide +kernel
theorem dX10_type_18 : decode cX10_type 18 = .ok (.new 77, 3) := by decide +kernel
theorem dX10_type_21 : decode cX10_type 21 = .ok (.dup, 1) := by decide +kernel
theorem dX10_type_22 : decode cX10_type 22 = .ok (.ldc 79, 2) := by decide +kernel
theorem dX10_type_24 : decode cX10_type 24 = .ok (.invokespecial 81, 3) := by decide +kernel
theorem dX10_type_27 : decode cX10_type 27 = .ok (.athrow, 1) := by decide +kernel
theorem dX10_type_28 : decode cX10_type 28 = .ok (.aload_n 0, 1) := by decide +kernel
theorem dX10_type_29 : decode cX10_type 29 = .ok (.getfield 49, 3) := by decide +kernel
theorem dX10_type_32 : decode cX10_type 32 = .ok (.lload_n 1, 1) := by decide +kernel
theorem dX10_type_33 : decode cX10_type 33 = .ok (.invokevirtual 84, 3) := by decide +kernel
theorem dX10_type_36 : decode cX10_type 36 = .ok (.aload_n 0, 1) := by decide +kernel
theorem dX10_type_37 : decode cX10_type 37 = .ok (.getfield 49, 3) := by decide +kernel
theorem dX10_type_40 : decode cX10_type 40 = .ok (.getfield 69, 3) := by decide +kernel
theorem dX10_type_43 : decode cX10_type 43 = .ok (.ireturn, 1) := by decide +kernel
theorem dX10_clearText_0 : decode cX10_clearText 0 = .ok (.aload_n 0, 1) := by decide +kernel
theorem dX10_clearText_1 : decode cX10_clearText 1 = .ok (.getfield 49, 3) := by decide +kernel
theorem dX10_clearText_4 : decode cX10_clearText 4 = .ok (.getfield 69, 3) := by decide +kernel
theorem dX10_clearText_7 : decode cX10_clearText 7 = .ok (.istore_n 1, 1) := by decide +kernel
theorem dX10_clearText_8 : decode cX10_clearText 8 = .ok (.aload_n 0, 1) := by decide +kernel
theorem dX10_clearText_9 : decode cX10_clearText 9 = .ok (.getfield 49, 3) := by decide +kernel
theorem dX10_clearText_12 : decode cX10_clearText 12 = .ok (.iconst 0, 1) := by decide +kernel
theorem dX10_clearText_13 : decode cX10_clearText 13 = .ok (.putfield 69, 3) := by decide +kernel
theorem dX10_clearText_16 : decode cX10_clearText 16 = .ok (.iload_n 1, 1) := by decide +kernel
theorem dX10_clearText_17 : decode cX10_clearText 17 = .ok (.ireturn, 1) := by decide +kernel
set_option maxRecDepth 20000 in
theorem ggX10_fault_X5_readText : GoodIn wsX10_fault wsX5_readText := goodIn_r _ [6, 7, 8, 9, 10, 11, 12, 13, 14, 15, 16, 17, 18, 19, 20, 21, 22, 23, 24, 25, 26, 27, 28, 29, 30, 31, 32, 33, 5, 34, 35, 36, 37, 38, 39, 40, 41, 42, 43, 44, 45, 46, 47, 48, 49, 50, 51, 52, 53, 54, 55, 56, 57, 58, 59, 60, 61, 62, 63, 64, 65, 66, 67, 68, 69, 70, 71, 72, 73, 74, 75, 76, 77, 78, 79, 80, 81, 82, 83, 84, 85, 86, 87, 88, 89, 90, 91, 92, 93, 94, 95, 96, 97, 98, 99, 100, 101, 102, 103, 104, 105, 106, 107, 108, 109, 110, 111, 112, 113, 114, 115, 116, 117, 118, 119, 120, 121, 122, 123, 124, 125, 126, 127, 128, 129, 130, 131, 132, 133, 134, 135, 146, 147, 148, 149, 150, 151, 152, 153, 154, 155, 156, 157, 158, 159, 160, 161, 162] (by decide +kernel) (by decide +kernel)
set_option maxRecDepth 20000 in
theorem gX10_fault_X5_readText : GoodIn wsX10_fault (wsV RX10 88 RX5 yX5_readText wsX5_readText) := goodIn_app (goodIn_of _ (by decide +kernel)) ggX10_fault_X5_readText
theorem dX10_fault_0 : decode cX10_fault 0 = .ok (.aload_n 0, 1) := by decide +kernel
theorem dX10_fault_1 : decode cX10_fault 1 = .ok (.getfield 58, 3) := by decide +kernel
theorem dX10_fault_4 : decode cX10_fault 4 = .ok (.invokevirtual 88, 3) := by decide +kernel
theorem dX10_fault_7 : decode cX10_fault 7 = .ok (.ireturn, 1) := by decide +kernel
set_option maxRecDepth 20000 in
theorem ggX10_lay_X10_rowAt : GoodIn wsX10_lay wsX10_rowAt := goodIn_ca (goodIn_r _ [10, 11, 12, 13, 222, 223, 224, 225, 226, 227, 228, 229, 230, 231] (by decide +kernel) (by decide +kernel)) (goodIn_sub (fun _ h => List.mem_cons_of_mem _ (List.mem_append_right _ h)) (by decide +kernel))
set_option maxRecDepth 20000 in
theorem gX10_lay_X10_rowAt : GoodIn wsX10_lay (wsV RX10 92 RX10 yX10_rowAt wsX10_rowAt) := goodIn_app (goodIn_of _ (by decide +kernel)) ggX10_lay_X10_rowAt
set_option maxRecDepth 20000 in
theorem ggX10_lay_X5_readText : GoodIn wsX10_lay wsX5_readText := goodIn_r _ [18, 19, 20, 21, 22, 23, 24, 25, 26, 27, 28, 29, 30, 31, 32, 33, 34, 35, 36, 37, 38, 39, 40, 41, 42, 43, 44, 45, 17, 46, 47, 48, 49, 50, 51, 52, 53, 54, 55, 56, 57, 58, 59, 60, 61, 62, 63, 64, 65, 66, 67, 68, 69, 70, 71, 72, 73, 74, 75, 76, 77, 78, 79, 80, 81, 82, 83, 84, 85, 86, 87, 88, 89, 90, 91, 92, 93, 94, 95, 96, 97, 98, 99, 100, 101, 102, 103, 104, 105, 106, 107, 108, 109, 110, 111, 112, 113, 114, 115, 116, 117, 118, 119, 120, 121, 122, 123, 124, 125, 126, 127, 128, 129, 130, 131, 132, 133, 134, 135, 136, 137, 138, 139, 140, 141, 142, 143, 144, 145, 146, 147, 232, 233, 234, 235, 236, 237, 238, 239, 240, 241, 242, 243, 244, 245, 246, 247, 248] (by decide +kernel) (by decide +kernel)
set_option maxRecDepth 20000 in
theorem gX10_lay_X5_readText : GoodIn wsX10_lay (wsV RX10 88 RX5 yX5_readText wsX5_readText) := goodIn_app (goodIn_of _ (by decide +kernel)) ggX10_lay_X5_readText
set_option maxRecDepth 20000 in
theorem ggX10_lay_X5_cardsOfAllRuns : GoodIn wsX10_lay wsX5_cardsOfAllRuns := goodIn_r _ [151, 19, 21, 116, 232, 233, 234, 239, 240, 241, 242, 243, 244] (by decide +kernel) (by decide +kernel)
set_option maxRecDepth 20000 in
theorem gX10_lay_X5_cardsOfAllRuns : GoodIn wsX10_lay (wsV RX10 98 RX5 yX5_cardsOfAllRuns wsX5_cardsOfAllRuns) := goodIn_app (goodIn_of _ (by decide +kernel)) ggX10_lay_X5_cardsOfAllRuns
set_option maxRecDepth 20000 in
theorem ggX10_lay_X10_needRoom : GoodIn wsX10_lay wsX10_needRoom := goodIn_ca (goodIn_r _ [154, 1, 2, 155, 249, 250] (by decide +kernel) (by decide +kernel)) (goodIn_sub (fun _ h => List.mem_cons_of_mem _ (List.mem_append_left _ (List.mem_append_right _ h))) (by decide +kernel))
set_option maxRecDepth 20000 in
theorem gX10_lay_X10_needRoom : GoodIn wsX10_lay (va_wsS RX10 101 yX10_needRoom wsX10_needRoom) := goodIn_app (goodIn_of _ (by decide +kernel)) ggX10_lay_X10_needRoom
set_option maxRecDepth 20000 in
theorem ggX10_lay_X10_needCards : GoodIn wsX10_lay wsX10_needCards := goodIn_ca (goodIn_r _ [159, 1, 2, 160, 161, 222, 223, 224, 225, 226, 227, 228, 229, 230, 231, 251, 252, 253] (by decide +kernel) (by decide +kernel)) (goodIn_sub (fun _ h => List.mem_cons_of_mem _ (List.mem_append_left _ (List.mem_append_right _ h))) (by decide +kernel))
set_option maxRecDepth 20000 in
theorem gX10_lay_X10_needCards : GoodIn wsX10_lay (wsV RX10 105 RX10 yX10_needCards wsX10_needCards) := goodIn_app (goodIn_of _ (by decide +kernel)) ggX10_lay_X10_needCards
set_option maxRecDepth 20000 in
theorem ggX10_lay_X10_layRun : GoodIn wsX10_lay wsX10_layRun := goodIn_r _ [165, 166, 160, 167, 168, 169, 170, 171, 172, 173, 174, 175, 176, 177, 178, 179, 180, 181, 182, 183, 184, 185, 9, 186, 187, 188, 189, 190, 191, 192, 193, 194, 195, 196, 197, 198, 199, 200, 201, 202, 203, 204, 205, 206, 207, 208, 209, 210, 211, 212, 213, 214, 215, 216, 217, 218, 219, 220, 221, 239, 240, 241, 242, 243, 244, 222, 223, 224, 225, 226, 227, 228, 229, 230, 231, 254, 251, 252, 253, 249, 250] (by decide +kernel) (by decide +kernel)
set_option maxRecDepth 20000 in
theorem gX10_lay_X10_layRun : GoodIn wsX10_lay (wsV RX10 116 RX10 yX10_layRun wsX10_layRun) := goodIn_app (goodIn_of _ (by decide +kernel)) ggX10_lay_X10_layRun
theorem dX10_lay_0 : decode cX10_lay 0 = .ok (.aload_n 0, 1) := by decide +kernel
theorem dX10_lay_1 : decode cX10_lay 1 = .ok (.iload_n 1, 1) := by decide +kernel
theorem dX10_lay_2 : decode cX10_lay 2 = .ok (.invokevirtual 92, 3) := by decide +kernel
theorem dX10_lay_5 : decode cX10_lay 5 = .ok (.astore_n 2, 1) := by decide +kernel
theorem dX10_lay_6 : decode cX10_lay 6 = .ok (.aload_n 0, 1) := by decide +kernel
theorem dX10_lay_7 : decode cX10_lay 7 = .ok (.getfield 58, 3) := by decide +kernel
theorem dX10_lay_10 : decode cX10_lay 10 = .ok (.invokevirtual 88, 3) := by decide +kernel
theorem dX10_lay_13 : decode cX10_lay 13 = .ok (.iconst (-1), 1) := by decide +kernel
theorem dX10_lay_14 : decode cX10_lay 14 = .ok (.if_icmp .eq 13, 3) := by decide +kernel
theorem dX10_lay_17 : decode cX10_lay 17 = .ok (.new 77, 3) := by decide +kernel
theorem dX10_lay_20 : decode cX10_lay 20 = .ok (.dup, 1) := by decide +kernel
theorem dX10_lay_21 : decode cX10_lay 21 = .ok (.ldc 96, 2) := by decide +kernel
theorem dX10_lay_23 : decode cX10_lay 23 = .ok (.invokespecial 81, 3) := by decide +kernel
theorem dX10_lay_26 : decode cX10_lay 26 = .ok (.athrow, 1) := by decide +kernel
theorem dX10_lay_27 : decode cX10_lay 27 = .ok (.aload_n 0, 1) := by decide +kernel
theorem dX10_lay_28 : decode cX10_lay 28 = .ok (.getfield 58, 3) := by decide +kernel
theorem dX10_lay_31 : decode cX10_lay 31 = .ok (.invokevirtual 98, 3) := by decide +kernel
theorem dX10_lay_34 : decode cX10_lay 34 = .ok (.istore_n 3, 1) := by decide +kernel
theorem dX10_lay_35 : decode cX10_lay 35 = .ok (.aload_n 2, 1) := by decide +kernel
theorem dX10_lay_36 : decode cX10_lay 36 = .ok (.iload_n 3, 1) := by decide +kernel
theorem dX10_lay_37 : decode cX10_lay 37 = .ok (.invokestatic 101, 3) := by decide +kernel
theorem dX10_lay_40 : decode cX10_lay 40 = .ok (.aload_n 0, 1) := by decide +kernel
theorem dX10_lay_41 : decode cX10_lay 41 = .ok (.iload_n 3, 1) := by decide +kernel
theorem dX10_lay_42 : decode cX10_lay 42 = .ok (.invokevirtual 105, 3) := by decide +kernel
theorem dX10_lay_45 : decode cX10_lay 45 = .ok (.iconst 0, 1) := by decide +kernel
theorem dX10_lay_46 : decode cX10_lay 46 = .ok (.istore 4, 2) := by decide +kernel
theorem dX10_lay_48 : decode cX10_lay 48 = .ok (.iload 4, 2) := by decide +kernel
theorem dX10_lay_50 : decode cX10_lay 50 = .ok (.aload_n 0, 1) := by decide +kernel
theorem dX10_lay_51 : decode cX10_lay 51 = .ok (.getfield 58, 3) := by decide +kernel
theorem dX10_lay_54 : decode cX10_lay 54 = .ok (.getfield 109, 3) := by decide +kernel
theorem dX10_lay_57 : decode cX10_lay 57 = .ok (.if_icmp .ge 24, 3) := by decide +kernel
theorem dX10_lay_60 : decode cX10_lay 60 = .ok (.aload_n 0, 1) := by decide +kernel
theorem dX10_lay_61 : decode cX10_lay 61 = .ok (.aload_n 0, 1) := by decide +kernel
theorem dX10_lay_62 : decode cX10_lay 62 = .ok (.getfield 58, 3) := by decide +kernel
theorem dX10_lay_65 : decode cX10_lay 65 = .ok (.getfield 112, 3) := by decide +kernel
theorem dX10_lay_68 : decode cX10_lay 68 = .ok (.iload 4, 2) := by decide +kernel
theorem dX10_lay_70 : decode cX10_lay 70 = .ok (.aaload, 1) := by decide +kernel
theorem dX10_lay_71 : decode cX10_lay 71 = .ok (.aload_n 2, 1) := by decide +kernel
theorem dX10_lay_72 : decode cX10_lay 72 = .ok (.invokevirtual 116, 3) := by decide +kernel
theorem dX10_lay_75 : decode cX10_lay 75 = .ok (.iinc 4 1, 3) := by decide +kernel
theorem dX10_lay_78 : decode cX10_lay 78 = .ok (.goto (-30), 3) := by decide +kernel
theorem dX10_lay_81 : decode cX10_lay 81 = .ok (.iload_n 3, 1) := by decide +kernel
theorem dX10_lay_82 : decode cX10_lay 82 = .ok (.ireturn, 1) := by decide +kernel
set_option maxRecDepth 20000 in
theorem ggX10_put_X10_rowAt : GoodIn wsX10_put wsX10_rowAt := goodIn_ca (goodIn_r _ [9, 1, 2, 10, 42, 43, 44, 45, 46, 47, 48, 49, 50, 51] (by decide +kernel) (by decide +kernel)) (goodIn_sub (fun _ h => List.mem_cons_of_mem _ (List.mem_append_left _ (List.mem_append_right _ h))) (by decide +kernel))
set_option maxRecDepth 20000 in
theorem gX10_put_X10_rowAt : GoodIn wsX10_put (wsV RX10 92 RX10 yX10_rowAt wsX10_rowAt) := goodIn_app (goodIn_of _ (by decide +kernel)) ggX10_put_X10_rowAt
set_option maxRecDepth 20000 in
theorem ggX10_put_X10_needRoom : GoodIn wsX10_put wsX10_needRoom := goodIn_ca (goodIn_r _ [13, 14, 15, 3, 40, 41] (by decide +kernel) (by decide +kernel)) (goodIn_sub (fun _ h => List.mem_cons_of_mem _ (List.mem_append_right _ h)) (by decide +kernel))
set_option maxRecDepth 20000 in
theorem gX10_put_X10_needRoom : GoodIn wsX10_put (va_wsS RX10 101 yX10_needRoom wsX10_needRoom) := goodIn_app (goodIn_of _ (by decide +kernel)) ggX10_put_X10_needRoom
set_option maxRecDepth 20000 in
theorem ggX10_put_X10_needCards : GoodIn wsX10_put wsX10_needCards := goodIn_ca (goodIn_r _ [19, 14, 15, 4, 20, 42, 43, 44, 45, 46, 47, 48, 49, 50, 51, 52, 53, 54] (by decide +kernel) (by decide +kernel)) (goodIn_sub (fun _ h => List.mem_cons_of_mem _ (List.mem_append_right _ h)) (by decide +kernel))
set_option maxRecDepth 20000 in
theorem gX10_put_X10_needCards : GoodIn wsX10_put (wsV RX10 105 RX10 yX10_needCards wsX10_needCards) := goodIn_app (goodIn_of _ (by decide +kernel)) ggX10_put_X10_needCards
set_option maxRecDepth 20000 in
theorem ggX10_put_X1_make : GoodIn wsX10_put wsX1_make := goodIn_r _ [25, 26, 27, 28, 52, 53, 54] (by decide +kernel) (by decide +kernel)
set_option maxRecDepth 20000 in
theorem gX10_put_X1_make : GoodIn wsX10_put (wsV RX10 128 RX1 yX1_make wsX1_make) := goodIn_app (goodIn_of _ (by decide +kernel)) ggX10_put_X1_make
set_option maxRecDepth 20000 in
theorem ggX10_put_X6_insert : GoodIn wsX10_put wsX6_insert := goodIn_r _ [33, 34, 35, 36, 37, 38, 39, 40, 41] (by decide +kernel) (by decide +kernel)
set_option maxRecDepth 20000 in
theorem gX10_put_X6_insert : GoodIn wsX10_put (wsV RX10 132 RX6 yX6_insert wsX6_insert) := goodIn_app (goodIn_of _ (by decide +kernel)) ggX10_put_X6_insert
theorem dX10_put_0 : decode cX10_put 0 = .ok (.aload_n 0, 1) := by decide +kernel
theorem dX10_put_1 : decode cX10_put 1 = .ok (.iload_n 1, 1) := by decide +kernel
theorem dX10_put_2 : decode cX10_put 2 = .ok (.invokevirtual 92, 3) := by decide +kernel
theorem dX10_put_5 : decode cX10_put 5 = .ok (.astore 5, 2) := by decide +kernel
theorem dX10_put_7 : decode cX10_put 7 = .ok (.iload_n 2, 1) := by decide +kernel
theorem dX10_put_8 : decode cX10_put 8 = .ok (.ifCond .lt 12, 3) := by decide +kernel
theorem dX10_put_11 : decode cX10_put 11 = .ok (.iload_n 2, 1) := by decide +kernel
theorem dX10_put_12 : decode cX10_put 12 = .ok (.aload 5, 2) := by decide +kernel
theorem dX10_put_14 : decode cX10_put 14 = .ok (.getfield 120, 3) := by decide +kernel
theorem dX10_put_17 : decode cX10_put 17 = .ok (.if_icmp .le 13, 3) := by decide +kernel
theorem dX10_put_20 : decode cX10_put 20 = .ok (.new 123, 3) := by decide +kernel
theorem dX10_put_23 : decode cX10_put 23 = .ok (.dup, 1) := by decide +kernel
theorem dX10_put_24 : decode cX10_put 24 = .ok (.ldc 125, 2) := by decide +kernel
theorem dX10_put_26 : decode cX10_put 26 = .ok (.invokespecial 127, 3) := by decide +kernel
theorem dX10_put_29 : decode cX10_put 29 = .ok (.athrow, 1) := by decide +kernel
theorem dX10_put_30 : decode cX10_put 30 = .ok (.aload 5, 2) := by decide +kernel
theorem dX10_put_32 : decode cX10_put 32 = .ok (.iconst 1, 1) := by decide +kernel
theorem dX10_put_33 : decode cX10_put 33 = .ok (.invokestatic 101, 3) := by decide +kernel
theorem dX10_put_36 : decode cX10_put 36 = .ok (.aload_n 0, 1) := by decide +kernel
theorem dX10_put_37 : decode cX10_put 37 = .ok (.iconst 1, 1) := by decide +kernel
theorem dX10_put_38 : decode cX10_put 38 = .ok (.invokevirtual 105, 3) := by decide +kernel
theorem dX10_put_41 : decode cX10_put 41 = .ok (.aload_n 0, 1) := by decide +kernel
theorem dX10_put_42 : decode cX10_put 42 = .ok (.getfield 12, 3) := by decide +kernel
theorem dX10_put_45 : decode cX10_put 45 = .ok (.iload_n 3, 1) := by decide +kernel
theorem dX10_put_46 : decode cX10_put 46 = .ok (.iload 4, 2) := by decide +kernel
theorem dX10_put_48 : decode cX10_put 48 = .ok (.invokevirtual 128, 3) := by decide +kernel
theorem dX10_put_51 : decode cX10_put 51 = .ok (.istore 6, 2) := by decide +kernel
theorem dX10_put_53 : decode cX10_put 53 = .ok (.aload 5, 2) := by decide +kernel
theorem dX10_put_55 : decode cX10_put 55 = .ok (.iload_n 2, 1) := by decide +kernel
theorem dX10_put_56 : decode cX10_put 56 = .ok (.iload 6, 2) := by decide +kernel
theorem dX10_put_58 : decode cX10_put 58 = .ok (.invokevirtual 132, 3) := by decide +kernel
theorem dX10_put_61 : decode cX10_put 61 = .ok (.iload 6, 2) := by decide +kernel
theorem dX10_put_63 : decode cX10_put 63 = .ok (.ireturn, 1) := by decide +kernel
theorem dX10_setSeed_0 : decode cX10_setSeed 0 = .ok (.aload_n 0, 1) := by decide +kernel
theorem dX10_setSeed_1 : decode cX10_setSeed 1 = .ok (.getfield 65, 3) := by decide +kernel
theorem dX10_setSeed_4 : decode cX10_setSeed 4 = .ok (.getfield 136, 3) := by decide +kernel
theorem dX10_setSeed_7 : decode cX10_setSeed 7 = .ok (.istore_n 2, 1) := by decide +kernel
theorem dX10_setSeed_8 : decode cX10_setSeed 8 = .ok (.aload_n 0, 1) := by decide +kernel
theorem dX10_setSeed_9 : decode cX10_setSeed 9 = .ok (.getfield 65, 3) := by decide +kernel
theorem dX10_setSeed_12 : decode cX10_setSeed 12 = .ok (.iload_n 1, 1) := by decide +kernel
theorem dX10_setSeed_13 : decode cX10_setSeed 13 = .ok (.putfield 136, 3) := by decide +kernel
theorem dX10_setSeed_16 : decode cX10_setSeed 16 = .ok (.iload_n 2, 1) := by decide +kernel
theorem dX10_setSeed_17 : decode cX10_setSeed 17 = .ok (.ireturn, 1) := by decide +kernel
set_option maxRecDepth 20000 in
theorem ggX10_sort_X10_rowAt : GoodIn wsX10_sort wsX10_rowAt := goodIn_ca (goodIn_r _ [6, 7, 8, 9, 74, 75, 76, 77, 78, 79, 80, 81, 82, 83] (by decide +kernel) (by decide +kernel)) (goodIn_sub (fun _ h => List.mem_cons_of_mem _ (List.mem_append_right _ h)) (by decide +kernel))
set_option maxRecDepth 20000 in
theorem gX10_sort_X10_rowAt : GoodIn wsX10_sort (wsV RX10 92 RX10 yX10_rowAt wsX10_rowAt) := goodIn_app (goodIn_of _ (by decide +kernel)) ggX10_sort_X10_rowAt
set_option maxRecDepth 20000 in
theorem ggX10_sort_X10_arrangeRow : GoodIn wsX10_sort wsX10_arrangeRow := goodIn_r _ [13, 14, 15, 16, 17, 5, 18, 19, 20, 21, 22, 23, 24, 25, 26, 27, 28, 29, 30, 31, 32, 33, 34, 35, 36, 37, 38, 39, 40, 41, 42, 43, 44, 45, 46, 47, 48, 49, 50, 51, 52, 53, 54, 55, 56, 57, 58, 59, 60, 61, 62, 63, 64, 65, 66, 67, 68, 69, 70, 71, 72, 73, 84, 85, 74, 75, 76, 77, 78, 79, 80, 81, 82, 83, 86, 87, 88, 89, 90, 91, 92] (by decide +kernel) (by decide +kernel)
set_option maxRecDepth 20000 in
theorem gX10_sort_X10_arrangeRow : GoodIn wsX10_sort (wsV RX10 145 RX10 yX10_arrangeRow wsX10_arrangeRow) := goodIn_app (goodIn_of _ (by decide +kernel)) ggX10_sort_X10_arrangeRow
theorem dX10_sort_0 : decode cX10_sort 0 = .ok (.aload_n 0, 1) := by decide +kernel
theorem dX10_sort_1 : decode cX10_sort 1 = .ok (.aload_n 0, 1) := by decide +kernel
theorem dX10_sort_2 : decode cX10_sort 2 = .ok (.iload_n 1, 1) := by decide +kernel
theorem dX10_sort_3 : decode cX10_sort 3 = .ok (.invokevirtual 92, 3) := by decide +kernel
theorem dX10_sort_6 : decode cX10_sort 6 = .ok (.getstatic 139, 3) := by decide +kernel
theorem dX10_sort_9 : decode cX10_sort 9 = .ok (.invokevirtual 145, 3) := by decide +kernel
theorem dX10_sort_12 : decode cX10_sort 12 = .ok (.ireturn, 1) := by decide +kernel
set_option maxRecDepth 20000 in
theorem ggX10_sortAll_X8_clear : GoodIn wsX10_sortAll wsX8_clear := goodIn_r _ [9, 10, 71, 72, 73, 74] (by decide +kernel) (by decide +kernel)
set_option maxRecDepth 20000 in
theorem gX10_sortAll_X8_clear : GoodIn wsX10_sortAll (wsV RX10 149 RX8 yX8_clear wsX8_clear) := goodIn_app (goodIn_of _ (by decide +kernel)) ggX10_sortAll_X8_clear
set_option maxRecDepth 20000 in
theorem ggX10_sortAll_X8_take : GoodIn wsX10_sortAll wsX8_take := goodIn_r _ [14, 10, 15, 16, 71, 72, 73, 74, 69, 70] (by decide +kernel) (by decide +kernel)
set_option maxRecDepth 20000 in
theorem gX10_sortAll_X8_take : GoodIn wsX10_sortAll (wsV RX10 152 RX8 yX8_take wsX8_take) := goodIn_app (goodIn_of _ (by decide +kernel)) ggX10_sortAll_X8_take
set_option maxRecDepth 20000 in
theorem ggX10_sortAll_X8_arrange : GoodIn wsX10_sortAll wsX8_arrange := goodIn_r _ [20, 10, 21, 22, 23, 24, 15, 25, 26, 27, 28, 8, 29, 30, 31, 32, 33, 34, 35, 36, 37, 38, 39, 40, 41, 42, 43, 44, 45, 46, 47, 48, 49, 50, 51, 52, 53, 54, 71, 72, 73, 74, 75, 76, 77] (by decide +kernel) (by decide +kernel)
set_option maxRecDepth 20000 in
theorem gX10_sortAll_X8_arrange : GoodIn wsX10_sortAll (wsV RX10 156 RX8 yX8_arrange wsX8_arrange) := goodIn_app (goodIn_of _ (by decide +kernel)) ggX10_sortAll_X8_arrange
set_option maxRecDepth 20000 in
theorem ggX10_sortAll_X8_layBack : GoodIn wsX10_sortAll wsX8_layBack := goodIn_r _ [58, 10, 16, 15, 71, 72, 73, 74, 69, 70] (by decide +kernel) (by decide +kernel)
set_option maxRecDepth 20000 in
theorem gX10_sortAll_X8_layBack : GoodIn wsX10_sortAll (wsV RX10 160 RX8 yX8_layBack wsX8_layBack) := goodIn_app (goodIn_of _ (by decide +kernel)) ggX10_sortAll_X8_layBack
theorem dX10_sortAll_0 : decode cX10_sortAll 0 = .ok (.aload_n 0, 1) := by decide +kernel
theorem dX10_sortAll_1 : decode cX10_sortAll 1 = .ok (.getfield 42, 3) := by decide +kernel
theorem dX10_sortAll_4 : decode cX10_sortAll 4 = .ok (.invokevirtual 149, 3) := by decide +kernel
theorem dX10_sortAll_7 : decode cX10_sortAll 7 = .ok (.iconst 0, 1) := by decide +kernel
theorem dX10_sortAll_8 : decode cX10_sortAll 8 = .ok (.istore_n 1, 1) := by decide +kernel
theorem dX10_sortAll_9 : decode cX10_sortAll 9 = .ok (.iload_n 1, 1) := by decide +kernel
theorem dX10_sortAll_10 : decode cX10_sortAll 10 = .ok (.iconst 4, 1) := by decide +kernel
theorem dX10_sortAll_11 : decode cX10_sortAll 11 = .ok (.if_icmp .ge 32, 3) := by decide +kernel
theorem dX10_sortAll_14 : decode cX10_sortAll 14 = .ok (.aload_n 0, 1) := by decide +kernel
theorem dX10_sortAll_15 : decode cX10_sortAll 15 = .ok (.getfield 42, 3) := by decide +kernel
theorem dX10_sortAll_18 : decode cX10_sortAll 18 = .ok (.aload_n 0, 1) := by decide +kernel
theorem dX10_sortAll_19 : decode cX10_sortAll 19 = .ok (.getfield 18, 3) := by decide +kernel
theorem dX10_sortAll_22 : decode cX10_sortAll 22 = .ok (.iload_n 1, 1) := by decide +kernel
theorem dX10_sortAll_23 : decode cX10_sortAll 23 = .ok (.aaload, 1) := by decide +kernel
theorem dX10_sortAll_24 : decode cX10_sortAll 24 = .ok (.iconst 0, 1) := by decide +kernel
theorem dX10_sortAll_25 : decode cX10_sortAll 25 = .ok (.aload_n 0, 1) := by decide +kernel
theorem dX10_sortAll_26 : decode cX10_sortAll 26 = .ok (.getfield 18, 3) := by decide +kernel
theorem dX10_sortAll_29 : decode cX10_sortAll 29 = .ok (.iload_n 1, 1) := by decide +kernel
theorem dX10_sortAll_30 : decode cX10_sortAll 30 = .ok (.aaload, 1) := by decide +kernel
theorem dX10_sortAll_31 : decode cX10_sortAll 31 = .ok (.getfield 120, 3) := by decide +kernel
theorem dX10_sortAll_34 : decode cX10_sortAll 34 = .ok (.invokevirtual 152, 3) := by decide +kernel
theorem dX10_sortAll_37 : decode cX10_sortAll 37 = .ok (.iinc 1 1, 3) := by decide +kernel
theorem dX10_sortAll_40 : decode cX10_sortAll 40 = .ok (.goto (-31), 3) := by decide +kernel
theorem dX10_sortAll_43 : decode cX10_sortAll 43 = .ok (.aload_n 0, 1) := by decide +kernel
theorem dX10_sortAll_44 : decode cX10_sortAll 44 = .ok (.getfield 42, 3) := by decide +kernel
theorem dX10_sortAll_47 : decode cX10_sortAll 47 = .ok (.getstatic 139, 3) := by decide +kernel
theorem dX10_sortAll_50 : decode cX10_sortAll 50 = .ok (.invokevirtual 156, 3) := by decide +kernel
theorem dX10_sortAll_53 : decode cX10_sortAll 53 = .ok (.pop, 1) := by decide +kernel
theorem dX10_sortAll_54 : decode cX10_sortAll 54 = .ok (.iconst 0, 1) := by decide +kernel
theorem dX10_sortAll_55 : decode cX10_sortAll 55 = .ok (.istore_n 1, 1) := by decide +kernel
theorem dX10_sortAll_56 : decode cX10_sortAll 56 = .ok (.iconst 0, 1) := by decide +kernel
theorem dX10_sortAll_57 : decode cX10_sortAll 57 = .ok (.istore_n 2, 1) := by decide +kernel
theorem dX10_sortAll_58 : decode cX10_sortAll 58 = .ok (.iconst 0, 1) := by decide +kernel
theorem dX10_sortAll_59 : decode cX10_sortAll 59 = .ok (.istore_n 3, 1) := by decide +kernel
theorem dX10_sortAll_60 : decode cX10_sortAll 60 = .ok (.iload_n 3, 1) := by decide +kernel
theorem dX10_sortAll_61 : decode cX10_sortAll 61 = .ok (.iconst 4, 1) := by decide +kernel
theorem dX10_sortAll_62 : decode cX10_sortAll 62 = .ok (.if_icmp .ge 48, 3) := by decide +kernel
theorem dX10_sortAll_65 : decode cX10_sortAll 65 = .ok (.iload_n 1, 1) := by decide +kernel
theorem dX10_sortAll_66 : decode cX10_sortAll 66 = .ok (.aload_n 0, 1) := by decide +kernel
theorem dX10_sortAll_67 : decode cX10_sortAll 67 = .ok (.getfield 42, 3) := by decide +kernel
theorem dX10_sortAll_70 : decode cX10_sortAll 70 = .ok (.iload_n 2, 1) := by decide +kernel
theorem dX10_sortAll_71 : decode cX10_sortAll 71 = .ok (.aload_n 0, 1) := by decide +kernel
theorem dX10_sortAll_72 : decode cX10_sortAll 72 = .ok (.getfield 18, 3) := by decide +kernel
theorem dX10_sortAll_75 : decode cX10_sortAll 75 = .ok (.iload_n 3, 1) := by decide +kernel
theorem dX10_sortAll_76 : decode cX10_sortAll 76 = .ok (.aaload, 1) := by decide +kernel
theorem dX10_sortAll_77 : decode cX10_sortAll 77 = .ok (.iconst 0, 1) := by decide +kernel
theorem dX10_sortAll_78 : decode cX10_sortAll 78 = .ok (.aload_n 0, 1) := by decide +kernel
theorem dX10_sortAll_79 : decode cX10_sortAll 79 = .ok (.getfield 18, 3) := by decide +kernel
theorem dX10_sortAll_82 : decode cX10_sortAll 82 = .ok (.iload_n 3, 1) := by decide +kernel
theorem dX10_sortAll_83 : decode cX10_sortAll 83 = .ok (.aaload, 1) := by decide +kernel
theorem dX10_sortAll_84 : decode cX10_sortAll 84 = .ok (.getfield 120, 3) := by decide +kernel
theorem dX10_sortAll_87 : decode cX10_sortAll 87 = .ok (.invokevirtual 160, 3) := by decide +kernel
theorem dX10_sortAll_90 : decode cX10_sortAll 90 = .ok (.iadd, 1) := by decide +kernel
theorem dX10_sortAll_91 : decode cX10_sortAll 91 = .ok (.istore_n 1, 1) := by decide +kernel
theorem dX10_sortAll_92 : decode cX10_sortAll 92 = .ok (.iload_n 2, 1) := by decide +kernel
theorem dX10_sortAll_93 : decode cX10_sortAll 93 = .ok (.aload_n 0, 1) := by decide +kernel
theorem dX10_sortAll_94 : decode cX10_sortAll 94 = .ok (.getfield 18, 3) := by decide +kernel
theorem dX10_sortAll_97 : decode cX10_sortAll 97 = .ok (.iload_n 3, 1) := by decide +kernel
theorem dX10_sortAll_98 : decode cX10_sortAll 98 = .ok (.aaload, 1) := by decide +kernel
theorem dX10_sortAll_99 : decode cX10_sortAll 99 = .ok (.getfield 120, 3) := by decide +kernel
theorem dX10_sortAll_102 : decode cX10_sortAll 102 = .ok (.iadd, 1) := by decide +kernel
theorem dX10_sortAll_103 : decode cX10_sortAll 103 = .ok (.istore_n 2, 1) := by decide +kernel
theorem dX10_sortAll_104 : decode cX10_sortAll 104 = .ok (.iinc 3 1, 3) := by decide +kernel
theorem dX10_sortAll_107 : decode cX10_sortAll 107 = .ok (.goto (-47), 3) := by decide +kernel
theorem dX10_sortAll_110 : decode cX10_sortAll 110 = .ok (.iload_n 1, 1) := by decide +kernel
theorem dX10_sortAll_111 : decode cX10_sortAll 111 = .ok (.ireturn, 1) := by decide +kernel
set_option maxRecDepth 20000 in
theorem ggX10_sortPart_X10_rowAt : GoodIn wsX10_sortPart wsX10_rowAt := goodIn_ca (goodIn_r _ [6, 7, 8, 9, 75, 76, 77, 78, 79, 80, 81, 82, 83, 84] (by decide +kernel) (by decide +kernel)) (goodIn_sub (fun _ h => List.mem_cons_of_mem _ (List.mem_append_left _ (List.mem_append_right _ h))) (by decide +kernel))
set_option maxRecDepth 20000 in
theorem gX10_sortPart_X10_rowAt : GoodIn wsX10_sortPart (wsV RX10 92 RX10 yX10_rowAt wsX10_rowAt) := goodIn_app (goodIn_of _ (by decide +kernel)) ggX10_sortPart_X10_rowAt
