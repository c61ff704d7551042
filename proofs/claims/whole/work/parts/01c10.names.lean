theorem dX10_sortPart_1 : decode cX10_sortPart 1 = .ok (.iload_n 1, 1) := by decide +kernel
theorem dX10_sortPart_2 : decode cX10_sortPart 2 = .ok (.invokevirtual 92, 3) := by decide +kernel
theorem dX10_sortPart_5 : decode cX10_sortPart 5 = .ok (.astore 4, 2) := by decide +kernel
theorem dX10_sortPart_7 : decode cX10_sortPart 7 = .ok (.aload 4, 2) := by decide +kernel
theorem dX10_sortPart_9 : decode cX10_sortPart 9 = .ok (.iload_n 2, 1) := by decide +kernel
theorem dX10_sortPart_10 : decode cX10_sortPart 10 = .ok (.iload_n 3, 1) := by decide +kernel
theorem dX10_sortPart_11 : decode cX10_sortPart 11 = .ok (.invokestatic 164, 3) := by decide +kernel
theorem dX10_sortPart_14 : decode cX10_sortPart 14 = .ok (.aload_n 0, 1) := by decide +kernel
theorem dX10_sortPart_15 : decode cX10_sortPart 15 = .ok (.aload 4, 2) := by decide +kernel
theorem dX10_sortPart_17 : decode cX10_sortPart 17 = .ok (.iload_n 2, 1) := by decide +kernel
theorem dX10_sortPart_18 : decode cX10_sortPart 18 = .ok (.iload_n 3, 1) := by decide +kernel
theorem dX10_sortPart_19 : decode cX10_sortPart 19 = .ok (.getstatic 139, 3) := by decide +kernel
theorem dX10_sortPart_22 : decode cX10_sortPart 22 = .ok (.invokevirtual 167, 3) := by decide +kernel
theorem dX10_sortPart_25 : decode cX10_sortPart 25 = .ok (.ireturn, 1) := by decide +kernel
set_option maxRecDepth 20000 in
theorem ggX10_sortDown_X10_rowAt : GoodIn wsX10_sortDown wsX10_rowAt := goodIn_ca (goodIn_r _ [8, 9, 10, 11, 75, 76, 77, 78, 79, 80, 81, 82, 83, 84] (by decide +kernel) (by decide +kernel)) (goodIn_sub (fun _ h => List.mem_cons_of_mem _ (List.mem_append_right _ h)) (by decide +kernel))
set_option maxRecDepth 20000 in
theorem gX10_sortDown_X10_rowAt : GoodIn wsX10_sortDown (wsV RX10 92 RX10 yX10_rowAt wsX10_rowAt) := goodIn_app (goodIn_of _ (by decide +kernel)) ggX10_sortDown_X10_rowAt
set_option maxRecDepth 20000 in
theorem ggX10_sortDown_X10_needPart : GoodIn wsX10_sortDown wsX10_needPart := goodIn_ca (goodIn_ca (goodIn_r _ [14, 9, 10, 1, 2, 15, 85, 86] (by decide +kernel) (by decide +kernel)) (goodIn_sub (fun _ h => List.mem_cons_of_mem _ (List.mem_append_right _ h)) (by decide +kernel))) (goodIn_sub (fun _ h => List.mem_cons_of_mem _ (List.mem_append_left _ (List.mem_append_right _ h))) (by decide +kernel))
set_option maxRecDepth 20000 in
theorem gX10_sortDown_X10_needPart : GoodIn wsX10_sortDown (va_wsS RX10 164 yX10_needPart wsX10_needPart) := goodIn_app (goodIn_of _ (by decide +kernel)) ggX10_sortDown_X10_needPart
set_option maxRecDepth 20000 in
theorem ggX10_sortDown_X10_arrangePart : GoodIn wsX10_sortDown wsX10_arrangePart := goodIn_r _ [19, 20, 21, 22, 23, 24, 25, 26, 27, 28, 29, 30, 31, 32, 33, 34, 35, 36, 37, 38, 39, 40, 41, 42, 43, 44, 45, 46, 47, 48, 49, 50, 51, 52, 53, 54, 55, 56, 57, 58, 59, 60, 61, 62, 63, 64, 65, 66, 67, 68, 69, 70, 71, 72, 73, 74, 75, 76, 77, 78, 79, 80, 81, 82, 83, 84, 87, 88, 89, 90, 85, 86, 91, 92, 93] (by decide +kernel) (by decide +kernel)
set_option maxRecDepth 20000 in
theorem gX10_sortDown_X10_arrangePart : GoodIn wsX10_sortDown (wsV RX10 167 RX10 yX10_arrangePart wsX10_arrangePart) := goodIn_app (goodIn_of _ (by decide +kernel)) ggX10_sortDown_X10_arrangePart
theorem dX10_sortDown_0 : decode cX10_sortDown 0 = .ok (.aload_n 0, 1) := by decide +kernel
theorem dX10_sortDown_1 : decode cX10_sortDown 1 = .ok (.iload_n 1, 1) := by decide +kernel
theorem dX10_sortDown_2 : decode cX10_sortDown 2 = .ok (.invokevirtual 92, 3) := by decide +kernel
theorem dX10_sortDown_5 : decode cX10_sortDown 5 = .ok (.astore 4, 2) := by decide +kernel
theorem dX10_sortDown_7 : decode cX10_sortDown 7 = .ok (.aload 4, 2) := by decide +kernel
theorem dX10_sortDown_9 : decode cX10_sortDown 9 = .ok (.iload_n 2, 1) := by decide +kernel
theorem dX10_sortDown_10 : decode cX10_sortDown 10 = .ok (.iload_n 3, 1) := by decide +kernel
theorem dX10_sortDown_11 : decode cX10_sortDown 11 = .ok (.invokestatic 164, 3) := by decide +kernel
theorem dX10_sortDown_14 : decode cX10_sortDown 14 = .ok (.iload_n 3, 1) := by decide +kernel
theorem dX10_sortDown_15 : decode cX10_sortDown 15 = .ok (.iload_n 2, 1) := by decide +kernel
theorem dX10_sortDown_16 : decode cX10_sortDown 16 = .ok (.isub, 1) := by decide +kernel
theorem dX10_sortDown_17 : decode cX10_sortDown 17 = .ok (.bipush 31, 2) := by decide +kernel
theorem dX10_sortDown_19 : decode cX10_sortDown 19 = .ok (.if_icmp .le 13, 3) := by decide +kernel
theorem dX10_sortDown_22 : decode cX10_sortDown 22 = .ok (.new 171, 3) := by decide +kernel
theorem dX10_sortDown_25 : decode cX10_sortDown 25 = .ok (.dup, 1) := by decide +kernel
theorem dX10_sortDown_26 : decode cX10_sortDown 26 = .ok (.ldc 173, 2) := by decide +kernel
theorem dX10_sortDown_28 : decode cX10_sortDown 28 = .ok (.invokespecial 175, 3) := by decide +kernel
theorem dX10_sortDown_31 : decode cX10_sortDown 31 = .ok (.athrow, 1) := by decide +kernel
theorem dX10_sortDown_32 : decode cX10_sortDown 32 = .ok (.aload_n 0, 1) := by decide +kernel
theorem dX10_sortDown_33 : decode cX10_sortDown 33 = .ok (.aload 4, 2) := by decide +kernel
theorem dX10_sortDown_35 : decode cX10_sortDown 35 = .ok (.iload_n 2, 1) := by decide +kernel
theorem dX10_sortDown_36 : decode cX10_sortDown 36 = .ok (.iload_n 3, 1) := by decide +kernel
theorem dX10_sortDown_37 : decode cX10_sortDown 37 = .ok (.getstatic 176, 3) := by decide +kernel
theorem dX10_sortDown_40 : decode cX10_sortDown 40 = .ok (.invokevirtual 167, 3) := by decide +kernel
theorem dX10_sortDown_43 : decode cX10_sortDown 43 = .ok (.ireturn, 1) := by decide +kernel
set_option maxRecDepth 20000 in
theorem ggX10_sortBySecond_X10_rowAt : GoodIn wsX10_sortBySecond wsX10_rowAt := goodIn_ca (goodIn_r _ [6, 7, 8, 9, 74, 75, 76, 77, 78, 79, 80, 81, 82, 83] (by decide +kernel) (by decide +kernel)) (goodIn_sub (fun _ h => List.mem_cons_of_mem _ (List.mem_append_right _ h)) (by decide +kernel))
set_option maxRecDepth 20000 in
theorem gX10_sortBySecond_X10_rowAt : GoodIn wsX10_sortBySecond (wsV RX10 92 RX10 yX10_rowAt wsX10_rowAt) := goodIn_app (goodIn_of _ (by decide +kernel)) ggX10_sortBySecond_X10_rowAt
set_option maxRecDepth 20000 in
theorem ggX10_sortBySecond_X10_arrangeRow : GoodIn wsX10_sortBySecond wsX10_arrangeRow := goodIn_r _ [13, 14, 15, 16, 17, 5, 18, 19, 20, 21, 22, 23, 24, 25, 26, 27, 28, 29, 30, 31, 32, 33, 34, 35, 36, 37, 38, 39, 40, 41, 42, 43, 44, 45, 46, 47, 48, 49, 50, 51, 52, 53, 54, 55, 56, 57, 58, 59, 60, 61, 62, 63, 64, 65, 66, 67, 68, 69, 70, 71, 72, 73, 84, 85, 74, 75, 76, 77, 78, 79, 80, 81, 82, 83, 86, 87, 88, 89, 90, 91, 92] (by decide +kernel) (by decide +kernel)
set_option maxRecDepth 20000 in
theorem gX10_sortBySecond_X10_arrangeRow : GoodIn wsX10_sortBySecond (wsV RX10 145 RX10 yX10_arrangeRow wsX10_arrangeRow) := goodIn_app (goodIn_of _ (by decide +kernel)) ggX10_sortBySecond_X10_arrangeRow
theorem dX10_sortBySecond_0 : decode cX10_sortBySecond 0 = .ok (.aload_n 0, 1) := by decide +kernel
theorem dX10_sortBySecond_1 : decode cX10_sortBySecond 1 = .ok (.aload_n 0, 1) := by decide +kernel
theorem dX10_sortBySecond_2 : decode cX10_sortBySecond 2 = .ok (.iload_n 1, 1) := by decide +kernel
theorem dX10_sortBySecond_3 : decode cX10_sortBySecond 3 = .ok (.invokevirtual 92, 3) := by decide +kernel
theorem dX10_sortBySecond_6 : decode cX10_sortBySecond 6 = .ok (.getstatic 179, 3) := by decide +kernel
theorem dX10_sortBySecond_9 : decode cX10_sortBySecond 9 = .ok (.invokevirtual 145, 3) := by decide +kernel
theorem dX10_sortBySecond_12 : decode cX10_sortBySecond 12 = .ok (.ireturn, 1) := by decide +kernel
set_option maxRecDepth 20000 in
theorem ggX10_sortByBoth_X10_rowAt : GoodIn wsX10_sortByBoth wsX10_rowAt := goodIn_ca (goodIn_r _ [6, 7, 8, 9, 74, 75, 76, 77, 78, 79, 80, 81, 82, 83] (by decide +kernel) (by decide +kernel)) (goodIn_sub (fun _ h => List.mem_cons_of_mem _ (List.mem_append_right _ h)) (by decide +kernel))
set_option maxRecDepth 20000 in
theorem gX10_sortByBoth_X10_rowAt : GoodIn wsX10_sortByBoth (wsV RX10 92 RX10 yX10_rowAt wsX10_rowAt) := goodIn_app (goodIn_of _ (by decide +kernel)) ggX10_sortByBoth_X10_rowAt
set_option maxRecDepth 20000 in
theorem ggX10_sortByBoth_X10_arrangeRow : GoodIn wsX10_sortByBoth wsX10_arrangeRow := goodIn_r _ [13, 14, 15, 16, 17, 5, 18, 19, 20, 21, 22, 23, 24, 25, 26, 27, 28, 29, 30, 31, 32, 33, 34, 35, 36, 37, 38, 39, 40, 41, 42, 43, 44, 45, 46, 47, 48, 49, 50, 51, 52, 53, 54, 55, 56, 57, 58, 59, 60, 61, 62, 63, 64, 65, 66, 67, 68, 69, 70, 71, 72, 73, 84, 85, 74, 75, 76, 77, 78, 79, 80, 81, 82, 83, 86, 87, 88, 89, 90, 91, 92] (by decide +kernel) (by decide +kernel)
set_option maxRecDepth 20000 in
theorem gX10_sortByBoth_X10_arrangeRow : GoodIn wsX10_sortByBoth (wsV RX10 145 RX10 yX10_arrangeRow wsX10_arrangeRow) := goodIn_app (goodIn_of _ (by decide +kernel)) ggX10_sortByBoth_X10_arrangeRow
theorem dX10_sortByBoth_0 : decode cX10_sortByBoth 0 = .ok (.aload_n 0, 1) := by decide +kernel
theorem dX10_sortByBoth_1 : decode cX10_sortByBoth 1 = .ok (.aload_n 0, 1) := by decide +kernel
theorem dX10_sortByBoth_2 : decode cX10_sortByBoth 2 = .ok (.iload_n 1, 1) := by decide +kernel
theorem dX10_sortByBoth_3 : decode cX10_sortByBoth 3 = .ok (.invokevirtual 92, 3) := by decide +kernel
theorem dX10_sortByBoth_6 : decode cX10_sortByBoth 6 = .ok (.getstatic 182, 3) := by decide +kernel
theorem dX10_sortByBoth_9 : decode cX10_sortByBoth 9 = .ok (.invokevirtual 145, 3) := by decide +kernel
theorem dX10_sortByBoth_12 : decode cX10_sortByBoth 12 = .ok (.ireturn, 1) := by decide +kernel
set_option maxRecDepth 20000 in
theorem ggX10_pour_X10_rowAt : GoodIn wsX10_pour wsX10_rowAt := goodIn_ca (goodIn_r _ [7, 8, 9, 10, 38, 39, 40, 41, 42, 43, 44, 45, 46, 47] (by decide +kernel) (by decide +kernel)) (goodIn_sub (fun _ h => List.mem_cons_of_mem _ (List.mem_append_left _ (List.mem_append_left _ (List.mem_append_right _ h)))) (by decide +kernel))
set_option maxRecDepth 20000 in
theorem gX10_pour_X10_rowAt : GoodIn wsX10_pour (wsV RX10 92 RX10 yX10_rowAt wsX10_rowAt) := goodIn_app (goodIn_of _ (by decide +kernel)) ggX10_pour_X10_rowAt
set_option maxRecDepth 20000 in
theorem ggX10_pour_X10_needUnlikeRows : GoodIn wsX10_pour wsX10_needUnlikeRows := goodIn_ca (goodIn_r _ [13, 14, 15] (by decide +kernel) (by decide +kernel)) (goodIn_sub (fun _ h => List.mem_cons_of_mem _ (List.mem_append_left _ (List.mem_append_right _ h))) (by decide +kernel))
set_option maxRecDepth 20000 in
theorem gX10_pour_X10_needUnlikeRows : GoodIn wsX10_pour (va_wsS RX10 185 yX10_needUnlikeRows wsX10_needUnlikeRows) := goodIn_app (goodIn_of _ (by decide +kernel)) ggX10_pour_X10_needUnlikeRows
set_option maxRecDepth 20000 in
theorem ggX10_pour_X10_needRoom : GoodIn wsX10_pour wsX10_needRoom := goodIn_ca (goodIn_r _ [18, 19, 20, 1, 36, 37] (by decide +kernel) (by decide +kernel)) (goodIn_sub (fun _ h => List.mem_cons_of_mem _ (List.mem_append_right _ h)) (by decide +kernel))
set_option maxRecDepth 20000 in
theorem gX10_pour_X10_needRoom : GoodIn wsX10_pour (va_wsS RX10 101 yX10_needRoom wsX10_needRoom) := goodIn_app (goodIn_of _ (by decide +kernel)) ggX10_pour_X10_needRoom
set_option maxRecDepth 20000 in
theorem ggX10_pour_X6_append : GoodIn wsX10_pour wsX6_append := goodIn_r _ [25, 26, 27, 28, 29, 24, 30, 31, 32, 33, 34, 35, 36, 37] (by decide +kernel) (by decide +kernel)
set_option maxRecDepth 20000 in
theorem gX10_pour_X6_append : GoodIn wsX10_pour (wsV RX10 192 RX6 yX6_append wsX6_append) := goodIn_app (goodIn_of _ (by decide +kernel)) ggX10_pour_X6_append
theorem dX10_pour_0 : decode cX10_pour 0 = .ok (.aload_n 0, 1) := by decide +kernel
theorem dX10_pour_1 : decode cX10_pour 1 = .ok (.iload_n 1, 1) := by decide +kernel
theorem dX10_pour_2 : decode cX10_pour 2 = .ok (.invokevirtual 92, 3) := by decide +kernel
theorem dX10_pour_5 : decode cX10_pour 5 = .ok (.astore_n 3, 1) := by decide +kernel
theorem dX10_pour_6 : decode cX10_pour 6 = .ok (.aload_n 0, 1) := by decide +kernel
theorem dX10_pour_7 : decode cX10_pour 7 = .ok (.iload_n 2, 1) := by decide +kernel
theorem dX10_pour_8 : decode cX10_pour 8 = .ok (.invokevirtual 92, 3) := by decide +kernel
theorem dX10_pour_11 : decode cX10_pour 11 = .ok (.astore 4, 2) := by decide +kernel
theorem dX10_pour_13 : decode cX10_pour 13 = .ok (.iload_n 1, 1) := by decide +kernel
theorem dX10_pour_14 : decode cX10_pour 14 = .ok (.iload_n 2, 1) := by decide +kernel
theorem dX10_pour_15 : decode cX10_pour 15 = .ok (.invokestatic 185, 3) := by decide +kernel
theorem dX10_pour_18 : decode cX10_pour 18 = .ok (.aload 4, 2) := by decide +kernel
theorem dX10_pour_20 : decode cX10_pour 20 = .ok (.aload_n 3, 1) := by decide +kernel
theorem dX10_pour_21 : decode cX10_pour 21 = .ok (.getfield 120, 3) := by decide +kernel
theorem dX10_pour_24 : decode cX10_pour 24 = .ok (.invokestatic 101, 3) := by decide +kernel
theorem dX10_pour_27 : decode cX10_pour 27 = .ok (.iconst 0, 1) := by decide +kernel
theorem dX10_pour_28 : decode cX10_pour 28 = .ok (.istore 5, 2) := by decide +kernel
theorem dX10_pour_30 : decode cX10_pour 30 = .ok (.iload 5, 2) := by decide +kernel
theorem dX10_pour_32 : decode cX10_pour 32 = .ok (.aload_n 3, 1) := by decide +kernel
theorem dX10_pour_33 : decode cX10_pour 33 = .ok (.getfield 120, 3) := by decide +kernel
theorem dX10_pour_36 : decode cX10_pour 36 = .ok (.if_icmp .ge 21, 3) := by decide +kernel
theorem dX10_pour_39 : decode cX10_pour 39 = .ok (.aload 4, 2) := by decide +kernel
theorem dX10_pour_41 : decode cX10_pour 41 = .ok (.aload_n 3, 1) := by decide +kernel
theorem dX10_pour_42 : decode cX10_pour 42 = .ok (.getfield 188, 3) := by decide +kernel
theorem dX10_pour_45 : decode cX10_pour 45 = .ok (.iload 5, 2) := by decide +kernel
theorem dX10_pour_47 : decode cX10_pour 47 = .ok (.iaload, 1) := by decide +kernel
theorem dX10_pour_48 : decode cX10_pour 48 = .ok (.invokevirtual 192, 3) := by decide +kernel
theorem dX10_pour_51 : decode cX10_pour 51 = .ok (.iinc 5 1, 3) := by decide +kernel
theorem dX10_pour_54 : decode cX10_pour 54 = .ok (.goto (-24), 3) := by decide +kernel
theorem dX10_pour_57 : decode cX10_pour 57 = .ok (.aload_n 3, 1) := by decide +kernel
theorem dX10_pour_58 : decode cX10_pour 58 = .ok (.iconst 0, 1) := by decide +kernel
theorem dX10_pour_59 : decode cX10_pour 59 = .ok (.putfield 120, 3) := by decide +kernel
theorem dX10_pour_62 : decode cX10_pour 62 = .ok (.aload 4, 2) := by decide +kernel
theorem dX10_pour_64 : decode cX10_pour 64 = .ok (.getfield 120, 3) := by decide +kernel
theorem dX10_pour_67 : decode cX10_pour 67 = .ok (.ireturn, 1) := by decide +kernel
set_option maxRecDepth 20000 in
theorem ggX10_deal_X10_rowAt : GoodIn wsX10_deal wsX10_rowAt := goodIn_ca (goodIn_r _ [7, 8, 9, 10, 38, 39, 40, 41, 42, 43, 44, 45, 46, 47] (by decide +kernel) (by decide +kernel)) (goodIn_sub (fun _ h => List.mem_cons_of_mem _ (List.mem_append_left _ (List.mem_append_left _ (List.mem_append_right _ h)))) (by decide +kernel))
set_option maxRecDepth 20000 in
theorem gX10_deal_X10_rowAt : GoodIn wsX10_deal (wsV RX10 92 RX10 yX10_rowAt wsX10_rowAt) := goodIn_app (goodIn_of _ (by decide +kernel)) ggX10_deal_X10_rowAt
set_option maxRecDepth 20000 in
theorem ggX10_deal_X10_needUnlikeRows : GoodIn wsX10_deal wsX10_needUnlikeRows := goodIn_ca (goodIn_r _ [13, 14, 15] (by decide +kernel) (by decide +kernel)) (goodIn_sub (fun _ h => List.mem_cons_of_mem _ (List.mem_append_left _ (List.mem_append_right _ h))) (by decide +kernel))
set_option maxRecDepth 20000 in
theorem gX10_deal_X10_needUnlikeRows : GoodIn wsX10_deal (va_wsS RX10 185 yX10_needUnlikeRows wsX10_needUnlikeRows) := goodIn_app (goodIn_of _ (by decide +kernel)) ggX10_deal_X10_needUnlikeRows
set_option maxRecDepth 20000 in
theorem ggX10_deal_X10_needRoom : GoodIn wsX10_deal wsX10_needRoom := goodIn_ca (goodIn_r _ [18, 19, 20, 1, 36, 37] (by decide +kernel) (by decide +kernel)) (goodIn_sub (fun _ h => List.mem_cons_of_mem _ (List.mem_append_right _ h)) (by decide +kernel))
set_option maxRecDepth 20000 in
theorem gX10_deal_X10_needRoom : GoodIn wsX10_deal (va_wsS RX10 101 yX10_needRoom wsX10_needRoom) := goodIn_app (goodIn_of _ (by decide +kernel)) ggX10_deal_X10_needRoom
set_option maxRecDepth 20000 in
theorem ggX10_deal_X6_append : GoodIn wsX10_deal wsX6_append := goodIn_r _ [25, 26, 27, 28, 29, 24, 30, 31, 32, 33, 34, 35, 36, 37] (by decide +kernel) (by decide +kernel)
set_option maxRecDepth 20000 in
theorem gX10_deal_X6_append : GoodIn wsX10_deal (wsV RX10 192 RX6 yX6_append wsX6_append) := goodIn_app (goodIn_of _ (by decide +kernel)) ggX10_deal_X6_append
theorem dX10_deal_0 : decode cX10_deal 0 = .ok (.aload_n 0, 1) := by decide +kernel
theorem dX10_deal_1 : decode cX10_deal 1 = .ok (.iload_n 1, 1) := by decide +kernel
theorem dX10_deal_2 : decode cX10_deal 2 = .ok (.invokevirtual 92, 3) := by decide +kernel
theorem dX10_deal_5 : decode cX10_deal 5 = .ok (.astore_n 3, 1) := by decide +kernel
theorem dX10_deal_6 : decode cX10_deal 6 = .ok (.aload_n 0, 1) := by decide +kernel
theorem dX10_deal_7 : decode cX10_deal 7 = .ok (.iload_n 2, 1) := by decide +kernel
theorem dX10_deal_8 : decode cX10_deal 8 = .ok (.invokevirtual 92, 3) := by decide +kernel
theorem dX10_deal_11 : decode cX10_deal 11 = .ok (.astore 4, 2) := by decide +kernel
theorem dX10_deal_13 : decode cX10_deal 13 = .ok (.iload_n 1, 1) := by decide +kernel
theorem dX10_deal_14 : decode cX10_deal 14 = .ok (.iload_n 2, 1) := by decide +kernel
theorem dX10_deal_15 : decode cX10_deal 15 = .ok (.invokestatic 185, 3) := by decide +kernel
theorem dX10_deal_18 : decode cX10_deal 18 = .ok (.aload_n 3, 1) := by decide +kernel
theorem dX10_deal_19 : decode cX10_deal 19 = .ok (.getfield 120, 3) := by decide +kernel
theorem dX10_deal_22 : decode cX10_deal 22 = .ok (.iconst 2, 1) := by decide +kernel
theorem dX10_deal_23 : decode cX10_deal 23 = .ok (.idiv, 1) := by decide +kernel
theorem dX10_deal_24 : decode cX10_deal 24 = .ok (.istore 5, 2) := by decide +kernel
theorem dX10_deal_26 : decode cX10_deal 26 = .ok (.aload 4, 2) := by decide +kernel
theorem dX10_deal_28 : decode cX10_deal 28 = .ok (.iload 5, 2) := by decide +kernel
theorem dX10_deal_30 : decode cX10_deal 30 = .ok (.invokestatic 101, 3) := by decide +kernel
theorem dX10_deal_33 : decode cX10_deal 33 = .ok (.iconst 0, 1) := by decide +kernel
theorem dX10_deal_34 : decode cX10_deal 34 = .ok (.istore 6, 2) := by decide +kernel
theorem dX10_deal_36 : decode cX10_deal 36 = .ok (.iconst 0, 1) := by decide +kernel
theorem dX10_deal_37 : decode cX10_deal 37 = .ok (.istore 7, 2) := by decide +kernel
theorem dX10_deal_39 : decode cX10_deal 39 = .ok (.iload 7, 2) := by decide +kernel
theorem dX10_deal_41 : decode cX10_deal 41 = .ok (.aload_n 3, 1) := by decide +kernel
theorem dX10_deal_42 : decode cX10_deal 42 = .ok (.getfield 120, 3) := by decide +kernel
theorem dX10_deal_45 : decode cX10_deal 45 = .ok (.if_icmp .ge 49, 3) := by decide +kernel
theorem dX10_deal_48 : decode cX10_deal 48 = .ok (.iload 7, 2) := by decide +kernel
theorem dX10_deal_50 : decode cX10_deal 50 = .ok (.iconst 2, 1) := by decide +kernel
theorem dX10_deal_51 : decode cX10_deal 51 = .ok (.irem, 1) := by decide +kernel
theorem dX10_deal_52 : decode cX10_deal 52 = .ok (.iconst 1, 1) := by decide +kernel
theorem dX10_deal_53 : decode cX10_deal 53 = .ok (.if_icmp .ne 18, 3) := by decide +kernel
theorem dX10_deal_56 : decode cX10_deal 56 = .ok (.aload 4, 2) := by decide +kernel
theorem dX10_deal_58 : decode cX10_deal 58 = .ok (.aload_n 3, 1) := by decide +kernel
theorem dX10_deal_59 : decode cX10_deal 59 = .ok (.getfield 188, 3) := by decide +kernel
theorem dX10_deal_62 : decode cX10_deal 62 = .ok (.iload 7, 2) := by decide +kernel
theorem dX10_deal_64 : decode cX10_deal 64 = .ok (.iaload, 1) := by decide +kernel
theorem dX10_deal_65 : decode cX10_deal 65 = .ok (.invokevirtual 192, 3) := by decide +kernel
theorem dX10_deal_68 : decode cX10_deal 68 = .ok (.goto 20, 3) := by decide +kernel
theorem dX10_deal_71 : decode cX10_deal 71 = .ok (.aload_n 3, 1) := by decide +kernel
theorem dX10_deal_72 : decode cX10_deal 72 = .ok (.getfield 188, 3) := by decide +kernel
theorem dX10_deal_75 : decode cX10_deal 75 = .ok (.iload 6, 2) := by decide +kernel
theorem dX10_deal_77 : decode cX10_deal 77 = .ok (.aload_n 3, 1) := by decide +kernel
theorem dX10_deal_78 : decode cX10_deal 78 = .ok (.getfield 188, 3) := by decide +kernel
theorem dX10_deal_81 : decode cX10_deal 81 = .ok (.iload 7, 2) := by decide +kernel
theorem dX10_deal_83 : decode cX10_deal 83 = .ok (.iaload, 1) := by decide +kernel
theorem dX10_deal_84 : decode cX10_deal 84 = .ok (.iastore, 1) := by decide +kernel
theorem dX10_deal_85 : decode cX10_deal 85 = .ok (.iinc 6 1, 3) := by decide +kernel
theorem dX10_deal_88 : decode cX10_deal 88 = .ok (.iinc 7 1, 3) := by decide +kernel
theorem dX10_deal_91 : decode cX10_deal 91 = .ok (.goto (-52), 3) := by decide +kernel
theorem dX10_deal_94 : decode cX10_deal 94 = .ok (.aload_n 3, 1) := by decide +kernel
theorem dX10_deal_95 : decode cX10_deal 95 = .ok (.iload 6, 2) := by decide +kernel
theorem dX10_deal_97 : decode cX10_deal 97 = .ok (.putfield 120, 3) := by decide +kernel
theorem dX10_deal_100 : decode cX10_deal 100 = .ok (.iload 5, 2) := by decide +kernel
theorem dX10_deal_102 : decode cX10_deal 102 = .ok (.ireturn, 1) := by decide +kernel
set_option maxRecDepth 20000 in
theorem ggX10_turn_X10_rowAt : GoodIn wsX10_turn wsX10_rowAt := goodIn_ca (goodIn_r _ [6, 7, 8, 9, 19, 20, 21, 22, 23, 24, 25, 26, 27, 28] (by decide +kernel) (by decide +kernel)) (goodIn_sub (fun _ h => List.mem_cons_of_mem _ (List.mem_append_right _ h)) (by decide +kernel))
set_option maxRecDepth 20000 in
theorem gX10_turn_X10_rowAt : GoodIn wsX10_turn (wsV RX10 92 RX10 yX10_rowAt wsX10_rowAt) := goodIn_app (goodIn_of _ (by decide +kernel)) ggX10_turn_X10_rowAt
set_option maxRecDepth 20000 in
theorem ggX10_turn_X6_reverse : GoodIn wsX10_turn wsX6_reverse := goodIn_r _ [14, 15, 16, 17, 18] (by decide +kernel) (by decide +kernel)
set_option maxRecDepth 20000 in
theorem gX10_turn_X6_reverse : GoodIn wsX10_turn (wsV RX10 194 RX6 yX6_reverse wsX6_reverse) := goodIn_app (goodIn_of _ (by decide +kernel)) ggX10_turn_X6_reverse
theorem dX10_turn_0 : decode cX10_turn 0 = .ok (.aload_n 0, 1) := by decide +kernel
theorem dX10_turn_1 : decode cX10_turn 1 = .ok (.iload_n 1, 1) := by decide +kernel
theorem dX10_turn_2 : decode cX10_turn 2 = .ok (.invokevirtual 92, 3) := by decide +kernel
theorem dX10_turn_5 : decode cX10_turn 5 = .ok (.astore_n 2, 1) := by decide +kernel
theorem dX10_turn_6 : decode cX10_turn 6 = .ok (.aload_n 2, 1) := by decide +kernel
theorem dX10_turn_7 : decode cX10_turn 7 = .ok (.invokevirtual 194, 3) := by decide +kernel
theorem dX10_turn_10 : decode cX10_turn 10 = .ok (.aload_n 2, 1) := by decide +kernel
theorem dX10_turn_11 : decode cX10_turn 11 = .ok (.getfield 120, 3) := by decide +kernel
theorem dX10_turn_14 : decode cX10_turn 14 = .ok (.ireturn, 1) := by decide +kernel
set_option maxRecDepth 20000 in
theorem ggX10_move_X10_rowAt : GoodIn wsX10_move wsX10_rowAt := goodIn_ca (goodIn_r _ [5, 6, 7, 8, 28, 29, 30, 31, 32, 33, 34, 35, 36, 37] (by decide +kernel) (by decide +kernel)) (goodIn_sub (fun _ h => List.mem_cons_of_mem _ (List.mem_append_right _ h)) (by decide +kernel))
set_option maxRecDepth 20000 in
theorem gX10_move_X10_rowAt : GoodIn wsX10_move (wsV RX10 92 RX10 yX10_rowAt wsX10_rowAt) := goodIn_app (goodIn_of _ (by decide +kernel)) ggX10_move_X10_rowAt
set_option maxRecDepth 20000 in
theorem ggX10_move_X10_needPlace : GoodIn wsX10_move wsX10_needPlace := goodIn_ca (goodIn_r _ [11, 6, 7, 12, 38, 39] (by decide +kernel) (by decide +kernel)) (goodIn_sub (fun _ h => List.mem_cons_of_mem _ (List.mem_append_right _ h)) (by decide +kernel))
set_option maxRecDepth 20000 in
theorem gX10_move_X10_needPlace : GoodIn wsX10_move (va_wsS RX10 197 yX10_needPlace wsX10_needPlace) := goodIn_app (goodIn_of _ (by decide +kernel)) ggX10_move_X10_needPlace
set_option maxRecDepth 20000 in
theorem ggX10_move_X6_takeOut : GoodIn wsX10_move wsX6_takeOut := goodIn_r _ [17, 18, 19, 20, 21, 22, 23, 38, 39] (by decide +kernel) (by decide +kernel)
set_option maxRecDepth 20000 in
theorem gX10_move_X6_takeOut : GoodIn wsX10_move (wsV RX10 200 RX6 yX6_takeOut wsX6_takeOut) := goodIn_app (goodIn_of _ (by decide +kernel)) ggX10_move_X6_takeOut
set_option maxRecDepth 20000 in
theorem ggX10_move_X6_insert : GoodIn wsX10_move wsX6_insert := goodIn_r _ [27, 18, 19, 20, 21, 22, 23, 38, 39] (by decide +kernel) (by decide +kernel)
set_option maxRecDepth 20000 in
theorem gX10_move_X6_insert : GoodIn wsX10_move (wsV RX10 132 RX6 yX6_insert wsX6_insert) := goodIn_app (goodIn_of _ (by decide +kernel)) ggX10_move_X6_insert
theorem dX10_move_0 : decode cX10_move 0 = .ok (.aload_n 0, 1) := by decide +kernel
theorem dX10_move_1 : decode cX10_move 1 = .ok (.iload_n 1, 1) := by decide +kernel
theorem dX10_move_2 : decode cX10_move 2 = .ok (.invokevirtual 92, 3) := by decide +kernel
theorem dX10_move_5 : decode cX10_move 5 = .ok (.astore 4, 2) := by decide +kernel
theorem dX10_move_7 : decode cX10_move 7 = .ok (.aload 4, 2) := by decide +kernel
theorem dX10_move_9 : decode cX10_move 9 = .ok (.iload_n 2, 1) := by decide +kernel
theorem dX10_move_10 : decode cX10_move 10 = .ok (.invokestatic 197, 3) := by decide +kernel
theorem dX10_move_13 : decode cX10_move 13 = .ok (.aload 4, 2) := by decide +kernel
theorem dX10_move_15 : decode cX10_move 15 = .ok (.iload_n 3, 1) := by decide +kernel
theorem dX10_move_16 : decode cX10_move 16 = .ok (.invokestatic 197, 3) := by decide +kernel
theorem dX10_move_19 : decode cX10_move 19 = .ok (.aload 4, 2) := by decide +kernel
theorem dX10_move_21 : decode cX10_move 21 = .ok (.iload_n 2, 1) := by decide +kernel
theorem dX10_move_22 : decode cX10_move 22 = .ok (.invokevirtual 200, 3) := by decide +kernel
theorem dX10_move_25 : decode cX10_move 25 = .ok (.istore 5, 2) := by decide +kernel
theorem dX10_move_27 : decode cX10_move 27 = .ok (.aload 4, 2) := by decide +kernel
theorem dX10_move_29 : decode cX10_move 29 = .ok (.iload_n 3, 1) := by decide +kernel
theorem dX10_move_30 : decode cX10_move 30 = .ok (.iload 5, 2) := by decide +kernel
theorem dX10_move_32 : decode cX10_move 32 = .ok (.invokevirtual 132, 3) := by decide +kernel
theorem dX10_move_35 : decode cX10_move 35 = .ok (.iload 5, 2) := by decide +kernel
theorem dX10_move_37 : decode cX10_move 37 = .ok (.ireturn, 1) := by decide +kernel
set_option maxRecDepth 20000 in
theorem ggX10_thin_X10_rowAt : GoodIn wsX10_thin wsX10_rowAt := goodIn_ca (goodIn_r _ [8, 9, 10, 11, 21, 22, 23, 24, 25, 26, 27, 28, 29, 30] (by decide +kernel) (by decide +kernel)) (goodIn_sub (fun _ h => List.mem_cons_of_mem _ (List.mem_append_right _ h)) (by decide +kernel))
set_option maxRecDepth 20000 in
theorem gX10_thin_X10_rowAt : GoodIn wsX10_thin (wsV RX10 92 RX10 yX10_rowAt wsX10_rowAt) := goodIn_app (goodIn_of _ (by decide +kernel)) ggX10_thin_X10_rowAt
set_option maxRecDepth 20000 in
theorem ggX10_thin_X1_secondOf : GoodIn wsX10_thin wsX1_secondOf := goodIn_r _ [16, 17, 18, 31, 32, 33] (by decide +kernel) (by decide +kernel)
set_option maxRecDepth 20000 in
theorem gX10_thin_X1_secondOf : GoodIn wsX10_thin (wsV RX10 204 RX1 yX1_secondOf wsX1_secondOf) := goodIn_app (goodIn_of _ (by decide +kernel)) ggX10_thin_X1_secondOf
theorem dX10_thin_0 : decode cX10_thin 0 = .ok (.aload_n 0, 1) := by decide +kernel
theorem dX10_thin_1 : decode cX10_thin 1 = .ok (.iload_n 1, 1) := by decide +kernel
theorem dX10_thin_2 : decode cX10_thin 2 = .ok (.invokevirtual 92, 3) := by decide +kernel
theorem dX10_thin_5 : decode cX10_thin 5 = .ok (.astore_n 3, 1) := by decide +kernel
theorem dX10_thin_6 : decode cX10_thin 6 = .ok (.aload_n 3, 1) := by decide +kernel
theorem dX10_thin_7 : decode cX10_thin 7 = .ok (.getfield 120, 3) := by decide +kernel
theorem dX10_thin_10 : decode cX10_thin 10 = .ok (.istore 4, 2) := by decide +kernel
theorem dX10_thin_12 : decode cX10_thin 12 = .ok (.iconst 0, 1) := by decide +kernel
theorem dX10_thin_13 : decode cX10_thin 13 = .ok (.istore 5, 2) := by decide +kernel
theorem dX10_thin_15 : decode cX10_thin 15 = .ok (.iconst 0, 1) := by decide +kernel
theorem dX10_thin_16 : decode cX10_thin 16 = .ok (.istore 6, 2) := by decide +kernel
theorem dX10_thin_18 : decode cX10_thin 18 = .ok (.iload 6, 2) := by decide +kernel
theorem dX10_thin_20 : decode cX10_thin 20 = .ok (.iload 4, 2) := by decide +kernel
theorem dX10_thin_22 : decode cX10_thin 22 = .ok (.if_icmp .ge 43, 3) := by decide +kernel
theorem dX10_thin_25 : decode cX10_thin 25 = .ok (.aload_n 3, 1) := by decide +kernel
theorem dX10_thin_26 : decode cX10_thin 26 = .ok (.getfield 188, 3) := by decide +kernel
theorem dX10_thin_29 : decode cX10_thin 29 = .ok (.iload 6, 2) := by decide +kernel
theorem dX10_thin_31 : decode cX10_thin 31 = .ok (.iaload, 1) := by decide +kernel
theorem dX10_thin_32 : decode cX10_thin 32 = .ok (.istore 7, 2) := by decide +kernel
theorem dX10_thin_34 : decode cX10_thin 34 = .ok (.aload_n 0, 1) := by decide +kernel
theorem dX10_thin_35 : decode cX10_thin 35 = .ok (.getfield 12, 3) := by decide +kernel
theorem dX10_thin_38 : decode cX10_thin 38 = .ok (.iload 7, 2) := by decide +kernel
theorem dX10_thin_40 : decode cX10_thin 40 = .ok (.invokevirtual 204, 3) := by decide +kernel
theorem dX10_thin_43 : decode cX10_thin 43 = .ok (.iload_n 2, 1) := by decide +kernel
theorem dX10_thin_44 : decode cX10_thin 44 = .ok (.if_icmp .eq 15, 3) := by decide +kernel
theorem dX10_thin_47 : decode cX10_thin 47 = .ok (.aload_n 3, 1) := by decide +kernel
theorem dX10_thin_48 : decode cX10_thin 48 = .ok (.getfield 188, 3) := by decide +kernel
theorem dX10_thin_51 : decode cX10_thin 51 = .ok (.iload 5, 2) := by decide +kernel
theorem dX10_thin_53 : decode cX10_thin 53 = .ok (.iload 7, 2) := by decide +kernel
theorem dX10_thin_55 : decode cX10_thin 55 = .ok (.iastore, 1) := by decide +kernel
theorem dX10_thin_56 : decode cX10_thin 56 = .ok (.iinc 5 1, 3) := by decide +kernel
theorem dX10_thin_59 : decode cX10_thin 59 = .ok (.iinc 6 1, 3) := by decide +kernel
theorem dX10_thin_62 : decode cX10_thin 62 = .ok (.goto (-44), 3) := by decide +kernel
theorem dX10_thin_65 : decode cX10_thin 65 = .ok (.aload_n 3, 1) := by decide +kernel
theorem dX10_thin_66 : decode cX10_thin 66 = .ok (.iload 5, 2) := by decide +kernel
theorem dX10_thin_68 : decode cX10_thin 68 = .ok (.putfield 120, 3) := by decide +kernel
theorem dX10_thin_71 : decode cX10_thin 71 = .ok (.iload 4, 2) := by decide +kernel
theorem dX10_thin_73 : decode cX10_thin 73 = .ok (.iload 5, 2) := by decide +kernel
theorem dX10_thin_75 : decode cX10_thin 75 = .ok (.isub, 1) := by decide +kernel
theorem dX10_thin_76 : decode cX10_thin 76 = .ok (.ireturn, 1) := by decide +kernel
set_option maxRecDepth 20000 in
theorem ggX10_single_X10_rowAt : GoodIn wsX10_single wsX10_rowAt := goodIn_ca (goodIn_r _ [8, 9, 10, 11, 21, 22, 23, 24, 25, 26, 27, 28, 29, 30] (by decide +kernel) (by decide +kernel)) (goodIn_sub (fun _ h => List.mem_cons_of_mem _ (List.mem_append_right _ h)) (by decide +kernel))
set_option maxRecDepth 20000 in
theorem gX10_single_X10_rowAt : GoodIn wsX10_single (wsV RX10 92 RX10 yX10_rowAt wsX10_rowAt) := goodIn_app (goodIn_of _ (by decide +kernel)) ggX10_single_X10_rowAt
set_option maxRecDepth 20000 in
theorem ggX10_single_X1_firstOf : GoodIn wsX10_single wsX1_firstOf := goodIn_r _ [16, 17, 18, 31, 32, 33] (by decide +kernel) (by decide +kernel)
set_option maxRecDepth 20000 in
theorem gX10_single_X1_firstOf : GoodIn wsX10_single (wsV RX10 207 RX1 yX1_firstOf wsX1_firstOf) := goodIn_app (goodIn_of _ (by decide +kernel)) ggX10_single_X1_firstOf
theorem dX10_single_0 : decode cX10_single 0 = .ok (.aload_n 0, 1) := by decide +kernel
theorem dX10_single_1 : decode cX10_single 1 = .ok (.iload_n 1, 1) := by decide +kernel
theorem dX10_single_2 : decode cX10_single 2 = .ok (.invokevirtual 92, 3) := by decide +kernel
theorem dX10_single_5 : decode cX10_single 5 = .ok (.astore_n 2, 1) := by decide +kernel
theorem dX10_single_6 : decode cX10_single 6 = .ok (.aload_n 2, 1) := by decide +kernel
theorem dX10_single_7 : decode cX10_single 7 = .ok (.getfield 120, 3) := by decide +kernel
theorem dX10_single_10 : decode cX10_single 10 = .ok (.istore_n 3, 1) := by decide +kernel
theorem dX10_single_11 : decode cX10_single 11 = .ok (.iconst 0, 1) := by decide +kernel
theorem dX10_single_12 : decode cX10_single 12 = .ok (.istore 4, 2) := by decide +kernel
theorem dX10_single_14 : decode cX10_single 14 = .ok (.iconst 0, 1) := by decide +kernel
theorem dX10_single_15 : decode cX10_single 15 = .ok (.istore 5, 2) := by decide +kernel
theorem dX10_single_17 : decode cX10_single 17 = .ok (.iload 5, 2) := by decide +kernel
theorem dX10_single_19 : decode cX10_single 19 = .ok (.iload_n 3, 1) := by decide +kernel
theorem dX10_single_20 : decode cX10_single 20 = .ok (.if_icmp .ge 63, 3) := by decide +kernel
theorem dX10_single_23 : decode cX10_single 23 = .ok (.aload_n 2, 1) := by decide +kernel
theorem dX10_single_24 : decode cX10_single 24 = .ok (.getfield 188, 3) := by decide +kernel
theorem dX10_single_27 : decode cX10_single 27 = .ok (.iload 5, 2) := by decide +kernel
theorem dX10_single_29 : decode cX10_single 29 = .ok (.iaload, 1) := by decide +kernel
theorem dX10_single_30 : decode cX10_single 30 = .ok (.istore 6, 2) := by decide +kernel
theorem dX10_single_32 : decode cX10_single 32 = .ok (.iload 4, 2) := by decide +kernel
theorem dX10_single_34 : decode cX10_single 34 = .ok (.ifCond .eq 31, 3) := by decide +kernel
theorem dX10_single_37 : decode cX10_single 37 = .ok (.aload_n 0, 1) := by decide +kernel
theorem dX10_single_38 : decode cX10_single 38 = .ok (.getfield 12, 3) := by decide +kernel
theorem dX10_single_41 : decode cX10_single 41 = .ok (.iload 6, 2) := by decide +kernel
theorem dX10_single_43 : decode cX10_single 43 = .ok (.invokevirtual 207, 3) := by decide +kernel
theorem dX10_single_46 : decode cX10_single 46 = .ok (.aload_n 0, 1) := by decide +kernel
theorem dX10_single_47 : decode cX10_single 47 = .ok (.getfield 12, 3) := by decide +kernel
theorem dX10_single_50 : decode cX10_single 50 = .ok (.aload_n 2, 1) := by decide +kernel
theorem dX10_single_51 : decode cX10_single 51 = .ok (.getfield 188, 3) := by decide +kernel
theorem dX10_single_54 : decode cX10_single 54 = .ok (.iload 4, 2) := by decide +kernel
theorem dX10_single_56 : decode cX10_single 56 = .ok (.iconst 1, 1) := by decide +kernel
theorem dX10_single_57 : decode cX10_single 57 = .ok (.isub, 1) := by decide +kernel
theorem dX10_single_58 : decode cX10_single 58 = .ok (.iaload, 1) := by decide +kernel
theorem dX10_single_59 : decode cX10_single 59 = .ok (.invokevirtual 207, 3) := by decide +kernel
theorem dX10_single_62 : decode cX10_single 62 = .ok (.if_icmp .eq 15, 3) := by decide +kernel
theorem dX10_single_65 : decode cX10_single 65 = .ok (.aload_n 2, 1) := by decide +kernel
theorem dX10_single_66 : decode cX10_single 66 = .ok (.getfield 188, 3) := by decide +kernel
theorem dX10_single_69 : decode cX10_single 69 = .ok (.iload 4, 2) := by decide +kernel
theorem dX10_single_71 : decode cX10_single 71 = .ok (.iload 6, 2) := by decide +kernel
theorem dX10_single_73 : decode cX10_single 73 = .ok (.iastore, 1) := by decide +kernel
theorem dX10_single_74 : decode cX10_single 74 = .ok (.iinc 4 1, 3) := by decide +kernel
theorem dX10_single_77 : decode cX10_single 77 = .ok (.iinc 5 1, 3) := by decide +kernel
theorem dX10_single_80 : decode cX10_single 80 = .ok (.goto (-63), 3) := by decide +kernel
theorem dX10_single_83 : decode cX10_single 83 = .ok (.aload_n 2, 1) := by decide +kernel
theorem dX10_single_84 : decode cX10_single 84 = .ok (.iload 4, 2) := by decide +kernel
theorem dX10_single_86 : decode cX10_single 86 = .ok (.putfield 120, 3) := by decide +kernel
theorem dX10_single_89 : decode cX10_single 89 = .ok (.iload_n 3, 1) := by decide +kernel
theorem dX10_single_90 : decode cX10_single 90 = .ok (.iload 4, 2) := by decide +kernel
theorem dX10_single_92 : decode cX10_single 92 = .ok (.isub, 1) := by decide +kernel
theorem dX10_single_93 : decode cX10_single 93 = .ok (.ireturn, 1) := by decide +kernel
set_option maxRecDepth 20000 in
theorem ggX10_empty_X10_rowAt : GoodIn wsX10_empty wsX10_rowAt := goodIn_ca (goodIn_r _ [6, 7, 8, 9, 12, 13, 14, 15, 16, 17, 18, 19, 20, 21] (by decide +kernel) (by decide +kernel)) (goodIn_sub (fun _ h => List.mem_cons_of_mem _ (List.mem_append_right _ h)) (by decide +kernel))
set_option maxRecDepth 20000 in
theorem gX10_empty_X10_rowAt : GoodIn wsX10_empty (wsV RX10 92 RX10 yX10_rowAt wsX10_rowAt) := goodIn_app (goodIn_of _ (by decide +kernel)) ggX10_empty_X10_rowAt
theorem dX10_empty_0 : decode cX10_empty 0 = .ok (.aload_n 0, 1) := by decide +kernel
theorem dX10_empty_1 : decode cX10_empty 1 = .ok (.iload_n 1, 1) := by decide +kernel
theorem dX10_empty_2 : decode cX10_empty 2 = .ok (.invokevirtual 92, 3) := by decide +kernel
theorem dX10_empty_5 : decode cX10_empty 5 = .ok (.astore_n 2, 1) := by decide +kernel
theorem dX10_empty_6 : decode cX10_empty 6 = .ok (.aload_n 2, 1) := by decide +kernel
theorem dX10_empty_7 : decode cX10_empty 7 = .ok (.getfield 120, 3) := by decide +kernel
theorem dX10_empty_10 : decode cX10_empty 10 = .ok (.istore_n 3, 1) := by decide +kernel
theorem dX10_empty_11 : decode cX10_empty 11 = .ok (.aload_n 2, 1) := by decide +kernel
theorem dX10_empty_12 : decode cX10_empty 12 = .ok (.iconst 0, 1) := by decide +kernel
theorem dX10_empty_13 : decode cX10_empty 13 = .ok (.putfield 120, 3) := by decide +kernel
theorem dX10_empty_16 : decode cX10_empty 16 = .ok (.iload_n 3, 1) := by decide +kernel
theorem dX10_empty_17 : decode cX10_empty 17 = .ok (.ireturn, 1) := by decide +kernel
set_option maxRecDepth 20000 in
theorem ggX10_keep_X10_rowAt : GoodIn wsX10_keep wsX10_rowAt := goodIn_ca (goodIn_r _ [8, 9, 10, 11, 30, 31, 32, 33, 34, 35, 36, 37, 38, 39] (by decide +kernel) (by decide +kernel)) (goodIn_sub (fun _ h => List.mem_cons_of_mem _ (List.mem_append_right _ h)) (by decide +kernel))
set_option maxRecDepth 20000 in
theorem gX10_keep_X10_rowAt : GoodIn wsX10_keep (wsV RX10 92 RX10 yX10_rowAt wsX10_rowAt) := goodIn_app (goodIn_of _ (by decide +kernel)) ggX10_keep_X10_rowAt
set_option maxRecDepth 20000 in
theorem ggX10_keep_X6_become : GoodIn wsX10_keep wsX6_become := goodIn_r _ [16, 17, 18, 19, 20, 21, 22, 23, 24, 25, 26, 27, 28, 29, 40, 41] (by decide +kernel) (by decide +kernel)
set_option maxRecDepth 20000 in
theorem gX10_keep_X6_become : GoodIn wsX10_keep (wsV RX10 210 RX6 yX6_become wsX6_become) := goodIn_app (goodIn_of _ (by decide +kernel)) ggX10_keep_X6_become
theorem dX10_keep_0 : decode cX10_keep 0 = .ok (.aload_n 0, 1) := by decide +kernel
theorem dX10_keep_1 : decode cX10_keep 1 = .ok (.iload_n 1, 1) := by decide +kernel
theorem dX10_keep_2 : decode cX10_keep 2 = .ok (.invokevirtual 92, 3) := by decide +kernel
theorem dX10_keep_5 : decode cX10_keep 5 = .ok (.astore_n 2, 1) := by decide +kernel
theorem dX10_keep_6 : decode cX10_keep 6 = .ok (.aload_n 0, 1) := by decide +kernel
theorem dX10_keep_7 : decode cX10_keep 7 = .ok (.getfield 22, 3) := by decide +kernel
theorem dX10_keep_10 : decode cX10_keep 10 = .ok (.iload_n 1, 1) := by decide +kernel
theorem dX10_keep_11 : decode cX10_keep 11 = .ok (.aaload, 1) := by decide +kernel
theorem dX10_keep_12 : decode cX10_keep 12 = .ok (.aload_n 2, 1) := by decide +kernel
theorem dX10_keep_13 : decode cX10_keep 13 = .ok (.invokevirtual 210, 3) := by decide +kernel
theorem dX10_keep_16 : decode cX10_keep 16 = .ok (.pop, 1) := by decide +kernel
theorem dX10_keep_17 : decode cX10_keep 17 = .ok (.aload_n 0, 1) := by decide +kernel
theorem dX10_keep_18 : decode cX10_keep 18 = .ok (.getfield 25, 3) := by decide +kernel
theorem dX10_keep_21 : decode cX10_keep 21 = .ok (.iload_n 1, 1) := by decide +kernel
theorem dX10_keep_22 : decode cX10_keep 22 = .ok (.iconst 1, 1) := by decide +kernel
theorem dX10_keep_23 : decode cX10_keep 23 = .ok (.bastore, 1) := by decide +kernel
theorem dX10_keep_24 : decode cX10_keep 24 = .ok (.aload_n 2, 1) := by decide +kernel
theorem dX10_keep_25 : decode cX10_keep 25 = .ok (.getfield 120, 3) := by decide +kernel
theorem dX10_keep_28 : decode cX10_keep 28 = .ok (.ireturn, 1) := by decide +kernel
set_option maxRecDepth 20000 in
theorem ggX10_restore_X10_rowAt : GoodIn wsX10_restore wsX10_rowAt := goodIn_ca (goodIn_r _ [9, 10, 11, 12, 31, 32, 33, 34, 35, 36, 37, 38, 39, 40] (by decide +kernel) (by decide +kernel)) (goodIn_sub (fun _ h => List.mem_cons_of_mem _ (List.mem_append_right _ h)) (by decide +kernel))
set_option maxRecDepth 20000 in
theorem gX10_restore_X10_rowAt : GoodIn wsX10_restore (wsV RX10 92 RX10 yX10_rowAt wsX10_rowAt) := goodIn_app (goodIn_of _ (by decide +kernel)) ggX10_restore_X10_rowAt
set_option maxRecDepth 20000 in
theorem ggX10_restore_X6_become : GoodIn wsX10_restore wsX6_become := goodIn_r _ [17, 18, 19, 20, 21, 22, 23, 24, 25, 26, 27, 28, 29, 30, 41, 42] (by decide +kernel) (by decide +kernel)
set_option maxRecDepth 20000 in
theorem gX10_restore_X6_become : GoodIn wsX10_restore (wsV RX10 210 RX6 yX6_become wsX6_become) := goodIn_app (goodIn_of _ (by decide +kernel)) ggX10_restore_X6_become
theorem dX10_restore_0 : decode cX10_restore 0 = .ok (.aload_n 0, 1) := by decide +kernel
theorem dX10_restore_1 : decode cX10_restore 1 = .ok (.iload_n 1, 1) := by decide +kernel
theorem dX10_restore_2 : decode cX10_restore 2 = .ok (.invokevirtual 92, 3) := by decide +kernel
theorem dX10_restore_5 : decode cX10_restore 5 = .ok (.astore_n 2, 1) := by decide +kernel
theorem dX10_restore_6 : decode cX10_restore 6 = .ok (.aload_n 0, 1) := by decide +kernel
theorem dX10_restore_7 : decode cX10_restore 7 = .ok (.getfield 25, 3) := by decide +kernel
theorem dX10_restore_10 : decode cX10_restore 10 = .ok (.iload_n 1, 1) := by decide +kernel
theorem dX10_restore_11 : decode cX10_restore 11 = .ok (.baload, 1) := by decide +kernel
theorem dX10_restore_12 : decode cX10_restore 12 = .ok (.ifCond .ne 13, 3) := by decide +kernel
theorem dX10_restore_15 : decode cX10_restore 15 = .ok (.new 77, 3) := by decide +kernel
theorem dX10_restore_18 : decode cX10_restore 18 = .ok (.dup, 1) := by decide +kernel
theorem dX10_restore_19 : decode cX10_restore 19 = .ok (.ldc 214, 2) := by decide +kernel
theorem dX10_restore_21 : decode cX10_restore 21 = .ok (.invokespecial 81, 3) := by decide +kernel
theorem dX10_restore_24 : decode cX10_restore 24 = .ok (.athrow, 1) := by decide +kernel
theorem dX10_restore_25 : decode cX10_restore 25 = .ok (.aload_n 2, 1) := by decide +kernel
theorem dX10_restore_26 : decode cX10_restore 26 = .ok (.aload_n 0, 1) := by decide +kernel
theorem dX10_restore_27 : decode cX10_restore 27 = .ok (.getfield 22, 3) := by decide +kernel
theorem dX10_restore_30 : decode cX10_restore 30 = .ok (.iload_n 1, 1) := by decide +kernel
theorem dX10_restore_31 : decode cX10_restore 31 = .ok (.aaload, 1) := by decide +kernel
theorem dX10_restore_32 : decode cX10_restore 32 = .ok (.invokevirtual 210, 3) := by decide +kernel
theorem dX10_restore_35 : decode cX10_restore 35 = .ok (.ireturn, 1) := by decide +kernel
set_option maxRecDepth 20000 in
theorem ggX10_count_X10_rowAt : GoodIn wsX10_count wsX10_rowAt := goodIn_ca (goodIn_r _ [6, 7, 8, 9, 12, 13, 14, 15, 16, 17, 18, 19, 20, 21] (by decide +kernel) (by decide +kernel)) (goodIn_sub (fun _ h => List.mem_cons_of_mem _ (List.mem_append_right _ h)) (by decide +kernel))
set_option maxRecDepth 20000 in
theorem gX10_count_X10_rowAt : GoodIn wsX10_count (wsV RX10 92 RX10 yX10_rowAt wsX10_rowAt) := goodIn_app (goodIn_of _ (by decide +kernel)) ggX10_count_X10_rowAt
theorem dX10_count_0 : decode cX10_count 0 = .ok (.aload_n 0, 1) := by decide +kernel
theorem dX10_count_1 : decode cX10_count 1 = .ok (.iload_n 1, 1) := by decide +kernel
theorem dX10_count_2 : decode cX10_count 2 = .ok (.invokevirtual 92, 3) := by decide +kernel
theorem dX10_count_5 : decode cX10_count 5 = .ok (.getfield 120, 3) := by decide +kernel
theorem dX10_count_8 : decode cX10_count 8 = .ok (.ireturn, 1) := by decide +kernel
set_option maxRecDepth 20000 in
theorem ggX10_cardAt_X10_rowAt : GoodIn wsX10_cardAt wsX10_rowAt := goodIn_ca (goodIn_r _ [9, 10, 11, 12, 31, 32, 33, 34, 35, 36, 37, 38, 39, 40] (by decide +kernel) (by decide +kernel)) (goodIn_sub (fun _ h => List.mem_cons_of_mem _ (List.mem_append_right _ h)) (by decide +kernel))
set_option maxRecDepth 20000 in
theorem gX10_cardAt_X10_rowAt : GoodIn wsX10_cardAt (wsV RX10 92 RX10 yX10_rowAt wsX10_rowAt) := goodIn_app (goodIn_of _ (by decide +kernel)) ggX10_cardAt_X10_rowAt
set_option maxRecDepth 20000 in
theorem ggX10_cardAt_X10_needPlace : GoodIn wsX10_cardAt wsX10_needPlace := goodIn_ca (goodIn_r _ [15, 10, 11, 16, 29, 30] (by decide +kernel) (by decide +kernel)) (goodIn_sub (fun _ h => List.mem_cons_of_mem _ (List.mem_append_right _ h)) (by decide +kernel))
set_option maxRecDepth 20000 in
theorem gX10_cardAt_X10_needPlace : GoodIn wsX10_cardAt (va_wsS RX10 197 yX10_needPlace wsX10_needPlace) := goodIn_app (goodIn_of _ (by decide +kernel)) ggX10_cardAt_X10_needPlace
set_option maxRecDepth 20000 in
theorem ggX10_cardAt_X1_firstOf : GoodIn wsX10_cardAt wsX1_firstOf := goodIn_r _ [21, 22, 23, 41, 42, 43] (by decide +kernel) (by decide +kernel)
set_option maxRecDepth 20000 in
theorem gX10_cardAt_X1_firstOf : GoodIn wsX10_cardAt (wsV RX10 207 RX1 yX1_firstOf wsX1_firstOf) := goodIn_app (goodIn_of _ (by decide +kernel)) ggX10_cardAt_X1_firstOf
set_option maxRecDepth 20000 in
theorem ggX10_cardAt_X1_secondOf : GoodIn wsX10_cardAt wsX1_secondOf := goodIn_r _ [27, 22, 28, 41, 42, 43] (by decide +kernel) (by decide +kernel)
set_option maxRecDepth 20000 in
theorem gX10_cardAt_X1_secondOf : GoodIn wsX10_cardAt (wsV RX10 204 RX1 yX1_secondOf wsX1_secondOf) := goodIn_app (goodIn_of _ (by decide +kernel)) ggX10_cardAt_X1_secondOf
theorem dX10_cardAt_0 : decode cX10_cardAt 0 = .ok (.aload_n 0, 1) := by decide +kernel
theorem dX10_cardAt_1 : decode cX10_cardAt 1 = .ok (.iload_n 1, 1) := by decide +kernel
theorem dX10_cardAt_2 : decode cX10_cardAt 2 = .ok (.invokevirtual 92, 3) := by decide +kernel
theorem dX10_cardAt_5 : decode cX10_cardAt 5 = .ok (.astore 4, 2) := by decide +kernel
theorem dX10_cardAt_7 : decode cX10_cardAt 7 = .ok (.aload 4, 2) := by decide +kernel
theorem dX10_cardAt_9 : decode cX10_cardAt 9 = .ok (.iload_n 2, 1) := by decide +kernel
theorem dX10_cardAt_10 : decode cX10_cardAt 10 = .ok (.invokestatic 197, 3) := by decide +kernel
theorem dX10_cardAt_13 : decode cX10_cardAt 13 = .ok (.aload 4, 2) := by decide +kernel
theorem dX10_cardAt_15 : decode cX10_cardAt 15 = .ok (.getfield 188, 3) := by decide +kernel
theorem dX10_cardAt_18 : decode cX10_cardAt 18 = .ok (.iload_n 2, 1) := by decide +kernel
theorem dX10_cardAt_19 : decode cX10_cardAt 19 = .ok (.iaload, 1) := by decide +kernel
theorem dX10_cardAt_20 : decode cX10_cardAt 20 = .ok (.istore 5, 2) := by decide +kernel
theorem dX10_cardAt_22 : decode cX10_cardAt 22 = .ok (.iload_n 3, 1) := by decide +kernel
theorem dX10_cardAt_23 : decode cX10_cardAt 23 = .ok (.tableswitch 48 0 2 #[25, 35, 45], 25) := by decide +kernel
theorem dX10_cardAt_48 : decode cX10_cardAt 48 = .ok (.aload_n 0, 1) := by decide +kernel
theorem dX10_cardAt_49 : decode cX10_cardAt 49 = .ok (.getfield 12, 3) := by decide +kernel
theorem dX10_cardAt_52 : decode cX10_cardAt 52 = .ok (.iload 5, 2) := by decide +kernel
theorem dX10_cardAt_54 : decode cX10_cardAt 54 = .ok (.invokevirtual 207, 3) := by decide +kernel
theorem dX10_cardAt_57 : decode cX10_cardAt 57 = .ok (.ireturn, 1) := by decide +kernel
theorem dX10_cardAt_58 : decode cX10_cardAt 58 = .ok (.aload_n 0, 1) := by decide +kernel
theorem dX10_cardAt_59 : decode cX10_cardAt 59 = .ok (.getfield 12, 3) := by decide +kernel
theorem dX10_cardAt_62 : decode cX10_cardAt 62 = .ok (.iload 5, 2) := by decide +kernel
theorem dX10_cardAt_64 : decode cX10_cardAt 64 = .ok (.invokevirtual 204, 3) := by decide +kernel
theorem dX10_cardAt_67 : decode cX10_cardAt 67 = .ok (.ireturn, 1) := by decide +kernel
theorem dX10_cardAt_68 : decode cX10_cardAt 68 = .ok (.iload 5, 2) := by decide +kernel
theorem dX10_cardAt_70 : decode cX10_cardAt 70 = .ok (.ireturn, 1) := by decide +kernel
theorem dX10_cardAt_71 : decode cX10_cardAt 71 = .ok (.new 171, 3) := by decide +kernel
theorem dX10_cardAt_74 : decode cX10_cardAt 74 = .ok (.dup, 1) := by decide +kernel
theorem dX10_cardAt_75 : decode cX10_cardAt 75 = .ok (.ldc 216, 2) := by decide +kernel
theorem dX10_cardAt_77 : decode cX10_cardAt 77 = .ok (.invokespecial 175, 3) := by decide +kernel
theorem dX10_cardAt_80 : decode cX10_cardAt 80 = .ok (.athrow, 1) := by decide +kernel
set_option maxRecDepth 20000 in
theorem ggX10_placeOf_X10_rowAt : GoodIn wsX10_placeOf wsX10_rowAt := goodIn_ca (goodIn_r _ [7, 8, 9, 10, 13, 14, 15, 16, 17, 18, 19, 20, 21, 22] (by decide +kernel) (by decide +kernel)) (goodIn_sub (fun _ h => List.mem_cons_of_mem _ (List.mem_append_right _ h)) (by decide +kernel))
set_option maxRecDepth 20000 in
theorem gX10_placeOf_X10_rowAt : GoodIn wsX10_placeOf (wsV RX10 92 RX10 yX10_rowAt wsX10_rowAt) := goodIn_app (goodIn_of _ (by decide +kernel)) ggX10_placeOf_X10_rowAt
theorem dX10_placeOf_0 : decode cX10_placeOf 0 = .ok (.aload_n 0, 1) := by decide +kernel
theorem dX10_placeOf_1 : decode cX10_placeOf 1 = .ok (.iload_n 1, 1) := by decide +kernel
theorem dX10_placeOf_2 : decode cX10_placeOf 2 = .ok (.invokevirtual 92, 3) := by decide +kernel
theorem dX10_placeOf_5 : decode cX10_placeOf 5 = .ok (.astore_n 3, 1) := by decide +kernel
theorem dX10_placeOf_6 : decode cX10_placeOf 6 = .ok (.iconst 0, 1) := by decide +kernel
theorem dX10_placeOf_7 : decode cX10_placeOf 7 = .ok (.istore 4, 2) := by decide +kernel
theorem dX10_placeOf_9 : decode cX10_placeOf 9 = .ok (.iload 4, 2) := by decide +kernel
theorem dX10_placeOf_11 : decode cX10_placeOf 11 = .ok (.aload_n 3, 1) := by decide +kernel
theorem dX10_placeOf_12 : decode cX10_placeOf 12 = .ok (.getfield 120, 3) := by decide +kernel
theorem dX10_placeOf_15 : decode cX10_placeOf 15 = .ok (.if_icmp .ge 23, 3) := by decide +kernel
theorem dX10_placeOf_18 : decode cX10_placeOf 18 = .ok (.aload_n 3, 1) := by decide +kernel
theorem dX10_placeOf_19 : decode cX10_placeOf 19 = .ok (.getfield 188, 3) := by decide +kernel
theorem dX10_placeOf_22 : decode cX10_placeOf 22 = .ok (.iload 4, 2) := by decide +kernel
theorem dX10_placeOf_24 : decode cX10_placeOf 24 = .ok (.iaload, 1) := by decide +kernel
theorem dX10_placeOf_25 : decode cX10_placeOf 25 = .ok (.iload_n 2, 1) := by decide +kernel
theorem dX10_placeOf_26 : decode cX10_placeOf 26 = .ok (.if_icmp .ne 6, 3) := by decide +kernel
theorem dX10_placeOf_29 : decode cX10_placeOf 29 = .ok (.iload 4, 2) := by decide +kernel
theorem dX10_placeOf_31 : decode cX10_placeOf 31 = .ok (.ireturn, 1) := by decide +kernel
theorem dX10_placeOf_32 : decode cX10_placeOf 32 = .ok (.iinc 4 1, 3) := by decide +kernel
theorem dX10_placeOf_35 : decode cX10_placeOf 35 = .ok (.goto (-26), 3) := by decide +kernel
theorem dX10_placeOf_38 : decode cX10_placeOf 38 = .ok (.iconst (-1), 1) := by decide +kernel
theorem dX10_placeOf_39 : decode cX10_placeOf 39 = .ok (.ireturn, 1) := by decide +kernel
set_option maxRecDepth 20000 in
theorem ggX10_placeFor_X10_rowAt : GoodIn wsX10_placeFor wsX10_rowAt := goodIn_ca (goodIn_r _ [8, 9, 10, 11, 39, 40, 41, 42, 43, 44, 45, 46, 47, 48] (by decide +kernel) (by decide +kernel)) (goodIn_sub (fun _ h => List.mem_cons_of_mem _ (List.mem_append_right _ h)) (by decide +kernel))
set_option maxRecDepth 20000 in
theorem gX10_placeFor_X10_rowAt : GoodIn wsX10_placeFor (wsV RX10 92 RX10 yX10_rowAt wsX10_rowAt) := goodIn_app (goodIn_of _ (by decide +kernel)) ggX10_placeFor_X10_rowAt
set_option maxRecDepth 20000 in
theorem ggX10_placeFor_X10_rises : GoodIn wsX10_placeFor wsX10_rises := goodIn_r _ [15, 16, 17, 18, 7, 19, 3, 20, 21, 22, 23, 24, 25, 26, 27, 28, 29, 30, 31, 32, 33, 34, 35, 36, 37, 38, 39, 40, 41, 42, 43, 44, 45, 46, 47, 48, 49, 50, 51] (by decide +kernel) (by decide +kernel)
set_option maxRecDepth 20000 in
theorem gX10_placeFor_X10_rises : GoodIn wsX10_placeFor (wsV RX10 218 RX10 yX10_rises wsX10_rises) := goodIn_app (goodIn_of _ (by decide +kernel)) ggX10_placeFor_X10_rises
set_option maxRecDepth 20000 in
theorem ggX10_placeFor_X10_firstAt : GoodIn wsX10_placeFor wsX10_firstAt := goodIn_r _ [27, 28, 29, 30, 31, 32, 33, 34, 35, 36, 39, 40, 41, 42, 43, 44, 45, 46, 47, 48, 37, 38, 49, 50, 51] (by decide +kernel) (by decide +kernel)
set_option maxRecDepth 20000 in
theorem gX10_placeFor_X10_firstAt : GoodIn wsX10_placeFor (wsV RX10 224 RX10 yX10_firstAt wsX10_firstAt) := goodIn_app (goodIn_of _ (by decide +kernel)) ggX10_placeFor_X10_firstAt
theorem dX10_placeFor_0 : decode cX10_placeFor 0 = .ok (.aload_n 0, 1) := by decide +kernel
theorem dX10_placeFor_1 : decode cX10_placeFor 1 = .ok (.iload_n 1, 1) := by decide +kernel
theorem dX10_placeFor_2 : decode cX10_placeFor 2 = .ok (.invokevirtual 92, 3) := by decide +kernel
theorem dX10_placeFor_5 : decode cX10_placeFor 5 = .ok (.astore_n 3, 1) := by decide +kernel
theorem dX10_placeFor_6 : decode cX10_placeFor 6 = .ok (.aload_n 0, 1) := by decide +kernel
theorem dX10_placeFor_7 : decode cX10_placeFor 7 = .ok (.aload_n 3, 1) := by decide +kernel
theorem dX10_placeFor_8 : decode cX10_placeFor 8 = .ok (.invokevirtual 218, 3) := by decide +kernel
theorem dX10_placeFor_11 : decode cX10_placeFor 11 = .ok (.ifCond .ne 13, 3) := by decide +kernel
theorem dX10_placeFor_14 : decode cX10_placeFor 14 = .ok (.new 77, 3) := by decide +kernel
theorem dX10_placeFor_17 : decode cX10_placeFor 17 = .ok (.dup, 1) := by decide +kernel
theorem dX10_placeFor_18 : decode cX10_placeFor 18 = .ok (.ldc 222, 2) := by decide +kernel
theorem dX10_placeFor_20 : decode cX10_placeFor 20 = .ok (.invokespecial 81, 3) := by decide +kernel
theorem dX10_placeFor_23 : decode cX10_placeFor 23 = .ok (.athrow, 1) := by decide +kernel
theorem dX10_placeFor_24 : decode cX10_placeFor 24 = .ok (.iconst 0, 1) := by decide +kernel
theorem dX10_placeFor_25 : decode cX10_placeFor 25 = .ok (.istore 4, 2) := by decide +kernel
theorem dX10_placeFor_27 : decode cX10_placeFor 27 = .ok (.iload 4, 2) := by decide +kernel
theorem dX10_placeFor_29 : decode cX10_placeFor 29 = .ok (.aload_n 3, 1) := by decide +kernel
theorem dX10_placeFor_30 : decode cX10_placeFor 30 = .ok (.getfield 120, 3) := by decide +kernel
theorem dX10_placeFor_33 : decode cX10_placeFor 33 = .ok (.if_icmp .ge 20, 3) := by decide +kernel
theorem dX10_placeFor_36 : decode cX10_placeFor 36 = .ok (.aload_n 0, 1) := by decide +kernel
theorem dX10_placeFor_37 : decode cX10_placeFor 37 = .ok (.aload_n 3, 1) := by decide +kernel
theorem dX10_placeFor_38 : decode cX10_placeFor 38 = .ok (.iload 4, 2) := by decide +kernel
theorem dX10_placeFor_40 : decode cX10_placeFor 40 = .ok (.invokevirtual 224, 3) := by decide +kernel
theorem dX10_placeFor_43 : decode cX10_placeFor 43 = .ok (.iload_n 2, 1) := by decide +kernel
theorem dX10_placeFor_44 : decode cX10_placeFor 44 = .ok (.if_icmp .gt 9, 3) := by decide +kernel
theorem dX10_placeFor_47 : decode cX10_placeFor 47 = .ok (.iinc 4 1, 3) := by decide +kernel
theorem dX10_placeFor_50 : decode cX10_placeFor 50 = .ok (.goto (-23), 3) := by decide +kernel
theorem dX10_placeFor_53 : decode cX10_placeFor 53 = .ok (.iload 4, 2) := by decide +kernel
theorem dX10_placeFor_55 : decode cX10_placeFor 55 = .ok (.ireturn, 1) := by decide +kernel
set_option maxRecDepth 20000 in
theorem ggX10_isSorted_X10_rowAt : GoodIn wsX10_isSorted wsX10_rowAt := goodIn_ca (goodIn_r _ [5, 6, 7, 8, 35, 36, 37, 38, 39, 40, 41, 42, 43, 44] (by decide +kernel) (by decide +kernel)) (goodIn_sub (fun _ h => List.mem_cons_of_mem _ (List.mem_append_right _ h)) (by decide +kernel))
set_option maxRecDepth 20000 in
theorem gX10_isSorted_X10_rowAt : GoodIn wsX10_isSorted (wsV RX10 92 RX10 yX10_rowAt wsX10_rowAt) := goodIn_app (goodIn_of _ (by decide +kernel)) ggX10_isSorted_X10_rowAt
set_option maxRecDepth 20000 in
theorem ggX10_isSorted_X10_rises : GoodIn wsX10_isSorted wsX10_rises := goodIn_r _ [12, 13, 14, 15, 4, 16, 17, 18, 19, 20, 21, 22, 23, 24, 25, 26, 27, 28, 29, 30, 31, 32, 33, 34, 45, 46, 35, 36, 37, 38, 39, 40, 41, 42, 43, 44, 47, 48, 49] (by decide +kernel) (by decide +kernel)
set_option maxRecDepth 20000 in
theorem gX10_isSorted_X10_rises : GoodIn wsX10_isSorted (wsV RX10 218 RX10 yX10_rises wsX10_rises) := goodIn_app (goodIn_of _ (by decide +kernel)) ggX10_isSorted_X10_rises
theorem dX10_isSorted_0 : decode cX10_isSorted 0 = .ok (.aload_n 0, 1) := by decide +kernel
theorem dX10_isSorted_1 : decode cX10_isSorted 1 = .ok (.aload_n 0, 1) := by decide +kernel
theorem dX10_isSorted_2 : decode cX10_isSorted 2 = .ok (.iload_n 1, 1) := by decide +kernel
theorem dX10_isSorted_3 : decode cX10_isSorted 3 = .ok (.invokevirtual 92, 3) := by decide +kernel
theorem dX10_isSorted_6 : decode cX10_isSorted 6 = .ok (.invokevirtual 218, 3) := by decide +kernel
theorem dX10_isSorted_9 : decode cX10_isSorted 9 = .ok (.ireturn, 1) := by decide +kernel
set_option maxRecDepth 20000 in
theorem ggX10_runs_X10_rowAt : GoodIn wsX10_runs wsX10_rowAt := goodIn_ca (goodIn_r _ [5, 6, 7, 8, 31, 32, 33, 34, 35, 36, 37, 38, 39, 40] (by decide +kernel) (by decide +kernel)) (goodIn_sub (fun _ h => List.mem_cons_of_mem _ (List.mem_append_right _ h)) (by decide +kernel))
set_option maxRecDepth 20000 in
theorem gX10_runs_X10_rowAt : GoodIn wsX10_runs (wsV RX10 92 RX10 yX10_rowAt wsX10_rowAt) := goodIn_app (goodIn_of _ (by decide +kernel)) ggX10_runs_X10_rowAt
set_option maxRecDepth 20000 in
theorem ggX10_runs_X10_numberOfRuns : GoodIn wsX10_runs wsX10_numberOfRuns := goodIn_r _ [12, 13, 14, 15, 16, 4, 17, 18, 19, 20, 21, 22, 23, 24, 25, 26, 27, 28, 29, 30, 41, 42, 31, 32, 33, 34, 35, 36, 37, 38, 39, 40, 43, 44, 45] (by decide +kernel) (by decide +kernel)
set_option maxRecDepth 20000 in
theorem gX10_runs_X10_numberOfRuns : GoodIn wsX10_runs (wsV RX10 228 RX10 yX10_numberOfRuns wsX10_numberOfRuns) := goodIn_app (goodIn_of _ (by decide +kernel)) ggX10_runs_X10_numberOfRuns
theorem dX10_runs_0 : decode cX10_runs 0 = .ok (.aload_n 0, 1) := by decide +kernel
theorem dX10_runs_1 : decode cX10_runs 1 = .ok (.aload_n 0, 1) := by decide +kernel
theorem dX10_runs_2 : decode cX10_runs 2 = .ok (.iload_n 1, 1) := by decide +kernel
theorem dX10_runs_3 : decode cX10_runs 3 = .ok (.invokevirtual 92, 3) := by decide +kernel
theorem dX10_runs_6 : decode cX10_runs 6 = .ok (.invokevirtual 228, 3) := by decide +kernel
theorem dX10_runs_9 : decode cX10_runs 9 = .ok (.ireturn, 1) := by decide +kernel
set_option maxRecDepth 20000 in
theorem ggX10_longestRun_X10_rowAt : GoodIn wsX10_longestRun wsX10_rowAt := goodIn_ca (goodIn_r _ [5, 6, 7, 8, 35, 36, 37, 38, 39, 40, 41, 42, 43, 44] (by decide +kernel) (by decide +kernel)) (goodIn_sub (fun _ h => List.mem_cons_of_mem _ (List.mem_append_right _ h)) (by decide +kernel))
set_option maxRecDepth 20000 in
theorem gX10_longestRun_X10_rowAt : GoodIn wsX10_longestRun (wsV RX10 92 RX10 yX10_rowAt wsX10_rowAt) := goodIn_app (goodIn_of _ (by decide +kernel)) ggX10_longestRun_X10_rowAt
set_option maxRecDepth 20000 in
theorem ggX10_longestRun_X10_lengthOfLongestRun : GoodIn wsX10_longestRun wsX10_lengthOfLongestRun := goodIn_r _ [12, 13, 14, 15, 16, 17, 18, 19, 20, 4, 21, 22, 23, 24, 25, 26, 27, 28, 29, 30, 31, 32, 33, 34, 45, 46, 35, 36, 37, 38, 39, 40, 41, 42, 43, 44, 47, 48, 49] (by decide +kernel) (by decide +kernel)
set_option maxRecDepth 20000 in
theorem gX10_longestRun_X10_lengthOfLongestRun : GoodIn wsX10_longestRun (wsV RX10 231 RX10 yX10_lengthOfLongestRun wsX10_lengthOfLongestRun) := goodIn_app (goodIn_of _ (by decide +kernel)) ggX10_longestRun_X10_lengthOfLongestRun
theorem dX10_longestRun_0 : decode cX10_longestRun 0 = .ok (.aload_n 0, 1) := by decide +kernel
theorem dX10_longestRun_1 : decode cX10_longestRun 1 = .ok (.aload_n 0, 1) := by decide +kernel
theorem dX10_longestRun_2 : decode cX10_longestRun 2 = .ok (.iload_n 1, 1) := by decide +kernel
theorem dX10_longestRun_3 : decode cX10_longestRun 3 = .ok (.invokevirtual 92, 3) := by decide +kernel
theorem dX10_longestRun_6 : decode cX10_longestRun 6 = .ok (.invokevirtual 231, 3) := by decide +kernel
theorem dX10_longestRun_9 : decode cX10_longestRun 9 = .ok (.ireturn, 1) := by decide +kernel
set_option maxRecDepth 20000 in
theorem ggX10_wrongPairs_X10_rowAt : GoodIn wsX10_wrongPairs wsX10_rowAt := goodIn_ca (goodIn_r _ [5, 6, 7, 8, 66, 67, 68, 69, 70, 71, 72, 73, 74, 75] (by decide +kernel) (by decide +kernel)) (goodIn_sub (fun _ h => List.mem_cons_of_mem _ (List.mem_append_right _ h)) (by decide +kernel))
set_option maxRecDepth 20000 in
theorem gX10_wrongPairs_X10_rowAt : GoodIn wsX10_wrongPairs (wsV RX10 92 RX10 yX10_rowAt wsX10_rowAt) := goodIn_app (goodIn_of _ (by decide +kernel)) ggX10_wrongPairs_X10_rowAt
set_option maxRecDepth 20000 in
theorem ggX10_wrongPairs_X10_sortCopy : GoodIn wsX10_wrongPairs wsX10_sortCopy := goodIn_r _ [12, 13, 14, 15, 16, 17, 18, 19, 20, 21, 22, 23, 24, 25, 26, 27, 28, 29, 30, 31, 32, 33, 34, 35, 36, 37, 38, 39, 40, 41, 42, 43, 44, 45, 46, 47, 48, 49, 50, 51, 52, 53, 54, 55, 56, 57, 58, 59, 60, 61, 62, 63, 64, 65, 66, 67, 68, 69, 70, 71, 72, 73, 74, 75, 76, 77, 78, 79, 80, 81, 82, 83, 84] (by decide +kernel) (by decide +kernel)
set_option maxRecDepth 20000 in
theorem gX10_wrongPairs_X10_sortCopy : GoodIn wsX10_wrongPairs (wsV RX10 234 RX10 yX10_sortCopy wsX10_sortCopy) := goodIn_app (goodIn_of _ (by decide +kernel)) ggX10_wrongPairs_X10_sortCopy
theorem dX10_wrongPairs_0 : decode cX10_wrongPairs 0 = .ok (.aload_n 0, 1) := by decide +kernel
theorem dX10_wrongPairs_1 : decode cX10_wrongPairs 1 = .ok (.aload_n 0, 1) := by decide +kernel
theorem dX10_wrongPairs_2 : decode cX10_wrongPairs 2 = .ok (.iload_n 1, 1) := by decide +kernel
theorem dX10_wrongPairs_3 : decode cX10_wrongPairs 3 = .ok (.invokevirtual 92, 3) := by decide +kernel
theorem dX10_wrongPairs_6 : decode cX10_wrongPairs 6 = .ok (.invokevirtual 234, 3) := by decide +kernel
theorem dX10_wrongPairs_9 : decode cX10_wrongPairs 9 = .ok (.ireturn, 1) := by decide +kernel
set_option maxRecDepth 20000 in
theorem ggX10_unlike_X10_rowAt : GoodIn wsX10_unlike wsX10_rowAt := goodIn_ca (goodIn_r _ [7, 8, 9, 10, 72, 73, 74, 75, 76, 77, 78, 79, 80, 81] (by decide +kernel) (by decide +kernel)) (goodIn_sub (fun _ h => List.mem_cons_of_mem _ (List.mem_append_right _ h)) (by decide +kernel))
set_option maxRecDepth 20000 in
theorem gX10_unlike_X10_rowAt : GoodIn wsX10_unlike (wsV RX10 92 RX10 yX10_rowAt wsX10_rowAt) := goodIn_app (goodIn_of _ (by decide +kernel)) ggX10_unlike_X10_rowAt
set_option maxRecDepth 20000 in
theorem ggX10_unlike_X10_sortCopy : GoodIn wsX10_unlike wsX10_sortCopy := goodIn_r _ [14, 2, 1, 15, 16, 17, 18, 19, 20, 21, 22, 23, 24, 25, 26, 27, 28, 29, 30, 31, 32, 33, 34, 35, 36, 37, 38, 39, 40, 41, 42, 43, 44, 45, 46, 47, 48, 49, 50, 51, 52, 53, 54, 55, 56, 57, 58, 59, 60, 61, 62, 63, 64, 65, 72, 73, 74, 75, 76, 77, 78, 79, 80, 81, 70, 71, 82, 83, 84, 85, 86, 87, 88] (by decide +kernel) (by decide +kernel)
set_option maxRecDepth 20000 in
theorem gX10_unlike_X10_sortCopy : GoodIn wsX10_unlike (wsV RX10 234 RX10 yX10_sortCopy wsX10_sortCopy) := goodIn_app (goodIn_of _ (by decide +kernel)) ggX10_unlike_X10_sortCopy
set_option maxRecDepth 20000 in
theorem ggX10_unlike_X8_firstAt : GoodIn wsX10_unlike wsX8_firstAt := goodIn_r _ [69, 21, 45, 26, 47, 48, 49, 50, 51, 52, 53, 82, 83, 84, 85, 86, 87, 88] (by decide +kernel) (by decide +kernel)
set_option maxRecDepth 20000 in
theorem gX10_unlike_X8_firstAt : GoodIn wsX10_unlike (wsV RX10 237 RX8 yX8_firstAt wsX8_firstAt) := goodIn_app (goodIn_of _ (by decide +kernel)) ggX10_unlike_X8_firstAt
theorem dX10_unlike_0 : decode cX10_unlike 0 = .ok (.aload_n 0, 1) := by decide +kernel
theorem dX10_unlike_1 : decode cX10_unlike 1 = .ok (.iload_n 1, 1) := by decide +kernel
theorem dX10_unlike_2 : decode cX10_unlike 2 = .ok (.invokevirtual 92, 3) := by decide +kernel
theorem dX10_unlike_5 : decode cX10_unlike 5 = .ok (.astore_n 2, 1) := by decide +kernel
theorem dX10_unlike_6 : decode cX10_unlike 6 = .ok (.aload_n 0, 1) := by decide +kernel
theorem dX10_unlike_7 : decode cX10_unlike 7 = .ok (.aload_n 2, 1) := by decide +kernel
theorem dX10_unlike_8 : decode cX10_unlike 8 = .ok (.invokevirtual 234, 3) := by decide +kernel
theorem dX10_unlike_11 : decode cX10_unlike 11 = .ok (.pop, 1) := by decide +kernel
theorem dX10_unlike_12 : decode cX10_unlike 12 = .ok (.iconst 0, 1) := by decide +kernel
theorem dX10_unlike_13 : decode cX10_unlike 13 = .ok (.istore_n 3, 1) := by decide +kernel
theorem dX10_unlike_14 : decode cX10_unlike 14 = .ok (.iconst 0, 1) := by decide +kernel
theorem dX10_unlike_15 : decode cX10_unlike 15 = .ok (.istore 4, 2) := by decide +kernel
theorem dX10_unlike_17 : decode cX10_unlike 17 = .ok (.iload 4, 2) := by decide +kernel
theorem dX10_unlike_19 : decode cX10_unlike 19 = .ok (.aload_n 2, 1) := by decide +kernel
theorem dX10_unlike_20 : decode cX10_unlike 20 = .ok (.getfield 120, 3) := by decide +kernel
theorem dX10_unlike_23 : decode cX10_unlike 23 = .ok (.if_icmp .ge 40, 3) := by decide +kernel
theorem dX10_unlike_26 : decode cX10_unlike 26 = .ok (.iload 4, 2) := by decide +kernel
theorem dX10_unlike_28 : decode cX10_unlike 28 = .ok (.ifCond .eq 26, 3) := by decide +kernel
theorem dX10_unlike_31 : decode cX10_unlike 31 = .ok (.aload_n 0, 1) := by decide +kernel
theorem dX10_unlike_32 : decode cX10_unlike 32 = .ok (.getfield 42, 3) := by decide +kernel
theorem dX10_unlike_35 : decode cX10_unlike 35 = .ok (.iload 4, 2) := by decide +kernel
theorem dX10_unlike_37 : decode cX10_unlike 37 = .ok (.invokevirtual 237, 3) := by decide +kernel
theorem dX10_unlike_40 : decode cX10_unlike 40 = .ok (.aload_n 0, 1) := by decide +kernel
theorem dX10_unlike_41 : decode cX10_unlike 41 = .ok (.getfield 42, 3) := by decide +kernel
theorem dX10_unlike_44 : decode cX10_unlike 44 = .ok (.iload 4, 2) := by decide +kernel
theorem dX10_unlike_46 : decode cX10_unlike 46 = .ok (.iconst 1, 1) := by decide +kernel
theorem dX10_unlike_47 : decode cX10_unlike 47 = .ok (.isub, 1) := by decide +kernel
theorem dX10_unlike_48 : decode cX10_unlike 48 = .ok (.invokevirtual 237, 3) := by decide +kernel
theorem dX10_unlike_51 : decode cX10_unlike 51 = .ok (.if_icmp .eq 6, 3) := by decide +kernel
theorem dX10_unlike_54 : decode cX10_unlike 54 = .ok (.iinc 3 1, 3) := by decide +kernel
theorem dX10_unlike_57 : decode cX10_unlike 57 = .ok (.iinc 4 1, 3) := by decide +kernel
theorem dX10_unlike_60 : decode cX10_unlike 60 = .ok (.goto (-43), 3) := by decide +kernel
theorem dX10_unlike_63 : decode cX10_unlike 63 = .ok (.iload_n 3, 1) := by decide +kernel
theorem dX10_unlike_64 : decode cX10_unlike 64 = .ok (.ireturn, 1) := by decide +kernel
set_option maxRecDepth 20000 in
theorem ggX10_sum_X10_rowAt : GoodIn wsX10_sum wsX10_rowAt := goodIn_ca (goodIn_r _ [7, 8, 9, 10, 13, 14, 15, 16, 17, 18, 19, 20, 21, 22] (by decide +kernel) (by decide +kernel)) (goodIn_sub (fun _ h => List.mem_cons_of_mem _ (List.mem_append_right _ h)) (by decide +kernel))
set_option maxRecDepth 20000 in
theorem gX10_sum_X10_rowAt : GoodIn wsX10_sum (wsV RX10 92 RX10 yX10_rowAt wsX10_rowAt) := goodIn_app (goodIn_of _ (by decide +kernel)) ggX10_sum_X10_rowAt
theorem dX10_sum_0 : decode cX10_sum 0 = .ok (.aload_n 0, 1) := by decide +kernel
theorem dX10_sum_1 : decode cX10_sum 1 = .ok (.iload_n 1, 1) := by decide +kernel
theorem dX10_sum_2 : decode cX10_sum 2 = .ok (.invokevirtual 92, 3) := by decide +kernel
theorem dX10_sum_5 : decode cX10_sum 5 = .ok (.astore_n 2, 1) := by decide +kernel
theorem dX10_sum_6 : decode cX10_sum 6 = .ok (.lconst 0, 1) := by decide +kernel
theorem dX10_sum_7 : decode cX10_sum 7 = .ok (.lstore_n 3, 1) := by decide +kernel
theorem dX10_sum_8 : decode cX10_sum 8 = .ok (.iconst 0, 1) := by decide +kernel
theorem dX10_sum_9 : decode cX10_sum 9 = .ok (.istore 5, 2) := by decide +kernel
theorem dX10_sum_11 : decode cX10_sum 11 = .ok (.iload 5, 2) := by decide +kernel
theorem dX10_sum_13 : decode cX10_sum 13 = .ok (.aload_n 2, 1) := by decide +kernel
theorem dX10_sum_14 : decode cX10_sum 14 = .ok (.getfield 120, 3) := by decide +kernel
theorem dX10_sum_17 : decode cX10_sum 17 = .ok (.if_icmp .ge 28, 3) := by decide +kernel
theorem dX10_sum_20 : decode cX10_sum 20 = .ok (.lload_n 3, 1) := by decide +kernel
theorem dX10_sum_21 : decode cX10_sum 21 = .ok (.iload 5, 2) := by decide +kernel
theorem dX10_sum_23 : decode cX10_sum 23 = .ok (.i2l, 1) := by decide +kernel
theorem dX10_sum_24 : decode cX10_sum 24 = .ok (.lconst 1, 1) := by decide +kernel
theorem dX10_sum_25 : decode cX10_sum 25 = .ok (.ladd, 1) := by decide +kernel
theorem dX10_sum_26 : decode cX10_sum 26 = .ok (.aload_n 2, 1) := by decide +kernel
theorem dX10_sum_27 : decode cX10_sum 27 = .ok (.getfield 188, 3) := by decide +kernel
theorem dX10_sum_30 : decode cX10_sum 30 = .ok (.iload 5, 2) := by decide +kernel
theorem dX10_sum_32 : decode cX10_sum 32 = .ok (.iaload, 1) := by decide +kernel
theorem dX10_sum_33 : decode cX10_sum 33 = .ok (.i2l, 1) := by decide +kernel
theorem dX10_sum_34 : decode cX10_sum 34 = .ok (.lconst 1, 1) := by decide +kernel
theorem dX10_sum_35 : decode cX10_sum 35 = .ok (.ladd, 1) := by decide +kernel
theorem dX10_sum_36 : decode cX10_sum 36 = .ok (.lmul, 1) := by decide +kernel
theorem dX10_sum_37 : decode cX10_sum 37 = .ok (.ladd, 1) := by decide +kernel
theorem dX10_sum_38 : decode cX10_sum 38 = .ok (.lstore_n 3, 1) := by decide +kernel
theorem dX10_sum_39 : decode cX10_sum 39 = .ok (.iinc 5 1, 3) := by decide +kernel
theorem dX10_sum_42 : decode cX10_sum 42 = .ok (.goto (-31), 3) := by decide +kernel
theorem dX10_sum_45 : decode cX10_sum 45 = .ok (.lload_n 3, 1) := by decide +kernel
theorem dX10_sum_46 : decode cX10_sum 46 = .ok (.lreturn, 1) := by decide +kernel
set_option maxRecDepth 20000 in
theorem ggX10_compare_X10_rowAt : GoodIn wsX10_compare wsX10_rowAt := goodIn_ca (goodIn_r _ [10, 11, 12, 13, 29, 30, 31, 32, 33, 34, 35, 36, 37, 38] (by decide +kernel) (by decide +kernel)) (goodIn_sub (fun _ h => List.mem_cons_of_mem _ (List.mem_append_right _ h)) (by decide +kernel))
set_option maxRecDepth 20000 in
theorem gX10_compare_X10_rowAt : GoodIn wsX10_compare (wsV RX10 92 RX10 yX10_rowAt wsX10_rowAt) := goodIn_app (goodIn_of _ (by decide +kernel)) ggX10_compare_X10_rowAt
set_option maxRecDepth 20000 in
theorem ggX10_compare_X10_firstAt : GoodIn wsX10_compare wsX10_firstAt := goodIn_r _ [17, 18, 19, 20, 21, 22, 23, 24, 25, 26, 29, 30, 31, 32, 33, 34, 35, 36, 37, 38, 27, 28, 39, 40, 41] (by decide +kernel) (by decide +kernel)
set_option maxRecDepth 20000 in
theorem gX10_compare_X10_firstAt : GoodIn wsX10_compare (wsV RX10 224 RX10 yX10_firstAt wsX10_firstAt) := goodIn_app (goodIn_of _ (by decide +kernel)) ggX10_compare_X10_firstAt
theorem dX10_compare_0 : decode cX10_compare 0 = .ok (.aload_n 0, 1) := by decide +kernel
theorem dX10_compare_1 : decode cX10_compare 1 = .ok (.iload_n 1, 1) := by decide +kernel
theorem dX10_compare_2 : decode cX10_compare 2 = .ok (.invokevirtual 92, 3) := by decide +kernel
theorem dX10_compare_5 : decode cX10_compare 5 = .ok (.astore_n 3, 1) := by decide +kernel
theorem dX10_compare_6 : decode cX10_compare 6 = .ok (.aload_n 0, 1) := by decide +kernel
theorem dX10_compare_7 : decode cX10_compare 7 = .ok (.iload_n 2, 1) := by decide +kernel
theorem dX10_compare_8 : decode cX10_compare 8 = .ok (.invokevirtual 92, 3) := by decide +kernel
theorem dX10_compare_11 : decode cX10_compare 11 = .ok (.astore 4, 2) := by decide +kernel
theorem dX10_compare_13 : decode cX10_compare 13 = .ok (.aload_n 3, 1) := by decide +kernel
theorem dX10_compare_14 : decode cX10_compare 14 = .ok (.getfield 120, 3) := by decide +kernel
theorem dX10_compare_17 : decode cX10_compare 17 = .ok (.aload 4, 2) := by decide +kernel
theorem dX10_compare_19 : decode cX10_compare 19 = .ok (.getfield 120, 3) := by decide +kernel
theorem dX10_compare_22 : decode cX10_compare 22 = .ok (.invokestatic 239, 3) := by decide +kernel
theorem dX10_compare_25 : decode cX10_compare 25 = .ok (.istore 5, 2) := by decide +kernel
theorem dX10_compare_27 : decode cX10_compare 27 = .ok (.iconst 0, 1) := by decide +kernel
theorem dX10_compare_28 : decode cX10_compare 28 = .ok (.istore 6, 2) := by decide +kernel
theorem dX10_compare_30 : decode cX10_compare 30 = .ok (.iload 6, 2) := by decide +kernel
theorem dX10_compare_32 : decode cX10_compare 32 = .ok (.iload 5, 2) := by decide +kernel
theorem dX10_compare_34 : decode cX10_compare 34 = .ok (.if_icmp .ge 48, 3) := by decide +kernel
theorem dX10_compare_37 : decode cX10_compare 37 = .ok (.aload_n 0, 1) := by decide +kernel
theorem dX10_compare_38 : decode cX10_compare 38 = .ok (.aload_n 3, 1) := by decide +kernel
theorem dX10_compare_39 : decode cX10_compare 39 = .ok (.iload 6, 2) := by decide +kernel
theorem dX10_compare_41 : decode cX10_compare 41 = .ok (.invokevirtual 224, 3) := by decide +kernel
theorem dX10_compare_44 : decode cX10_compare 44 = .ok (.istore 7, 2) := by decide +kernel
theorem dX10_compare_46 : decode cX10_compare 46 = .ok (.aload_n 0, 1) := by decide +kernel
theorem dX10_compare_47 : decode cX10_compare 47 = .ok (.aload 4, 2) := by decide +kernel
theorem dX10_compare_49 : decode cX10_compare 49 = .ok (.iload 6, 2) := by decide +kernel
theorem dX10_compare_51 : decode cX10_compare 51 = .ok (.invokevirtual 224, 3) := by decide +kernel
theorem dX10_compare_54 : decode cX10_compare 54 = .ok (.istore 8, 2) := by decide +kernel
theorem dX10_compare_56 : decode cX10_compare 56 = .ok (.iload 7, 2) := by decide +kernel
theorem dX10_compare_58 : decode cX10_compare 58 = .ok (.iload 8, 2) := by decide +kernel
theorem dX10_compare_60 : decode cX10_compare 60 = .ok (.if_icmp .eq 16, 3) := by decide +kernel
theorem dX10_compare_63 : decode cX10_compare 63 = .ok (.iload 7, 2) := by decide +kernel
theorem dX10_compare_65 : decode cX10_compare 65 = .ok (.iload 8, 2) := by decide +kernel
theorem dX10_compare_67 : decode cX10_compare 67 = .ok (.if_icmp .ge 7, 3) := by decide +kernel
theorem dX10_compare_70 : decode cX10_compare 70 = .ok (.iconst (-1), 1) := by decide +kernel
theorem dX10_compare_71 : decode cX10_compare 71 = .ok (.goto 4, 3) := by decide +kernel
theorem dX10_compare_74 : decode cX10_compare 74 = .ok (.iconst 1, 1) := by decide +kernel
theorem dX10_compare_75 : decode cX10_compare 75 = .ok (.ireturn, 1) := by decide +kernel
theorem dX10_compare_76 : decode cX10_compare 76 = .ok (.iinc 6 1, 3) := by decide +kernel
theorem dX10_compare_79 : decode cX10_compare 79 = .ok (.goto (-49), 3) := by decide +kernel
theorem dX10_compare_82 : decode cX10_compare 82 = .ok (.aload_n 3, 1) := by decide +kernel
theorem dX10_compare_83 : decode cX10_compare 83 = .ok (.getfield 120, 3) := by decide +kernel
theorem dX10_compare_86 : decode cX10_compare 86 = .ok (.aload 4, 2) := by decide +kernel
theorem dX10_compare_88 : decode cX10_compare 88 = .ok (.getfield 120, 3) := by decide +kernel
theorem dX10_compare_91 : decode cX10_compare 91 = .ok (.if_icmp .ne 5, 3) := by decide +kernel
theorem dX10_compare_94 : decode cX10_compare 94 = .ok (.iconst 0, 1) := by decide +kernel
theorem dX10_compare_95 : decode cX10_compare 95 = .ok (.ireturn, 1) := by decide +kernel
theorem dX10_compare_96 : decode cX10_compare 96 = .ok (.aload_n 3, 1) := by decide +kernel
theorem dX10_compare_97 : decode cX10_compare 97 = .ok (.getfield 120, 3) := by decide +kernel
theorem dX10_compare_100 : decode cX10_compare 100 = .ok (.aload 4, 2) := by decide +kernel
theorem dX10_compare_102 : decode cX10_compare 102 = .ok (.getfield 120, 3) := by decide +kernel
theorem dX10_compare_105 : decode cX10_compare 105 = .ok (.if_icmp .ge 7, 3) := by decide +kernel
theorem dX10_compare_108 : decode cX10_compare 108 = .ok (.iconst (-1), 1) := by decide +kernel
theorem dX10_compare_109 : decode cX10_compare 109 = .ok (.goto 4, 3) := by decide +kernel
theorem dX10_compare_112 : decode cX10_compare 112 = .ok (.iconst 1, 1) := by decide +kernel
theorem dX10_compare_113 : decode cX10_compare 113 = .ok (.ireturn, 1) := by decide +kernel
set_option maxRecDepth 20000 in
theorem ggX10_middle_X10_rowAt : GoodIn wsX10_middle wsX10_rowAt := goodIn_ca (goodIn_r _ [9, 10, 11, 12, 74, 75, 76, 77, 78, 79, 80, 81, 82, 83] (by decide +kernel) (by decide +kernel)) (goodIn_sub (fun _ h => List.mem_cons_of_mem _ (List.mem_append_right _ h)) (by decide +kernel))
set_option maxRecDepth 20000 in
theorem gX10_middle_X10_rowAt : GoodIn wsX10_middle (wsV RX10 92 RX10 yX10_rowAt wsX10_rowAt) := goodIn_app (goodIn_of _ (by decide +kernel)) ggX10_middle_X10_rowAt
set_option maxRecDepth 20000 in
theorem ggX10_middle_X10_sortCopy : GoodIn wsX10_middle wsX10_sortCopy := goodIn_r _ [16, 4, 3, 17, 18, 19, 20, 21, 22, 23, 24, 25, 26, 27, 28, 29, 30, 31, 32, 33, 34, 35, 36, 37, 38, 39, 40, 41, 42, 43, 44, 45, 46, 47, 48, 49, 50, 51, 52, 53, 54, 55, 56, 57, 58, 59, 60, 61, 62, 63, 64, 65, 66, 67, 74, 75, 76, 77, 78, 79, 80, 81, 82, 83, 72, 73, 84, 85, 86, 87, 88, 89, 90] (by decide +kernel) (by decide +kernel)
set_option maxRecDepth 20000 in
theorem gX10_middle_X10_sortCopy : GoodIn wsX10_middle (wsV RX10 234 RX10 yX10_sortCopy wsX10_sortCopy) := goodIn_app (goodIn_of _ (by decide +kernel)) ggX10_middle_X10_sortCopy
set_option maxRecDepth 20000 in
theorem ggX10_middle_X8_firstAt : GoodIn wsX10_middle wsX8_firstAt := goodIn_r _ [71, 23, 47, 28, 49, 50, 51, 52, 53, 54, 55, 84, 85, 86, 87, 88, 89, 90] (by decide +kernel) (by decide +kernel)
set_option maxRecDepth 20000 in
theorem gX10_middle_X8_firstAt : GoodIn wsX10_middle (wsV RX10 237 RX8 yX8_firstAt wsX8_firstAt) := goodIn_app (goodIn_of _ (by decide +kernel)) ggX10_middle_X8_firstAt
theorem dX10_middle_0 : decode cX10_middle 0 = .ok (.aload_n 0, 1) := by decide +kernel
theorem dX10_middle_1 : decode cX10_middle 1 = .ok (.iload_n 1, 1) := by decide +kernel
theorem dX10_middle_2 : decode cX10_middle 2 = .ok (.invokevirtual 92, 3) := by decide +kernel
theorem dX10_middle_5 : decode cX10_middle 5 = .ok (.astore_n 2, 1) := by decide +kernel
theorem dX10_middle_6 : decode cX10_middle 6 = .ok (.aload_n 2, 1) := by decide +kernel
theorem dX10_middle_7 : decode cX10_middle 7 = .ok (.getfield 120, 3) := by decide +kernel
theorem dX10_middle_10 : decode cX10_middle 10 = .ok (.ifCond .ne 13, 3) := by decide +kernel
theorem dX10_middle_13 : decode cX10_middle 13 = .ok (.new 244, 3) := by decide +kernel
theorem dX10_middle_16 : decode cX10_middle 16 = .ok (.dup, 1) := by decide +kernel
theorem dX10_middle_17 : decode cX10_middle 17 = .ok (.ldc 246, 2) := by decide +kernel
theorem dX10_middle_19 : decode cX10_middle 19 = .ok (.invokespecial 248, 3) := by decide +kernel
theorem dX10_middle_22 : decode cX10_middle 22 = .ok (.athrow, 1) := by decide +kernel
theorem dX10_middle_23 : decode cX10_middle 23 = .ok (.aload_n 0, 1) := by decide +kernel
theorem dX10_middle_24 : decode cX10_middle 24 = .ok (.aload_n 2, 1) := by decide +kernel
theorem dX10_middle_25 : decode cX10_middle 25 = .ok (.invokevirtual 234, 3) := by decide +kernel
theorem dX10_middle_28 : decode cX10_middle 28 = .ok (.pop, 1) := by decide +kernel
theorem dX10_middle_29 : decode cX10_middle 29 = .ok (.aload_n 0, 1) := by decide +kernel
theorem dX10_middle_30 : decode cX10_middle 30 = .ok (.getfield 42, 3) := by decide +kernel
theorem dX10_middle_33 : decode cX10_middle 33 = .ok (.aload_n 2, 1) := by decide +kernel
theorem dX10_middle_34 : decode cX10_middle 34 = .ok (.getfield 120, 3) := by decide +kernel
theorem dX10_middle_37 : decode cX10_middle 37 = .ok (.iconst 1, 1) := by decide +kernel
theorem dX10_middle_38 : decode cX10_middle 38 = .ok (.isub, 1) := by decide +kernel
theorem dX10_middle_39 : decode cX10_middle 39 = .ok (.iconst 2, 1) := by decide +kernel
theorem dX10_middle_40 : decode cX10_middle 40 = .ok (.idiv, 1) := by decide +kernel
theorem dX10_middle_41 : decode cX10_middle 41 = .ok (.invokevirtual 237, 3) := by decide +kernel
theorem dX10_middle_44 : decode cX10_middle 44 = .ok (.ireturn, 1) := by decide +kernel
set_option maxRecDepth 20000 in
theorem ggX10_mean_X10_rowAt : GoodIn wsX10_mean wsX10_rowAt := goodIn_ca (goodIn_r _ [6, 7, 8, 9, 25, 26, 27, 28, 29, 30, 31, 32, 33, 34] (by decide +kernel) (by decide +kernel)) (goodIn_sub (fun _ h => List.mem_cons_of_mem _ (List.mem_append_right _ h)) (by decide +kernel))
set_option maxRecDepth 20000 in
theorem gX10_mean_X10_rowAt : GoodIn wsX10_mean (wsV RX10 92 RX10 yX10_rowAt wsX10_rowAt) := goodIn_app (goodIn_of _ (by decide +kernel)) ggX10_mean_X10_rowAt
set_option maxRecDepth 20000 in
theorem ggX10_mean_X10_firstAt : GoodIn wsX10_mean wsX10_firstAt := goodIn_r _ [13, 14, 15, 16, 17, 18, 19, 20, 21, 22, 25, 26, 27, 28, 29, 30, 31, 32, 33, 34, 23, 24, 35, 36, 37] (by decide +kernel) (by decide +kernel)
set_option maxRecDepth 20000 in
theorem gX10_mean_X10_firstAt : GoodIn wsX10_mean (wsV RX10 224 RX10 yX10_firstAt wsX10_firstAt) := goodIn_app (goodIn_of _ (by decide +kernel)) ggX10_mean_X10_firstAt
theorem dX10_mean_0 : decode cX10_mean 0 = .ok (.aload_n 0, 1) := by decide +kernel
theorem dX10_mean_1 : decode cX10_mean 1 = .ok (.iload_n 1, 1) := by decide +kernel
theorem dX10_mean_2 : decode cX10_mean 2 = .ok (.invokevirtual 92, 3) := by decide +kernel
theorem dX10_mean_5 : decode cX10_mean 5 = .ok (.astore_n 2, 1) := by decide +kernel
theorem dX10_mean_6 : decode cX10_mean 6 = .ok (.aload_n 2, 1) := by decide +kernel
theorem dX10_mean_7 : decode cX10_mean 7 = .ok (.getfield 120, 3) := by decide +kernel
theorem dX10_mean_10 : decode cX10_mean 10 = .ok (.ifCond .ne 5, 3) := by decide +kernel
theorem dX10_mean_13 : decode cX10_mean 13 = .ok (.dconst 0, 1) := by decide +kernel
theorem dX10_mean_14 : decode cX10_mean 14 = .ok (.dreturn, 1) := by decide +kernel
theorem dX10_mean_15 : decode cX10_mean 15 = .ok (.lconst 0, 1) := by decide +kernel
theorem dX10_mean_16 : decode cX10_mean 16 = .ok (.lstore_n 3, 1) := by decide +kernel
theorem dX10_mean_17 : decode cX10_mean 17 = .ok (.iconst 0, 1) := by decide +kernel
theorem dX10_mean_18 : decode cX10_mean 18 = .ok (.istore 5, 2) := by decide +kernel
theorem dX10_mean_20 : decode cX10_mean 20 = .ok (.iload 5, 2) := by decide +kernel
theorem dX10_mean_22 : decode cX10_mean 22 = .ok (.aload_n 2, 1) := by decide +kernel
theorem dX10_mean_23 : decode cX10_mean 23 = .ok (.getfield 120, 3) := by decide +kernel
theorem dX10_mean_26 : decode cX10_mean 26 = .ok (.if_icmp .ge 20, 3) := by decide +kernel
theorem dX10_mean_29 : decode cX10_mean 29 = .ok (.lload_n 3, 1) := by decide +kernel
theorem dX10_mean_30 : decode cX10_mean 30 = .ok (.aload_n 0, 1) := by decide +kernel
theorem dX10_mean_31 : decode cX10_mean 31 = .ok (.aload_n 2, 1) := by decide +kernel
theorem dX10_mean_32 : decode cX10_mean 32 = .ok (.iload 5, 2) := by decide +kernel
theorem dX10_mean_34 : decode cX10_mean 34 = .ok (.invokevirtual 224, 3) := by decide +kernel
theorem dX10_mean_37 : decode cX10_mean 37 = .ok (.i2l, 1) := by decide +kernel
theorem dX10_mean_38 : decode cX10_mean 38 = .ok (.ladd, 1) := by decide +kernel
theorem dX10_mean_39 : decode cX10_mean 39 = .ok (.lstore_n 3, 1) := by decide +kernel
theorem dX10_mean_40 : decode cX10_mean 40 = .ok (.iinc 5 1, 3) := by decide +kernel
theorem dX10_mean_43 : decode cX10_mean 43 = .ok (.goto (-23), 3) := by decide +kernel
theorem dX10_mean_46 : decode cX10_mean 46 = .ok (.lload_n 3, 1) := by decide +kernel
theorem dX10_mean_47 : decode cX10_mean 47 = .ok (.l2d, 1) := by decide +kernel
theorem dX10_mean_48 : decode cX10_mean 48 = .ok (.aload_n 2, 1) := by decide +kernel
theorem dX10_mean_49 : decode cX10_mean 49 = .ok (.getfield 120, 3) := by decide +kernel
theorem dX10_mean_52 : decode cX10_mean 52 = .ok (.i2d, 1) := by decide +kernel
theorem dX10_mean_53 : decode cX10_mean 53 = .ok (.ddiv, 1) := by decide +kernel
theorem dX10_mean_54 : decode cX10_mean 54 = .ok (.dreturn, 1) := by decide +kernel
set_option maxRecDepth 20000 in
theorem ggX10_risingShare_X10_rowAt : GoodIn wsX10_risingShare wsX10_rowAt := goodIn_ca (goodIn_r _ [6, 7, 8, 9, 37, 38, 39, 40, 41, 42, 43, 44, 45, 46] (by decide +kernel) (by decide +kernel)) (goodIn_sub (fun _ h => List.mem_cons_of_mem _ (List.mem_append_right _ h)) (by decide +kernel))
set_option maxRecDepth 20000 in
theorem gX10_risingShare_X10_rowAt : GoodIn wsX10_risingShare (wsV RX10 92 RX10 yX10_rowAt wsX10_rowAt) := goodIn_app (goodIn_of _ (by decide +kernel)) ggX10_risingShare_X10_rowAt
set_option maxRecDepth 20000 in
theorem ggX10_risingShare_X10_lengthOfLongestRun : GoodIn wsX10_risingShare wsX10_lengthOfLongestRun := goodIn_r _ [13, 1, 14, 15, 16, 17, 18, 19, 20, 5, 21, 22, 23, 24, 25, 26, 27, 28, 29, 30, 31, 32, 33, 34, 35, 36, 37, 38, 39, 40, 41, 42, 43, 44, 45, 46, 47, 48, 49] (by decide +kernel) (by decide +kernel)
set_option maxRecDepth 20000 in
theorem gX10_risingShare_X10_lengthOfLongestRun : GoodIn wsX10_risingShare (wsV RX10 231 RX10 yX10_lengthOfLongestRun wsX10_lengthOfLongestRun) := goodIn_app (goodIn_of _ (by decide +kernel)) ggX10_risingShare_X10_lengthOfLongestRun
theorem dX10_risingShare_0 : decode cX10_risingShare 0 = .ok (.aload_n 0, 1) := by decide +kernel
theorem dX10_risingShare_1 : decode cX10_risingShare 1 = .ok (.iload_n 1, 1) := by decide +kernel
theorem dX10_risingShare_2 : decode cX10_risingShare 2 = .ok (.invokevirtual 92, 3) := by decide +kernel
theorem dX10_risingShare_5 : decode cX10_risingShare 5 = .ok (.astore_n 2, 1) := by decide +kernel
theorem dX10_risingShare_6 : decode cX10_risingShare 6 = .ok (.aload_n 2, 1) := by decide +kernel
theorem dX10_risingShare_7 : decode cX10_risingShare 7 = .ok (.getfield 120, 3) := by decide +kernel
theorem dX10_risingShare_10 : decode cX10_risingShare 10 = .ok (.ifCond .ne 5, 3) := by decide +kernel
theorem dX10_risingShare_13 : decode cX10_risingShare 13 = .ok (.fconst 0, 1) := by decide +kernel
theorem dX10_risingShare_14 : decode cX10_risingShare 14 = .ok (.freturn, 1) := by decide +kernel
theorem dX10_risingShare_15 : decode cX10_risingShare 15 = .ok (.aload_n 0, 1) := by decide +kernel
theorem dX10_risingShare_16 : decode cX10_risingShare 16 = .ok (.aload_n 2, 1) := by decide +kernel
theorem dX10_risingShare_17 : decode cX10_risingShare 17 = .ok (.invokevirtual 231, 3) := by decide +kernel
theorem dX10_risingShare_20 : decode cX10_risingShare 20 = .ok (.i2f, 1) := by decide +kernel
theorem dX10_risingShare_21 : decode cX10_risingShare 21 = .ok (.aload_n 2, 1) := by decide +kernel
theorem dX10_risingShare_22 : decode cX10_risingShare 22 = .ok (.getfield 120, 3) := by decide +kernel
theorem dX10_risingShare_25 : decode cX10_risingShare 25 = .ok (.i2f, 1) := by decide +kernel
theorem dX10_risingShare_26 : decode cX10_risingShare 26 = .ok (.fdiv, 1) := by decide +kernel
theorem dX10_risingShare_27 : decode cX10_risingShare 27 = .ok (.freturn, 1) := by decide +kernel
set_option maxRecDepth 20000 in
theorem ggX10_errors_X10_theoremHolds : GoodIn wsX10_errors wsX10_theoremHolds := goodIn_r _ [6, 7, 8, 9, 10, 11, 12, 13, 14, 15, 16, 17, 18, 19, 20, 21, 22, 23, 24, 25, 26, 27, 28, 29, 30, 31, 32, 33, 5, 34, 35, 36, 37, 38, 39, 40, 41, 42, 43, 44, 45, 46, 47, 48, 49, 50, 51, 52, 53, 54, 55, 56, 57, 58, 59, 60, 61, 62, 63, 64, 65, 66, 67, 68, 69, 70, 71, 72, 73, 74, 75, 76, 77, 78, 79, 80, 81, 82, 83, 84, 85, 86, 87, 88, 89, 90, 91, 92, 93, 94, 95, 96, 97, 98, 99, 100, 101, 102, 103, 104, 105, 116, 117, 106, 107, 108, 109, 110, 111, 112, 113, 114, 115, 118, 119, 120, 121, 122, 123, 124] (by decide +kernel) (by decide +kernel)
set_option maxRecDepth 20000 in
theorem gX10_errors_X10_theoremHolds : GoodIn wsX10_errors (wsV RX10 249 RX10 yX10_theoremHolds wsX10_theoremHolds) := goodIn_app (goodIn_of _ (by decide +kernel)) ggX10_errors_X10_theoremHolds
theorem dX10_errors_0 : decode cX10_errors 0 = .ok (.iconst 0, 1) := by decide +kernel
theorem dX10_errors_1 : decode cX10_errors 1 = .ok (.istore_n 1, 1) := by decide +kernel
theorem dX10_errors_2 : decode cX10_errors 2 = .ok (.iconst 0, 1) := by decide +kernel
theorem dX10_errors_3 : decode cX10_errors 3 = .ok (.istore_n 2, 1) := by decide +kernel
theorem dX10_errors_4 : decode cX10_errors 4 = .ok (.iload_n 2, 1) := by decide +kernel
theorem dX10_errors_5 : decode cX10_errors 5 = .ok (.iconst 4, 1) := by decide +kernel
theorem dX10_errors_6 : decode cX10_errors 6 = .ok (.if_icmp .ge 25, 3) := by decide +kernel
theorem dX10_errors_9 : decode cX10_errors 9 = .ok (.aload_n 0, 1) := by decide +kernel
theorem dX10_errors_10 : decode cX10_errors 10 = .ok (.aload_n 0, 1) := by decide +kernel
theorem dX10_errors_11 : decode cX10_errors 11 = .ok (.getfield 18, 3) := by decide +kernel
theorem dX10_errors_14 : decode cX10_errors 14 = .ok (.iload_n 2, 1) := by decide +kernel
theorem dX10_errors_15 : decode cX10_errors 15 = .ok (.aaload, 1) := by decide +kernel
theorem dX10_errors_16 : decode cX10_errors 16 = .ok (.invokevirtual 249, 3) := by decide +kernel
theorem dX10_errors_19 : decode cX10_errors 19 = .ok (.ifCond .ne 6, 3) := by decide +kernel
theorem dX10_errors_22 : decode cX10_errors 22 = .ok (.iinc 1 1, 3) := by decide +kernel
theorem dX10_errors_25 : decode cX10_errors 25 = .ok (.iinc 2 1, 3) := by decide +kernel
theorem dX10_errors_28 : decode cX10_errors 28 = .ok (.goto (-24), 3) := by decide +kernel
theorem dX10_errors_31 : decode cX10_errors 31 = .ok (.iload_n 1, 1) := by decide +kernel
theorem dX10_errors_32 : decode cX10_errors 32 = .ok (.ireturn, 1) := by decide +kernel
theorem dX10_rowAt_0 : decode cX10_rowAt 0 = .ok (.iload_n 1, 1) := by decide +kernel
theorem dX10_rowAt_1 : decode cX10_rowAt 1 = .ok (.ifCond .lt 8, 3) := by decide +kernel
theorem dX10_rowAt_4 : decode cX10_rowAt 4 = .ok (.iload_n 1, 1) := by decide +kernel
theorem dX10_rowAt_5 : decode cX10_rowAt 5 = .ok (.iconst 4, 1) := by decide +kernel
theorem dX10_rowAt_6 : decode cX10_rowAt 6 = .ok (.if_icmp .lt 13, 3) := by decide +kernel
theorem dX10_rowAt_9 : decode cX10_rowAt 9 = .ok (.new 123, 3) := by decide +kernel
theorem dX10_rowAt_12 : decode cX10_rowAt 12 = .ok (.dup, 1) := by decide +kernel
theorem dX10_rowAt_13 : decode cX10_rowAt 13 = .ok (.ldc 252, 2) := by decide +kernel
theorem dX10_rowAt_15 : decode cX10_rowAt 15 = .ok (.invokespecial 127, 3) := by decide +kernel
theorem dX10_rowAt_18 : decode cX10_rowAt 18 = .ok (.athrow, 1) := by decide +kernel
theorem dX10_rowAt_19 : decode cX10_rowAt 19 = .ok (.aload_n 0, 1) := by decide +kernel
theorem dX10_rowAt_20 : decode cX10_rowAt 20 = .ok (.getfield 18, 3) := by decide +kernel
theorem dX10_rowAt_23 : decode cX10_rowAt 23 = .ok (.iload_n 1, 1) := by decide +kernel
theorem dX10_rowAt_24 : decode cX10_rowAt 24 = .ok (.aaload, 1) := by decide +kernel
theorem dX10_rowAt_25 : decode cX10_rowAt 25 = .ok (.areturn, 1) := by decide +kernel
theorem dX10_needPlace_0 : decode cX10_needPlace 0 = .ok (.iload_n 1, 1) := by decide +kernel
theorem dX10_needPlace_1 : decode cX10_needPlace 1 = .ok (.ifCond .lt 11, 3) := by decide +kernel
theorem dX10_needPlace_4 : decode cX10_needPlace 4 = .ok (.iload_n 1, 1) := by decide +kernel
theorem dX10_needPlace_5 : decode cX10_needPlace 5 = .ok (.aload_n 0, 1) := by decide +kernel
theorem dX10_needPlace_6 : decode cX10_needPlace 6 = .ok (.getfield 120, 3) := by decide +kernel
theorem dX10_needPlace_9 : decode cX10_needPlace 9 = .ok (.if_icmp .lt 13, 3) := by decide +kernel
theorem dX10_needPlace_12 : decode cX10_needPlace 12 = .ok (.new 123, 3) := by decide +kernel
theorem dX10_needPlace_15 : decode cX10_needPlace 15 = .ok (.dup, 1) := by decide +kernel
theorem dX10_needPlace_16 : decode cX10_needPlace 16 = .ok (.ldc 125, 2) := by decide +kernel
theorem dX10_needPlace_18 : decode cX10_needPlace 18 = .ok (.invokespecial 127, 3) := by decide +kernel
theorem dX10_needPlace_21 : decode cX10_needPlace 21 = .ok (.athrow, 1) := by decide +kernel
theorem dX10_needPlace_22 : decode cX10_needPlace 22 = .ok (.return_, 1) := by decide +kernel
theorem dX10_needPart_0 : decode cX10_needPart 0 = .ok (.iload_n 1, 1) := by decide +kernel
theorem dX10_needPart_1 : decode cX10_needPart 1 = .ok (.ifCond .lt 11, 3) := by decide +kernel
theorem dX10_needPart_4 : decode cX10_needPart 4 = .ok (.iload_n 2, 1) := by decide +kernel
theorem dX10_needPart_5 : decode cX10_needPart 5 = .ok (.aload_n 0, 1) := by decide +kernel
theorem dX10_needPart_6 : decode cX10_needPart 6 = .ok (.getfield 120, 3) := by decide +kernel
theorem dX10_needPart_9 : decode cX10_needPart 9 = .ok (.if_icmp .le 13, 3) := by decide +kernel
theorem dX10_needPart_12 : decode cX10_needPart 12 = .ok (.new 123, 3) := by decide +kernel
theorem dX10_needPart_15 : decode cX10_needPart 15 = .ok (.dup, 1) := by decide +kernel
theorem dX10_needPart_16 : decode cX10_needPart 16 = .ok (.ldc 254, 2) := by decide +kernel
theorem dX10_needPart_18 : decode cX10_needPart 18 = .ok (.invokespecial 127, 3) := by decide +kernel
theorem dX10_needPart_21 : decode cX10_needPart 21 = .ok (.athrow, 1) := by decide +kernel
theorem dX10_needPart_22 : decode cX10_needPart 22 = .ok (.iload_n 1, 1) := by decide +kernel
theorem dX10_needPart_23 : decode cX10_needPart 23 = .ok (.iload_n 2, 1) := by decide +kernel
theorem dX10_needPart_24 : decode cX10_needPart 24 = .ok (.if_icmp .le 14, 3) := by decide +kernel
theorem dX10_needPart_27 : decode cX10_needPart 27 = .ok (.new 171, 3) := by decide +kernel
theorem dX10_needPart_30 : decode cX10_needPart 30 = .ok (.dup, 1) := by decide +kernel
theorem dX10_needPart_31 : decode cX10_needPart 31 = .ok (.ldc_w 256, 3) := by decide +kernel
theorem dX10_needPart_34 : decode cX10_needPart 34 = .ok (.invokespecial 175, 3) := by decide +kernel
theorem dX10_needPart_37 : decode cX10_needPart 37 = .ok (.athrow, 1) := by decide +kernel
theorem dX10_needPart_38 : decode cX10_needPart 38 = .ok (.return_, 1) := by decide +kernel
theorem dX10_needUnlikeRows_0 : decode cX10_needUnlikeRows 0 = .ok (.iload_n 0, 1) := by decide +kernel
theorem dX10_needUnlikeRows_1 : decode cX10_needUnlikeRows 1 = .ok (.iload_n 1, 1) := by decide +kernel
theorem dX10_needUnlikeRows_2 : decode cX10_needUnlikeRows 2 = .ok (.if_icmp .ne 14, 3) := by decide +kernel
theorem dX10_needUnlikeRows_5 : decode cX10_needUnlikeRows 5 = .ok (.new 171, 3) := by decide +kernel
theorem dX10_needUnlikeRows_8 : decode cX10_needUnlikeRows 8 = .ok (.dup, 1) := by decide +kernel
theorem dX10_needUnlikeRows_9 : decode cX10_needUnlikeRows 9 = .ok (.ldc_w 258, 3) := by decide +kernel
theorem dX10_needUnlikeRows_12 : decode cX10_needUnlikeRows 12 = .ok (.invokespecial 175, 3) := by decide +kernel
theorem dX10_needUnlikeRows_15 : decode cX10_needUnlikeRows 15 = .ok (.athrow, 1) := by decide +kernel
theorem dX10_needUnlikeRows_16 : decode cX10_needUnlikeRows 16 = .ok (.return_, 1) := by decide +kernel
theorem dX10_needRoom_0 : decode cX10_needRoom 0 = .ok (.aload_n 0, 1) := by decide +kernel
theorem dX10_needRoom_1 : decode cX10_needRoom 1 = .ok (.getfield 120, 3) := by decide +kernel
theorem dX10_needRoom_4 : decode cX10_needRoom 4 = .ok (.iload_n 1, 1) := by decide +kernel
theorem dX10_needRoom_5 : decode cX10_needRoom 5 = .ok (.iadd, 1) := by decide +kernel
theorem dX10_needRoom_6 : decode cX10_needRoom 6 = .ok (.sipush 800, 3) := by decide +kernel
theorem dX10_needRoom_9 : decode cX10_needRoom 9 = .ok (.if_icmp .le 14, 3) := by decide +kernel
theorem dX10_needRoom_12 : decode cX10_needRoom 12 = .ok (.new 77, 3) := by decide +kernel
theorem dX10_needRoom_15 : decode cX10_needRoom 15 = .ok (.dup, 1) := by decide +kernel
theorem dX10_needRoom_16 : decode cX10_needRoom 16 = .ok (.ldc_w 260, 3) := by decide +kernel
theorem dX10_needRoom_19 : decode cX10_needRoom 19 = .ok (.invokespecial 81, 3) := by decide +kernel
theorem dX10_needRoom_22 : decode cX10_needRoom 22 = .ok (.athrow, 1) := by decide +kernel
theorem dX10_needRoom_23 : decode cX10_needRoom 23 = .ok (.return_, 1) := by decide +kernel
theorem dX10_needCards_0 : decode cX10_needCards 0 = .ok (.aload_n 0, 1) := by decide +kernel
theorem dX10_needCards_1 : decode cX10_needCards 1 = .ok (.getfield 12, 3) := by decide +kernel
theorem dX10_needCards_4 : decode cX10_needCards 4 = .ok (.getfield 262, 3) := by decide +kernel
theorem dX10_needCards_7 : decode cX10_needCards 7 = .ok (.iload_n 1, 1) := by decide +kernel
theorem dX10_needCards_8 : decode cX10_needCards 8 = .ok (.iadd, 1) := by decide +kernel
theorem dX10_needCards_9 : decode cX10_needCards 9 = .ok (.sipush 20000, 3) := by decide +kernel
theorem dX10_needCards_12 : decode cX10_needCards 12 = .ok (.if_icmp .le 14, 3) := by decide +kernel
theorem dX10_needCards_15 : decode cX10_needCards 15 = .ok (.new 77, 3) := by decide +kernel
theorem dX10_needCards_18 : decode cX10_needCards 18 = .ok (.dup, 1) := by decide +kernel
theorem dX10_needCards_19 : decode cX10_needCards 19 = .ok (.ldc_w 265, 3) := by decide +kernel
theorem dX10_needCards_22 : decode cX10_needCards 22 = .ok (.invokespecial 81, 3) := by decide +kernel
theorem dX10_needCards_25 : decode cX10_needCards 25 = .ok (.athrow, 1) := by decide +kernel
theorem dX10_needCards_26 : decode cX10_needCards 26 = .ok (.return_, 1) := by decide +kernel
set_option maxRecDepth 20000 in
theorem ggX10_layRun_X7_firstOf : GoodIn wsX10_layRun wsX7_firstOf := goodIn_r _ [8, 9, 10, 11, 12, 13, 14, 15, 16, 17, 18, 19, 20, 21, 22, 23, 24, 25, 26, 27, 28, 29, 30, 59, 60, 61, 62, 63, 64, 75] (by decide +kernel) (by decide +kernel)
set_option maxRecDepth 20000 in
theorem gX10_layRun_X7_firstOf : GoodIn wsX10_layRun (wsV RX10 272 RX7 yX7_firstOf wsX7_firstOf) := goodIn_app (goodIn_of _ (by decide +kernel)) ggX10_layRun_X7_firstOf
set_option maxRecDepth 20000 in
theorem ggX10_layRun_X7_secondOf : GoodIn wsX10_layRun wsX7_secondOf := goodIn_r _ [34, 35, 21, 22, 23, 59, 60, 61, 62, 63, 64] (by decide +kernel) (by decide +kernel)
set_option maxRecDepth 20000 in
theorem gX10_layRun_X7_secondOf : GoodIn wsX10_layRun (wsV RX10 275 RX7 yX7_secondOf wsX7_secondOf) := goodIn_app (goodIn_of _ (by decide +kernel)) ggX10_layRun_X7_secondOf
set_option maxRecDepth 20000 in
theorem ggX10_layRun_X1_make : GoodIn wsX10_layRun wsX1_make := goodIn_r _ [40, 41, 42, 43, 76, 77, 78] (by decide +kernel) (by decide +kernel)
set_option maxRecDepth 20000 in
theorem gX10_layRun_X1_make : GoodIn wsX10_layRun (wsV RX10 128 RX1 yX1_make wsX1_make) := goodIn_app (goodIn_of _ (by decide +kernel)) ggX10_layRun_X1_make
set_option maxRecDepth 20000 in
theorem ggX10_layRun_X6_append : GoodIn wsX10_layRun wsX6_append := goodIn_r _ [48, 49, 50, 51, 52, 47, 53, 54, 55, 56, 57, 58, 79, 80] (by decide +kernel) (by decide +kernel)
set_option maxRecDepth 20000 in
theorem gX10_layRun_X6_append : GoodIn wsX10_layRun (wsV RX10 192 RX6 yX6_append wsX6_append) := goodIn_app (goodIn_of _ (by decide +kernel)) ggX10_layRun_X6_append
theorem dX10_layRun_0 : decode cX10_layRun 0 = .ok (.iconst 0, 1) := by decide +kernel
theorem dX10_layRun_1 : decode cX10_layRun 1 = .ok (.istore_n 3, 1) := by decide +kernel
theorem dX10_layRun_2 : decode cX10_layRun 2 = .ok (.iload_n 3, 1) := by decide +kernel
theorem dX10_layRun_3 : decode cX10_layRun 3 = .ok (.aload_n 1, 1) := by decide +kernel
theorem dX10_layRun_4 : decode cX10_layRun 4 = .ok (.getfield 267, 3) := by decide +kernel
theorem dX10_layRun_7 : decode cX10_layRun 7 = .ok (.if_icmp .ge 34, 3) := by decide +kernel
theorem dX10_layRun_10 : decode cX10_layRun 10 = .ok (.aload_n 2, 1) := by decide +kernel
theorem dX10_layRun_11 : decode cX10_layRun 11 = .ok (.aload_n 0, 1) := by decide +kernel
theorem dX10_layRun_12 : decode cX10_layRun 12 = .ok (.getfield 12, 3) := by decide +kernel
theorem dX10_layRun_15 : decode cX10_layRun 15 = .ok (.aload_n 1, 1) := by decide +kernel
theorem dX10_layRun_16 : decode cX10_layRun 16 = .ok (.iload_n 3, 1) := by decide +kernel
theorem dX10_layRun_17 : decode cX10_layRun 17 = .ok (.aload_n 0, 1) := by decide +kernel
theorem dX10_layRun_18 : decode cX10_layRun 18 = .ok (.getfield 65, 3) := by decide +kernel
theorem dX10_layRun_21 : decode cX10_layRun 21 = .ok (.invokevirtual 272, 3) := by decide +kernel
theorem dX10_layRun_24 : decode cX10_layRun 24 = .ok (.aload_n 1, 1) := by decide +kernel
theorem dX10_layRun_25 : decode cX10_layRun 25 = .ok (.iload_n 3, 1) := by decide +kernel
theorem dX10_layRun_26 : decode cX10_layRun 26 = .ok (.invokevirtual 275, 3) := by decide +kernel
theorem dX10_layRun_29 : decode cX10_layRun 29 = .ok (.invokevirtual 128, 3) := by decide +kernel
theorem dX10_layRun_32 : decode cX10_layRun 32 = .ok (.invokevirtual 192, 3) := by decide +kernel
theorem dX10_layRun_35 : decode cX10_layRun 35 = .ok (.iinc 3 1, 3) := by decide +kernel
theorem dX10_layRun_38 : decode cX10_layRun 38 = .ok (.goto (-36), 3) := by decide +kernel
theorem dX10_layRun_41 : decode cX10_layRun 41 = .ok (.return_, 1) := by decide +kernel
theorem dX10_rest_0 : decode cX10_rest 0 = .ok (.iload_n 1, 1) := by decide +kernel
theorem dX10_rest_1 : decode cX10_rest 1 = .ok (.ifCond .le 9, 3) := by decide +kernel
theorem dX10_rest_4 : decode cX10_rest 4 = .ok (.iload_n 0, 1) := by decide +kernel
theorem dX10_rest_5 : decode cX10_rest 5 = .ok (.iload_n 1, 1) := by decide +kernel
theorem dX10_rest_6 : decode cX10_rest 6 = .ok (.irem, 1) := by decide +kernel
theorem dX10_rest_7 : decode cX10_rest 7 = .ok (.goto 4, 3) := by decide +kernel
theorem dX10_rest_10 : decode cX10_rest 10 = .ok (.iconst 0, 1) := by decide +kernel
theorem dX10_rest_11 : decode cX10_rest 11 = .ok (.ireturn, 1) := by decide +kernel
set_option maxRecDepth 20000 in
theorem ggX10_arrangeRow_X10_arrangePart : GoodIn wsX10_arrangeRow wsX10_arrangePart := goodIn_r _ [6, 7, 8, 9, 10, 11, 12, 13, 14, 15, 16, 17, 18, 19, 20, 21, 22, 23, 24, 25, 26, 27, 28, 29, 30, 31, 32, 33, 34, 35, 36, 37, 38, 39, 40, 41, 42, 43, 44, 45, 46, 47, 48, 49, 50, 51, 52, 53, 54, 55, 56, 57, 58, 59, 60, 61, 64, 65, 66, 67, 68, 69, 70, 71, 72, 73, 74, 75, 76, 77, 62, 63, 78, 79, 80] (by decide +kernel) (by decide +kernel)
set_option maxRecDepth 20000 in
theorem gX10_arrangeRow_X10_arrangePart : GoodIn wsX10_arrangeRow (wsV RX10 167 RX10 yX10_arrangePart wsX10_arrangePart) := goodIn_app (goodIn_of _ (by decide +kernel)) ggX10_arrangeRow_X10_arrangePart
theorem dX10_arrangeRow_0 : decode cX10_arrangeRow 0 = .ok (.aload_n 0, 1) := by decide +kernel
theorem dX10_arrangeRow_1 : decode cX10_arrangeRow 1 = .ok (.aload_n 1, 1) := by decide +kernel
theorem dX10_arrangeRow_2 : decode cX10_arrangeRow 2 = .ok (.iconst 0, 1) := by decide +kernel
theorem dX10_arrangeRow_3 : decode cX10_arrangeRow 3 = .ok (.aload_n 1, 1) := by decide +kernel
theorem dX10_arrangeRow_4 : decode cX10_arrangeRow 4 = .ok (.getfield 120, 3) := by decide +kernel
theorem dX10_arrangeRow_7 : decode cX10_arrangeRow 7 = .ok (.aload_n 2, 1) := by decide +kernel
theorem dX10_arrangeRow_8 : decode cX10_arrangeRow 8 = .ok (.invokevirtual 167, 3) := by decide +kernel
theorem dX10_arrangeRow_11 : decode cX10_arrangeRow 11 = .ok (.ireturn, 1) := by decide +kernel
set_option maxRecDepth 20000 in
theorem ggX10_arrangePart_X8_clear : GoodIn wsX10_arrangePart wsX8_clear := goodIn_r _ [6, 7, 66, 67, 68, 69] (by decide +kernel) (by decide +kernel)
set_option maxRecDepth 20000 in
theorem gX10_arrangePart_X8_clear : GoodIn wsX10_arrangePart (wsV RX10 149 RX8 yX8_clear wsX8_clear) := goodIn_app (goodIn_of _ (by decide +kernel)) ggX10_arrangePart_X8_clear
set_option maxRecDepth 20000 in
theorem ggX10_arrangePart_X8_take : GoodIn wsX10_arrangePart wsX8_take := goodIn_r _ [11, 7, 12, 13, 66, 67, 68, 69, 70, 71] (by decide +kernel) (by decide +kernel)
set_option maxRecDepth 20000 in
theorem gX10_arrangePart_X8_take : GoodIn wsX10_arrangePart (wsV RX10 152 RX8 yX8_take wsX8_take) := goodIn_app (goodIn_of _ (by decide +kernel)) ggX10_arrangePart_X8_take
set_option maxRecDepth 20000 in
theorem ggX10_arrangePart_X8_arrange : GoodIn wsX10_arrangePart wsX8_arrange := goodIn_r _ [17, 7, 18, 19, 20, 21, 12, 22, 23, 24, 25, 5, 26, 27, 28, 29, 30, 31, 32, 33, 34, 35, 36, 37, 38, 39, 40, 41, 42, 43, 44, 45, 46, 47, 48, 49, 50, 51, 66, 67, 68, 69, 72, 73, 74] (by decide +kernel) (by decide +kernel)
set_option maxRecDepth 20000 in
theorem gX10_arrangePart_X8_arrange : GoodIn wsX10_arrangePart (wsV RX10 156 RX8 yX8_arrange wsX8_arrange) := goodIn_app (goodIn_of _ (by decide +kernel)) ggX10_arrangePart_X8_arrange
set_option maxRecDepth 20000 in
theorem ggX10_arrangePart_X8_layBack : GoodIn wsX10_arrangePart wsX8_layBack := goodIn_r _ [55, 7, 13, 12, 66, 67, 68, 69, 70, 71] (by decide +kernel) (by decide +kernel)
set_option maxRecDepth 20000 in
theorem gX10_arrangePart_X8_layBack : GoodIn wsX10_arrangePart (wsV RX10 160 RX8 yX8_layBack wsX8_layBack) := goodIn_app (goodIn_of _ (by decide +kernel)) ggX10_arrangePart_X8_layBack
theorem dX10_arrangePart_0 : decode cX10_arrangePart 0 = .ok (.aload_n 0, 1) := by decide +kernel
theorem dX10_arrangePart_1 : decode cX10_arrangePart 1 = .ok (.getfield 42, 3) := by decide +kernel
theorem dX10_arrangePart_4 : decode cX10_arrangePart 4 = .ok (.invokevirtual 149, 3) := by decide +kernel
theorem dX10_arrangePart_7 : decode cX10_arrangePart 7 = .ok (.aload_n 0, 1) := by decide +kernel
theorem dX10_arrangePart_8 : decode cX10_arrangePart 8 = .ok (.getfield 42, 3) := by decide +kernel
theorem dX10_arrangePart_11 : decode cX10_arrangePart 11 = .ok (.aload_n 1, 1) := by decide +kernel
theorem dX10_arrangePart_12 : decode cX10_arrangePart 12 = .ok (.iload_n 2, 1) := by decide +kernel
theorem dX10_arrangePart_13 : decode cX10_arrangePart 13 = .ok (.iload_n 3, 1) := by decide +kernel
theorem dX10_arrangePart_14 : decode cX10_arrangePart 14 = .ok (.invokevirtual 152, 3) := by decide +kernel
theorem dX10_arrangePart_17 : decode cX10_arrangePart 17 = .ok (.aload_n 0, 1) := by decide +kernel
theorem dX10_arrangePart_18 : decode cX10_arrangePart 18 = .ok (.getfield 42, 3) := by decide +kernel
theorem dX10_arrangePart_21 : decode cX10_arrangePart 21 = .ok (.aload 4, 2) := by decide +kernel
theorem dX10_arrangePart_23 : decode cX10_arrangePart 23 = .ok (.invokevirtual 156, 3) := by decide +kernel
theorem dX10_arrangePart_26 : decode cX10_arrangePart 26 = .ok (.pop, 1) := by decide +kernel
theorem dX10_arrangePart_27 : decode cX10_arrangePart 27 = .ok (.aload_n 0, 1) := by decide +kernel
theorem dX10_arrangePart_28 : decode cX10_arrangePart 28 = .ok (.getfield 42, 3) := by decide +kernel
theorem dX10_arrangePart_31 : decode cX10_arrangePart 31 = .ok (.iconst 0, 1) := by decide +kernel
theorem dX10_arrangePart_32 : decode cX10_arrangePart 32 = .ok (.aload_n 1, 1) := by decide +kernel
theorem dX10_arrangePart_33 : decode cX10_arrangePart 33 = .ok (.iload_n 2, 1) := by decide +kernel
theorem dX10_arrangePart_34 : decode cX10_arrangePart 34 = .ok (.iload_n 3, 1) := by decide +kernel
theorem dX10_arrangePart_35 : decode cX10_arrangePart 35 = .ok (.invokevirtual 160, 3) := by decide +kernel
theorem dX10_arrangePart_38 : decode cX10_arrangePart 38 = .ok (.ireturn, 1) := by decide +kernel
set_option maxRecDepth 20000 in
theorem ggX10_sortCopy_X8_clear : GoodIn wsX10_sortCopy wsX8_clear := goodIn_r _ [8, 9, 66, 67, 68, 69] (by decide +kernel) (by decide +kernel)
set_option maxRecDepth 20000 in
theorem gX10_sortCopy_X8_clear : GoodIn wsX10_sortCopy (wsV RX10 149 RX8 yX8_clear wsX8_clear) := goodIn_app (goodIn_of _ (by decide +kernel)) ggX10_sortCopy_X8_clear
set_option maxRecDepth 20000 in
theorem ggX10_sortCopy_X8_take : GoodIn wsX10_sortCopy wsX8_take := goodIn_r _ [13, 9, 14, 15, 66, 67, 68, 69, 64, 65] (by decide +kernel) (by decide +kernel)
set_option maxRecDepth 20000 in
theorem gX10_sortCopy_X8_take : GoodIn wsX10_sortCopy (wsV RX10 152 RX8 yX8_take wsX8_take) := goodIn_app (goodIn_of _ (by decide +kernel)) ggX10_sortCopy_X8_take
set_option maxRecDepth 20000 in
theorem ggX10_sortCopy_X8_arrange : GoodIn wsX10_sortCopy wsX8_arrange := goodIn_r _ [19, 9, 20, 21, 22, 23, 14, 24, 25, 26, 27, 7, 28, 29, 30, 31, 32, 33, 34, 35, 36, 37, 38, 39, 40, 41, 42, 43, 44, 45, 46, 47, 48, 49, 50, 51, 52, 53, 66, 67, 68, 69, 70, 71, 72] (by decide +kernel) (by decide +kernel)
set_option maxRecDepth 20000 in
theorem gX10_sortCopy_X8_arrange : GoodIn wsX10_sortCopy (wsV RX10 156 RX8 yX8_arrange wsX8_arrange) := goodIn_app (goodIn_of _ (by decide +kernel)) ggX10_sortCopy_X8_arrange
theorem dX10_sortCopy_0 : decode cX10_sortCopy 0 = .ok (.aload_n 0, 1) := by decide +kernel
theorem dX10_sortCopy_1 : decode cX10_sortCopy 1 = .ok (.getfield 42, 3) := by decide +kernel
theorem dX10_sortCopy_4 : decode cX10_sortCopy 4 = .ok (.invokevirtual 149, 3) := by decide +kernel
theorem dX10_sortCopy_7 : decode cX10_sortCopy 7 = .ok (.aload_n 0, 1) := by decide +kernel
theorem dX10_sortCopy_8 : decode cX10_sortCopy 8 = .ok (.getfield 42, 3) := by decide +kernel
theorem dX10_sortCopy_11 : decode cX10_sortCopy 11 = .ok (.aload_n 1, 1) := by decide +kernel
theorem dX10_sortCopy_12 : decode cX10_sortCopy 12 = .ok (.iconst 0, 1) := by decide +kernel
theorem dX10_sortCopy_13 : decode cX10_sortCopy 13 = .ok (.aload_n 1, 1) := by decide +kernel
theorem dX10_sortCopy_14 : decode cX10_sortCopy 14 = .ok (.getfield 120, 3) := by decide +kernel
theorem dX10_sortCopy_17 : decode cX10_sortCopy 17 = .ok (.invokevirtual 152, 3) := by decide +kernel
theorem dX10_sortCopy_20 : decode cX10_sortCopy 20 = .ok (.aload_n 0, 1) := by decide +kernel
theorem dX10_sortCopy_21 : decode cX10_sortCopy 21 = .ok (.getfield 42, 3) := by decide +kernel
theorem dX10_sortCopy_24 : decode cX10_sortCopy 24 = .ok (.getstatic 139, 3) := by decide +kernel
theorem dX10_sortCopy_27 : decode cX10_sortCopy 27 = .ok (.invokevirtual 156, 3) := by decide +kernel
theorem dX10_sortCopy_30 : decode cX10_sortCopy 30 = .ok (.ireturn, 1) := by decide +kernel
set_option maxRecDepth 20000 in
theorem ggX10_firstAt_X1_firstOf : GoodIn wsX10_firstAt wsX1_firstOf := goodIn_r _ [7, 8, 9, 22, 23, 24] (by decide +kernel) (by decide +kernel)
set_option maxRecDepth 20000 in
theorem gX10_firstAt_X1_firstOf : GoodIn wsX10_firstAt (wsV RX10 207 RX1 yX1_firstOf wsX1_firstOf) := goodIn_app (goodIn_of _ (by decide +kernel)) ggX10_firstAt_X1_firstOf
theorem dX10_firstAt_0 : decode cX10_firstAt 0 = .ok (.aload_n 0, 1) := by decide +kernel
theorem dX10_firstAt_1 : decode cX10_firstAt 1 = .ok (.getfield 12, 3) := by decide +kernel
theorem dX10_firstAt_4 : decode cX10_firstAt 4 = .ok (.aload_n 1, 1) := by decide +kernel
theorem dX10_firstAt_5 : decode cX10_firstAt 5 = .ok (.getfield 188, 3) := by decide +kernel
theorem dX10_firstAt_8 : decode cX10_firstAt 8 = .ok (.iload_n 2, 1) := by decide +kernel
theorem dX10_firstAt_9 : decode cX10_firstAt 9 = .ok (.iaload, 1) := by decide +kernel
theorem dX10_firstAt_10 : decode cX10_firstAt 10 = .ok (.invokevirtual 207, 3) := by decide +kernel
theorem dX10_firstAt_13 : decode cX10_firstAt 13 = .ok (.ireturn, 1) := by decide +kernel
set_option maxRecDepth 20000 in
theorem ggX10_startsRun_X10_firstAt : GoodIn wsX10_startsRun wsX10_firstAt := goodIn_r _ [5, 6, 7, 8, 9, 10, 11, 12, 13, 14, 15, 16, 17, 18, 19, 20, 21, 22, 23, 24, 25, 26, 27, 28, 29] (by decide +kernel) (by decide +kernel)
set_option maxRecDepth 20000 in
theorem gX10_startsRun_X10_firstAt : GoodIn wsX10_startsRun (wsV RX10 224 RX10 yX10_firstAt wsX10_firstAt) := goodIn_app (goodIn_of _ (by decide +kernel)) ggX10_startsRun_X10_firstAt
theorem dX10_startsRun_0 : decode cX10_startsRun 0 = .ok (.iload_n 2, 1) := by decide +kernel
theorem dX10_startsRun_1 : decode cX10_startsRun 1 = .ok (.ifCond .eq 20, 3) := by decide +kernel
theorem dX10_startsRun_4 : decode cX10_startsRun 4 = .ok (.aload_n 0, 1) := by decide +kernel
theorem dX10_startsRun_5 : decode cX10_startsRun 5 = .ok (.aload_n 1, 1) := by decide +kernel
theorem dX10_startsRun_6 : decode cX10_startsRun 6 = .ok (.iload_n 2, 1) := by decide +kernel
theorem dX10_startsRun_7 : decode cX10_startsRun 7 = .ok (.invokevirtual 224, 3) := by decide +kernel
theorem dX10_startsRun_10 : decode cX10_startsRun 10 = .ok (.aload_n 0, 1) := by decide +kernel
theorem dX10_startsRun_11 : decode cX10_startsRun 11 = .ok (.aload_n 1, 1) := by decide +kernel
theorem dX10_startsRun_12 : decode cX10_startsRun 12 = .ok (.iload_n 2, 1) := by decide +kernel
theorem dX10_startsRun_13 : decode cX10_startsRun 13 = .ok (.iconst 1, 1) := by decide +kernel
theorem dX10_startsRun_14 : decode cX10_startsRun 14 = .ok (.isub, 1) := by decide +kernel
theorem dX10_startsRun_15 : decode cX10_startsRun 15 = .ok (.invokevirtual 224, 3) := by decide +kernel
theorem dX10_startsRun_18 : decode cX10_startsRun 18 = .ok (.if_icmp .ge 7, 3) := by decide +kernel
theorem dX10_startsRun_21 : decode cX10_startsRun 21 = .ok (.iconst 1, 1) := by decide +kernel
theorem dX10_startsRun_22 : decode cX10_startsRun 22 = .ok (.goto 4, 3) := by decide +kernel
theorem dX10_startsRun_25 : decode cX10_startsRun 25 = .ok (.iconst 0, 1) := by decide +kernel
theorem dX10_startsRun_26 : decode cX10_startsRun 26 = .ok (.ireturn, 1) := by decide +kernel
set_option maxRecDepth 20000 in
theorem ggX10_numberOfRuns_X10_startsRun : GoodIn wsX10_numberOfRuns wsX10_startsRun := goodIn_r _ [6, 7, 8, 9, 5, 10, 11, 12, 13, 14, 15, 16, 17, 18, 19, 22, 23, 24, 25, 26, 27, 28, 29, 30, 31, 20, 21, 32, 33, 34] (by decide +kernel) (by decide +kernel)
set_option maxRecDepth 20000 in
theorem gX10_numberOfRuns_X10_startsRun : GoodIn wsX10_numberOfRuns (wsV RX10 276 RX10 yX10_startsRun wsX10_startsRun) := goodIn_app (goodIn_of _ (by decide +kernel)) ggX10_numberOfRuns_X10_startsRun
theorem dX10_numberOfRuns_0 : decode cX10_numberOfRuns 0 = .ok (.iconst 0, 1) := by decide +kernel
theorem dX10_numberOfRuns_1 : decode cX10_numberOfRuns 1 = .ok (.istore_n 2, 1) := by decide +kernel
theorem dX10_numberOfRuns_2 : decode cX10_numberOfRuns 2 = .ok (.iconst 0, 1) := by decide +kernel
theorem dX10_numberOfRuns_3 : decode cX10_numberOfRuns 3 = .ok (.istore_n 3, 1) := by decide +kernel
theorem dX10_numberOfRuns_4 : decode cX10_numberOfRuns 4 = .ok (.iload_n 3, 1) := by decide +kernel
theorem dX10_numberOfRuns_5 : decode cX10_numberOfRuns 5 = .ok (.aload_n 1, 1) := by decide +kernel
theorem dX10_numberOfRuns_6 : decode cX10_numberOfRuns 6 = .ok (.getfield 120, 3) := by decide +kernel
theorem dX10_numberOfRuns_9 : decode cX10_numberOfRuns 9 = .ok (.if_icmp .ge 21, 3) := by decide +kernel
theorem dX10_numberOfRuns_12 : decode cX10_numberOfRuns 12 = .ok (.aload_n 0, 1) := by decide +kernel
theorem dX10_numberOfRuns_13 : decode cX10_numberOfRuns 13 = .ok (.aload_n 1, 1) := by decide +kernel
theorem dX10_numberOfRuns_14 : decode cX10_numberOfRuns 14 = .ok (.iload_n 3, 1) := by decide +kernel
theorem dX10_numberOfRuns_15 : decode cX10_numberOfRuns 15 = .ok (.invokevirtual 276, 3) := by decide +kernel
theorem dX10_numberOfRuns_18 : decode cX10_numberOfRuns 18 = .ok (.ifCond .eq 6, 3) := by decide +kernel
theorem dX10_numberOfRuns_21 : decode cX10_numberOfRuns 21 = .ok (.iinc 2 1, 3) := by decide +kernel
theorem dX10_numberOfRuns_24 : decode cX10_numberOfRuns 24 = .ok (.iinc 3 1, 3) := by decide +kernel
theorem dX10_numberOfRuns_27 : decode cX10_numberOfRuns 27 = .ok (.goto (-23), 3) := by decide +kernel
theorem dX10_numberOfRuns_30 : decode cX10_numberOfRuns 30 = .ok (.iload_n 2, 1) := by decide +kernel
theorem dX10_numberOfRuns_31 : decode cX10_numberOfRuns 31 = .ok (.ireturn, 1) := by decide +kernel
set_option maxRecDepth 20000 in
theorem ggX10_rises_X10_numberOfRuns : GoodIn wsX10_rises wsX10_numberOfRuns := goodIn_r _ [5, 6, 7, 8, 9, 4, 10, 11, 12, 13, 14, 15, 16, 17, 18, 19, 20, 21, 22, 23, 24, 25, 26, 27, 28, 29, 30, 31, 32, 33, 34, 35, 36, 37, 38] (by decide +kernel) (by decide +kernel)
set_option maxRecDepth 20000 in
theorem gX10_rises_X10_numberOfRuns : GoodIn wsX10_rises (wsV RX10 228 RX10 yX10_numberOfRuns wsX10_numberOfRuns) := goodIn_app (goodIn_of _ (by decide +kernel)) ggX10_rises_X10_numberOfRuns
theorem dX10_rises_0 : decode cX10_rises 0 = .ok (.aload_n 0, 1) := by decide +kernel
theorem dX10_rises_1 : decode cX10_rises 1 = .ok (.aload_n 1, 1) := by decide +kernel
theorem dX10_rises_2 : decode cX10_rises 2 = .ok (.invokevirtual 228, 3) := by decide +kernel
theorem dX10_rises_5 : decode cX10_rises 5 = .ok (.iconst 1, 1) := by decide +kernel
theorem dX10_rises_6 : decode cX10_rises 6 = .ok (.if_icmp .gt 7, 3) := by decide +kernel
theorem dX10_rises_9 : decode cX10_rises 9 = .ok (.iconst 1, 1) := by decide +kernel
theorem dX10_rises_10 : decode cX10_rises 10 = .ok (.goto 4, 3) := by decide +kernel
theorem dX10_rises_13 : decode cX10_rises 13 = .ok (.iconst 0, 1) := by decide +kernel
theorem dX10_rises_14 : decode cX10_rises 14 = .ok (.ireturn, 1) := by decide +kernel
set_option maxRecDepth 20000 in
theorem ggX10_lengthOfLongestRun_X10_startsRun : GoodIn wsX10_lengthOfLongestRun wsX10_startsRun := goodIn_r _ [10, 11, 12, 13, 9, 14, 15, 16, 17, 18, 19, 20, 21, 22, 23, 26, 27, 28, 29, 30, 31, 32, 33, 34, 35, 24, 25, 36, 37, 38] (by decide +kernel) (by decide +kernel)
set_option maxRecDepth 20000 in
theorem gX10_lengthOfLongestRun_X10_startsRun : GoodIn wsX10_lengthOfLongestRun (wsV RX10 276 RX10 yX10_startsRun wsX10_startsRun) := goodIn_app (goodIn_of _ (by decide +kernel)) ggX10_lengthOfLongestRun_X10_startsRun
theorem dX10_lengthOfLongestRun_0 : decode cX10_lengthOfLongestRun 0 = .ok (.iconst 0, 1) := by decide +kernel
theorem dX10_lengthOfLongestRun_1 : decode cX10_lengthOfLongestRun 1 = .ok (.istore_n 2, 1) := by decide +kernel
theorem dX10_lengthOfLongestRun_2 : decode cX10_lengthOfLongestRun 2 = .ok (.iconst 0, 1) := by decide +kernel
theorem dX10_lengthOfLongestRun_3 : decode cX10_lengthOfLongestRun 3 = .ok (.istore_n 3, 1) := by decide +kernel
theorem dX10_lengthOfLongestRun_4 : decode cX10_lengthOfLongestRun 4 = .ok (.iconst 0, 1) := by decide +kernel
theorem dX10_lengthOfLongestRun_5 : decode cX10_lengthOfLongestRun 5 = .ok (.istore 4, 2) := by decide +kernel
theorem dX10_lengthOfLongestRun_7 : decode cX10_lengthOfLongestRun 7 = .ok (.iload 4, 2) := by decide +kernel
theorem dX10_lengthOfLongestRun_9 : decode cX10_lengthOfLongestRun 9 = .ok (.aload_n 1, 1) := by decide +kernel
theorem dX10_lengthOfLongestRun_10 : decode cX10_lengthOfLongestRun 10 = .ok (.getfield 120, 3) := by decide +kernel
theorem dX10_lengthOfLongestRun_13 : decode cX10_lengthOfLongestRun 13 = .ok (.if_icmp .ge 33, 3) := by decide +kernel
theorem dX10_lengthOfLongestRun_16 : decode cX10_lengthOfLongestRun 16 = .ok (.aload_n 0, 1) := by decide +kernel
theorem dX10_lengthOfLongestRun_17 : decode cX10_lengthOfLongestRun 17 = .ok (.aload_n 1, 1) := by decide +kernel
theorem dX10_lengthOfLongestRun_18 : decode cX10_lengthOfLongestRun 18 = .ok (.iload 4, 2) := by decide +kernel
theorem dX10_lengthOfLongestRun_20 : decode cX10_lengthOfLongestRun 20 = .ok (.invokevirtual 276, 3) := by decide +kernel
theorem dX10_lengthOfLongestRun_23 : decode cX10_lengthOfLongestRun 23 = .ok (.ifCond .eq 6, 3) := by decide +kernel
theorem dX10_lengthOfLongestRun_26 : decode cX10_lengthOfLongestRun 26 = .ok (.iload 4, 2) := by decide +kernel
theorem dX10_lengthOfLongestRun_28 : decode cX10_lengthOfLongestRun 28 = .ok (.istore_n 3, 1) := by decide +kernel
theorem dX10_lengthOfLongestRun_29 : decode cX10_lengthOfLongestRun 29 = .ok (.iload_n 2, 1) := by decide +kernel
theorem dX10_lengthOfLongestRun_30 : decode cX10_lengthOfLongestRun 30 = .ok (.iload 4, 2) := by decide +kernel
theorem dX10_lengthOfLongestRun_32 : decode cX10_lengthOfLongestRun 32 = .ok (.iconst 1, 1) := by decide +kernel
theorem dX10_lengthOfLongestRun_33 : decode cX10_lengthOfLongestRun 33 = .ok (.iadd, 1) := by decide +kernel
theorem dX10_lengthOfLongestRun_34 : decode cX10_lengthOfLongestRun 34 = .ok (.iload_n 3, 1) := by decide +kernel
theorem dX10_lengthOfLongestRun_35 : decode cX10_lengthOfLongestRun 35 = .ok (.isub, 1) := by decide +kernel
theorem dX10_lengthOfLongestRun_36 : decode cX10_lengthOfLongestRun 36 = .ok (.invokestatic 280, 3) := by decide +kernel
theorem dX10_lengthOfLongestRun_39 : decode cX10_lengthOfLongestRun 39 = .ok (.istore_n 2, 1) := by decide +kernel
theorem dX10_lengthOfLongestRun_40 : decode cX10_lengthOfLongestRun 40 = .ok (.iinc 4 1, 3) := by decide +kernel
theorem dX10_lengthOfLongestRun_43 : decode cX10_lengthOfLongestRun 43 = .ok (.goto (-36), 3) := by decide +kernel
theorem dX10_lengthOfLongestRun_46 : decode cX10_lengthOfLongestRun 46 = .ok (.iload_n 2, 1) := by decide +kernel
theorem dX10_lengthOfLongestRun_47 : decode cX10_lengthOfLongestRun 47 = .ok (.ireturn, 1) := by decide +kernel
set_option maxRecDepth 20000 in
theorem ggX10_theoremHolds_X6_become : GoodIn wsX10_theoremHolds wsX6_become := goodIn_r _ [11, 12, 13, 14, 15, 16, 17, 18, 19, 20, 21, 22, 23, 24, 101, 102] (by decide +kernel) (by decide +kernel)
set_option maxRecDepth 20000 in
theorem gX10_theoremHolds_X6_become : GoodIn wsX10_theoremHolds (wsV RX10 210 RX6 yX6_become wsX6_become) := goodIn_app (goodIn_of _ (by decide +kernel)) ggX10_theoremHolds_X6_become
set_option maxRecDepth 20000 in
theorem ggX10_theoremHolds_X10_arrangePart : GoodIn wsX10_theoremHolds wsX10_arrangePart := goodIn_r _ [29, 30, 31, 32, 33, 34, 35, 36, 37, 38, 39, 40, 41, 42, 43, 44, 45, 46, 47, 14, 15, 16, 48, 49, 50, 51, 52, 53, 54, 55, 56, 57, 58, 59, 60, 61, 62, 63, 64, 65, 66, 67, 68, 69, 70, 71, 72, 73, 74, 75, 76, 77, 78, 79, 80, 81, 103, 104, 105, 106, 107, 108, 109, 110, 111, 112, 113, 114, 115, 116, 101, 102, 117, 118, 119] (by decide +kernel) (by decide +kernel)
set_option maxRecDepth 20000 in
theorem gX10_theoremHolds_X10_arrangePart : GoodIn wsX10_theoremHolds (wsV RX10 167 RX10 yX10_arrangePart wsX10_arrangePart) := goodIn_app (goodIn_of _ (by decide +kernel)) ggX10_theoremHolds_X10_arrangePart
set_option maxRecDepth 20000 in
theorem ggX10_theoremHolds_X10_rises : GoodIn wsX10_theoremHolds wsX10_rises := goodIn_r _ [85, 86, 87, 88, 28, 89, 1, 90, 91, 92, 93, 94, 95, 96, 97, 98, 99, 100, 60, 61, 62, 63, 64, 65, 101, 102, 103, 104, 105, 106, 107, 108, 109, 110, 111, 112, 117, 118, 119] (by decide +kernel) (by decide +kernel)
set_option maxRecDepth 20000 in
theorem gX10_theoremHolds_X10_rises : GoodIn wsX10_theoremHolds (wsV RX10 218 RX10 yX10_rises wsX10_rises) := goodIn_app (goodIn_of _ (by decide +kernel)) ggX10_theoremHolds_X10_rises
theorem dX10_theoremHolds_0 : decode cX10_theoremHolds 0 = .ok (.aload_n 1, 1) := by decide +kernel
theorem dX10_theoremHolds_1 : decode cX10_theoremHolds 1 = .ok (.getfield 120, 3) := by decide +kernel
theorem dX10_theoremHolds_4 : decode cX10_theoremHolds 4 = .ok (.istore_n 2, 1) := by decide +kernel
theorem dX10_theoremHolds_5 : decode cX10_theoremHolds 5 = .ok (.aload_n 0, 1) := by decide +kernel
theorem dX10_theoremHolds_6 : decode cX10_theoremHolds 6 = .ok (.getfield 30, 3) := by decide +kernel
theorem dX10_theoremHolds_9 : decode cX10_theoremHolds 9 = .ok (.aload_n 1, 1) := by decide +kernel
theorem dX10_theoremHolds_10 : decode cX10_theoremHolds 10 = .ok (.invokevirtual 210, 3) := by decide +kernel
theorem dX10_theoremHolds_13 : decode cX10_theoremHolds 13 = .ok (.pop, 1) := by decide +kernel
theorem dX10_theoremHolds_14 : decode cX10_theoremHolds 14 = .ok (.aload_n 0, 1) := by decide +kernel
theorem dX10_theoremHolds_15 : decode cX10_theoremHolds 15 = .ok (.aload_n 0, 1) := by decide +kernel
theorem dX10_theoremHolds_16 : decode cX10_theoremHolds 16 = .ok (.getfield 30, 3) := by decide +kernel
theorem dX10_theoremHolds_19 : decode cX10_theoremHolds 19 = .ok (.iconst 0, 1) := by decide +kernel
theorem dX10_theoremHolds_20 : decode cX10_theoremHolds 20 = .ok (.iload_n 2, 1) := by decide +kernel
theorem dX10_theoremHolds_21 : decode cX10_theoremHolds 21 = .ok (.getstatic 139, 3) := by decide +kernel
theorem dX10_theoremHolds_24 : decode cX10_theoremHolds 24 = .ok (.invokevirtual 167, 3) := by decide +kernel
theorem dX10_theoremHolds_27 : decode cX10_theoremHolds 27 = .ok (.pop, 1) := by decide +kernel
theorem dX10_theoremHolds_28 : decode cX10_theoremHolds 28 = .ok (.aload_n 0, 1) := by decide +kernel
theorem dX10_theoremHolds_29 : decode cX10_theoremHolds 29 = .ok (.aload_n 0, 1) := by decide +kernel
theorem dX10_theoremHolds_30 : decode cX10_theoremHolds 30 = .ok (.getfield 30, 3) := by decide +kernel
theorem dX10_theoremHolds_33 : decode cX10_theoremHolds 33 = .ok (.invokevirtual 218, 3) := by decide +kernel
theorem dX10_theoremHolds_36 : decode cX10_theoremHolds 36 = .ok (.ifCond .eq 19, 3) := by decide +kernel
theorem dX10_theoremHolds_39 : decode cX10_theoremHolds 39 = .ok (.aload_n 0, 1) := by decide +kernel
theorem dX10_theoremHolds_40 : decode cX10_theoremHolds 40 = .ok (.aload_n 0, 1) := by decide +kernel
theorem dX10_theoremHolds_41 : decode cX10_theoremHolds 41 = .ok (.getfield 30, 3) := by decide +kernel
theorem dX10_theoremHolds_44 : decode cX10_theoremHolds 44 = .ok (.iconst 0, 1) := by decide +kernel
theorem dX10_theoremHolds_45 : decode cX10_theoremHolds 45 = .ok (.iload_n 2, 1) := by decide +kernel
theorem dX10_theoremHolds_46 : decode cX10_theoremHolds 46 = .ok (.getstatic 139, 3) := by decide +kernel
theorem dX10_theoremHolds_49 : decode cX10_theoremHolds 49 = .ok (.invokevirtual 167, 3) := by decide +kernel
theorem dX10_theoremHolds_52 : decode cX10_theoremHolds 52 = .ok (.ifCond .eq 5, 3) := by decide +kernel
theorem dX10_theoremHolds_55 : decode cX10_theoremHolds 55 = .ok (.iconst 0, 1) := by decide +kernel
theorem dX10_theoremHolds_56 : decode cX10_theoremHolds 56 = .ok (.ireturn, 1) := by decide +kernel
theorem dX10_theoremHolds_57 : decode cX10_theoremHolds 57 = .ok (.aload_n 0, 1) := by decide +kernel
theorem dX10_theoremHolds_58 : decode cX10_theoremHolds 58 = .ok (.getfield 30, 3) := by decide +kernel
theorem dX10_theoremHolds_61 : decode cX10_theoremHolds 61 = .ok (.aload_n 1, 1) := by decide +kernel
theorem dX10_theoremHolds_62 : decode cX10_theoremHolds 62 = .ok (.invokevirtual 210, 3) := by decide +kernel
theorem dX10_theoremHolds_65 : decode cX10_theoremHolds 65 = .ok (.pop, 1) := by decide +kernel
theorem dX10_theoremHolds_66 : decode cX10_theoremHolds 66 = .ok (.aload_n 0, 1) := by decide +kernel
theorem dX10_theoremHolds_67 : decode cX10_theoremHolds 67 = .ok (.aload_n 0, 1) := by decide +kernel
theorem dX10_theoremHolds_68 : decode cX10_theoremHolds 68 = .ok (.getfield 30, 3) := by decide +kernel
theorem dX10_theoremHolds_71 : decode cX10_theoremHolds 71 = .ok (.iconst 0, 1) := by decide +kernel
theorem dX10_theoremHolds_72 : decode cX10_theoremHolds 72 = .ok (.iload_n 2, 1) := by decide +kernel
theorem dX10_theoremHolds_73 : decode cX10_theoremHolds 73 = .ok (.getstatic 179, 3) := by decide +kernel
theorem dX10_theoremHolds_76 : decode cX10_theoremHolds 76 = .ok (.invokevirtual 167, 3) := by decide +kernel
theorem dX10_theoremHolds_79 : decode cX10_theoremHolds 79 = .ok (.pop, 1) := by decide +kernel
theorem dX10_theoremHolds_80 : decode cX10_theoremHolds 80 = .ok (.aload_n 0, 1) := by decide +kernel
theorem dX10_theoremHolds_81 : decode cX10_theoremHolds 81 = .ok (.aload_n 0, 1) := by decide +kernel
theorem dX10_theoremHolds_82 : decode cX10_theoremHolds 82 = .ok (.getfield 30, 3) := by decide +kernel
theorem dX10_theoremHolds_85 : decode cX10_theoremHolds 85 = .ok (.iconst 0, 1) := by decide +kernel
theorem dX10_theoremHolds_86 : decode cX10_theoremHolds 86 = .ok (.iload_n 2, 1) := by decide +kernel
theorem dX10_theoremHolds_87 : decode cX10_theoremHolds 87 = .ok (.getstatic 139, 3) := by decide +kernel
theorem dX10_theoremHolds_90 : decode cX10_theoremHolds 90 = .ok (.invokevirtual 167, 3) := by decide +kernel
theorem dX10_theoremHolds_93 : decode cX10_theoremHolds 93 = .ok (.pop, 1) := by decide +kernel
theorem dX10_theoremHolds_94 : decode cX10_theoremHolds 94 = .ok (.aload_n 0, 1) := by decide +kernel
theorem dX10_theoremHolds_95 : decode cX10_theoremHolds 95 = .ok (.getfield 34, 3) := by decide +kernel
theorem dX10_theoremHolds_98 : decode cX10_theoremHolds 98 = .ok (.aload_n 1, 1) := by decide +kernel
theorem dX10_theoremHolds_99 : decode cX10_theoremHolds 99 = .ok (.invokevirtual 210, 3) := by decide +kernel
theorem dX10_theoremHolds_102 : decode cX10_theoremHolds 102 = .ok (.pop, 1) := by decide +kernel
theorem dX10_theoremHolds_103 : decode cX10_theoremHolds 103 = .ok (.aload_n 0, 1) := by decide +kernel
theorem dX10_theoremHolds_104 : decode cX10_theoremHolds 104 = .ok (.aload_n 0, 1) := by decide +kernel
theorem dX10_theoremHolds_105 : decode cX10_theoremHolds 105 = .ok (.getfield 34, 3) := by decide +kernel
theorem dX10_theoremHolds_108 : decode cX10_theoremHolds 108 = .ok (.iconst 0, 1) := by decide +kernel
theorem dX10_theoremHolds_109 : decode cX10_theoremHolds 109 = .ok (.iload_n 2, 1) := by decide +kernel
theorem dX10_theoremHolds_110 : decode cX10_theoremHolds 110 = .ok (.getstatic 182, 3) := by decide +kernel
theorem dX10_theoremHolds_113 : decode cX10_theoremHolds 113 = .ok (.invokevirtual 167, 3) := by decide +kernel
theorem dX10_theoremHolds_116 : decode cX10_theoremHolds 116 = .ok (.pop, 1) := by decide +kernel
theorem dX10_theoremHolds_117 : decode cX10_theoremHolds 117 = .ok (.aload_n 0, 1) := by decide +kernel
theorem dX10_theoremHolds_118 : decode cX10_theoremHolds 118 = .ok (.getfield 30, 3) := by decide +kernel
theorem dX10_theoremHolds_121 : decode cX10_theoremHolds 121 = .ok (.aload_n 0, 1) := by decide +kernel
theorem dX10_theoremHolds_122 : decode cX10_theoremHolds 122 = .ok (.getfield 34, 3) := by decide +kernel
theorem dX10_theoremHolds_125 : decode cX10_theoremHolds 125 = .ok (.invokevirtual 210, 3) := by decide +kernel
theorem dX10_theoremHolds_128 : decode cX10_theoremHolds 128 = .ok (.ifCond .ne 7, 3) := by decide +kernel
theorem dX10_theoremHolds_131 : decode cX10_theoremHolds 131 = .ok (.iconst 1, 1) := by decide +kernel
theorem dX10_theoremHolds_132 : decode cX10_theoremHolds 132 = .ok (.goto 4, 3) := by decide +kernel
theorem dX10_theoremHolds_135 : decode cX10_theoremHolds 135 = .ok (.iconst 0, 1) := by decide +kernel
theorem dX10_theoremHolds_136 : decode cX10_theoremHolds 136 = .ok (.ireturn, 1) := by decide +kernel
theorem dX11_init_0 : decode cX11_init 0 = .ok (.aload_n 0, 1) := by decide +kernel
theorem dX11_init_1 : decode cX11_init 1 = .ok (.invokespecial 1, 3) := by decide +kernel
theorem dX11_init_4 : decode cX11_init 4 = .ok (.aload_n 0, 1) := by decide +kernel
theorem dX11_init_5 : decode cX11_init 5 = .ok (.sipush 20000, 3) := by decide +kernel
theorem dX11_init_8 : decode cX11_init 8 = .ok (.newarray .int, 2) := by decide +kernel
theorem dX11_init_10 : decode cX11_init 10 = .ok (.putfield 7, 3) := by decide +kernel
theorem dX11_init_13 : decode cX11_init 13 = .ok (.aload_n 0, 1) := by decide +kernel
theorem dX11_init_14 : decode cX11_init 14 = .ok (.sipush 20000, 3) := by decide +kernel
theorem dX11_init_17 : decode cX11_init 17 = .ok (.newarray .int, 2) := by decide +kernel
theorem dX11_init_19 : decode cX11_init 19 = .ok (.putfield 13, 3) := by decide +kernel
theorem dX11_init_22 : decode cX11_init 22 = .ok (.aload_n 0, 1) := by decide +kernel
theorem dX11_init_23 : decode cX11_init 23 = .ok (.sipush 3200, 3) := by decide +kernel
theorem dX11_init_26 : decode cX11_init 26 = .ok (.newarray .int, 2) := by decide +kernel
theorem dX11_init_28 : decode cX11_init 28 = .ok (.putfield 16, 3) := by decide +kernel
theorem dX11_init_31 : decode cX11_init 31 = .ok (.aload_n 0, 1) := by decide +kernel
theorem dX11_init_32 : decode cX11_init 32 = .ok (.sipush 3200, 3) := by decide +kernel
theorem dX11_init_35 : decode cX11_init 35 = .ok (.newarray .int, 2) := by decide +kernel
theorem dX11_init_37 : decode cX11_init 37 = .ok (.putfield 19, 3) := by decide +kernel
theorem dX11_init_40 : decode cX11_init 40 = .ok (.aload_n 0, 1) := by decide +kernel
theorem dX11_init_41 : decode cX11_init 41 = .ok (.iconst 4, 1) := by decide +kernel
theorem dX11_init_42 : decode cX11_init 42 = .ok (.newarray .int, 2) := by decide +kernel
theorem dX11_init_44 : decode cX11_init 44 = .ok (.putfield 22, 3) := by decide +kernel
theorem dX11_init_47 : decode cX11_init 47 = .ok (.aload_n 0, 1) := by decide +kernel
theorem dX11_init_48 : decode cX11_init 48 = .ok (.iconst 4, 1) := by decide +kernel
theorem dX11_init_49 : decode cX11_init 49 = .ok (.newarray .int, 2) := by decide +kernel
theorem dX11_init_51 : decode cX11_init 51 = .ok (.dup, 1) := by decide +kernel
theorem dX11_init_52 : decode cX11_init 52 = .ok (.iconst 0, 1) := by decide +kernel
theorem dX11_init_53 : decode cX11_init 53 = .ok (.iconst (-1), 1) := by decide +kernel
theorem dX11_init_54 : decode cX11_init 54 = .ok (.iastore, 1) := by decide +kernel
theorem dX11_init_55 : decode cX11_init 55 = .ok (.dup, 1) := by decide +kernel
theorem dX11_init_56 : decode cX11_init 56 = .ok (.iconst 1, 1) := by decide +kernel
theorem dX11_init_57 : decode cX11_init 57 = .ok (.iconst (-1), 1) := by decide +kernel
theorem dX11_init_58 : decode cX11_init 58 = .ok (.iastore, 1) := by decide +kernel
theorem dX11_init_59 : decode cX11_init 59 = .ok (.dup, 1) := by decide +kernel
theorem dX11_init_60 : decode cX11_init 60 = .ok (.iconst 2, 1) := by decide +kernel
theorem dX11_init_61 : decode cX11_init 61 = .ok (.iconst (-1), 1) := by decide +kernel
theorem dX11_init_62 : decode cX11_init 62 = .ok (.iastore, 1) := by decide +kernel
theorem dX11_init_63 : decode cX11_init 63 = .ok (.dup, 1) := by decide +kernel
theorem dX11_init_64 : decode cX11_init 64 = .ok (.iconst 3, 1) := by decide +kernel
theorem dX11_init_65 : decode cX11_init 65 = .ok (.iconst (-1), 1) := by decide +kernel
theorem dX11_init_66 : decode cX11_init 66 = .ok (.iastore, 1) := by decide +kernel
theorem dX11_init_67 : decode cX11_init 67 = .ok (.putfield 25, 3) := by decide +kernel
theorem dX11_init_70 : decode cX11_init 70 = .ok (.aload_n 0, 1) := by decide +kernel
theorem dX11_init_71 : decode cX11_init 71 = .ok (.sipush 400, 3) := by decide +kernel
theorem dX11_init_74 : decode cX11_init 74 = .ok (.newarray .int, 2) := by decide +kernel
theorem dX11_init_76 : decode cX11_init 76 = .ok (.putfield 28, 3) := by decide +kernel
theorem dX11_init_79 : decode cX11_init 79 = .ok (.aload_n 0, 1) := by decide +kernel
theorem dX11_init_80 : decode cX11_init 80 = .ok (.iconst 1, 1) := by decide +kernel
theorem dX11_init_81 : decode cX11_init 81 = .ok (.putfield 31, 3) := by decide +kernel
theorem dX11_init_84 : decode cX11_init 84 = .ok (.aload_n 0, 1) := by decide +kernel
theorem dX11_init_85 : decode cX11_init 85 = .ok (.sipush 3200, 3) := by decide +kernel
theorem dX11_init_88 : decode cX11_init 88 = .ok (.newarray .int, 2) := by decide +kernel
theorem dX11_init_90 : decode cX11_init 90 = .ok (.putfield 35, 3) := by decide +kernel
theorem dX11_init_93 : decode cX11_init 93 = .ok (.aload_n 0, 1) := by decide +kernel
theorem dX11_init_94 : decode cX11_init 94 = .ok (.sipush 3200, 3) := by decide +kernel
theorem dX11_init_97 : decode cX11_init 97 = .ok (.newarray .int, 2) := by decide +kernel
theorem dX11_init_99 : decode cX11_init 99 = .ok (.putfield 38, 3) := by decide +kernel
theorem dX11_init_102 : decode cX11_init 102 = .ok (.aload_n 0, 1) := by decide +kernel
theorem dX11_init_103 : decode cX11_init 103 = .ok (.bipush 80, 2) := by decide +kernel
theorem dX11_init_105 : decode cX11_init 105 = .ok (.newarray .int, 2) := by decide +kernel
theorem dX11_init_107 : decode cX11_init 107 = .ok (.putfield 41, 3) := by decide +kernel
theorem dX11_init_110 : decode cX11_init 110 = .ok (.aload_n 0, 1) := by decide +kernel
theorem dX11_init_111 : decode cX11_init 111 = .ok (.bipush 80, 2) := by decide +kernel
theorem dX11_init_113 : decode cX11_init 113 = .ok (.newarray .int, 2) := by decide +kernel
theorem dX11_init_115 : decode cX11_init 115 = .ok (.putfield 44, 3) := by decide +kernel
theorem dX11_init_118 : decode cX11_init 118 = .ok (.aload_n 0, 1) := by decide +kernel
theorem dX11_init_119 : decode cX11_init 119 = .ok (.bipush 80, 2) := by decide +kernel
theorem dX11_init_121 : decode cX11_init 121 = .ok (.newarray .int, 2) := by decide +kernel
theorem dX11_init_123 : decode cX11_init 123 = .ok (.putfield 47, 3) := by decide +kernel
theorem dX11_init_126 : decode cX11_init 126 = .ok (.aload_n 0, 1) := by decide +kernel
theorem dX11_init_127 : decode cX11_init 127 = .ok (.bipush 80, 2) := by decide +kernel
theorem dX11_init_129 : decode cX11_init 129 = .ok (.newarray .int, 2) := by decide +kernel
theorem dX11_init_131 : decode cX11_init 131 = .ok (.putfield 50, 3) := by decide +kernel
theorem dX11_init_134 : decode cX11_init 134 = .ok (.aload_n 0, 1) := by decide +kernel
theorem dX11_init_135 : decode cX11_init 135 = .ok (.bipush 80, 2) := by decide +kernel
theorem dX11_init_137 : decode cX11_init 137 = .ok (.newarray .int, 2) := by decide +kernel
theorem dX11_init_139 : decode cX11_init 139 = .ok (.putfield 53, 3) := by decide +kernel
theorem dX11_init_142 : decode cX11_init 142 = .ok (.aload_n 0, 1) := by decide +kernel
theorem dX11_init_143 : decode cX11_init 143 = .ok (.bipush 80, 2) := by decide +kernel
theorem dX11_init_145 : decode cX11_init 145 = .ok (.newarray .int, 2) := by decide +kernel
theorem dX11_init_147 : decode cX11_init 147 = .ok (.putfield 56, 3) := by decide +kernel
theorem dX11_init_150 : decode cX11_init 150 = .ok (.aload_n 0, 1) := by decide +kernel
theorem dX11_init_151 : decode cX11_init 151 = .ok (.sipush 800, 3) := by decide +kernel
theorem dX11_init_154 : decode cX11_init 154 = .ok (.newarray .boolean, 2) := by decide +kernel
theorem dX11_init_156 : decode cX11_init 156 = .ok (.putfield 59, 3) := by decide +kernel
theorem dX11_init_159 : decode cX11_init 159 = .ok (.aload_n 0, 1) := by decide +kernel
theorem dX11_init_160 : decode cX11_init 160 = .ok (.sipush 800, 3) := by decide +kernel
theorem dX11_init_163 : decode cX11_init 163 = .ok (.newarray .int, 2) := by decide +kernel
theorem dX11_init_165 : decode cX11_init 165 = .ok (.putfield 63, 3) := by decide +kernel
theorem dX11_init_168 : decode cX11_init 168 = .ok (.return_, 1) := by decide +kernel
theorem dX11_thrown_0 : decode cX11_thrown 0 = .ok (.aload_n 0, 1) := by decide +kernel
theorem dX11_thrown_1 : decode cX11_thrown 1 = .ok (.getfield 66, 3) := by decide +kernel
theorem dX11_thrown_4 : decode cX11_thrown 4 = .ok (.ireturn, 1) := by decide +kernel
theorem dX11_in_0 : decode cX11_in 0 = .ok (.iload_n 0, 1) := by decide +kernel
theorem dX11_in_1 : decode cX11_in 1 = .ok (.iload_n 1, 1) := by decide +kernel
theorem dX11_in_2 : decode cX11_in 2 = .ok (.if_icmp .lt 12, 3) := by decide +kernel
theorem dX11_in_5 : decode cX11_in 5 = .ok (.iload_n 0, 1) := by decide +kernel
theorem dX11_in_6 : decode cX11_in 6 = .ok (.iload_n 2, 1) := by decide +kernel
theorem dX11_in_7 : decode cX11_in 7 = .ok (.if_icmp .gt 7, 3) := by decide +kernel
theorem dX11_in_10 : decode cX11_in 10 = .ok (.iconst 1, 1) := by decide +kernel
theorem dX11_in_11 : decode cX11_in 11 = .ok (.goto 4, 3) := by decide +kernel
theorem dX11_in_14 : decode cX11_in 14 = .ok (.iconst 0, 1) := by decide +kernel
theorem dX11_in_15 : decode cX11_in 15 = .ok (.ireturn, 1) := by decide +kernel
set_option maxRecDepth 20000 in
theorem ggX11_isRow_X11_in : GoodIn wsX11_isRow wsX11_in := goodIn_r _ [4] (by decide +kernel) (by decide +kernel)
set_option maxRecDepth 20000 in
theorem gX11_isRow_X11_in : GoodIn wsX11_isRow (va_wsS RX11 69 yX11_in wsX11_in) := goodIn_app (goodIn_of _ (by decide +kernel)) ggX11_isRow_X11_in
theorem dX11_isRow_0 : decode cX11_isRow 0 = .ok (.iload_n 0, 1) := by decide +kernel
theorem dX11_isRow_1 : decode cX11_isRow 1 = .ok (.iconst 0, 1) := by decide +kernel
theorem dX11_isRow_2 : decode cX11_isRow 2 = .ok (.iconst 3, 1) := by decide +kernel
theorem dX11_isRow_3 : decode cX11_isRow 3 = .ok (.invokestatic 69, 3) := by decide +kernel
theorem dX11_isRow_6 : decode cX11_isRow 6 = .ok (.ireturn, 1) := by decide +kernel
theorem dX11_less_0 : decode cX11_less 0 = .ok (.iload_n 0, 1) := by decide +kernel
theorem dX11_less_1 : decode cX11_less 1 = .ok (.iload_n 1, 1) := by decide +kernel
theorem dX11_less_2 : decode cX11_less 2 = .ok (.if_icmp .ge 7, 3) := by decide +kernel
theorem dX11_less_5 : decode cX11_less 5 = .ok (.iload_n 0, 1) := by decide +kernel
theorem dX11_less_6 : decode cX11_less 6 = .ok (.goto 4, 3) := by decide +kernel
theorem dX11_less_9 : decode cX11_less 9 = .ok (.iload_n 1, 1) := by decide +kernel
theorem dX11_less_10 : decode cX11_less 10 = .ok (.ireturn, 1) := by decide +kernel
theorem dX11_more_0 : decode cX11_more 0 = .ok (.iload_n 0, 1) := by decide +kernel
theorem dX11_more_1 : decode cX11_more 1 = .ok (.iload_n 1, 1) := by decide +kernel
theorem dX11_more_2 : decode cX11_more 2 = .ok (.if_icmp .ge 7, 3) := by decide +kernel
theorem dX11_more_5 : decode cX11_more 5 = .ok (.iload_n 1, 1) := by decide +kernel
theorem dX11_more_6 : decode cX11_more 6 = .ok (.goto 4, 3) := by decide +kernel
theorem dX11_more_9 : decode cX11_more 9 = .ok (.iload_n 0, 1) := by decide +kernel
theorem dX11_more_10 : decode cX11_more 10 = .ok (.ireturn, 1) := by decide +kernel
theorem dX11_refuse_0 : decode cX11_refuse 0 = .ok (.aload_n 0, 1) := by decide +kernel
theorem dX11_refuse_1 : decode cX11_refuse 1 = .ok (.iload_n 1, 1) := by decide +kernel
theorem dX11_refuse_2 : decode cX11_refuse 2 = .ok (.putfield 66, 3) := by decide +kernel
theorem dX11_refuse_5 : decode cX11_refuse 5 = .ok (.iconst 0, 1) := by decide +kernel
theorem dX11_refuse_6 : decode cX11_refuse 6 = .ok (.ireturn, 1) := by decide +kernel
theorem dX11_told_0 : decode cX11_told 0 = .ok (.aload_n 0, 1) := by decide +kernel
theorem dX11_told_1 : decode cX11_told 1 = .ok (.iconst 0, 1) := by decide +kernel
theorem dX11_told_2 : decode cX11_told 2 = .ok (.putfield 66, 3) := by decide +kernel
theorem dX11_told_5 : decode cX11_told 5 = .ok (.iload_n 1, 1) := by decide +kernel
theorem dX11_told_6 : decode cX11_told 6 = .ok (.ireturn, 1) := by decide +kernel
set_option maxRecDepth 20000 in
theorem ggX11_type_X11_refuse : GoodIn wsX11_type wsX11_refuse := goodIn_r _ [8, 9, 14, 15, 16, 17, 18, 19, 20, 21, 22, 23, 24, 25, 26, 27, 28, 29, 30, 31, 32, 33, 34, 35, 36, 37, 38, 39, 40] (by decide +kernel) (by decide +kernel)
set_option maxRecDepth 20000 in
theorem gX11_type_X11_refuse : GoodIn wsX11_type (wsV RX11 78 RX11 yX11_refuse wsX11_refuse) := goodIn_app (goodIn_of _ (by decide +kernel)) ggX11_type_X11_refuse
set_option maxRecDepth 20000 in
theorem ggX11_type_X11_told : GoodIn wsX11_type wsX11_told := goodIn_r _ [13, 9, 14, 15, 16, 17, 18, 19, 20, 21, 22, 23, 24, 25, 26, 27, 28, 29, 30, 31, 32, 33, 34, 35, 36, 37, 38, 39, 40] (by decide +kernel) (by decide +kernel)
set_option maxRecDepth 20000 in
theorem gX11_type_X11_told : GoodIn wsX11_type (wsV RX11 82 RX11 yX11_told wsX11_told) := goodIn_app (goodIn_of _ (by decide +kernel)) ggX11_type_X11_told
theorem dX11_type_0 : decode cX11_type 0 = .ok (.iconst 0, 1) := by decide +kernel
theorem dX11_type_1 : decode cX11_type 1 = .ok (.istore_n 3, 1) := by decide +kernel
theorem dX11_type_2 : decode cX11_type 2 = .ok (.iconst 0, 1) := by decide +kernel
theorem dX11_type_3 : decode cX11_type 3 = .ok (.istore 4, 2) := by decide +kernel
theorem dX11_type_5 : decode cX11_type 5 = .ok (.iload 4, 2) := by decide +kernel
theorem dX11_type_7 : decode cX11_type 7 = .ok (.bipush 8, 2) := by decide +kernel
theorem dX11_type_9 : decode cX11_type 9 = .ok (.if_icmp .ge 33, 3) := by decide +kernel
theorem dX11_type_12 : decode cX11_type 12 = .ok (.iload_n 3, 1) := by decide +kernel
theorem dX11_type_13 : decode cX11_type 13 = .ok (.lload_n 1, 1) := by decide +kernel
theorem dX11_type_14 : decode cX11_type 14 = .ok (.bipush 8, 2) := by decide +kernel
theorem dX11_type_16 : decode cX11_type 16 = .ok (.iload 4, 2) := by decide +kernel
theorem dX11_type_18 : decode cX11_type 18 = .ok (.imul, 1) := by decide +kernel
theorem dX11_type_19 : decode cX11_type 19 = .ok (.lushr, 1) := by decide +kernel
theorem dX11_type_20 : decode cX11_type 20 = .ok (.ldc2_w 73, 3) := by decide +kernel
theorem dX11_type_23 : decode cX11_type 23 = .ok (.land, 1) := by decide +kernel
theorem dX11_type_24 : decode cX11_type 24 = .ok (.lconst 0, 1) := by decide +kernel
theorem dX11_type_25 : decode cX11_type 25 = .ok (.lcmp, 1) := by decide +kernel
theorem dX11_type_26 : decode cX11_type 26 = .ok (.ifCond .ne 7, 3) := by decide +kernel
theorem dX11_type_29 : decode cX11_type 29 = .ok (.iconst 0, 1) := by decide +kernel
theorem dX11_type_30 : decode cX11_type 30 = .ok (.goto 4, 3) := by decide +kernel
theorem dX11_type_33 : decode cX11_type 33 = .ok (.iconst 1, 1) := by decide +kernel
theorem dX11_type_34 : decode cX11_type 34 = .ok (.iadd, 1) := by decide +kernel
theorem dX11_type_35 : decode cX11_type 35 = .ok (.istore_n 3, 1) := by decide +kernel
theorem dX11_type_36 : decode cX11_type 36 = .ok (.iinc 4 1, 3) := by decide +kernel
theorem dX11_type_39 : decode cX11_type 39 = .ok (.goto (-34), 3) := by decide +kernel
theorem dX11_type_42 : decode cX11_type 42 = .ok (.aload_n 0, 1) := by decide +kernel
theorem dX11_type_43 : decode cX11_type 43 = .ok (.getfield 75, 3) := by decide +kernel
theorem dX11_type_46 : decode cX11_type 46 = .ok (.iload_n 3, 1) := by decide +kernel
theorem dX11_type_47 : decode cX11_type 47 = .ok (.iadd, 1) := by decide +kernel
theorem dX11_type_48 : decode cX11_type 48 = .ok (.sipush 400, 3) := by decide +kernel
theorem dX11_type_51 : decode cX11_type 51 = .ok (.if_icmp .le 9, 3) := by decide +kernel
theorem dX11_type_54 : decode cX11_type 54 = .ok (.aload_n 0, 1) := by decide +kernel
theorem dX11_type_55 : decode cX11_type 55 = .ok (.iconst 1, 1) := by decide +kernel
theorem dX11_type_56 : decode cX11_type 56 = .ok (.invokevirtual 78, 3) := by decide +kernel
theorem dX11_type_59 : decode cX11_type 59 = .ok (.ireturn, 1) := by decide +kernel
theorem dX11_type_60 : decode cX11_type 60 = .ok (.bipush 7, 2) := by decide +kernel
theorem dX11_type_62 : decode cX11_type 62 = .ok (.istore 4, 2) := by decide +kernel
theorem dX11_type_64 : decode cX11_type 64 = .ok (.iload 4, 2) := by decide +kernel
theorem dX11_type_66 : decode cX11_type 66 = .ok (.ifCond .lt 49, 3) := by decide +kernel
theorem dX11_type_69 : decode cX11_type 69 = .ok (.lload_n 1, 1) := by decide +kernel
theorem dX11_type_70 : decode cX11_type 70 = .ok (.bipush 8, 2) := by decide +kernel
theorem dX11_type_72 : decode cX11_type 72 = .ok (.iload 4, 2) := by decide +kernel
theorem dX11_type_74 : decode cX11_type 74 = .ok (.imul, 1) := by decide +kernel
theorem dX11_type_75 : decode cX11_type 75 = .ok (.lushr, 1) := by decide +kernel
theorem dX11_type_76 : decode cX11_type 76 = .ok (.ldc2_w 73, 3) := by decide +kernel
theorem dX11_type_79 : decode cX11_type 79 = .ok (.land, 1) := by decide +kernel
theorem dX11_type_80 : decode cX11_type 80 = .ok (.l2i, 1) := by decide +kernel
theorem dX11_type_81 : decode cX11_type 81 = .ok (.istore 5, 2) := by decide +kernel
theorem dX11_type_83 : decode cX11_type 83 = .ok (.iload 5, 2) := by decide +kernel
theorem dX11_type_85 : decode cX11_type 85 = .ok (.ifCond .eq 24, 3) := by decide +kernel
theorem dX11_type_88 : decode cX11_type 88 = .ok (.aload_n 0, 1) := by decide +kernel
theorem dX11_type_89 : decode cX11_type 89 = .ok (.getfield 28, 3) := by decide +kernel
theorem dX11_type_92 : decode cX11_type 92 = .ok (.aload_n 0, 1) := by decide +kernel
theorem dX11_type_93 : decode cX11_type 93 = .ok (.getfield 75, 3) := by decide +kernel
theorem dX11_type_96 : decode cX11_type 96 = .ok (.iload 5, 2) := by decide +kernel
theorem dX11_type_98 : decode cX11_type 98 = .ok (.iastore, 1) := by decide +kernel
theorem dX11_type_99 : decode cX11_type 99 = .ok (.aload_n 0, 1) := by decide +kernel
theorem dX11_type_100 : decode cX11_type 100 = .ok (.dup, 1) := by decide +kernel
theorem dX11_type_101 : decode cX11_type 101 = .ok (.getfield 75, 3) := by decide +kernel
theorem dX11_type_104 : decode cX11_type 104 = .ok (.iconst 1, 1) := by decide +kernel
theorem dX11_type_105 : decode cX11_type 105 = .ok (.iadd, 1) := by decide +kernel
theorem dX11_type_106 : decode cX11_type 106 = .ok (.putfield 75, 3) := by decide +kernel
theorem dX11_type_109 : decode cX11_type 109 = .ok (.iinc 4 (-1), 3) := by decide +kernel
theorem dX11_type_112 : decode cX11_type 112 = .ok (.goto (-48), 3) := by decide +kernel
theorem dX11_type_115 : decode cX11_type 115 = .ok (.aload_n 0, 1) := by decide +kernel
theorem dX11_type_116 : decode cX11_type 116 = .ok (.aload_n 0, 1) := by decide +kernel
theorem dX11_type_117 : decode cX11_type 117 = .ok (.getfield 75, 3) := by decide +kernel
theorem dX11_type_120 : decode cX11_type 120 = .ok (.invokevirtual 82, 3) := by decide +kernel
theorem dX11_type_123 : decode cX11_type 123 = .ok (.ireturn, 1) := by decide +kernel
set_option maxRecDepth 20000 in
theorem ggX11_clearText_X11_told : GoodIn wsX11_clearText wsX11_told := goodIn_r _ [6, 7, 8, 9, 10, 11, 12, 13, 14, 15, 16, 17, 18, 19, 20, 21, 22, 23, 24, 25, 26, 27, 28, 29, 30, 31, 32, 33, 34] (by decide +kernel) (by decide +kernel)
set_option maxRecDepth 20000 in
theorem gX11_clearText_X11_told : GoodIn wsX11_clearText (wsV RX11 82 RX11 yX11_told wsX11_told) := goodIn_app (goodIn_of _ (by decide +kernel)) ggX11_clearText_X11_told
theorem dX11_clearText_0 : decode cX11_clearText 0 = .ok (.aload_n 0, 1) := by decide +kernel
theorem dX11_clearText_1 : decode cX11_clearText 1 = .ok (.getfield 75, 3) := by decide +kernel
theorem dX11_clearText_4 : decode cX11_clearText 4 = .ok (.istore_n 1, 1) := by decide +kernel
theorem dX11_clearText_5 : decode cX11_clearText 5 = .ok (.aload_n 0, 1) := by decide +kernel
theorem dX11_clearText_6 : decode cX11_clearText 6 = .ok (.iconst 0, 1) := by decide +kernel
theorem dX11_clearText_7 : decode cX11_clearText 7 = .ok (.putfield 75, 3) := by decide +kernel
theorem dX11_clearText_10 : decode cX11_clearText 10 = .ok (.aload_n 0, 1) := by decide +kernel
theorem dX11_clearText_11 : decode cX11_clearText 11 = .ok (.iload_n 1, 1) := by decide +kernel
theorem dX11_clearText_12 : decode cX11_clearText 12 = .ok (.invokevirtual 82, 3) := by decide +kernel
theorem dX11_clearText_15 : decode cX11_clearText 15 = .ok (.ireturn, 1) := by decide +kernel
set_option maxRecDepth 20000 in
theorem ggX11_isLetter_X11_in : GoodIn wsX11_isLetter wsX11_in := goodIn_r _ [4] (by decide +kernel) (by decide +kernel)
set_option maxRecDepth 20000 in
theorem gX11_isLetter_X11_in : GoodIn wsX11_isLetter (va_wsS RX11 69 yX11_in wsX11_in) := goodIn_app (goodIn_of _ (by decide +kernel)) ggX11_isLetter_X11_in
theorem dX11_isLetter_0 : decode cX11_isLetter 0 = .ok (.iload_n 0, 1) := by decide +kernel
theorem dX11_isLetter_1 : decode cX11_isLetter 1 = .ok (.bipush 97, 2) := by decide +kernel
theorem dX11_isLetter_3 : decode cX11_isLetter 3 = .ok (.bipush 122, 2) := by decide +kernel
theorem dX11_isLetter_5 : decode cX11_isLetter 5 = .ok (.invokestatic 69, 3) := by decide +kernel
theorem dX11_isLetter_8 : decode cX11_isLetter 8 = .ok (.ireturn, 1) := by decide +kernel
set_option maxRecDepth 20000 in
theorem ggX11_isDigit_X11_in : GoodIn wsX11_isDigit wsX11_in := goodIn_r _ [4] (by decide +kernel) (by decide +kernel)
set_option maxRecDepth 20000 in
theorem gX11_isDigit_X11_in : GoodIn wsX11_isDigit (va_wsS RX11 69 yX11_in wsX11_in) := goodIn_app (goodIn_of _ (by decide +kernel)) ggX11_isDigit_X11_in
theorem dX11_isDigit_0 : decode cX11_isDigit 0 = .ok (.iload_n 0, 1) := by decide +kernel
theorem dX11_isDigit_1 : decode cX11_isDigit 1 = .ok (.bipush 48, 2) := by decide +kernel
theorem dX11_isDigit_3 : decode cX11_isDigit 3 = .ok (.bipush 57, 2) := by decide +kernel
theorem dX11_isDigit_5 : decode cX11_isDigit 5 = .ok (.invokestatic 69, 3) := by decide +kernel
theorem dX11_isDigit_8 : decode cX11_isDigit 8 = .ok (.ireturn, 1) := by decide +kernel
set_option maxRecDepth 20000 in
theorem ggX11_next_X11_isLetter : GoodIn wsX11_next wsX11_isLetter := goodIn_r _ [10, 11, 12, 9, 13] (by decide +kernel) (by decide +kernel)
set_option maxRecDepth 20000 in
theorem gX11_next_X11_isLetter : GoodIn wsX11_next (va_wsS RX11 94 yX11_isLetter wsX11_isLetter) := goodIn_app (goodIn_of _ (by decide +kernel)) ggX11_next_X11_isLetter
set_option maxRecDepth 20000 in
theorem ggX11_next_X11_isDigit : GoodIn wsX11_next wsX11_isDigit := goodIn_r _ [16, 11, 12, 9, 13] (by decide +kernel) (by decide +kernel)
set_option maxRecDepth 20000 in
theorem gX11_next_X11_isDigit : GoodIn wsX11_next (va_wsS RX11 98 yX11_isDigit wsX11_isDigit) := goodIn_app (goodIn_of _ (by decide +kernel)) ggX11_next_X11_isDigit
theorem dX11_next_0 : decode cX11_next 0 = .ok (.aload_n 0, 1) := by decide +kernel
theorem dX11_next_1 : decode cX11_next 1 = .ok (.getfield 85, 3) := by decide +kernel
theorem dX11_next_4 : decode cX11_next 4 = .ok (.aload_n 0, 1) := by decide +kernel
theorem dX11_next_5 : decode cX11_next 5 = .ok (.getfield 75, 3) := by decide +kernel
theorem dX11_next_8 : decode cX11_next 8 = .ok (.if_icmp .ge 30, 3) := by decide +kernel
theorem dX11_next_11 : decode cX11_next 11 = .ok (.aload_n 0, 1) := by decide +kernel
theorem dX11_next_12 : decode cX11_next 12 = .ok (.getfield 28, 3) := by decide +kernel
theorem dX11_next_15 : decode cX11_next 15 = .ok (.aload_n 0, 1) := by decide +kernel
theorem dX11_next_16 : decode cX11_next 16 = .ok (.getfield 85, 3) := by decide +kernel
theorem dX11_next_19 : decode cX11_next 19 = .ok (.iaload, 1) := by decide +kernel
theorem dX11_next_20 : decode cX11_next 20 = .ok (.bipush 32, 2) := by decide +kernel
theorem dX11_next_22 : decode cX11_next 22 = .ok (.if_icmp .ne 16, 3) := by decide +kernel
theorem dX11_next_25 : decode cX11_next 25 = .ok (.aload_n 0, 1) := by decide +kernel
theorem dX11_next_26 : decode cX11_next 26 = .ok (.dup, 1) := by decide +kernel
theorem dX11_next_27 : decode cX11_next 27 = .ok (.getfield 85, 3) := by decide +kernel
theorem dX11_next_30 : decode cX11_next 30 = .ok (.iconst 1, 1) := by decide +kernel
theorem dX11_next_31 : decode cX11_next 31 = .ok (.iadd, 1) := by decide +kernel
theorem dX11_next_32 : decode cX11_next 32 = .ok (.putfield 85, 3) := by decide +kernel
theorem dX11_next_35 : decode cX11_next 35 = .ok (.goto (-35), 3) := by decide +kernel
theorem dX11_next_38 : decode cX11_next 38 = .ok (.aload_n 0, 1) := by decide +kernel
theorem dX11_next_39 : decode cX11_next 39 = .ok (.aload_n 0, 1) := by decide +kernel
theorem dX11_next_40 : decode cX11_next 40 = .ok (.getfield 85, 3) := by decide +kernel
theorem dX11_next_43 : decode cX11_next 43 = .ok (.putfield 88, 3) := by decide +kernel
theorem dX11_next_46 : decode cX11_next 46 = .ok (.aload_n 0, 1) := by decide +kernel
theorem dX11_next_47 : decode cX11_next 47 = .ok (.getfield 85, 3) := by decide +kernel
theorem dX11_next_50 : decode cX11_next 50 = .ok (.aload_n 0, 1) := by decide +kernel
theorem dX11_next_51 : decode cX11_next 51 = .ok (.getfield 75, 3) := by decide +kernel
theorem dX11_next_54 : decode cX11_next 54 = .ok (.if_icmp .ne 10, 3) := by decide +kernel
theorem dX11_next_57 : decode cX11_next 57 = .ok (.aload_n 0, 1) := by decide +kernel
theorem dX11_next_58 : decode cX11_next 58 = .ok (.bipush 6, 2) := by decide +kernel
theorem dX11_next_60 : decode cX11_next 60 = .ok (.putfield 91, 3) := by decide +kernel
theorem dX11_next_63 : decode cX11_next 63 = .ok (.return_, 1) := by decide +kernel
theorem dX11_next_64 : decode cX11_next 64 = .ok (.aload_n 0, 1) := by decide +kernel
theorem dX11_next_65 : decode cX11_next 65 = .ok (.getfield 28, 3) := by decide +kernel
theorem dX11_next_68 : decode cX11_next 68 = .ok (.aload_n 0, 1) := by decide +kernel
theorem dX11_next_69 : decode cX11_next 69 = .ok (.getfield 85, 3) := by decide +kernel
theorem dX11_next_72 : decode cX11_next 72 = .ok (.iaload, 1) := by decide +kernel
theorem dX11_next_73 : decode cX11_next 73 = .ok (.istore_n 1, 1) := by decide +kernel
theorem dX11_next_74 : decode cX11_next 74 = .ok (.aload_n 0, 1) := by decide +kernel
theorem dX11_next_75 : decode cX11_next 75 = .ok (.iload_n 1, 1) := by decide +kernel
theorem dX11_next_76 : decode cX11_next 76 = .ok (.invokestatic 94, 3) := by decide +kernel
theorem dX11_next_79 : decode cX11_next 79 = .ok (.ifCond .eq 7, 3) := by decide +kernel
theorem dX11_next_82 : decode cX11_next 82 = .ok (.iconst 1, 1) := by decide +kernel
theorem dX11_next_83 : decode cX11_next 83 = .ok (.goto 35, 3) := by decide +kernel
theorem dX11_next_86 : decode cX11_next 86 = .ok (.iload_n 1, 1) := by decide +kernel
theorem dX11_next_87 : decode cX11_next 87 = .ok (.invokestatic 98, 3) := by decide +kernel
theorem dX11_next_90 : decode cX11_next 90 = .ok (.ifCond .eq 7, 3) := by decide +kernel
theorem dX11_next_93 : decode cX11_next 93 = .ok (.iconst 2, 1) := by decide +kernel
theorem dX11_next_94 : decode cX11_next 94 = .ok (.goto 24, 3) := by decide +kernel
theorem dX11_next_97 : decode cX11_next 97 = .ok (.iload_n 1, 1) := by decide +kernel
theorem dX11_next_98 : decode cX11_next 98 = .ok (.bipush 59, 2) := by decide +kernel
theorem dX11_next_100 : decode cX11_next 100 = .ok (.if_icmp .ne 7, 3) := by decide +kernel
theorem dX11_next_103 : decode cX11_next 103 = .ok (.iconst 3, 1) := by decide +kernel
theorem dX11_next_104 : decode cX11_next 104 = .ok (.goto 14, 3) := by decide +kernel
theorem dX11_next_107 : decode cX11_next 107 = .ok (.iload_n 1, 1) := by decide +kernel
theorem dX11_next_108 : decode cX11_next 108 = .ok (.bipush 45, 2) := by decide +kernel
theorem dX11_next_110 : decode cX11_next 110 = .ok (.if_icmp .ne 7, 3) := by decide +kernel
theorem dX11_next_113 : decode cX11_next 113 = .ok (.iconst 4, 1) := by decide +kernel
theorem dX11_next_114 : decode cX11_next 114 = .ok (.goto 4, 3) := by decide +kernel
theorem dX11_next_117 : decode cX11_next 117 = .ok (.iconst 5, 1) := by decide +kernel
theorem dX11_next_118 : decode cX11_next 118 = .ok (.putfield 91, 3) := by decide +kernel
theorem dX11_next_121 : decode cX11_next 121 = .ok (.aload_n 0, 1) := by decide +kernel
theorem dX11_next_122 : decode cX11_next 122 = .ok (.iconst 0, 1) := by decide +kernel
theorem dX11_next_123 : decode cX11_next 123 = .ok (.putfield 101, 3) := by decide +kernel
theorem dX11_next_126 : decode cX11_next 126 = .ok (.iconst 0, 1) := by decide +kernel
theorem dX11_next_127 : decode cX11_next 127 = .ok (.istore_n 2, 1) := by decide +kernel
theorem dX11_next_128 : decode cX11_next 128 = .ok (.aload_n 0, 1) := by decide +kernel
theorem dX11_next_129 : decode cX11_next 129 = .ok (.getfield 85, 3) := by decide +kernel
theorem dX11_next_132 : decode cX11_next 132 = .ok (.aload_n 0, 1) := by decide +kernel
theorem dX11_next_133 : decode cX11_next 133 = .ok (.getfield 75, 3) := by decide +kernel
theorem dX11_next_136 : decode cX11_next 136 = .ok (.if_icmp .ge 129, 3) := by decide +kernel
theorem dX11_next_139 : decode cX11_next 139 = .ok (.aload_n 0, 1) := by decide +kernel
theorem dX11_next_140 : decode cX11_next 140 = .ok (.getfield 91, 3) := by decide +kernel
theorem dX11_next_143 : decode cX11_next 143 = .ok (.iconst 1, 1) := by decide +kernel
theorem dX11_next_144 : decode cX11_next 144 = .ok (.if_icmp .ne 21, 3) := by decide +kernel
theorem dX11_next_147 : decode cX11_next 147 = .ok (.aload_n 0, 1) := by decide +kernel
theorem dX11_next_148 : decode cX11_next 148 = .ok (.getfield 28, 3) := by decide +kernel
theorem dX11_next_151 : decode cX11_next 151 = .ok (.aload_n 0, 1) := by decide +kernel
theorem dX11_next_152 : decode cX11_next 152 = .ok (.getfield 85, 3) := by decide +kernel
theorem dX11_next_155 : decode cX11_next 155 = .ok (.iaload, 1) := by decide +kernel
theorem dX11_next_156 : decode cX11_next 156 = .ok (.invokestatic 94, 3) := by decide +kernel
theorem dX11_next_159 : decode cX11_next 159 = .ok (.ifCond .eq 106, 3) := by decide +kernel
theorem dX11_next_162 : decode cX11_next 162 = .ok (.goto 40, 3) := by decide +kernel
theorem dX11_next_165 : decode cX11_next 165 = .ok (.aload_n 0, 1) := by decide +kernel
theorem dX11_next_166 : decode cX11_next 166 = .ok (.getfield 91, 3) := by decide +kernel
theorem dX11_next_169 : decode cX11_next 169 = .ok (.iconst 2, 1) := by decide +kernel
theorem dX11_next_170 : decode cX11_next 170 = .ok (.if_icmp .ne 21, 3) := by decide +kernel
theorem dX11_next_173 : decode cX11_next 173 = .ok (.aload_n 0, 1) := by decide +kernel
theorem dX11_next_174 : decode cX11_next 174 = .ok (.getfield 28, 3) := by decide +kernel
theorem dX11_next_177 : decode cX11_next 177 = .ok (.aload_n 0, 1) := by decide +kernel
theorem dX11_next_178 : decode cX11_next 178 = .ok (.getfield 85, 3) := by decide +kernel
