set_option maxRecDepth 20000 in
theorem ggX10_sortPart_X10_needPart : GoodIn wsX10_sortPart wsX10_needPart := goodIn_ca (goodIn_ca (goodIn_r _ [12, 7, 8, 13, 14, 15, 85, 86] (by decide +kernel) (by decide +kernel)) (goodIn_sub (fun _ h => List.mem_cons_of_mem _ (List.mem_append_left _ (List.mem_append_right _ h))) (by decide +kernel))) (goodIn_sub (fun _ h => List.mem_cons_of_mem _ (List.mem_append_right _ h)) (by decide +kernel))
set_option maxRecDepth 20000 in
theorem gX10_sortPart_X10_needPart : GoodIn wsX10_sortPart (va_wsS RX10 164 yX10_needPart wsX10_needPart) := goodIn_app (goodIn_of _ (by decide +kernel)) ggX10_sortPart_X10_needPart
set_option maxRecDepth 20000 in
theorem ggX10_sortPart_X10_arrangePart : GoodIn wsX10_sortPart wsX10_arrangePart := goodIn_r _ [19, 20, 21, 22, 23, 24, 25, 26, 27, 28, 29, 30, 31, 32, 33, 34, 35, 36, 37, 38, 39, 40, 41, 42, 43, 44, 45, 46, 47, 48, 49, 50, 51, 52, 53, 54, 55, 56, 57, 58, 59, 60, 61, 62, 63, 64, 65, 66, 67, 68, 69, 70, 71, 72, 73, 74, 75, 76, 77, 78, 79, 80, 81, 82, 83, 84, 87, 88, 89, 90, 85, 86, 91, 92, 93] (by decide +kernel) (by decide +kernel)
set_option maxRecDepth 20000 in
theorem gX10_sortPart_X10_arrangePart : GoodIn wsX10_sortPart (wsV RX10 167 RX10 yX10_arrangePart wsX10_arrangePart) := goodIn_app (goodIn_of _ (by decide +kernel)) ggX10_sortPart_X10_arrangePart
theorem dX10_sortPart_0 : decode cX10_sortPart 0 = .ok (.aload_n 0, 1) := by decide +kernel
theorem dX10_sortPart_1 : decode cX10_sortPart 1 = .ok (.iload_n 1, 1) := by decide +kernel
theorem dX10_sortPart_2 : decode cX10_sortPart 2 = .ok (.invokevirtual 92, 3) := by decide +kernel
theorem dX10_sortPart_5 : decode cX10_sortPart 5 = .ok (.astore 4, 2) := by decide +kernel
theorem dX10_sortPart_7 : decode cX10_sortPart 7 = .ok (.aload 4, 2) := by decide +kernel
theorem dX10_sortPart_9 : decode cX10_sortPart 9 = .ok (.iload_n 2, 1) := by decide +kernel
theorem dX10_sortPart_10 : decode cX10_sortPart 10 = .ok (.iload_n 3, 1) := by decide +kernel
theorem dX10_sortPart_11 : decode cX10_sortPart 11 = .ok (.invokestatic 164, 3) := by decide +kernel
theorem dX10_sortPart_14 : decode cX10_sortPart 14 = .ok (.aload_n 0, 1) := by decide +kernel
theorem dX10_sortPart_15 : decode cX10_sortPart 15 = .ok (.aload 4, 2) := by decide +kernel
theorem dX10_sortPart_17 : decode cX10_sortPart 17 = .ok (.iload_n 2, 1) := by decide +kernel
theorem dX10_sortPart_18 : decode cX10_sortPart 18 = .ok (.iload_n 3, 1) := by decide +kernel
theorem dX10_sortPart_19 : decode cX10_sortPart 19 = .ok (.getstatic 139, 3) := by decide +kernel
theorem dX10_sortPart_22 : decode cX10_sortPart 22 = .ok (.invokevirtual 167, 3) := by decide +kernel
theorem dX10_sortPart_25 : decode cX10_sortPart 25 = .ok (.ireturn, 1) := by decide +kernel
set_option maxRecDepth 20000 in
theorem ggX10_sortDown_X10_rowAt : GoodIn wsX10_sortDown wsX10_rowAt := goodIn_ca (goodIn_r _ [8, 9, 10, 11, 75, 76, 77, 78, 79, 80, 81, 82, 83, 84] (by decide +kernel) (by decide +kernel)) (goodIn_sub (fun _ h => List.mem_cons_of_mem _ (List.mem_append_right _ h)) (by decide +kernel))
set_option maxRecDepth 20000 in
theorem gX10_sortDown_X10_rowAt : GoodIn wsX10_sortDown (wsV RX10 92 RX10 yX10_rowAt wsX10_rowAt) := goodIn_app (goodIn_of _ (by decide +kernel)) ggX10_sortDown_X10_rowAt
set_option maxRecDepth 20000 in
theorem ggX10_sortDown_X10_needPart : GoodIn wsX10_sortDown wsX10_needPart := goodIn_ca (goodIn_ca (goodIn_r _ [14, 9, 10, 1, 2, 15, 85, 86] (by decide +kernel) (by decide +kernel)) (goodIn_sub (fun _ h => List.mem_cons_of_mem _ (List.mem_append_right _ h)) (by decide +kernel))) (goodIn_sub (fun _ h => List.mem_cons_of_mem _ (List.mem_append_left _ (List.mem_append_right _ h))) (by decide +kernel))
set_option maxRecDepth 20000 in
theorem gX10_sortDown_X10_needPart : GoodIn wsX10_sortDown (va_wsS RX10 164 yX10_needPart wsX10_needPart) := goodIn_app (goodIn_of _ (by decide +kernel)) ggX10_sortDown_X10_needPart
set_option maxRecDepth 20000 in
theorem ggX10_sortDown_X10_arrangePart : GoodIn wsX10_sortDown wsX10_arrangePart := goodIn_r _ [19, 20, 21, 22, 23, 24, 25, 26, 27, 28, 29, 30, 31, 32, 33, 34, 35, 36, 37, 38, 39, 40, 41, 42, 43, 44, 45, 46, 47, 48, 49, 50, 51, 52, 53, 54, 55, 56, 57, 58, 59, 60, 61, 62, 63, 64, 65, 66, 67, 68, 69, 70, 71, 72, 73, 74, 75, 76, 77, 78, 79, 80, 81, 82, 83, 84, 87, 88, 89, 90, 85, 86, 91, 92, 93] (by decide +kernel) (by decide +kernel)
set_option maxRecDepth 20000 in
theorem gX10_sortDown_X10_arrangePart : GoodIn wsX10_sortDown (wsV RX10 167 RX10 yX10_arrangePart wsX10_arrangePart) := goodIn_app (goodIn_of _ (by decide +kernel)) ggX10_sortDown_X10_arrangePart
theorem dX10_sortDown_0 : decode cX10_sortDown 0 = .ok (.aload_n 0, 1) := by decide +kernel
theorem dX10_sortDown_1 : decode cX10_sortDown 1 = .ok (.iload_n 1, 1) := by decide +kernel
theorem dX10_sortDown_2 : decode cX10_sortDown 2 = .ok (.invokevirtual 92, 3) := by decide +kernel
theorem dX10_sortDown_5 : decode cX10_sortDown 5 = .ok (.astore 4, 2) := by decide +kernel
theorem dX10_sortDown_7 : decode cX10_sortDown 7 = .ok (.aload 4, 2) := by decide +kernel
theorem dX10_sortDown_9 : decode cX10_sortDown 9 = .ok (.iload_n 2, 1) := by decide +kernel
theorem dX10_sortDown_10 : decode cX10_sortDown 10 = .ok (.iload_n 3, 1) := by decide +kernel
theorem dX10_sortDown_11 : decode cX10_sortDown 11 = .ok (.invokestatic 164, 3) := by decide +kernel
theorem dX10_sortDown_14 : decode cX10_sortDown 14 = .ok (.iload_n 3, 1) := by decide +kernel
theorem dX10_sortDown_15 : decode cX10_sortDown 15 = .ok (.iload_n 2, 1) := by decide +kernel
theorem dX10_sortDown_16 : decode cX10_sortDown 16 = .ok (.isub, 1) := by decide +kernel
theorem dX10_sortDown_17 : decode cX10_sortDown 17 = .ok (.bipush 31, 2) := by decide +kernel
theorem dX10_sortDown_19 : decode cX10_sortDown 19 = .ok (.if_icmp .le 13, 3) := by decide +kernel
theorem dX10_sortDown_22 : decode cX10_sortDown 22 = .ok (.new 171, 3) := by decide +kernel
theorem dX10_sortDown_25 : decode cX10_sortDown 25 = .ok (.dup, 1) := by decide +kernel
theorem dX10_sortDown_26 : decode cX10_sortDown 26 = .ok (.ldc 173, 2) := by decide +kernel
theorem dX10_sortDown_28 : decode cX10_sortDown 28 = .ok (.invokespecial 175, 3) := by decide +kernel
theorem dX10_sortDown_31 : decode cX10_sortDown 31 = .ok (.athrow, 1) := by decide +kernel
theorem dX10_sortDown_32 : decode cX10_sortDown 32 = .ok (.aload_n 0, 1) := by decide +kernel
theorem dX10_sortDown_33 : decode cX10_sortDown 33 = .ok (.aload 4, 2) := by decide +kernel
theorem dX10_sortDown_35 : decode cX10_sortDown 35 = .ok (.iload_n 2, 1) := by decide +kernel
theorem dX10_sortDown_36 : decode cX10_sortDown 36 = .ok (.iload_n 3, 1) := by decide +kernel
theorem dX10_sortDown_37 : decode cX10_sortDown 37 = .ok (.getstatic 176, 3) := by decide +kernel
theorem dX10_sortDown_40 : decode cX10_sortDown 40 = .ok (.invokevirtual 167, 3) := by decide +kernel
theorem dX10_sortDown_43 : decode cX10_sortDown 43 = .ok (.ireturn, 1) := by decide +kernel
set_option maxRecDepth 20000 in
theorem ggX10_sortBySecond_X10_rowAt : GoodIn wsX10_sortBySecond wsX10_rowAt := goodIn_ca (goodIn_r _ [6, 7, 8, 9, 74, 75, 76, 77, 78, 79, 80, 81, 82, 83] (by decide +kernel) (by decide +kernel)) (goodIn_sub (fun _ h => List.mem_cons_of_mem _ (List.mem_append_right _ h)) (by decide +kernel))
set_option maxRecDepth 20000 in
theorem gX10_sortBySecond_X10_rowAt : GoodIn wsX10_sortBySecond (wsV RX10 92 RX10 yX10_rowAt wsX10_rowAt) := goodIn_app (goodIn_of _ (by decide +kernel)) ggX10_sortBySecond_X10_rowAt
set_option maxRecDepth 20000 in
theorem ggX10_sortBySecond_X10_arrangeRow : GoodIn wsX10_sortBySecond wsX10_arrangeRow := goodIn_r _ [13, 14, 15, 16, 17, 5, 18, 19, 20, 21, 22, 23, 24, 25, 26, 27, 28, 29, 30, 31, 32, 33, 34, 35, 36, 37, 38, 39, 40, 41, 42, 43, 44, 45, 46, 47, 48, 49, 50, 51, 52, 53, 54, 55, 56, 57, 58, 59, 60, 61, 62, 63, 64, 65, 66, 67, 68, 69, 70, 71, 72, 73, 84, 85, 74, 75, 76, 77, 78, 79, 80, 81, 82, 83, 86, 87, 88, 89, 90, 91, 92] (by decide +kernel) (by decide +kernel)
set_option maxRecDepth 20000 in
theorem gX10_sortBySecond_X10_arrangeRow : GoodIn wsX10_sortBySecond (wsV RX10 145 RX10 yX10_arrangeRow wsX10_arrangeRow) := goodIn_app (goodIn_of _ (by decide +kernel)) ggX10_sortBySecond_X10_arrangeRow
theorem dX10_sortBySecond_0 : decode cX10_sortBySecond 0 = .ok (.aload_n 0, 1) := by decide +kernel
theorem dX10_sortBySecond_1 : decode cX10_sortBySecond 1 = .ok (.aload_n 0, 1) := by decide +kernel
theorem dX10_sortBySecond_2 : decode cX10_sortBySecond 2 = .ok (.iload_n 1, 1) := by decide +kernel
theorem dX10_sortBySecond_3 : decode cX10_sortBySecond 3 = .ok (.invokevirtual 92, 3) := by decide +kernel
theorem dX10_sortBySecond_6 : decode cX10_sortBySecond 6 = .ok (.getstatic 179, 3) := by decide +kernel
theorem dX10_sortBySecond_9 : decode cX10_sortBySecond 9 = .ok (.invokevirtual 145, 3) := by decide +kernel
theorem dX10_sortBySecond_12 : decode cX10_sortBySecond 12 = .ok (.ireturn, 1) := by decide +kernel
set_option maxRecDepth 20000 in
theorem ggX10_sortByBoth_X10_rowAt : GoodIn wsX10_sortByBoth wsX10_rowAt := goodIn_ca (goodIn_r _ [6, 7, 8, 9, 74, 75, 76, 77, 78, 79, 80, 81, 82, 83] (by decide +kernel) (by decide +kernel)) (goodIn_sub (fun _ h => List.mem_cons_of_mem _ (List.mem_append_right _ h)) (by decide +kernel))
set_option maxRecDepth 20000 in
theorem gX10_sortByBoth_X10_rowAt : GoodIn wsX10_sortByBoth (wsV RX10 92 RX10 yX10_rowAt wsX10_rowAt) := goodIn_app (goodIn_of _ (by decide +kernel)) ggX10_sortByBoth_X10_rowAt
set_option maxRecDepth 20000 in
theorem ggX10_sortByBoth_X10_arrangeRow : GoodIn wsX10_sortByBoth wsX10_arrangeRow := goodIn_r _ [13, 14, 15, 16, 17, 5, 18, 19, 20, 21, 22, 23, 24, 25, 26, 27, 28, 29, 30, 31, 32, 33, 34, 35, 36, 37, 38, 39, 40, 41, 42, 43, 44, 45, 46, 47, 48, 49, 50, 51, 52, 53, 54, 55, 56, 57, 58, 59, 60, 61, 62, 63, 64, 65, 66, 67, 68, 69, 70, 71, 72, 73, 84, 85, 74, 75, 76, 77, 78, 79, 80, 81, 82, 83, 86, 87, 88, 89, 90, 91, 92] (by decide +kernel) (by decide +kernel)
set_option maxRecDepth 20000 in
theorem gX10_sortByBoth_X10_arrangeRow : GoodIn wsX10_sortByBoth (wsV RX10 145 RX10 yX10_arrangeRow wsX10_arrangeRow) := goodIn_app (goodIn_of _ (by decide +kernel)) ggX10_sortByBoth_X10_arrangeRow
theorem dX10_sortByBoth_0 : decode cX10_sortByBoth 0 = .ok (.aload_n 0, 1) := by decide +kernel
theorem dX10_sortByBoth_1 : decode cX10_sortByBoth 1 = .ok (.aload_n 0, 1) := by decide +kernel
theorem dX10_sortByBoth_2 : decode cX10_sortByBoth 2 = .ok (.iload_n 1, 1) := by decide +kernel
theorem dX10_sortByBoth_3 : decode cX10_sortByBoth 3 = .ok (.invokevirtual 92, 3) := by decide +kernel
theorem dX10_sortByBoth_6 : decode cX10_sortByBoth 6 = .ok (.getstatic 182, 3) := by decide +kernel
theorem dX10_sortByBoth_9 : decode cX10_sortByBoth 9 = .ok (.invokevirtual 145, 3) := by decide +kernel
theorem dX10_sortByBoth_12 : decode cX10_sortByBoth 12 = .ok (.ireturn, 1) := by decide +kernel
set_option maxRecDepth 20000 in
theorem ggX10_pour_X10_rowAt : GoodIn wsX10_pour wsX10_rowAt := goodIn_ca (goodIn_r _ [7, 8, 9, 10, 38, 39, 40, 41, 42, 43, 44, 45, 46, 47] (by decide +kernel) (by decide +kernel)) (goodIn_sub (fun _ h => List.mem_cons_of_mem _ (List.mem_append_left _ (List.mem_append_left _ (List.mem_append_right _ h)))) (by decide +kernel))
set_option maxRecDepth 20000 in
theorem gX10_pour_X10_rowAt : GoodIn wsX10_pour (wsV RX10 92 RX10 yX10_rowAt wsX10_rowAt) := goodIn_app (goodIn_of _ (by decide +kernel)) ggX10_pour_X10_rowAt
set_option maxRecDepth 20000 in
theorem ggX10_pour_X10_needUnlikeRows : GoodIn wsX10_pour wsX10_needUnlikeRows := goodIn_ca (goodIn_r _ [13, 14, 15] (by decide +kernel) (by decide +kernel)) (goodIn_sub (fun _ h => List.mem_cons_of_mem _ (List.mem_append_left _ (List.mem_append_right _ h))) (by decide +kernel))
set_option maxRecDepth 20000 in
theorem gX10_pour_X10_needUnlikeRows : GoodIn wsX10_pour (va_wsS RX10 185 yX10_needUnlikeRows wsX10_needUnlikeRows) := goodIn_app (goodIn_of _ (by decide +kernel)) ggX10_pour_X10_needUnlikeRows
set_option maxRecDepth 20000 in
theorem ggX10_pour_X10_needRoom : GoodIn wsX10_pour wsX10_needRoom := goodIn_ca (goodIn_r _ [18, 19, 20, 1, 36, 37] (by decide +kernel) (by decide +kernel)) (goodIn_sub (fun _ h => List.mem_cons_of_mem _ (List.mem_append_right _ h)) (by decide +kernel))
set_option maxRecDepth 20000 in
theorem gX10_pour_X10_needRoom : GoodIn wsX10_pour (va_wsS RX10 101 yX10_needRoom wsX10_needRoom) := goodIn_app (goodIn_of _ (by decide +kernel)) ggX10_pour_X10_needRoom
set_option maxRecDepth 20000 in
theorem ggX10_pour_X6_append : GoodIn wsX10_pour wsX6_append := goodIn_r _ [25, 26, 27, 28, 29, 24, 30, 31, 32, 33, 34, 35, 36, 37] (by decide +kernel) (by decide +kernel)
set_option maxRecDepth 20000 in
theorem gX10_pour_X6_append : GoodIn wsX10_pour (wsV RX10 192 RX6 yX6_append wsX6_append) := goodIn_app (goodIn_of _ (by decide +kernel)) ggX10_pour_X6_append
theorem dX10_pour_0 : decode cX10_pour 0 = .ok (.aload_n 0, 1) := by decide +kernel
theorem dX10_pour_1 : decode cX10_pour 1 = .ok (.iload_n 1, 1) := by decide +kernel
theorem dX10_pour_2 : decode cX10_pour 2 = .ok (.invokevirtual 92, 3) := by decide +kernel
theorem dX10_pour_5 : decode cX10_pour 5 = .ok (.astore_n 3, 1) := by decide +kernel
theorem dX10_pour_6 : decode cX10_pour 6 = .ok (.aload_n 0, 1) := by decide +kernel
theorem dX10_pour_7 : decode cX10_pour 7 = .ok (.iload_n 2, 1) := by decide +kernel
theorem dX10_pour_8 : decode cX10_pour 8 = .ok (.invokevirtual 92, 3) := by decide +kernel
theorem dX10_pour_11 : decode cX10_pour 11 = .ok (.astore 4, 2) := by decide +kernel
theorem dX10_pour_13 : decode cX10_pour 13 = .ok (.iload_n 1, 1) := by decide +kernel
theorem dX10_pour_14 : decode cX10_pour 14 = .ok (.iload_n 2, 1) := by decide +kernel
theorem dX10_pour_15 : decode cX10_pour 15 = .ok (.invokestatic 185, 3) := by decide +kernel
theorem dX10_pour_18 : decode cX10_pour 18 = .ok (.aload 4, 2) := by decide +kernel
theorem dX10_pour_20 : decode cX10_pour 20 = .ok (.aload_n 3, 1) := by decide +kernel
theorem dX10_pour_21 : decode cX10_pour 21 = .ok (.getfield 120, 3) := by decide +kernel
theorem dX10_pour_24 : decode cX10_pour 24 = .ok (.invokestatic 101, 3) := by decide +kernel
theorem dX10_pour_27 : decode cX10_pour 27 = .ok (.iconst 0, 1) := by decide +kernel
theorem dX10_pour_28 : decode cX10_pour 28 = .ok (.istore 5, 2) := by decide +kernel
theorem dX10_pour_30 : decode cX10_pour 30 = .ok (.iload 5, 2) := by decide +kernel
theorem dX10_pour_32 : decode cX10_pour 32 = .ok (.aload_n 3, 1) := by decide +kernel
theorem dX10_pour_33 : decode cX10_pour 33 = .ok (.getfield 120, 3) := by decide +kernel
theorem dX10_pour_36 : decode cX10_pour 36 = .ok (.if_icmp .ge 21, 3) := by decide +kernel
theorem dX10_pour_39 : decode cX10_pour 39 = .ok (.aload 4, 2) := by decide +kernel
theorem dX10_pour_41 : decode cX10_pour 41 = .ok (.aload_n 3, 1) := by decide +kernel
theorem dX10_pour_42 : decode cX10_pour 42 = .ok (.getfield 188, 3) := by decide +kernel
theorem dX10_pour_45 : decode cX10_pour 45 = .ok (.iload 5, 2) := by decide +kernel
theorem dX10_pour_47 : decode cX10_pour 47 = .ok (.iaload, 1) := by decide +kernel
theorem dX10_pour_48 : decode cX10_pour 48 = .ok (.invokevirtual 192, 3) := by decide +kernel
theorem dX10_pour_51 : decode cX10_pour 51 = .ok (.iinc 5 1, 3) := by decide +kernel
theorem dX10_pour_54 : decode cX10_pour 54 = .ok (.goto (-24), 3) := by decide +kernel
theorem dX10_pour_57 : decode cX10_pour 57 = .ok (.aload_n 3, 1) := by decide +kernel
theorem dX10_pour_58 : decode cX10_pour 58 = .ok (.iconst 0, 1) := by decide +kernel
theorem dX10_pour_59 : decode cX10_pour 59 = .ok (.putfield 120, 3) := by decide +kernel
theorem dX10_pour_62 : decode cX10_pour 62 = .ok (.aload 4, 2) := by decide +kernel
theorem dX10_pour_64 : decode cX10_pour 64 = .ok (.getfield 120, 3) := by decide +kernel
theorem dX10_pour_67 : decode cX10_pour 67 = .ok (.ireturn, 1) := by decide +kernel
set_option maxRecDepth 20000 in
theorem ggX10_deal_X10_rowAt : GoodIn wsX10_deal wsX10_rowAt := goodIn_ca (goodIn_r _ [7, 8, 9, 10, 38, 39, 40, 41, 42, 43, 44, 45, 46, 47] (by decide +kernel) (by decide +kernel)) (goodIn_sub (fun _ h => List.mem_cons_of_mem _ (List.mem_append_left _ (List.mem_append_left _ (List.mem_append_right _ h)))) (by decide +kernel))
set_option maxRecDepth 20000 in
theorem gX10_deal_X10_rowAt : GoodIn wsX10_deal (wsV RX10 92 RX10 yX10_rowAt wsX10_rowAt) := goodIn_app (goodIn_of _ (by decide +kernel)) ggX10_deal_X10_rowAt
set_option maxRecDepth 20000 in
theorem ggX10_deal_X10_needUnlikeRows : GoodIn wsX10_deal wsX10_needUnlikeRows := goodIn_ca (goodIn_r _ [13, 14, 15] (by decide +kernel) (by decide +kernel)) (goodIn_sub (fun _ h => List.mem_cons_of_mem _ (List.mem_append_left _ (List.mem_append_right _ h))) (by decide +kernel))
set_option maxRecDepth 20000 in
theorem gX10_deal_X10_needUnlikeRows : GoodIn wsX10_deal (va_wsS RX10 185 yX10_needUnlikeRows wsX10_needUnlikeRows) := goodIn_app (goodIn_of _ (by decide +kernel)) ggX10_deal_X10_needUnlikeRows
set_option maxRecDepth 20000 in
theorem ggX10_deal_X10_needRoom : GoodIn wsX10_deal wsX10_needRoom := goodIn_ca (goodIn_r _ [18, 19, 20, 1, 36, 37] (by decide +kernel) (by decide +kernel)) (goodIn_sub (fun _ h => List.mem_cons_of_mem _ (List.mem_append_right _ h)) (by decide +kernel))
set_option maxRecDepth 20000 in
theorem gX10_deal_X10_needRoom : GoodIn wsX10_deal (va_wsS RX10 101 yX10_needRoom wsX10_needRoom) := goodIn_app (goodIn_of _ (by decide +kernel)) ggX10_deal_X10_needRoom
set_option maxRecDepth 20000 in
theorem ggX10_deal_X6_append : GoodIn wsX10_deal wsX6_append := goodIn_r _ [25, 26, 27, 28, 29, 24, 30, 31, 32, 33, 34, 35, 36, 37] (by decide +kernel) (by decide +kernel)
set_option maxRecDepth 20000 in
theorem gX10_deal_X6_append : GoodIn wsX10_deal (wsV RX10 192 RX6 yX6_append wsX6_append) := goodIn_app (goodIn_of _ (by decide +kernel)) ggX10_deal_X6_append
theorem dX10_deal_0 : decode cX10_deal 0 = .ok (.aload_n 0, 1) := by decide +kernel
theorem dX10_deal_1 : decode cX10_deal 1 = .ok (.iload_n 1, 1) := by decide +kernel
theorem dX10_deal_2 : decode cX10_deal 2 = .ok (.invokevirtual 92, 3) := by decide +kernel
theorem dX10_deal_5 : decode cX10_deal 5 = .ok (.astore_n 3, 1) := by decide +kernel
theorem dX10_deal_6 : decode cX10_deal 6 = .ok (.aload_n 0, 1) := by decide +kernel
theorem dX10_deal_7 : decode cX10_deal 7 = .ok (.iload_n 2, 1) := by decide +kernel
theorem dX10_deal_8 : decode cX10_deal 8 = .ok (.invokevirtual 92, 3) := by decide +kernel
theorem dX10_deal_11 : decode cX10_deal 11 = .ok (.astore 4, 2) := by decide +kernel
theorem dX10_deal_13 : decode cX10_deal 13 = .ok (.iload_n 1, 1) := by decide +kernel
theorem dX10_deal_14 : decode cX10_deal 14 = .ok (.iload_n 2, 1) := by decide +kernel
theorem dX10_deal_15 : decode cX10_deal 15 = .ok (.invokestatic 185, 3) := by decide +kernel
theorem dX10_deal_18 : decode cX10_deal 18 = .ok (.aload_n 3, 1) := by decide +kernel
theorem dX10_deal_19 : decode cX10_deal 19 = .ok (.getfield 120, 3) := by decide +kernel
theorem dX10_deal_22 : decode cX10_deal 22 = .ok (.iconst 2, 1) := by decide +kernel
theorem dX10_deal_23 : decode cX10_deal 23 = .ok (.idiv, 1) := by decide +kernel
theorem dX10_deal_24 : decode cX10_deal 24 = .ok (.istore 5, 2) := by decide +kernel
theorem dX10_deal_26 : decode cX10_deal 26 = .ok (.aload 4, 2) := by decide +kernel
theorem dX10_deal_28 : decode cX10_deal 28 = .ok (.iload 5, 2) := by decide +kernel
theorem dX10_deal_30 : decode cX10_deal 30 = .ok (.invokestatic 101, 3) := by decide +kernel
theorem dX10_deal_33 : decode cX10_deal 33 = .ok (.iconst 0, 1) := by decide +kernel
theorem dX10_deal_34 : decode cX10_deal 34 = .ok (.istore 6, 2) := by decide +kernel
theorem dX10_deal_36 : decode cX10_deal 36 = .ok (.iconst 0, 1) := by decide +kernel
theorem dX10_deal_37 : decode cX10_deal 37 = .ok (.istore 7, 2) := by decide +kernel
theorem dX10_deal_39 : decode cX10_deal 39 = .ok (.iload 7, 2) := by decide +kernel
theorem dX10_deal_41 : decode cX10_deal 41 = .ok (.aload_n 3, 1) := by decide +kernel
theorem dX10_deal_42 : decode cX10_deal 42 = .ok (.getfield 120, 3) := by decide +kernel
theorem dX10_deal_45 : decode cX10_deal 45 = .ok (.if_icmp .ge 49, 3) := by decide +kernel
theorem dX10_deal_48 : decode cX10_deal 48 = .ok (.iload 7, 2) := by decide +kernel
theorem dX10_deal_50 : decode cX10_deal 50 = .ok (.iconst 2, 1) := by decide +kernel
theorem dX10_deal_51 : decode cX10_deal 51 = .ok (.irem, 1) := by decide +kernel
theorem dX10_deal_52 : decode cX10_deal 52 = .ok (.iconst 1, 1) := by decide +kernel
theorem dX10_deal_53 : decode cX10_deal 53 = .ok (.if_icmp .ne 18, 3) := by decide +kernel
theorem dX10_deal_56 : decode cX10_deal 56 = .ok (.aload 4, 2) := by decide +kernel
theorem dX10_deal_58 : decode cX10_deal 58 = .ok (.aload_n 3, 1) := by decide +kernel
theorem dX10_deal_59 : decode cX10_deal 59 = .ok (.getfield 188, 3) := by decide +kernel
theorem dX10_deal_62 : decode cX10_deal 62 = .ok (.iload 7, 2) := by decide +kernel
theorem dX10_deal_64 : decode cX10_deal 64 = .ok (.iaload, 1) := by decide +kernel
theorem dX10_deal_65 : decode cX10_deal 65 = .ok (.invokevirtual 192, 3) := by decide +kernel
theorem dX10_deal_68 : decode cX10_deal 68 = .ok (.goto 20, 3) := by decide +kernel
theorem dX10_deal_71 : decode cX10_deal 71 = .ok (.aload_n 3, 1) := by decide +kernel
theorem dX10_deal_72 : decode cX10_deal 72 = .ok (.getfield 188, 3) := by decide +kernel
theorem dX10_deal_75 : decode cX10_deal 75 = .ok (.iload 6, 2) := by decide +kernel
theorem dX10_deal_77 : decode cX10_deal 77 = .ok (.aload_n 3, 1) := by decide +kernel
theorem dX10_deal_78 : decode cX10_deal 78 = .ok (.getfield 188, 3) := by decide +kernel
theorem dX10_deal_81 : decode cX10_deal 81 = .ok (.iload 7, 2) := by decide +kernel
theorem dX10_deal_83 : decode cX10_deal 83 = .ok (.iaload, 1) := by decide +kernel
theorem dX10_deal_84 : decode cX10_deal 84 = .ok (.iastore, 1) := by decide +kernel
theorem dX10_deal_85 : decode cX10_deal 85 = .ok (.iinc 6 1, 3) := by decide +kernel
theorem dX10_deal_88 : decode cX10_deal 88 = .ok (.iinc 7 1, 3) := by decide +kernel
theorem dX10_deal_91 : decode cX10_deal 91 = .ok (.goto (-52), 3) := by decide +kernel
theorem dX10_deal_94 : decode cX10_deal 94 = .ok (.aload_n 3, 1) := by decide +kernel
theorem dX10_deal_95 : decode cX10_deal 95 = .ok (.iload 6, 2) := by decide +kernel
theorem dX10_deal_97 : decode cX10_deal 97 = .ok (.putfield 120, 3) := by decide +kernel
theorem dX10_deal_100 : decode cX10_deal 100 = .ok (.iload 5, 2) := by decide +kernel
theorem dX10_deal_102 : decode cX10_deal 102 = .ok (.ireturn, 1) := by decide +kernel
set_option maxRecDepth 20000 in
theorem ggX10_turn_X10_rowAt : GoodIn wsX10_turn wsX10_rowAt := goodIn_ca (goodIn_r _ [6, 7, 8, 9, 19, 20, 21, 22, 23, 24, 25, 26, 27, 28] (by decide +kernel) (by decide +kernel)) (goodIn_sub (fun _ h => List.mem_cons_of_mem _ (List.mem_append_right _ h)) (by decide +kernel))
set_option maxRecDepth 20000 in
theorem gX10_turn_X10_rowAt : GoodIn wsX10_turn (wsV RX10 92 RX10 yX10_rowAt wsX10_rowAt) := goodIn_app (goodIn_of _ (by decide +kernel)) ggX10_turn_X10_rowAt
set_option maxRecDepth 20000 in
theorem ggX10_turn_X6_reverse : GoodIn wsX10_turn wsX6_reverse := goodIn_r _ [14, 15, 16, 17, 18] (by decide +kernel) (by decide +kernel)
set_option maxRecDepth 20000 in
theorem gX10_turn_X6_reverse : GoodIn wsX10_turn (wsV RX10 194 RX6 yX6_reverse wsX6_reverse) := goodIn_app (goodIn_of _ (by decide +kernel)) ggX10_turn_X6_reverse
theorem dX10_turn_0 : decode cX10_turn 0 = .ok (.aload_n 0, 1) := by decide +kernel
theorem dX10_turn_1 : decode cX10_turn 1 = .ok (.iload_n 1, 1) := by decide +kernel
theorem dX10_turn_2 : decode cX10_turn 2 = .ok (.invokevirtual 92, 3) := by decide +kernel
theorem dX10_turn_5 : decode cX10_turn 5 = .ok (.astore_n 2, 1) := by decide +kernel
theorem dX10_turn_6 : decode cX10_turn 6 = .ok (.aload_n 2, 1) := by decide +kernel
theorem dX10_turn_7 : decode cX10_turn 7 = .ok (.invokevirtual 194, 3) := by decide +kernel
theorem dX10_turn_10 : decode cX10_turn 10 = .ok (.aload_n 2, 1) := by decide +kernel
theorem dX10_turn_11 : decode cX10_turn 11 = .ok (.getfield 120, 3) := by decide +kernel
theorem dX10_turn_14 : decode cX10_turn 14 = .ok (.ireturn, 1) := by decide +kernel
set_option maxRecDepth 20000 in
theorem ggX10_move_X10_rowAt : GoodIn wsX10_move wsX10_rowAt := goodIn_ca (goodIn_r _ [5, 6, 7, 8, 28, 29, 30, 31, 32, 33, 34, 35, 36, 37] (by decide +kernel) (by decide +kernel)) (goodIn_sub (fun _ h => List.mem_cons_of_mem _ (List.mem_append_right _ h)) (by decide +kernel))
set_option maxRecDepth 20000 in
theorem gX10_move_X10_rowAt : GoodIn wsX10_move (wsV RX10 92 RX10 yX10_rowAt wsX10_rowAt) := goodIn_app (goodIn_of _ (by decide +kernel)) ggX10_move_X10_rowAt
set_option maxRecDepth 20000 in
theorem ggX10_move_X10_needPlace : GoodIn wsX10_move wsX10_needPlace := goodIn_ca (goodIn_r _ [11, 6, 7, 12, 38, 39] (by decide +kernel) (by decide +kernel)) (goodIn_sub (fun _ h => List.mem_cons_of_mem _ (List.mem_append_right _ h)) (by decide +kernel))
set_option maxRecDepth 20000 in
theorem gX10_move_X10_needPlace : GoodIn wsX10_move (va_wsS RX10 197 yX10_needPlace wsX10_needPlace) := goodIn_app (goodIn_of _ (by decide +kernel)) ggX10_move_X10_needPlace
set_option maxRecDepth 20000 in
theorem ggX10_move_X6_takeOut : GoodIn wsX10_move wsX6_takeOut := goodIn_r _ [17, 18, 19, 20, 21, 22, 23, 38, 39] (by decide +kernel) (by decide +kernel)
set_option maxRecDepth 20000 in
theorem gX10_move_X6_takeOut : GoodIn wsX10_move (wsV RX10 200 RX6 yX6_takeOut wsX6_takeOut) := goodIn_app (goodIn_of _ (by decide +kernel)) ggX10_move_X6_takeOut
set_option maxRecDepth 20000 in
theorem ggX10_move_X6_insert : GoodIn wsX10_move wsX6_insert := goodIn_r _ [27, 18, 19, 20, 21, 22, 23, 38, 39] (by decide +kernel) (by decide +kernel)
set_option maxRecDepth 20000 in
theorem gX10_move_X6_insert : GoodIn wsX10_move (wsV RX10 132 RX6 yX6_insert wsX6_insert) := goodIn_app (goodIn_of _ (by decide +kernel)) ggX10_move_X6_insert
theorem dX10_move_0 : decode cX10_move 0 = .ok (.aload_n 0, 1) := by decide +kernel
theorem dX10_move_1 : decode cX10_move 1 = .ok (.iload_n 1, 1) := by decide +kernel
theorem dX10_move_2 : decode cX10_move 2 = .ok (.invokevirtual 92, 3) := by decide +kernel
theorem dX10_move_5 : decode cX10_move 5 = .ok (.astore 4, 2) := by decide +kernel
theorem dX10_move_7 : decode cX10_move 7 = .ok (.aload 4, 2) := by decide +kernel
theorem dX10_move_9 : decode cX10_move 9 = .ok (.iload_n 2, 1) := by decide +kernel
theorem dX10_move_10 : decode cX10_move 10 = .ok (.invokestatic 197, 3) := by decide +kernel
theorem dX10_move_13 : decode cX10_move 13 = .ok (.aload 4, 2) := by decide +kernel
theorem dX10_move_15 : decode cX10_move 15 = .ok (.iload_n 3, 1) := by decide +kernel
theorem dX10_move_16 : decode cX10_move 16 = .ok (.invokestatic 197, 3) := by decide +kernel
theorem dX10_move_19 : decode cX10_move 19 = .ok (.aload 4, 2) := by decide +kernel
theorem dX10_move_21 : decode cX10_move 21 = .ok (.iload_n 2, 1) := by decide +kernel
theorem dX10_move_22 : decode cX10_move 22 = .ok (.invokevirtual 200, 3) := by decide +kernel
theorem dX10_move_25 : decode cX10_move 25 = .ok (.istore 5, 2) := by decide +kernel
theorem dX10_move_27 : decode cX10_move 27 = .ok (.aload 4, 2) := by decide +kernel
theorem dX10_move_29 : decode cX10_move 29 = .ok (.iload_n 3, 1) := by decide +kernel
theorem dX10_move_30 : decode cX10_move 30 = .ok (.iload 5, 2) := by decide +kernel
theorem dX10_move_32 : decode cX10_move 32 = .ok (.invokevirtual 132, 3) := by decide +kernel
theorem dX10_move_35 : decode cX10_move 35 = .ok (.iload 5, 2) := by decide +kernel
theorem dX10_move_37 : decode cX10_move 37 = .ok (.ireturn, 1) := by decide +kernel
set_option maxRecDepth 20000 in
theorem ggX10_thin_X10_rowAt : GoodIn wsX10_thin wsX10_rowAt := goodIn_ca (goodIn_r _ [8, 9, 10, 11, 21, 22, 23, 24, 25, 26, 27, 28, 29, 30] (by decide +kernel) (by decide +kernel)) (goodIn_sub (fun _ h => List.mem_cons_of_mem _ (List.mem_append_right _ h)) (by decide +kernel))
set_option maxRecDepth 20000 in
theorem gX10_thin_X10_rowAt : GoodIn wsX10_thin (wsV RX10 92 RX10 yX10_rowAt wsX10_rowAt) := goodIn_app (goodIn_of _ (by decide +kernel)) ggX10_thin_X10_rowAt
set_option maxRecDepth 20000 in
theorem ggX10_thin_X1_secondOf : GoodIn wsX10_thin wsX1_secondOf := goodIn_r _ [16, 17, 18, 31, 32, 33] (by decide +kernel) (by decide +kernel)
set_option maxRecDepth 20000 in
theorem gX10_thin_X1_secondOf : GoodIn wsX10_thin (wsV RX10 204 RX1 yX1_secondOf wsX1_secondOf) := goodIn_app (goodIn_of _ (by decide +kernel)) ggX10_thin_X1_secondOf
theorem dX10_thin_0 : decode cX10_thin 0 = .ok (.aload_n 0, 1) := by decide +kernel
theorem dX10_thin_1 : decode cX10_thin 1 = .ok (.iload_n 1, 1) := by decide +kernel
theorem dX10_thin_2 : decode cX10_thin 2 = .ok (.invokevirtual 92, 3) := by decide +kernel
theorem dX10_thin_5 : decode cX10_thin 5 = .ok (.astore_n 3, 1) := by decide +kernel
theorem dX10_thin_6 : decode cX10_thin 6 = .ok (.aload_n 3, 1) := by decide +kernel
theorem dX10_thin_7 : decode cX10_thin 7 = .ok (.getfield 120, 3) := by decide +kernel
theorem dX10_thin_10 : decode cX10_thin 10 = .ok (.istore 4, 2) := by decide +kernel
theorem dX10_thin_12 : decode cX10_thin 12 = .ok (.iconst 0, 1) := by decide +kernel
theorem dX10_thin_13 : decode cX10_thin 13 = .ok (.istore 5, 2) := by decide +kernel
theorem dX10_thin_15 : decode cX10_thin 15 = .ok (.iconst 0, 1) := by decide +kernel
theorem dX10_thin_16 : decode cX10_thin 16 = .ok (.istore 6, 2) := by decide +kernel
theorem dX10_thin_18 : decode cX10_thin 18 = .ok (.iload 6, 2) := by decide +kernel
theorem dX10_thin_20 : decode cX10_thin 20 = .ok (.iload 4, 2) := by decide +kernel
theorem dX10_thin_22 : decode cX10_thin 22 = .ok (.if_icmp .ge 43, 3) := by decide +kernel
theorem dX10_thin_25 : decode cX10_thin 25 = .ok (.aload_n 3, 1) := by decide +kernel
theorem dX10_thin_26 : decode cX10_thin 26 = .ok (.getfield 188, 3) := by decide +kernel
theorem dX10_thin_29 : decode cX10_thin 29 = .ok (.iload 6, 2) := by decide +kernel
theorem dX10_thin_31 : decode cX10_thin 31 = .ok (.iaload, 1) := by decide +kernel
theorem dX10_thin_32 : decode cX10_thin 32 = .ok (.istore 7, 2) := by decide +kernel
theorem dX10_thin_34 : decode cX10_thin 34 = .ok (.aload_n 0, 1) := by decide +kernel
theorem dX10_thin_35 : decode cX10_thin 35 = .ok (.getfield 12, 3) := by decide +kernel
theorem dX10_thin_38 : decode cX10_thin 38 = .ok (.iload 7, 2) := by decide +kernel
theorem dX10_thin_40 : decode cX10_thin 40 = .ok (.invokevirtual 204, 3) := by decide +kernel
theorem dX10_thin_43 : decode cX10_thin 43 = .ok (.iload_n 2, 1) := by decide +kernel
theorem dX10_thin_44 : decode cX10_thin 44 = .ok (.if_icmp .eq 15, 3) := by decide +kernel
theorem dX10_thin_47 : decode cX10_thin 47 = .ok (.aload_n 3, 1) := by decide +kernel
theorem dX10_thin_48 : decode cX10_thin 48 = .ok (.getfield 188, 3) := by decide +kernel
theorem dX10_thin_51 : decode cX10_thin 51 = .ok (.iload 5, 2) := by decide +kernel
theorem dX10_thin_53 : decode cX10_thin 53 = .ok (.iload 7, 2) := by decide +kernel
theorem dX10_thin_55 : decode cX10_thin 55 = .ok (.iastore, 1) := by decide +kernel
theorem dX10_thin_56 : decode cX10_thin 56 = .ok (.iinc 5 1, 3) := by decide +kernel
theorem dX10_thin_59 : decode cX10_thin 59 = .ok (.iinc 6 1, 3) := by decide +kernel
theorem dX10_thin_62 : decode cX10_thin 62 = .ok (.goto (-44), 3) := by decide +kernel
theorem dX10_thin_65 : decode cX10_thin 65 = .ok (.aload_n 3, 1) := by decide +kernel
theorem dX10_thin_66 : decode cX10_thin 66 = .ok (.iload 5, 2) := by decide +kernel
theorem dX10_thin_68 : decode cX10_thin 68 = .ok (.putfield 120, 3) := by decide +kernel
theorem dX10_thin_71 : decode cX10_thin 71 = .ok (.iload 4, 2) := by decide +kernel
theorem dX10_thin_73 : decode cX10_thin 73 = .ok (.iload 5, 2) := by decide +kernel
theorem dX10_thin_75 : decode cX10_thin 75 = .ok (.isub, 1) := by decide +kernel
theorem dX10_thin_76 : decode cX10_thin 76 = .ok (.ireturn, 1) := by decide +kernel
set_option maxRecDepth 20000 in
theorem ggX10_single_X10_rowAt : GoodIn wsX10_single wsX10_rowAt := goodIn_ca (goodIn_r _ [8, 9, 10, 11, 21, 22, 23, 24, 25, 26, 27, 28, 29, 30] (by decide +kernel) (by decide +kernel)) (goodIn_sub (fun _ h => List.mem_cons_of_mem _ (List.mem_append_right _ h)) (by decide +kernel))
set_option maxRecDepth 20000 in
theorem gX10_single_X10_rowAt : GoodIn wsX10_single (wsV RX10 92 RX10 yX10_rowAt wsX10_rowAt) := goodIn_app (goodIn_of _ (by decide +kernel)) ggX10_single_X10_rowAt
set_option maxRecDepth 20000 in
theorem ggX10_single_X1_firstOf : GoodIn wsX10_single wsX1_firstOf := goodIn_r _ [16, 17, 18, 31, 32, 33] (by decide +kernel) (by decide +kernel)
set_option maxRecDepth 20000 in
theorem gX10_single_X1_firstOf : GoodIn wsX10_single (wsV RX10 207 RX1 yX1_firstOf wsX1_firstOf) := goodIn_app (goodIn_of _ (by decide +kernel)) ggX10_single_X1_firstOf
theorem dX10_single_0 : decode cX10_single 0 = .ok (.aload_n 0, 1) := by decide +kernel
theorem dX10_single_1 : decode cX10_single 1 = .ok (.iload_n 1, 1) := by decide +kernel
theorem dX10_single_2 : decode cX10_single 2 = .ok (.invokevirtual 92, 3) := by decide +kernel
theorem dX10_single_5 : decode cX10_single 5 = .ok (.astore_n 2, 1) := by decide +kernel
theorem dX10_single_6 : decode cX10_single 6 = .ok (.aload_n 2, 1) := by decide +kernel
theorem dX10_single_7 : decode cX10_single 7 = .ok (.getfield 120, 3) := by decide +kernel
theorem dX10_single_10 : decode cX10_single 10 = .ok (.istore_n 3, 1) := by decide +kernel
theorem dX10_single_11 : decode cX10_single 11 = .ok (.iconst 0, 1) := by decide +kernel
theorem dX10_single_12 : decode cX10_single 12 = .ok (.istore 4, 2) := by decide +kernel
theorem dX10_single_14 : decode cX10_single 14 = .ok (.iconst 0, 1) := by decide +kernel
theorem dX10_single_15 : decode cX10_single 15 = .ok (.istore 5, 2) := by decide +kernel
theorem dX10_single_17 : decode cX10_single 17 = .ok (.iload 5, 2) := by decide +kernel
theorem dX10_single_19 : decode cX10_single 19 = .ok (.iload_n 3, 1) := by decide +kernel
theorem dX10_single_20 : decode cX10_single 20 = .ok (.if_icmp .ge 63, 3) := by decide +kernel
theorem dX10_single_23 : decode cX10_single 23 = .ok (.aload_n 2, 1) := by decide +kernel
theorem dX10_single_24 : decode cX10_single 24 = .ok (.getfield 188, 3) := by decide +kernel
theorem dX10_single_27 : decode cX10_single 27 = .ok (.iload 5, 2) := by decide +kernel
theorem dX10_single_29 : decode cX10_single 29 = .ok (.iaload, 1) := by decide +kernel
theorem dX10_single_30 : decode cX10_single 30 = .ok (.istore 6, 2) := by decide +kernel
theorem dX10_single_32 : decode cX10_single 32 = .ok (.iload 4, 2) := by decide +kernel
theorem dX10_single_34 : decode cX10_single 34 = .ok (.ifCond .eq 31, 3) := by decide +kernel
theorem dX10_single_37 : decode cX10_single 37 = .ok (.aload_n 0, 1) := by decide +kernel
theorem dX10_single_38 : decode cX10_single 38 = .ok (.getfield 12, 3) := by decide +kernel
theorem dX10_single_41 : decode cX10_single 41 = .ok (.iload 6, 2) := by decide +kernel
theorem dX10_single_43 : decode cX10_single 43 = .ok (.invokevirtual 207, 3) := by decide +kernel
theorem dX10_single_46 : decode cX10_single 46 = .ok (.aload_n 0, 1) := by decide +kernel
theorem dX10_single_47 : decode cX10_single 47 = .ok (.getfield 12, 3) := by decide +kernel
theorem dX10_single_50 : decode cX10_single 50 = .ok (.aload_n 2, 1) := by decide +kernel
theorem dX10_single_51 : decode cX10_single 51 = .ok (.getfield 188, 3) := by decide +kernel
theorem dX10_single_54 : decode cX10_single 54 = .ok (.iload 4, 2) := by decide +kernel
theorem dX10_single_56 : decode cX10_single 56 = .ok (.iconst 1, 1) := by decide +kernel
theorem dX10_single_57 : decode cX10_single 57 = .ok (.isub, 1) := by decide +kernel
theorem dX10_single_58 : decode cX10_single 58 = .ok (.iaload, 1) := by decide +kernel
theorem dX10_single_59 : decode cX10_single 59 = .ok (.invokevirtual 207, 3) := by decide +kernel
theorem dX10_single_62 : decode cX10_single 62 = .ok (.if_icmp .eq 15, 3) := by decide +kernel
theorem dX10_single_65 : decode cX10_single 65 = .ok (.aload_n 2, 1) := by decide +kernel
theorem dX10_single_66 : decode cX10_single 66 = .ok (.getfield 188, 3) := by decide +kernel
theorem dX10_single_69 : decode cX10_single 69 = .ok (.iload 4, 2) := by decide +kernel
theorem dX10_single_71 : decode cX10_single 71 = .ok (.iload 6, 2) := by decide +kernel
theorem dX10_single_73 : decode cX10_single 73 = .ok (.iastore, 1) := by decide +kernel
theorem dX10_single_74 : decode cX10_single 74 = .ok (.iinc 4 1, 3) := by decide +kernel
theorem dX10_single_77 : decode cX10_single 77 = .ok (.iinc 5 1, 3) := by decide +kernel
theorem dX10_single_80 : decode cX10_single 80 = .ok (.goto (-63), 3) := by decide +kernel
theorem dX10_single_83 : decode cX10_single 83 = .ok (.aload_n 2, 1) := by decide +kernel
theorem dX10_single_84 : decode cX10_single 84 = .ok (.iload 4, 2) := by decide +kernel
theorem dX10_single_86 : decode cX10_single 86 = .ok (.putfield 120, 3) := by decide +kernel
theorem dX10_single_89 : decode cX10_single 89 = .ok (.iload_n 3, 1) := by decide +kernel
theorem dX10_single_90 : decode cX10_single 90 = .ok (.iload 4, 2) := by decide +kernel
theorem dX10_single_92 : decode cX10_single 92 = .ok (.isub, 1) := by decide +kernel
theorem dX10_single_93 : decode cX10_single 93 = .ok (.ireturn, 1) := by decide +kernel
set_option maxRecDepth 20000 in
theorem ggX10_keep_X10_rowAt : GoodIn wsX10_keep wsX10_rowAt := goodIn_ca (goodIn_r _ [8, 9, 10, 11, 30, 31, 32, 33, 34, 35, 36, 37, 38, 39] (by decide +kernel) (by decide +kernel)) (goodIn_sub (fun _ h => List.mem_cons_of_mem _ (List.mem_append_right _ h)) (by decide +kernel))
set_option maxRecDepth 20000 in
theorem gX10_keep_X10_rowAt : GoodIn wsX10_keep (wsV RX10 92 RX10 yX10_rowAt wsX10_rowAt) := goodIn_app (goodIn_of _ (by decide +kernel)) ggX10_keep_X10_rowAt
set_option maxRecDepth 20000 in
theorem ggX10_keep_X6_become : GoodIn wsX10_keep wsX6_become := goodIn_r _ [16, 17, 18, 19, 20, 21, 22, 23, 24, 25, 26, 27, 28, 29, 40, 41] (by decide +kernel) (by decide +kernel)
set_option maxRecDepth 20000 in
theorem gX10_keep_X6_become : GoodIn wsX10_keep (wsV RX10 210 RX6 yX6_become wsX6_become) := goodIn_app (goodIn_of _ (by decide +kernel)) ggX10_keep_X6_become
theorem dX10_keep_0 : decode cX10_keep 0 = .ok (.aload_n 0, 1) := by decide +kernel
theorem dX10_keep_1 : decode cX10_keep 1 = .ok (.iload_n 1, 1) := by decide +kernel
theorem dX10_keep_2 : decode cX10_keep 2 = .ok (.invokevirtual 92, 3) := by decide +kernel
theorem dX10_keep_5 : decode cX10_keep 5 = .ok (.astore_n 2, 1) := by decide +kernel
theorem dX10_keep_6 : decode cX10_keep 6 = .ok (.aload_n 0, 1) := by decide +kernel
theorem dX10_keep_7 : decode cX10_keep 7 = .ok (.getfield 22, 3) := by decide +kernel
theorem dX10_keep_10 : decode cX10_keep 10 = .ok (.iload_n 1, 1) := by decide +kernel
theorem dX10_keep_11 : decode cX10_keep 11 = .ok (.aaload, 1) := by decide +kernel
theorem dX10_keep_12 : decode cX10_keep 12 = .ok (.aload_n 2, 1) := by decide +kernel
theorem dX10_keep_13 : decode cX10_keep 13 = .ok (.invokevirtual 210, 3) := by decide +kernel
theorem dX10_keep_16 : decode cX10_keep 16 = .ok (.pop, 1) := by decide +kernel
theorem dX10_keep_17 : decode cX10_keep 17 = .ok (.aload_n 0, 1) := by decide +kernel
theorem dX10_keep_18 : decode cX10_keep 18 = .ok (.getfield 25, 3) := by decide +kernel
theorem dX10_keep_21 : decode cX10_keep 21 = .ok (.iload_n 1, 1) := by decide +kernel
theorem dX10_keep_22 : decode cX10_keep 22 = .ok (.iconst 1, 1) := by decide +kernel
theorem dX10_keep_23 : decode cX10_keep 23 = .ok (.bastore, 1) := by decide +kernel
theorem dX10_keep_24 : decode cX10_keep 24 = .ok (.aload_n 2, 1) := by decide +kernel
theorem dX10_keep_25 : decode cX10_keep 25 = .ok (.getfield 120, 3) := by decide +kernel
theorem dX10_keep_28 : decode cX10_keep 28 = .ok (.ireturn, 1) := by decide +kernel
set_option maxRecDepth 20000 in
theorem ggX10_restore_X10_rowAt : GoodIn wsX10_restore wsX10_rowAt := goodIn_ca (goodIn_r _ [9, 10, 11, 12, 31, 32, 33, 34, 35, 36, 37, 38, 39, 40] (by decide +kernel) (by decide +kernel)) (goodIn_sub (fun _ h => List.mem_cons_of_mem _ (List.mem_append_right _ h)) (by decide +kernel))
set_option maxRecDepth 20000 in
theorem gX10_restore_X10_rowAt : GoodIn wsX10_restore (wsV RX10 92 RX10 yX10_rowAt wsX10_rowAt) := goodIn_app (goodIn_of _ (by decide +kernel)) ggX10_restore_X10_rowAt
set_option maxRecDepth 20000 in
theorem ggX10_restore_X6_become : GoodIn wsX10_restore wsX6_become := goodIn_r _ [17, 18, 19, 20, 21, 22, 23, 24, 25, 26, 27, 28, 29, 30, 41, 42] (by decide +kernel) (by decide +kernel)
set_option maxRecDepth 20000 in
theorem gX10_restore_X6_become : GoodIn wsX10_restore (wsV RX10 210 RX6 yX6_become wsX6_become) := goodIn_app (goodIn_of _ (by decide +kernel)) ggX10_restore_X6_become
theorem dX10_restore_0 : decode cX10_restore 0 = .ok (.aload_n 0, 1) := by decide +kernel
theorem dX10_restore_1 : decode cX10_restore 1 = .ok (.iload_n 1, 1) := by decide +kernel
theorem dX10_restore_2 : decode cX10_restore 2 = .ok (.invokevirtual 92, 3) := by decide +kernel
theorem dX10_restore_5 : decode cX10_restore 5 = .ok (.astore_n 2, 1) := by decide +kernel
theorem dX10_restore_6 : decode cX10_restore 6 = .ok (.aload_n 0, 1) := by decide +kernel
theorem dX10_restore_7 : decode cX10_restore 7 = .ok (.getfield 25, 3) := by decide +kernel
theorem dX10_restore_10 : decode cX10_restore 10 = .ok (.iload_n 1, 1) := by decide +kernel
theorem dX10_restore_11 : decode cX10_restore 11 = .ok (.baload, 1) := by decide +kernel
theorem dX10_restore_12 : decode cX10_restore 12 = .ok (.ifCond .ne 13, 3) := by decide +kernel
theorem dX10_restore_15 : decode cX10_restore 15 = .ok (.new 77, 3) := by decide +kernel
theorem dX10_restore_18 : decode cX10_restore 18 = .ok (.dup, 1) := by decide +kernel
theorem dX10_restore_19 : decode cX10_restore 19 = .ok (.ldc 214, 2) := by decide +kernel
theorem dX10_restore_21 : decode cX10_restore 21 = .ok (.invokespecial 81, 3) := by decide +kernel
theorem dX10_restore_24 : decode cX10_restore 24 = .ok (.athrow, 1) := by decide +kernel
theorem dX10_restore_25 : decode cX10_restore 25 = .ok (.aload_n 2, 1) := by decide +kernel
theorem dX10_restore_26 : decode cX10_restore 26 = .ok (.aload_n 0, 1) := by decide +kernel
theorem dX10_restore_27 : decode cX10_restore 27 = .ok (.getfield 22, 3) := by decide +kernel
theorem dX10_restore_30 : decode cX10_restore 30 = .ok (.iload_n 1, 1) := by decide +kernel
theorem dX10_restore_31 : decode cX10_restore 31 = .ok (.aaload, 1) := by decide +kernel
theorem dX10_restore_32 : decode cX10_restore 32 = .ok (.invokevirtual 210, 3) := by decide +kernel
theorem dX10_restore_35 : decode cX10_restore 35 = .ok (.ireturn, 1) := by decide +kernel
set_option maxRecDepth 20000 in
theorem ggX10_count_X10_rowAt : GoodIn wsX10_count wsX10_rowAt := goodIn_ca (goodIn_r _ [6, 7, 8, 9, 12, 13, 14, 15, 16, 17, 18, 19, 20, 21] (by decide +kernel) (by decide +kernel)) (goodIn_sub (fun _ h => List.mem_cons_of_mem _ (List.mem_append_right _ h)) (by decide +kernel))
set_option maxRecDepth 20000 in
theorem gX10_count_X10_rowAt : GoodIn wsX10_count (wsV RX10 92 RX10 yX10_rowAt wsX10_rowAt) := goodIn_app (goodIn_of _ (by decide +kernel)) ggX10_count_X10_rowAt
theorem dX10_count_0 : decode cX10_count 0 = .ok (.aload_n 0, 1) := by decide +kernel
theorem dX10_count_1 : decode cX10_count 1 = .ok (.iload_n 1, 1) := by decide +kernel
theorem dX10_count_2 : decode cX10_count 2 = .ok (.invokevirtual 92, 3) := by decide +kernel
theorem dX10_count_5 : decode cX10_count 5 = .ok (.getfield 120, 3) := by decide +kernel
theorem dX10_count_8 : decode cX10_count 8 = .ok (.ireturn, 1) := by decide +kernel
set_option maxRecDepth 20000 in
theorem ggX10_cardAt_X10_rowAt : GoodIn wsX10_cardAt wsX10_rowAt := goodIn_ca (goodIn_r _ [9, 10, 11, 12, 31, 32, 33, 34, 35, 36, 37, 38, 39, 40] (by decide +kernel) (by decide +kernel)) (goodIn_sub (fun _ h => List.mem_cons_of_mem _ (List.mem_append_right _ h)) (by decide +kernel))
set_option maxRecDepth 20000 in
theorem gX10_cardAt_X10_rowAt : GoodIn wsX10_cardAt (wsV RX10 92 RX10 yX10_rowAt wsX10_rowAt) := goodIn_app (goodIn_of _ (by decide +kernel)) ggX10_cardAt_X10_rowAt
set_option maxRecDepth 20000 in
theorem ggX10_cardAt_X10_needPlace : GoodIn wsX10_cardAt wsX10_needPlace := goodIn_ca (goodIn_r _ [15, 10, 11, 16, 29, 30] (by decide +kernel) (by decide +kernel)) (goodIn_sub (fun _ h => List.mem_cons_of_mem _ (List.mem_append_right _ h)) (by decide +kernel))
set_option maxRecDepth 20000 in
theorem gX10_cardAt_X10_needPlace : GoodIn wsX10_cardAt (va_wsS RX10 197 yX10_needPlace wsX10_needPlace) := goodIn_app (goodIn_of _ (by decide +kernel)) ggX10_cardAt_X10_needPlace
set_option maxRecDepth 20000 in
theorem ggX10_cardAt_X1_firstOf : GoodIn wsX10_cardAt wsX1_firstOf := goodIn_r _ [21, 22, 23, 41, 42, 43] (by decide +kernel) (by decide +kernel)
set_option maxRecDepth 20000 in
theorem gX10_cardAt_X1_firstOf : GoodIn wsX10_cardAt (wsV RX10 207 RX1 yX1_firstOf wsX1_firstOf) := goodIn_app (goodIn_of _ (by decide +kernel)) ggX10_cardAt_X1_firstOf
set_option maxRecDepth 20000 in
theorem ggX10_cardAt_X1_secondOf : GoodIn wsX10_cardAt wsX1_secondOf := goodIn_r _ [27, 22, 28, 41, 42, 43] (by decide +kernel) (by decide +kernel)
set_option maxRecDepth 20000 in
theorem gX10_cardAt_X1_secondOf : GoodIn wsX10_cardAt (wsV RX10 204 RX1 yX1_secondOf wsX1_secondOf) := goodIn_app (goodIn_of _ (by decide +kernel)) ggX10_cardAt_X1_secondOf
theorem dX10_cardAt_0 : decode cX10_cardAt 0 = .ok (.aload_n 0, 1) := by decide +kernel
theorem dX10_cardAt_1 : decode cX10_cardAt 1 = .ok (.iload_n 1, 1) := by decide +kernel
theorem dX10_cardAt_2 : decode cX10_cardAt 2 = .ok (.invokevirtual 92, 3) := by decide +kernel
theorem dX10_cardAt_5 : decode cX10_cardAt 5 = .ok (.astore 4, 2) := by decide +kernel
theorem dX10_cardAt_7 : decode cX10_cardAt 7 = .ok (.aload 4, 2) := by decide +kernel
theorem dX10_cardAt_9 : decode cX10_cardAt 9 = .ok (.iload_n 2, 1) := by decide +kernel
theorem dX10_cardAt_10 : decode cX10_cardAt 10 = .ok (.invokestatic 197, 3) := by decide +kernel
theorem dX10_cardAt_13 : decode cX10_cardAt 13 = .ok (.aload 4, 2) := by decide +kernel
theorem dX10_cardAt_15 : decode cX10_cardAt 15 = .ok (.getfield 188, 3) := by decide +kernel
theorem dX10_cardAt_18 : decode cX10_cardAt 18 = .ok (.iload_n 2, 1) := by decide +kernel
theorem dX10_cardAt_19 : decode cX10_cardAt 19 = .ok (.iaload, 1) := by decide +kernel
theorem dX10_cardAt_20 : decode cX10_cardAt 20 = .ok (.istore 5, 2) := by decide +kernel
theorem dX10_cardAt_22 : decode cX10_cardAt 22 = .ok (.iload_n 3, 1) := by decide +kernel
theorem dX10_cardAt_23 : decode cX10_cardAt 23 = .ok (.tableswitch 48 0 2 #[25, 35, 45], 25) := by decide +kernel
theorem dX10_cardAt_48 : decode cX10_cardAt 48 = .ok (.aload_n 0, 1) := by decide +kernel
theorem dX10_cardAt_49 : decode cX10_cardAt 49 = .ok (.getfield 12, 3) := by decide +kernel
theorem dX10_cardAt_52 : decode cX10_cardAt 52 = .ok (.iload 5, 2) := by decide +kernel
theorem dX10_cardAt_54 : decode cX10_cardAt 54 = .ok (.invokevirtual 207, 3) := by decide +kernel
theorem dX10_cardAt_57 : decode cX10_cardAt 57 = .ok (.ireturn, 1) := by decide +kernel
theorem dX10_cardAt_58 : decode cX10_cardAt 58 = .ok (.aload_n 0, 1) := by decide +kernel
theorem dX10_cardAt_59 : decode cX10_cardAt 59 = .ok (.getfield 12, 3) := by decide +kernel
theorem dX10_cardAt_62 : decode cX10_cardAt 62 = .ok (.iload 5, 2) := by decide +kernel
theorem dX10_cardAt_64 : decode cX10_cardAt 64 = .ok (.invokevirtual 204, 3) := by decide +kernel
theorem dX10_cardAt_67 : decode cX10_cardAt 67 = .ok (.ireturn, 1) := by decide +kernel
theorem dX10_cardAt_68 : decode cX10_cardAt 68 = .ok (.iload 5, 2) := by decide +kernel
theorem dX10_cardAt_70 : decode cX10_cardAt 70 = .ok (.ireturn, 1) := by decide +kernel
theorem dX10_cardAt_71 : decode cX10_cardAt 71 = .ok (.new 171, 3) := by decide +kernel
theorem dX10_cardAt_74 : decode cX10_cardAt 74 = .ok (.dup, 1) := by decide +kernel
theorem dX10_cardAt_75 : decode cX10_cardAt 75 = .ok (.ldc 216, 2) := by decide +kernel
theorem dX10_cardAt_77 : decode cX10_cardAt 77 = .ok (.invokespecial 175, 3) := by decide +kernel
theorem dX10_cardAt_80 : decode cX10_cardAt 80 = .ok (.athrow, 1) := by decide +kernel
set_option maxRecDepth 20000 in
theorem ggX10_placeOf_X10_rowAt : GoodIn wsX10_placeOf wsX10_rowAt := goodIn_ca (goodIn_r _ [7, 8, 9, 10, 13, 14, 15, 16, 17, 18, 19, 20, 21, 22] (by decide +kernel) (by decide +kernel)) (goodIn_sub (fun _ h => List.mem_cons_of_mem _ (List.mem_append_right _ h)) (by decide +kernel))
set_option maxRecDepth 20000 in
theorem gX10_placeOf_X10_rowAt : GoodIn wsX10_placeOf (wsV RX10 92 RX10 yX10_rowAt wsX10_rowAt) := goodIn_app (goodIn_of _ (by decide +kernel)) ggX10_placeOf_X10_rowAt
theorem dX10_placeOf_0 : decode cX10_placeOf 0 = .ok (.aload_n 0, 1) := by decide +kernel
theorem dX10_placeOf_1 : decode cX10_placeOf 1 = .ok (.iload_n 1, 1) := by decide +kernel
theorem dX10_placeOf_2 : decode cX10_placeOf 2 = .ok (.invokevirtual 92, 3) := by decide +kernel
theorem dX10_placeOf_5 : decode cX10_placeOf 5 = .ok (.astore_n 3, 1) := by decide +kernel
theorem dX10_placeOf_6 : decode cX10_placeOf 6 = .ok (.iconst 0, 1) := by decide +kernel
theorem dX10_placeOf_7 : decode cX10_placeOf 7 = .ok (.istore 4, 2) := by decide +kernel
theorem dX10_placeOf_9 : decode cX10_placeOf 9 = .ok (.iload 4, 2) := by decide +kernel
theorem dX10_placeOf_11 : decode cX10_placeOf 11 = .ok (.aload_n 3, 1) := by decide +kernel
theorem dX10_placeOf_12 : decode cX10_placeOf 12 = .ok (.getfield 120, 3) := by decide +kernel
theorem dX10_placeOf_15 : decode cX10_placeOf 15 = .ok (.if_icmp .ge 23, 3) := by decide +kernel
theorem dX10_placeOf_18 : decode cX10_placeOf 18 = .ok (.aload_n 3, 1) := by decide +kernel
theorem dX10_placeOf_19 : decode cX10_placeOf 19 = .ok (.getfield 188, 3) := by decide +kernel
theorem dX10_placeOf_22 : decode cX10_placeOf 22 = .ok (.iload 4, 2) := by decide +kernel
theorem dX10_placeOf_24 : decode cX10_placeOf 24 = .ok (.iaload, 1) := by decide +kernel
theorem dX10_placeOf_25 : decode cX10_placeOf 25 = .ok (.iload_n 2, 1) := by decide +kernel
theorem dX10_placeOf_26 : decode cX10_placeOf 26 = .ok (.if_icmp .ne 6, 3) := by decide +kernel
theorem dX10_placeOf_29 : decode cX10_placeOf 29 = .ok (.iload 4, 2) := by decide +kernel
theorem dX10_placeOf_31 : decode cX10_placeOf 31 = .ok (.ireturn, 1) := by decide +kernel
theorem dX10_placeOf_32 : decode cX10_placeOf 32 = .ok (.iinc 4 1, 3) := by decide +kernel
theorem dX10_placeOf_35 : decode cX10_placeOf 35 = .ok (.goto (-26), 3) := by decide +kernel
theorem dX10_placeOf_38 : decode cX10_placeOf 38 = .ok (.iconst (-1), 1) := by decide +kernel
theorem dX10_placeOf_39 : decode cX10_placeOf 39 = .ok (.ireturn, 1) := by decide +kernel
set_option maxRecDepth 20000 in
theorem ggX10_placeFor_X10_rowAt : GoodIn wsX10_placeFor wsX10_rowAt := goodIn_ca (goodIn_r _ [8, 9, 10, 11, 39, 40, 41, 42, 43, 44, 45, 46, 47, 48] (by decide +kernel) (by decide +kernel)) (goodIn_sub (fun _ h => List.mem_cons_of_mem _ (List.mem_append_right _ h)) (by decide +kernel))
set_option maxRecDepth 20000 in
theorem gX10_placeFor_X10_rowAt : GoodIn wsX10_placeFor (wsV RX10 92 RX10 yX10_rowAt wsX10_rowAt) := goodIn_app (goodIn_of _ (by decide +kernel)) ggX10_placeFor_X10_rowAt
set_option maxRecDepth 20000 in
theorem ggX10_placeFor_X10_rises : GoodIn wsX10_placeFor wsX10_rises := goodIn_r _ [15, 16, 17, 18, 7, 19, 3, 20, 21, 22, 23, 24, 25, 26, 27, 28, 29, 30, 31, 32, 33, 34, 35, 36, 37, 38, 39, 40, 41, 42, 43, 44, 45, 46, 47, 48, 49, 50, 51] (by decide +kernel) (by decide +kernel)
set_option maxRecDepth 20000 in
theorem gX10_placeFor_X10_rises : GoodIn wsX10_placeFor (wsV RX10 218 RX10 yX10_rises wsX10_rises) := goodIn_app (goodIn_of _ (by decide +kernel)) ggX10_placeFor_X10_rises
set_option maxRecDepth 20000 in
theorem ggX10_placeFor_X10_firstAt : GoodIn wsX10_placeFor wsX10_firstAt := goodIn_r _ [27, 28, 29, 30, 31, 32, 33, 34, 35, 36, 39, 40, 41, 42, 43, 44, 45, 46, 47, 48, 37, 38, 49, 50, 51] (by decide +kernel) (by decide +kernel)
set_option maxRecDepth 20000 in
theorem gX10_placeFor_X10_firstAt : GoodIn wsX10_placeFor (wsV RX10 224 RX10 yX10_firstAt wsX10_firstAt) := goodIn_app (goodIn_of _ (by decide +kernel)) ggX10_placeFor_X10_firstAt
theorem dX10_placeFor_0 : decode cX10_placeFor 0 = .ok (.aload_n 0, 1) := by decide +kernel
theorem dX10_placeFor_1 : decode cX10_placeFor 1 = .ok (.iload_n 1, 1) := by decide +kernel
theorem dX10_placeFor_2 : decode cX10_placeFor 2 = .ok (.invokevirtual 92, 3) := by decide +kernel
theorem dX10_placeFor_5 : decode cX10_placeFor 5 = .ok (.astore_n 3, 1) := by decide +kernel
theorem dX10_placeFor_6 : decode cX10_placeFor 6 = .ok (.aload_n 0, 1) := by decide +kernel
theorem dX10_placeFor_7 : decode cX10_placeFor 7 = .ok (.aload_n 3, 1) := by decide +kernel
theorem dX10_placeFor_8 : decode cX10_placeFor 8 = .ok (.invokevirtual 218, 3) := by decide +kernel
theorem dX10_placeFor_11 : decode cX10_placeFor 11 = .ok (.ifCond .ne 13, 3) := by decide +kernel
theorem dX10_placeFor_14 : decode cX10_placeFor 14 = .ok (.new 77, 3) := by decide +kernel
theorem dX10_placeFor_17 : decode cX10_placeFor 17 = .ok (.dup, 1) := by decide +kernel
theorem dX10_placeFor_18 : decode cX10_placeFor 18 = .ok (.ldc 222, 2) := by decide +kernel
theorem dX10_placeFor_20 : decode cX10_placeFor 20 = .ok (.invokespecial 81, 3) := by decide +kernel
theorem dX10_placeFor_23 : decode cX10_placeFor 23 = .ok (.athrow, 1) := by decide +kernel
theorem dX10_placeFor_24 : decode cX10_placeFor 24 = .ok (.iconst 0, 1) := by decide +kernel
theorem dX10_placeFor_25 : decode cX10_placeFor 25 = .ok (.istore 4, 2) := by decide +kernel
theorem dX10_placeFor_27 : decode cX10_placeFor 27 = .ok (.iload 4, 2) := by decide +kernel
theorem dX10_placeFor_29 : decode cX10_placeFor 29 = .ok (.aload_n 3, 1) := by decide +kernel
theorem dX10_placeFor_30 : decode cX10_placeFor 30 = .ok (.getfield 120, 3) := by decide +kernel
theorem dX10_placeFor_33 : decode cX10_placeFor 33 = .ok (.if_icmp .ge 20, 3) := by decide +kernel
theorem dX10_placeFor_36 : decode cX10_placeFor 36 = .ok (.aload_n 0, 1) := by decide +kernel
theorem dX10_placeFor_37 : decode cX10_placeFor 37 = .ok (.aload_n 3, 1) := by decide +kernel
theorem dX10_placeFor_38 : decode cX10_placeFor 38 = .ok (.iload 4, 2) := by decide +kernel
theorem dX10_placeFor_40 : decode cX10_placeFor 40 = .ok (.invokevirtual 224, 3) := by decide +kernel
theorem dX10_placeFor_43 : decode cX10_placeFor 43 = .ok (.iload_n 2, 1) := by decide +kernel
theorem dX10_placeFor_44 : decode cX10_placeFor 44 = .ok (.if_icmp .gt 9, 3) := by decide +kernel
theorem dX10_placeFor_47 : decode cX10_placeFor 47 = .ok (.iinc 4 1, 3) := by decide +kernel
theorem dX10_placeFor_50 : decode cX10_placeFor 50 = .ok (.goto (-23), 3) := by decide +kernel
theorem dX10_placeFor_53 : decode cX10_placeFor 53 = .ok (.iload 4, 2) := by decide +kernel
theorem dX10_placeFor_55 : decode cX10_placeFor 55 = .ok (.ireturn, 1) := by decide +kernel
set_option maxRecDepth 20000 in
theorem ggX10_isSorted_X10_rowAt : GoodIn wsX10_isSorted wsX10_rowAt := goodIn_ca (goodIn_r _ [5, 6, 7, 8, 35, 36, 37, 38, 39, 40, 41, 42, 43, 44] (by decide +kernel) (by decide +kernel)) (goodIn_sub (fun _ h => List.mem_cons_of_mem _ (List.mem_append_right _ h)) (by decide +kernel))
set_option maxRecDepth 20000 in
theorem gX10_isSorted_X10_rowAt : GoodIn wsX10_isSorted (wsV RX10 92 RX10 yX10_rowAt wsX10_rowAt) := goodIn_app (goodIn_of _ (by decide +kernel)) ggX10_isSorted_X10_rowAt
set_option maxRecDepth 20000 in
theorem ggX10_isSorted_X10_rises : GoodIn wsX10_isSorted wsX10_rises := goodIn_r _ [12, 13, 14, 15, 4, 16, 17, 18, 19, 20, 21, 22, 23, 24, 25, 26, 27, 28, 29, 30, 31, 32, 33, 34, 45, 46, 35, 36, 37, 38, 39, 40, 41, 42, 43, 44, 47, 48, 49] (by decide +kernel) (by decide +kernel)
set_option maxRecDepth 20000 in
theorem gX10_isSorted_X10_rises : GoodIn wsX10_isSorted (wsV RX10 218 RX10 yX10_rises wsX10_rises) := goodIn_app (goodIn_of _ (by decide +kernel)) ggX10_isSorted_X10_rises
theorem dX10_isSorted_0 : decode cX10_isSorted 0 = .ok (.aload_n 0, 1) := by decide +kernel
theorem dX10_isSorted_1 : decode cX10_isSorted 1 = .ok (.aload_n 0, 1) := by decide +kernel
theorem dX10_isSorted_2 : decode cX10_isSorted 2 = .ok (.iload_n 1, 1) := by decide +kernel
theorem dX10_isSorted_3 : decode cX10_isSorted 3 = .ok (.invokevirtual 92, 3) := by decide +kernel
theorem dX10_isSorted_6 : decode cX10_isSorted 6 = .ok (.invokevirtual 218, 3) := by decide +kernel
theorem dX10_isSorted_9 : decode cX10_isSorted 9 = .ok (.ireturn, 1) := by decide +kernel
set_option maxRecDepth 20000 in
theorem ggX10_runs_X10_rowAt : GoodIn wsX10_runs wsX10_rowAt := goodIn_ca (goodIn_r _ [5, 6, 7, 8, 31, 32, 33, 34, 35, 36, 37, 38, 39, 40] (by decide +kernel) (by decide +kernel)) (goodIn_sub (fun _ h => List.mem_cons_of_mem _ (List.mem_append_right _ h)) (by decide +kernel))
set_option maxRecDepth 20000 in
theorem gX10_runs_X10_rowAt : GoodIn wsX10_runs (wsV RX10 92 RX10 yX10_rowAt wsX10_rowAt) := goodIn_app (goodIn_of _ (by decide +kernel)) ggX10_runs_X10_rowAt
set_option maxRecDepth 20000 in
theorem ggX10_runs_X10_numberOfRuns : GoodIn wsX10_runs wsX10_numberOfRuns := goodIn_r _ [12, 13, 14, 15, 16, 4, 17, 18, 19, 20, 21, 22, 23, 24, 25, 26, 27, 28, 29, 30, 41, 42, 31, 32, 33, 34, 35, 36, 37, 38, 39, 40, 43, 44, 45] (by decide +kernel) (by decide +kernel)
set_option maxRecDepth 20000 in
theorem gX10_runs_X10_numberOfRuns : GoodIn wsX10_runs (wsV RX10 228 RX10 yX10_numberOfRuns wsX10_numberOfRuns) := goodIn_app (goodIn_of _ (by decide +kernel)) ggX10_runs_X10_numberOfRuns
theorem dX10_runs_0 : decode cX10_runs 0 = .ok (.aload_n 0, 1) := by decide +kernel
theorem dX10_runs_1 : decode cX10_runs 1 = .ok (.aload_n 0, 1) := by decide +kernel
theorem dX10_runs_2 : decode cX10_runs 2 = .ok (.iload_n 1, 1) := by decide +kernel
theorem dX10_runs_3 : decode cX10_runs 3 = .ok (.invokevirtual 92, 3) := by decide +kernel
theorem dX10_runs_6 : decode cX10_runs 6 = .ok (.invokevirtual 228, 3) := by decide +kernel
theorem dX10_runs_9 : decode cX10_runs 9 = .ok (.ireturn, 1) := by decide +kernel
set_option maxRecDepth 20000 in
theorem ggX10_longestRun_X10_rowAt : GoodIn wsX10_longestRun wsX10_rowAt := goodIn_ca (goodIn_r _ [5, 6, 7, 8, 35, 36, 37, 38, 39, 40, 41, 42, 43, 44] (by decide +kernel) (by decide +kernel)) (goodIn_sub (fun _ h => List.mem_cons_of_mem _ (List.mem_append_right _ h)) (by decide +kernel))
set_option maxRecDepth 20000 in
theorem gX10_longestRun_X10_rowAt : GoodIn wsX10_longestRun (wsV RX10 92 RX10 yX10_rowAt wsX10_rowAt) := goodIn_app (goodIn_of _ (by decide +kernel)) ggX10_longestRun_X10_rowAt
set_option maxRecDepth 20000 in
theorem ggX10_longestRun_X10_lengthOfLongestRun : GoodIn wsX10_longestRun wsX10_lengthOfLongestRun := goodIn_r _ [12, 13, 14, 15, 16, 17, 18, 19, 20, 4, 21, 22, 23, 24, 25, 26, 27, 28, 29, 30, 31, 32, 33, 34, 45, 46, 35, 36, 37, 38, 39, 40, 41, 42, 43, 44, 47, 48, 49] (by decide +kernel) (by decide +kernel)
set_option maxRecDepth 20000 in
theorem gX10_longestRun_X10_lengthOfLongestRun : GoodIn wsX10_longestRun (wsV RX10 231 RX10 yX10_lengthOfLongestRun wsX10_lengthOfLongestRun) := goodIn_app (goodIn_of _ (by decide +kernel)) ggX10_longestRun_X10_lengthOfLongestRun
theorem dX10_longestRun_0 : decode cX10_longestRun 0 = .ok (.aload_n 0, 1) := by decide +kernel
theorem dX10_longestRun_1 : decode cX10_longestRun 1 = .ok (.aload_n 0, 1) := by decide +kernel
theorem dX10_longestRun_2 : decode cX10_longestRun 2 = .ok (.iload_n 1, 1) := by decide +kernel
theorem dX10_longestRun_3 : decode cX10_longestRun 3 = .ok (.invokevirtual 92, 3) := by decide +kernel
theorem dX10_longestRun_6 : decode cX10_longestRun 6 = .ok (.invokevirtual 231, 3) := by decide +kernel
theorem dX10_longestRun_9 : decode cX10_longestRun 9 = .ok (.ireturn, 1) := by decide +kernel
set_option maxRecDepth 20000 in
theorem ggX10_wrongPairs_X10_rowAt : GoodIn wsX10_wrongPairs wsX10_rowAt := goodIn_ca (goodIn_r _ [5, 6, 7, 8, 66, 67, 68, 69, 70, 71, 72, 73, 74, 75] (by decide +kernel) (by decide +kernel)) (goodIn_sub (fun _ h => List.mem_cons_of_mem _ (List.mem_append_right _ h)) (by decide +kernel))
set_option maxRecDepth 20000 in
theorem gX10_wrongPairs_X10_rowAt : GoodIn wsX10_wrongPairs (wsV RX10 92 RX10 yX10_rowAt wsX10_rowAt) := goodIn_app (goodIn_of _ (by decide +kernel)) ggX10_wrongPairs_X10_rowAt
set_option maxRecDepth 20000 in
theorem ggX10_wrongPairs_X10_sortCopy : GoodIn wsX10_wrongPairs wsX10_sortCopy := goodIn_r _ [12, 13, 14, 15, 16, 17, 18, 19, 20, 21, 22, 23, 24, 25, 26, 27, 28, 29, 30, 31, 32, 33, 34, 35, 36, 37, 38, 39, 40, 41, 42, 43, 44, 45, 46, 47, 48, 49, 50, 51, 52, 53, 54, 55, 56, 57, 58, 59, 60, 61, 62, 63, 64, 65, 66, 67, 68, 69, 70, 71, 72, 73, 74, 75, 76, 77, 78, 79, 80, 81, 82, 83, 84] (by decide +kernel) (by decide +kernel)
set_option maxRecDepth 20000 in
theorem gX10_wrongPairs_X10_sortCopy : GoodIn wsX10_wrongPairs (wsV RX10 234 RX10 yX10_sortCopy wsX10_sortCopy) := goodIn_app (goodIn_of _ (by decide +kernel)) ggX10_wrongPairs_X10_sortCopy
theorem dX10_wrongPairs_0 : decode cX10_wrongPairs 0 = .ok (.aload_n 0, 1) := by decide +kernel
theorem dX10_wrongPairs_1 : decode cX10_wrongPairs 1 = .ok (.aload_n 0, 1) := by decide +kernel
theorem dX10_wrongPairs_2 : decode cX10_wrongPairs 2 = .ok (.iload_n 1, 1) := by decide +kernel
theorem dX10_wrongPairs_3 : decode cX10_wrongPairs 3 = .ok (.invokevirtual 92, 3) := by decide +kernel
theorem dX10_wrongPairs_6 : decode cX10_wrongPairs 6 = .ok (.invokevirtual 234, 3) := by decide +kernel
theorem dX10_wrongPairs_9 : decode cX10_wrongPairs 9 = .ok (.ireturn, 1) := by decide +kernel
set_option maxRecDepth 20000 in
theorem ggX10_sum_X10_rowAt : GoodIn wsX10_sum wsX10_rowAt := goodIn_ca (goodIn_r _ [7, 8, 9, 10, 13, 14, 15, 16, 17, 18, 19, 20, 21, 22] (by decide +kernel) (by decide +kernel)) (goodIn_sub (fun _ h => List.mem_cons_of_mem _ (List.mem_append_right _ h)) (by decide +kernel))
set_option maxRecDepth 20000 in
theorem gX10_sum_X10_rowAt : GoodIn wsX10_sum (wsV RX10 92 RX10 yX10_rowAt wsX10_rowAt) := goodIn_app (goodIn_of _ (by decide +kernel)) ggX10_sum_X10_rowAt
theorem dX10_sum_0 : decode cX10_sum 0 = .ok (.aload_n 0, 1) := by decide +kernel
theorem dX10_sum_1 : decode cX10_sum 1 = .ok (.iload_n 1, 1) := by decide +kernel
theorem dX10_sum_2 : decode cX10_sum 2 = .ok (.invokevirtual 92, 3) := by decide +kernel
theorem dX10_sum_5 : decode cX10_sum 5 = .ok (.astore_n 2, 1) := by decide +kernel
theorem dX10_sum_6 : decode cX10_sum 6 = .ok (.lconst 0, 1) := by decide +kernel
theorem dX10_sum_7 : decode cX10_sum 7 = .ok (.lstore_n 3, 1) := by decide +kernel
theorem dX10_sum_8 : decode cX10_sum 8 = .ok (.iconst 0, 1) := by decide +kernel
theorem dX10_sum_9 : decode cX10_sum 9 = .ok (.istore 5, 2) := by decide +kernel
theorem dX10_sum_11 : decode cX10_sum 11 = .ok (.iload 5, 2) := by decide +kernel
theorem dX10_sum_13 : decode cX10_sum 13 = .ok (.aload_n 2, 1) := by decide +kernel
theorem dX10_sum_14 : decode cX10_sum 14 = .ok (.getfield 120, 3) := by decide +kernel
theorem dX10_sum_17 : decode cX10_sum 17 = .ok (.if_icmp .ge 28, 3) := by decide +kernel
theorem dX10_sum_20 : decode cX10_sum 20 = .ok (.lload_n 3, 1) := by decide +kernel
theorem dX10_sum_21 : decode cX10_sum 21 = .ok (.iload 5, 2) := by decide +kernel
theorem dX10_sum_23 : decode cX10_sum 23 = .ok (.i2l, 1) := by decide +kernel
theorem dX10_sum_24 : decode cX10_sum 24 = .ok (.lconst 1, 1) := by decide +kernel
theorem dX10_sum_25 : decode cX10_sum 25 = .ok (.ladd, 1) := by decide +kernel
theorem dX10_sum_26 : decode cX10_sum 26 = .ok (.aload_n 2, 1) := by decide +kernel
theorem dX10_sum_27 : decode cX10_sum 27 = .ok (.getfield 188, 3) := by decide +kernel
theorem dX10_sum_30 : decode cX10_sum 30 = .ok (.iload 5, 2) := by decide +kernel
theorem dX10_sum_32 : decode cX10_sum 32 = .ok (.iaload, 1) := by decide +kernel
theorem dX10_sum_33 : decode cX10_sum 33 = .ok (.i2l, 1) := by decide +kernel
theorem dX10_sum_34 : decode cX10_sum 34 = .ok (.lconst 1, 1) := by decide +kernel
theorem dX10_sum_35 : decode cX10_sum 35 = .ok (.ladd, 1) := by decide +kernel
theorem dX10_sum_36 : decode cX10_sum 36 = .ok (.lmul, 1) := by decide +kernel
theorem dX10_sum_37 : decode cX10_sum 37 = .ok (.ladd, 1) := by decide +kernel
theorem dX10_sum_38 : decode cX10_sum 38 = .ok (.lstore_n 3, 1) := by decide +kernel
theorem dX10_sum_39 : decode cX10_sum 39 = .ok (.iinc 5 1, 3) := by decide +kernel
theorem dX10_sum_42 : decode cX10_sum 42 = .ok (.goto (-31), 3) := by decide +kernel
theorem dX10_sum_45 : decode cX10_sum 45 = .ok (.lload_n 3, 1) := by decide +kernel
theorem dX10_sum_46 : decode cX10_sum 46 = .ok (.lreturn, 1) := by decide +kernel
set_option maxRecDepth 20000 in
theorem ggX10_middle_X10_rowAt : GoodIn wsX10_middle wsX10_rowAt := goodIn_ca (goodIn_r _ [9, 10, 11, 12, 74, 75, 76, 77, 78, 79, 80, 81, 82, 83] (by decide +kernel) (by decide +kernel)) (goodIn_sub (fun _ h => List.mem_cons_of_mem _ (List.mem_append_right _ h)) (by decide +kernel))
set_option maxRecDepth 20000 in
theorem gX10_middle_X10_rowAt : GoodIn wsX10_middle (wsV RX10 92 RX10 yX10_rowAt wsX10_rowAt) := goodIn_app (goodIn_of _ (by decide +kernel)) ggX10_middle_X10_rowAt
set_option maxRecDepth 20000 in
theorem ggX10_middle_X10_sortCopy : GoodIn wsX10_middle wsX10_sortCopy := goodIn_r _ [16, 4, 3, 17, 18, 19, 20, 21, 22, 23, 24, 25, 26, 27, 28, 29, 30, 31, 32, 33, 34, 35, 36, 37, 38, 39, 40, 41, 42, 43, 44, 45, 46, 47, 48, 49, 50, 51, 52, 53, 54, 55, 56, 57, 58, 59, 60, 61, 62, 63, 64, 65, 66, 67, 74, 75, 76, 77, 78, 79, 80, 81, 82, 83, 72, 73, 84, 85, 86, 87, 88, 89, 90] (by decide +kernel) (by decide +kernel)
set_option maxRecDepth 20000 in
theorem gX10_middle_X10_sortCopy : GoodIn wsX10_middle (wsV RX10 234 RX10 yX10_sortCopy wsX10_sortCopy) := goodIn_app (goodIn_of _ (by decide +kernel)) ggX10_middle_X10_sortCopy
set_option maxRecDepth 20000 in
theorem ggX10_middle_X8_firstAt : GoodIn wsX10_middle wsX8_firstAt := goodIn_r _ [71, 23, 47, 28, 49, 50, 51, 52, 53, 54, 55, 84, 85, 86, 87, 88, 89, 90] (by decide +kernel) (by decide +kernel)
set_option maxRecDepth 20000 in
theorem gX10_middle_X8_firstAt : GoodIn wsX10_middle (wsV RX10 237 RX8 yX8_firstAt wsX8_firstAt) := goodIn_app (goodIn_of _ (by decide +kernel)) ggX10_middle_X8_firstAt
theorem dX10_middle_0 : decode cX10_middle 0 = .ok (.aload_n 0, 1) := by decide +kernel
theorem dX10_middle_1 : decode cX10_middle 1 = .ok (.iload_n 1, 1) := by decide +kernel
theorem dX10_middle_2 : decode cX10_middle 2 = .ok (.invokevirtual 92, 3) := by decide +kernel
theorem dX10_middle_5 : decode cX10_middle 5 = .ok (.astore_n 2, 1) := by decide +kernel
theorem dX10_middle_6 : decode cX10_middle 6 = .ok (.aload_n 2, 1) := by decide +kernel
theorem dX10_middle_7 : decode cX10_middle 7 = .ok (.getfield 120, 3) := by decide +kernel
theorem dX10_middle_10 : decode cX10_middle 10 = .ok (.ifCond .ne 13, 3) := by decide +kernel
theorem dX10_middle_13 : decode cX10_middle 13 = .ok (.new 244, 3) := by decide +kernel
theorem dX10_middle_16 : decode cX10_middle 16 = .ok (.dup, 1) := by decide +kernel
theorem dX10_middle_17 : decode cX10_middle 17 = .ok (.ldc 246, 2) := by decide +kernel
theorem dX10_middle_19 : decode cX10_middle 19 = .ok (.invokespecial 248, 3) := by decide +kernel
theorem dX10_middle_22 : decode cX10_middle 22 = .ok (.athrow, 1) := by decide +kernel
theorem dX10_middle_23 : decode cX10_middle 23 = .ok (.aload_n 0, 1) := by decide +kernel
theorem dX10_middle_24 : decode cX10_middle 24 = .ok (.aload_n 2, 1) := by decide +kernel
theorem dX10_middle_25 : decode cX10_middle 25 = .ok (.invokevirtual 234, 3) := by decide +kernel
theorem dX10_middle_28 : decode cX10_middle 28 = .ok (.pop, 1) := by decide +kernel
theorem dX10_middle_29 : decode cX10_middle 29 = .ok (.aload_n 0, 1) := by decide +kernel
theorem dX10_middle_30 : decode cX10_middle 30 = .ok (.getfield 42, 3) := by decide +kernel
theorem dX10_middle_33 : decode cX10_middle 33 = .ok (.aload_n 2, 1) := by decide +kernel
theorem dX10_middle_34 : decode cX10_middle 34 = .ok (.getfield 120, 3) := by decide +kernel
theorem dX10_middle_37 : decode cX10_middle 37 = .ok (.iconst 1, 1) := by decide +kernel
theorem dX10_middle_38 : decode cX10_middle 38 = .ok (.isub, 1) := by decide +kernel
theorem dX10_middle_39 : decode cX10_middle 39 = .ok (.iconst 2, 1) := by decide +kernel
theorem dX10_middle_40 : decode cX10_middle 40 = .ok (.idiv, 1) := by decide +kernel
theorem dX10_middle_41 : decode cX10_middle 41 = .ok (.invokevirtual 237, 3) := by decide +kernel
theorem dX10_middle_44 : decode cX10_middle 44 = .ok (.ireturn, 1) := by decide +kernel
set_option maxRecDepth 20000 in
theorem ggX10_errors_X10_theoremHolds : GoodIn wsX10_errors wsX10_theoremHolds := goodIn_r _ [6, 7, 8, 9, 10, 11, 12, 13, 14, 15, 16, 17, 18, 19, 20, 21, 22, 23, 24, 25, 26, 27, 28, 29, 30, 31, 32, 33, 5, 34, 35, 36, 37, 38, 39, 40, 41, 42, 43, 44, 45, 46, 47, 48, 49, 50, 51, 52, 53, 54, 55, 56, 57, 58, 59, 60, 61, 62, 63, 64, 65, 66, 67, 68, 69, 70, 71, 72, 73, 74, 75, 76, 77, 78, 79, 80, 81, 82, 83, 84, 85, 86, 87, 88, 89, 90, 91, 92, 93, 94, 95, 96, 97, 98, 99, 100, 101, 102, 103, 104, 105, 116, 117, 106, 107, 108, 109, 110, 111, 112, 113, 114, 115, 118, 119, 120, 121, 122, 123, 124] (by decide +kernel) (by decide +kernel)
set_option maxRecDepth 20000 in
theorem gX10_errors_X10_theoremHolds : GoodIn wsX10_errors (wsV RX10 249 RX10 yX10_theoremHolds wsX10_theoremHolds) := goodIn_app (goodIn_of _ (by decide +kernel)) ggX10_errors_X10_theoremHolds
theorem dX10_errors_0 : decode cX10_errors 0 = .ok (.iconst 0, 1) := by decide +kernel
theorem dX10_errors_1 : decode cX10_errors 1 = .ok (.istore_n 1, 1) := by decide +kernel
theorem dX10_errors_2 : decode cX10_errors 2 = .ok (.iconst 0, 1) := by decide +kernel
theorem dX10_errors_3 : decode cX10_errors 3 = .ok (.istore_n 2, 1) := by decide +kernel
theorem dX10_errors_4 : decode cX10_errors 4 = .ok (.iload_n 2, 1) := by decide +kernel
theorem dX10_errors_5 : decode cX10_errors 5 = .ok (.iconst 4, 1) := by decide +kernel
theorem dX10_errors_6 : decode cX10_errors 6 = .ok (.if_icmp .ge 25, 3) := by decide +kernel
theorem dX10_errors_9 : decode cX10_errors 9 = .ok (.aload_n 0, 1) := by decide +kernel
theorem dX10_errors_10 : decode cX10_errors 10 = .ok (.aload_n 0, 1) := by decide +kernel
theorem dX10_errors_11 : decode cX10_errors 11 = .ok (.getfield 18, 3) := by decide +kernel
theorem dX10_errors_14 : decode cX10_errors 14 = .ok (.iload_n 2, 1) := by decide +kernel
theorem dX10_errors_15 : decode cX10_errors 15 = .ok (.aaload, 1) := by decide +kernel
theorem dX10_errors_16 : decode cX10_errors 16 = .ok (.invokevirtual 249, 3) := by decide +kernel
theorem dX10_errors_19 : decode cX10_errors 19 = .ok (.ifCond .ne 6, 3) := by decide +kernel
theorem dX10_errors_22 : decode cX10_errors 22 = .ok (.iinc 1 1, 3) := by decide +kernel
theorem dX10_errors_25 : decode cX10_errors 25 = .ok (.iinc 2 1, 3) := by decide +kernel
theorem dX10_errors_28 : decode cX10_errors 28 = .ok (.goto (-24), 3) := by decide +kernel
theorem dX10_errors_31 : decode cX10_errors 31 = .ok (.iload_n 1, 1) := by decide +kernel
theorem dX10_errors_32 : decode cX10_errors 32 = .ok (.ireturn, 1) := by decide +kernel
theorem dX10_rowAt_0 : decode cX10_rowAt 0 = .ok (.iload_n 1, 1) := by decide +kernel
theorem dX10_rowAt_1 : decode cX10_rowAt 1 = .ok (.ifCond .lt 8, 3) := by decide +kernel
theorem dX10_rowAt_4 : decode cX10_rowAt 4 = .ok (.iload_n 1, 1) := by decide +kernel
theorem dX10_rowAt_5 : decode cX10_rowAt 5 = .ok (.iconst 4, 1) := by decide +kernel
theorem dX10_rowAt_6 : decode cX10_rowAt 6 = .ok (.if_icmp .lt 13, 3) := by decide +kernel
theorem dX10_rowAt_9 : decode cX10_rowAt 9 = .ok (.new 123, 3) := by decide +kernel
theorem dX10_rowAt_12 : decode cX10_rowAt 12 = .ok (.dup, 1) := by decide +kernel
theorem dX10_rowAt_13 : decode cX10_rowAt 13 = .ok (.ldc 252, 2) := by decide +kernel
theorem dX10_rowAt_15 : decode cX10_rowAt 15 = .ok (.invokespecial 127, 3) := by decide +kernel
theorem dX10_rowAt_18 : decode cX10_rowAt 18 = .ok (.athrow, 1) := by decide +kernel
theorem dX10_rowAt_19 : decode cX10_rowAt 19 = .ok (.aload_n 0, 1) := by decide +kernel
theorem dX10_rowAt_20 : decode cX10_rowAt 20 = .ok (.getfield 18, 3) := by decide +kernel
theorem dX10_rowAt_23 : decode cX10_rowAt 23 = .ok (.iload_n 1, 1) := by decide +kernel
theorem dX10_rowAt_24 : decode cX10_rowAt 24 = .ok (.aaload, 1) := by decide +kernel
theorem dX10_rowAt_25 : decode cX10_rowAt 25 = .ok (.areturn, 1) := by decide +kernel
theorem dX10_needPlace_0 : decode cX10_needPlace 0 = .ok (.iload_n 1, 1) := by decide +kernel
theorem dX10_needPlace_1 : decode cX10_needPlace 1 = .ok (.ifCond .lt 11, 3) := by decide +kernel
theorem dX10_needPlace_4 : decode cX10_needPlace 4 = .ok (.iload_n 1, 1) := by decide +kernel
theorem dX10_needPlace_5 : decode cX10_needPlace 5 = .ok (.aload_n 0, 1) := by decide +kernel
theorem dX10_needPlace_6 : decode cX10_needPlace 6 = .ok (.getfield 120, 3) := by decide +kernel
theorem dX10_needPlace_9 : decode cX10_needPlace 9 = .ok (.if_icmp .lt 13, 3) := by decide +kernel
theorem dX10_needPlace_12 : decode cX10_needPlace 12 = .ok (.new 123, 3) := by decide +kernel
theorem dX10_needPlace_15 : decode cX10_needPlace 15 = .ok (.dup, 1) := by decide +kernel
theorem dX10_needPlace_16 : decode cX10_needPlace 16 = .ok (.ldc 125, 2) := by decide +kernel
theorem dX10_needPlace_18 : decode cX10_needPlace 18 = .ok (.invokespecial 127, 3) := by decide +kernel
theorem dX10_needPlace_21 : decode cX10_needPlace 21 = .ok (.athrow, 1) := by decide +kernel
theorem dX10_needPlace_22 : decode cX10_needPlace 22 = .ok (.return_, 1) := by decide +kernel
theorem dX10_needPart_0 : decode cX10_needPart 0 = .ok (.iload_n 1, 1) := by decide +kernel
theorem dX10_needPart_1 : decode cX10_needPart 1 = .ok (.ifCond .lt 11, 3) := by decide +kernel
theorem dX10_needPart_4 : decode cX10_needPart 4 = .ok (.iload_n 2, 1) := by decide +kernel
theorem dX10_needPart_5 : decode cX10_needPart 5 = .ok (.aload_n 0, 1) := by decide +kernel
theorem dX10_needPart_6 : decode cX10_needPart 6 = .ok (.getfield 120, 3) := by decide +kernel
theorem dX10_needPart_9 : decode cX10_needPart 9 = .ok (.if_icmp .le 13, 3) := by decide +kernel
theorem dX10_needPart_12 : decode cX10_needPart 12 = .ok (.new 123, 3) := by decide +kernel
theorem dX10_needPart_15 : decode cX10_needPart 15 = .ok (.dup, 1) := by decide +kernel
theorem dX10_needPart_16 : decode cX10_needPart 16 = .ok (.ldc 254, 2) := by decide +kernel
theorem dX10_needPart_18 : decode cX10_needPart 18 = .ok (.invokespecial 127, 3) := by decide +kernel
theorem dX10_needPart_21 : decode cX10_needPart 21 = .ok (.athrow, 1) := by decide +kernel
theorem dX10_needPart_22 : decode cX10_needPart 22 = .ok (.iload_n 1, 1) := by decide +kernel
theorem dX10_needPart_23 : decode cX10_needPart 23 = .ok (.iload_n 2, 1) := by decide +kernel
theorem dX10_needPart_24 : decode cX10_needPart 24 = .ok (.if_icmp .le 14, 3) := by decide +kernel
theorem dX10_needPart_27 : decode cX10_needPart 27 = .ok (.new 171, 3) := by decide +kernel
theorem dX10_needPart_30 : decode cX10_needPart 30 = .ok (.dup, 1) := by decide +kernel
theorem dX10_needPart_31 : decode cX10_needPart 31 = .ok (.ldc_w 256, 3) := by decide +kernel
theorem dX10_needPart_34 : decode cX10_needPart 34 = .ok (.invokespecial 175, 3) := by decide +kernel
theorem dX10_needPart_37 : decode cX10_needPart 37 = .ok (.athrow, 1) := by decide +kernel
theorem dX10_needPart_38 : decode cX10_needPart 38 = .ok (.return_, 1) := by decide +kernel
theorem dX10_needUnlikeRows_0 : decode cX10_needUnlikeRows 0 = .ok (.iload_n 0, 1) := by decide +kernel
theorem dX10_needUnlikeRows_1 : decode cX10_needUnlikeRows 1 = .ok (.iload_n 1, 1) := by decide +kernel
theorem dX10_needUnlikeRows_2 : decode cX10_needUnlikeRows 2 = .ok (.if_icmp .ne 14, 3) := by decide +kernel
theorem dX10_needUnlikeRows_5 : decode cX10_needUnlikeRows 5 = .ok (.new 171, 3) := by decide +kernel
theorem dX10_needUnlikeRows_8 : decode cX10_needUnlikeRows 8 = .ok (.dup, 1) := by decide +kernel
theorem dX10_needUnlikeRows_9 : decode cX10_needUnlikeRows 9 = .ok (.ldc_w 258, 3) := by decide +kernel
theorem dX10_needUnlikeRows_12 : decode cX10_needUnlikeRows 12 = .ok (.invokespecial 175, 3) := by decide +kernel
theorem dX10_needUnlikeRows_15 : decode cX10_needUnlikeRows 15 = .ok (.athrow, 1) := by decide +kernel
theorem dX10_needUnlikeRows_16 : decode cX10_needUnlikeRows 16 = .ok (.return_, 1) := by decide +kernel
theorem dX10_needRoom_0 : decode cX10_needRoom 0 = .ok (.aload_n 0, 1) := by decide +kernel
theorem dX10_needRoom_1 : decode cX10_needRoom 1 = .ok (.getfield 120, 3) := by decide +kernel
theorem dX10_needRoom_4 : decode cX10_needRoom 4 = .ok (.iload_n 1, 1) := by decide +kernel
theorem dX10_needRoom_5 : decode cX10_needRoom 5 = .ok (.iadd, 1) := by decide +kernel
theorem dX10_needRoom_6 : decode cX10_needRoom 6 = .ok (.sipush 800, 3) := by decide +kernel
theorem dX10_needRoom_9 : decode cX10_needRoom 9 = .ok (.if_icmp .le 14, 3) := by decide +kernel
theorem dX10_needRoom_12 : decode cX10_needRoom 12 = .ok (.new 77, 3) := by decide +kernel
theorem dX10_needRoom_15 : decode cX10_needRoom 15 = .ok (.dup, 1) := by decide +kernel
theorem dX10_needRoom_16 : decode cX10_needRoom 16 = .ok (.ldc_w 260, 3) := by decide +kernel
theorem dX10_needRoom_19 : decode cX10_needRoom 19 = .ok (.invokespecial 81, 3) := by decide +kernel
theorem dX10_needRoom_22 : decode cX10_needRoom 22 = .ok (.athrow, 1) := by decide +kernel
theorem dX10_needRoom_23 : decode cX10_needRoom 23 = .ok (.return_, 1) := by decide +kernel
theorem dX10_needCards_0 : decode cX10_needCards 0 = .ok (.aload_n 0, 1) := by decide +kernel
theorem dX10_needCards_1 : decode cX10_needCards 1 = .ok (.getfield 12, 3) := by decide +kernel
theorem dX10_needCards_4 : decode cX10_needCards 4 = .ok (.getfield 262, 3) := by decide +kernel
theorem dX10_needCards_7 : decode cX10_needCards 7 = .ok (.iload_n 1, 1) := by decide +kernel
theorem dX10_needCards_8 : decode cX10_needCards 8 = .ok (.iadd, 1) := by decide +kernel
theorem dX10_needCards_9 : decode cX10_needCards 9 = .ok (.sipush 20000, 3) := by decide +kernel
theorem dX10_needCards_12 : decode cX10_needCards 12 = .ok (.if_icmp .le 14, 3) := by decide +kernel
theorem dX10_needCards_15 : decode cX10_needCards 15 = .ok (.new 77, 3) := by decide +kernel
theorem dX10_needCards_18 : decode cX10_needCards 18 = .ok (.dup, 1) := by decide +kernel
theorem dX10_needCards_19 : decode cX10_needCards 19 = .ok (.ldc_w 265, 3) := by decide +kernel
theorem dX10_needCards_22 : decode cX10_needCards 22 = .ok (.invokespecial 81, 3) := by decide +kernel
theorem dX10_needCards_25 : decode cX10_needCards 25 = .ok (.athrow, 1) := by decide +kernel
theorem dX10_needCards_26 : decode cX10_needCards 26 = .ok (.return_, 1) := by decide +kernel
set_option maxRecDepth 20000 in
theorem ggX10_layRun_X7_firstOf : GoodIn wsX10_layRun wsX7_firstOf := goodIn_r _ [8, 9, 10, 11, 12, 13, 14, 15, 16, 17, 18, 19, 20, 21, 22, 23, 24, 25, 26, 27, 28, 29, 30, 59, 60, 61, 62, 63, 64, 75] (by decide +kernel) (by decide +kernel)
set_option maxRecDepth 20000 in
theorem gX10_layRun_X7_firstOf : GoodIn wsX10_layRun (wsV RX10 272 RX7 yX7_firstOf wsX7_firstOf) := goodIn_app (goodIn_of _ (by decide +kernel)) ggX10_layRun_X7_firstOf
set_option maxRecDepth 20000 in
theorem ggX10_layRun_X7_secondOf : GoodIn wsX10_layRun wsX7_secondOf := goodIn_r _ [34, 35, 21, 22, 23, 59, 60, 61, 62, 63, 64] (by decide +kernel) (by decide +kernel)
set_option maxRecDepth 20000 in
theorem gX10_layRun_X7_secondOf : GoodIn wsX10_layRun (wsV RX10 275 RX7 yX7_secondOf wsX7_secondOf) := goodIn_app (goodIn_of _ (by decide +kernel)) ggX10_layRun_X7_secondOf
set_option maxRecDepth 20000 in
theorem ggX10_layRun_X1_make : GoodIn wsX10_layRun wsX1_make := goodIn_r _ [40, 41, 42, 43, 76, 77, 78] (by decide +kernel) (by decide +kernel)
set_option maxRecDepth 20000 in
theorem gX10_layRun_X1_make : GoodIn wsX10_layRun (wsV RX10 128 RX1 yX1_make wsX1_make) := goodIn_app (goodIn_of _ (by decide +kernel)) ggX10_layRun_X1_make
set_option maxRecDepth 20000 in
theorem ggX10_layRun_X6_append : GoodIn wsX10_layRun wsX6_append := goodIn_r _ [48, 49, 50, 51, 52, 47, 53, 54, 55, 56, 57, 58, 79, 80] (by decide +kernel) (by decide +kernel)
set_option maxRecDepth 20000 in
theorem gX10_layRun_X6_append : GoodIn wsX10_layRun (wsV RX10 192 RX6 yX6_append wsX6_append) := goodIn_app (goodIn_of _ (by decide +kernel)) ggX10_layRun_X6_append
theorem dX10_layRun_0 : decode cX10_layRun 0 = .ok (.iconst 0, 1) := by decide +kernel
theorem dX10_layRun_1 : decode cX10_layRun 1 = .ok (.istore_n 3, 1) := by decide +kernel
theorem dX10_layRun_2 : decode cX10_layRun 2 = .ok (.iload_n 3, 1) := by decide +kernel
theorem dX10_layRun_3 : decode cX10_layRun 3 = .ok (.aload_n 1, 1) := by decide +kernel
theorem dX10_layRun_4 : decode cX10_layRun 4 = .ok (.getfield 267, 3) := by decide +kernel
theorem dX10_layRun_7 : decode cX10_layRun 7 = .ok (.if_icmp .ge 34, 3) := by decide +kernel
theorem dX10_layRun_10 : decode cX10_layRun 10 = .ok (.aload_n 2, 1) := by decide +kernel
theorem dX10_layRun_11 : decode cX10_layRun 11 = .ok (.aload_n 0, 1) := by decide +kernel
theorem dX10_layRun_12 : decode cX10_layRun 12 = .ok (.getfield 12, 3) := by decide +kernel
theorem dX10_layRun_15 : decode cX10_layRun 15 = .ok (.aload_n 1, 1) := by decide +kernel
theorem dX10_layRun_16 : decode cX10_layRun 16 = .ok (.iload_n 3, 1) := by decide +kernel
theorem dX10_layRun_17 : decode cX10_layRun 17 = .ok (.aload_n 0, 1) := by decide +kernel
theorem dX10_layRun_18 : decode cX10_layRun 18 = .ok (.getfield 65, 3) := by decide +kernel
theorem dX10_layRun_21 : decode cX10_layRun 21 = .ok (.invokevirtual 272, 3) := by decide +kernel
theorem dX10_layRun_24 : decode cX10_layRun 24 = .ok (.aload_n 1, 1) := by decide +kernel
theorem dX10_layRun_25 : decode cX10_layRun 25 = .ok (.iload_n 3, 1) := by decide +kernel
theorem dX10_layRun_26 : decode cX10_layRun 26 = .ok (.invokevirtual 275, 3) := by decide +kernel
theorem dX10_layRun_29 : decode cX10_layRun 29 = .ok (.invokevirtual 128, 3) := by decide +kernel
theorem dX10_layRun_32 : decode cX10_layRun 32 = .ok (.invokevirtual 192, 3) := by decide +kernel
theorem dX10_layRun_35 : decode cX10_layRun 35 = .ok (.iinc 3 1, 3) := by decide +kernel
theorem dX10_layRun_38 : decode cX10_layRun 38 = .ok (.goto (-36), 3) := by decide +kernel
theorem dX10_layRun_41 : decode cX10_layRun 41 = .ok (.return_, 1) := by decide +kernel
theorem dX10_rest_0 : decode cX10_rest 0 = .ok (.iload_n 1, 1) := by decide +kernel
theorem dX10_rest_1 : decode cX10_rest 1 = .ok (.ifCond .le 9, 3) := by decide +kernel
theorem dX10_rest_4 : decode cX10_rest 4 = .ok (.iload_n 0, 1) := by decide +kernel
theorem dX10_rest_5 : decode cX10_rest 5 = .ok (.iload_n 1, 1) := by decide +kernel
theorem dX10_rest_6 : decode cX10_rest 6 = .ok (.irem, 1) := by decide +kernel
theorem dX10_rest_7 : decode cX10_rest 7 = .ok (.goto 4, 3) := by decide +kernel
theorem dX10_rest_10 : decode cX10_rest 10 = .ok (.iconst 0, 1) := by decide +kernel
theorem dX10_rest_11 : decode cX10_rest 11 = .ok (.ireturn, 1) := by decide +kernel
set_option maxRecDepth 20000 in
theorem ggX10_arrangeRow_X10_arrangePart : GoodIn wsX10_arrangeRow wsX10_arrangePart := goodIn_r _ [6, 7, 8, 9, 10, 11, 12, 13, 14, 15, 16, 17, 18, 19, 20, 21, 22, 23, 24, 25, 26, 27, 28, 29, 30, 31, 32, 33, 34, 35, 36, 37, 38, 39, 40, 41, 42, 43, 44, 45, 46, 47, 48, 49, 50, 51, 52, 53, 54, 55, 56, 57, 58, 59, 60, 61, 64, 65, 66, 67, 68, 69, 70, 71, 72, 73, 74, 75, 76, 77, 62, 63, 78, 79, 80] (by decide +kernel) (by decide +kernel)
set_option maxRecDepth 20000 in
theorem gX10_arrangeRow_X10_arrangePart : GoodIn wsX10_arrangeRow (wsV RX10 167 RX10 yX10_arrangePart wsX10_arrangePart) := goodIn_app (goodIn_of _ (by decide +kernel)) ggX10_arrangeRow_X10_arrangePart
theorem dX10_arrangeRow_0 : decode cX10_arrangeRow 0 = .ok (.aload_n 0, 1) := by decide +kernel
theorem dX10_arrangeRow_1 : decode cX10_arrangeRow 1 = .ok (.aload_n 1, 1) := by decide +kernel
theorem dX10_arrangeRow_2 : decode cX10_arrangeRow 2 = .ok (.iconst 0, 1) := by decide +kernel
theorem dX10_arrangeRow_3 : decode cX10_arrangeRow 3 = .ok (.aload_n 1, 1) := by decide +kernel
theorem dX10_arrangeRow_4 : decode cX10_arrangeRow 4 = .ok (.getfield 120, 3) := by decide +kernel
theorem dX10_arrangeRow_7 : decode cX10_arrangeRow 7 = .ok (.aload_n 2, 1) := by decide +kernel
theorem dX10_arrangeRow_8 : decode cX10_arrangeRow 8 = .ok (.invokevirtual 167, 3) := by decide +kernel
theorem dX10_arrangeRow_11 : decode cX10_arrangeRow 11 = .ok (.ireturn, 1) := by decide +kernel
set_option maxRecDepth 20000 in
theorem ggX10_arrangePart_X8_clear : GoodIn wsX10_arrangePart wsX8_clear := goodIn_r _ [6, 7, 66, 67, 68, 69] (by decide +kernel) (by decide +kernel)
set_option maxRecDepth 20000 in
theorem gX10_arrangePart_X8_clear : GoodIn wsX10_arrangePart (wsV RX10 149 RX8 yX8_clear wsX8_clear) := goodIn_app (goodIn_of _ (by decide +kernel)) ggX10_arrangePart_X8_clear
set_option maxRecDepth 20000 in
theorem ggX10_arrangePart_X8_take : GoodIn wsX10_arrangePart wsX8_take := goodIn_r _ [11, 7, 12, 13, 66, 67, 68, 69, 70, 71] (by decide +kernel) (by decide +kernel)
set_option maxRecDepth 20000 in
theorem gX10_arrangePart_X8_take : GoodIn wsX10_arrangePart (wsV RX10 152 RX8 yX8_take wsX8_take) := goodIn_app (goodIn_of _ (by decide +kernel)) ggX10_arrangePart_X8_take
set_option maxRecDepth 20000 in
theorem ggX10_arrangePart_X8_arrange : GoodIn wsX10_arrangePart wsX8_arrange := goodIn_r _ [17, 7, 18, 19, 20, 21, 12, 22, 23, 24, 25, 5, 26, 27, 28, 29, 30, 31, 32, 33, 34, 35, 36, 37, 38, 39, 40, 41, 42, 43, 44, 45, 46, 47, 48, 49, 50, 51, 66, 67, 68, 69, 72, 73, 74] (by decide +kernel) (by decide +kernel)
set_option maxRecDepth 20000 in
theorem gX10_arrangePart_X8_arrange : GoodIn wsX10_arrangePart (wsV RX10 156 RX8 yX8_arrange wsX8_arrange) := goodIn_app (goodIn_of _ (by decide +kernel)) ggX10_arrangePart_X8_arrange
set_option maxRecDepth 20000 in
theorem ggX10_arrangePart_X8_layBack : GoodIn wsX10_arrangePart wsX8_layBack := goodIn_r _ [55, 7, 13, 12, 66, 67, 68, 69, 70, 71] (by decide +kernel) (by decide +kernel)
set_option maxRecDepth 20000 in
theorem gX10_arrangePart_X8_layBack : GoodIn wsX10_arrangePart (wsV RX10 160 RX8 yX8_layBack wsX8_layBack) := goodIn_app (goodIn_of _ (by decide +kernel)) ggX10_arrangePart_X8_layBack
theorem dX10_arrangePart_0 : decode cX10_arrangePart 0 = .ok (.aload_n 0, 1) := by decide +kernel
theorem dX10_arrangePart_1 : decode cX10_arrangePart 1 = .ok (.getfield 42, 3) := by decide +kernel
theorem dX10_arrangePart_4 : decode cX10_arrangePart 4 = .ok (.invokevirtual 149, 3) := by decide +kernel
theorem dX10_arrangePart_7 : decode cX10_arrangePart 7 = .ok (.aload_n 0, 1) := by decide +kernel
theorem dX10_arrangePart_8 : decode cX10_arrangePart 8 = .ok (.getfield 42, 3) := by decide +kernel
theorem dX10_arrangePart_11 : decode cX10_arrangePart 11 = .ok (.aload_n 1, 1) := by decide +kernel
theorem dX10_arrangePart_12 : decode cX10_arrangePart 12 = .ok (.iload_n 2, 1) := by decide +kernel
theorem dX10_arrangePart_13 : decode cX10_arrangePart 13 = .ok (.iload_n 3, 1) := by decide +kernel
theorem dX10_arrangePart_14 : decode cX10_arrangePart 14 = .ok (.invokevirtual 152, 3) := by decide +kernel
theorem dX10_arrangePart_17 : decode cX10_arrangePart 17 = .ok (.aload_n 0, 1) := by decide +kernel
theorem dX10_arrangePart_18 : decode cX10_arrangePart 18 = .ok (.getfield 42, 3) := by decide +kernel
theorem dX10_arrangePart_21 : decode cX10_arrangePart 21 = .ok (.aload 4, 2) := by decide +kernel
theorem dX10_arrangePart_23 : decode cX10_arrangePart 23 = .ok (.invokevirtual 156, 3) := by decide +kernel
theorem dX10_arrangePart_26 : decode cX10_arrangePart 26 = .ok (.pop, 1) := by decide +kernel
theorem dX10_arrangePart_27 : decode cX10_arrangePart 27 = .ok (.aload_n 0, 1) := by decide +kernel
theorem dX10_arrangePart_28 : decode cX10_arrangePart 28 = .ok (.getfield 42, 3) := by decide +kernel
theorem dX10_arrangePart_31 : decode cX10_arrangePart 31 = .ok (.iconst 0, 1) := by decide +kernel
theorem dX10_arrangePart_32 : decode cX10_arrangePart 32 = .ok (.aload_n 1, 1) := by decide +kernel
theorem dX10_arrangePart_33 : decode cX10_arrangePart 33 = .ok (.iload_n 2, 1) := by decide +kernel
theorem dX10_arrangePart_34 : decode cX10_arrangePart 34 = .ok (.iload_n 3, 1) := by decide +kernel
theorem dX10_arrangePart_35 : decode cX10_arrangePart 35 = .ok (.invokevirtual 160, 3) := by decide +kernel
theorem dX10_arrangePart_38 : decode cX10_arrangePart 38 = .ok (.ireturn, 1) := by decide +kernel
set_option maxRecDepth 20000 in
theorem ggX10_sortCopy_X8_clear : GoodIn wsX10_sortCopy wsX8_clear := goodIn_r _ [8, 9, 66, 67, 68, 69] (by decide +kernel) (by decide +kernel)
set_option maxRecDepth 20000 in
theorem gX10_sortCopy_X8_clear : GoodIn wsX10_sortCopy (wsV RX10 149 RX8 yX8_clear wsX8_clear) := goodIn_app (goodIn_of _ (by decide +kernel)) ggX10_sortCopy_X8_clear
set_option maxRecDepth 20000 in
theorem ggX10_sortCopy_X8_take : GoodIn wsX10_sortCopy wsX8_take := goodIn_r _ [13, 9, 14, 15, 66, 67, 68, 69, 64, 65] (by decide +kernel) (by decide +kernel)
set_option maxRecDepth 20000 in
theorem gX10_sortCopy_X8_take : GoodIn wsX10_sortCopy (wsV RX10 152 RX8 yX8_take wsX8_take) := goodIn_app (goodIn_of _ (by decide +kernel)) ggX10_sortCopy_X8_take
set_option maxRecDepth 20000 in
theorem ggX10_sortCopy_X8_arrange : GoodIn wsX10_sortCopy wsX8_arrange := goodIn_r _ [19, 9, 20, 21, 22, 23, 14, 24, 25, 26, 27, 7, 28, 29, 30, 31, 32, 33, 34, 35, 36, 37, 38, 39, 40, 41, 42, 43, 44, 45, 46, 47, 48, 49, 50, 51, 52, 53, 66, 67, 68, 69, 70, 71, 72] (by decide +kernel) (by decide +kernel)
set_option maxRecDepth 20000 in
theorem gX10_sortCopy_X8_arrange : GoodIn wsX10_sortCopy (wsV RX10 156 RX8 yX8_arrange wsX8_arrange) := goodIn_app (goodIn_of _ (by decide +kernel)) ggX10_sortCopy_X8_arrange
theorem dX10_sortCopy_0 : decode cX10_sortCopy 0 = .ok (.aload_n 0, 1) := by decide +kernel
theorem dX10_sortCopy_1 : decode cX10_sortCopy 1 = .ok (.getfield 42, 3) := by decide +kernel
theorem dX10_sortCopy_4 : decode cX10_sortCopy 4 = .ok (.invokevirtual 149, 3) := by decide +kernel
theorem dX10_sortCopy_7 : decode cX10_sortCopy 7 = .ok (.aload_n 0, 1) := by decide +kernel
theorem dX10_sortCopy_8 : decode cX10_sortCopy 8 = .ok (.getfield 42, 3) := by decide +kernel
theorem dX10_sortCopy_11 : decode cX10_sortCopy 11 = .ok (.aload_n 1, 1) := by decide +kernel
theorem dX10_sortCopy_12 : decode cX10_sortCopy 12 = .ok (.iconst 0, 1) := by decide +kernel
theorem dX10_sortCopy_13 : decode cX10_sortCopy 13 = .ok (.aload_n 1, 1) := by decide +kernel
theorem dX10_sortCopy_14 : decode cX10_sortCopy 14 = .ok (.getfield 120, 3) := by decide +kernel
theorem dX10_sortCopy_17 : decode cX10_sortCopy 17 = .ok (.invokevirtual 152, 3) := by decide +kernel
theorem dX10_sortCopy_20 : decode cX10_sortCopy 20 = .ok (.aload_n 0, 1) := by decide +kernel
theorem dX10_sortCopy_21 : decode cX10_sortCopy 21 = .ok (.getfield 42, 3) := by decide +kernel
theorem dX10_sortCopy_24 : decode cX10_sortCopy 24 = .ok (.getstatic 139, 3) := by decide +kernel
theorem dX10_sortCopy_27 : decode cX10_sortCopy 27 = .ok (.invokevirtual 156, 3) := by decide +kernel
theorem dX10_sortCopy_30 : decode cX10_sortCopy 30 = .ok (.ireturn, 1) := by decide +kernel
set_option maxRecDepth 20000 in
theorem ggX10_firstAt_X1_firstOf : GoodIn wsX10_firstAt wsX1_firstOf := goodIn_r _ [7, 8, 9, 22, 23, 24] (by decide +kernel) (by decide +kernel)
set_option maxRecDepth 20000 in
theorem gX10_firstAt_X1_firstOf : GoodIn wsX10_firstAt (wsV RX10 207 RX1 yX1_firstOf wsX1_firstOf) := goodIn_app (goodIn_of _ (by decide +kernel)) ggX10_firstAt_X1_firstOf
theorem dX10_firstAt_0 : decode cX10_firstAt 0 = .ok (.aload_n 0, 1) := by decide +kernel
theorem dX10_firstAt_1 : decode cX10_firstAt 1 = .ok (.getfield 12, 3) := by decide +kernel
theorem dX10_firstAt_4 : decode cX10_firstAt 4 = .ok (.aload_n 1, 1) := by decide +kernel
theorem dX10_firstAt_5 : decode cX10_firstAt 5 = .ok (.getfield 188, 3) := by decide +kernel
theorem dX10_firstAt_8 : decode cX10_firstAt 8 = .ok (.iload_n 2, 1) := by decide +kernel
theorem dX10_firstAt_9 : decode cX10_firstAt 9 = .ok (.iaload, 1) := by decide +kernel
theorem dX10_firstAt_10 : decode cX10_firstAt 10 = .ok (.invokevirtual 207, 3) := by decide +kernel
theorem dX10_firstAt_13 : decode cX10_firstAt 13 = .ok (.ireturn, 1) := by decide +kernel
set_option maxRecDepth 20000 in
theorem ggX10_startsRun_X10_firstAt : GoodIn wsX10_startsRun wsX10_firstAt := goodIn_r _ [5, 6, 7, 8, 9, 10, 11, 12, 13, 14, 15, 16, 17, 18, 19, 20, 21, 22, 23, 24, 25, 26, 27, 28, 29] (by decide +kernel) (by decide +kernel)
set_option maxRecDepth 20000 in
theorem gX10_startsRun_X10_firstAt : GoodIn wsX10_startsRun (wsV RX10 224 RX10 yX10_firstAt wsX10_firstAt) := goodIn_app (goodIn_of _ (by decide +kernel)) ggX10_startsRun_X10_firstAt
theorem dX10_startsRun_0 : decode cX10_startsRun 0 = .ok (.iload_n 2, 1) := by decide +kernel
theorem dX10_startsRun_1 : decode cX10_startsRun 1 = .ok (.ifCond .eq 20, 3) := by decide +kernel
theorem dX10_startsRun_4 : decode cX10_startsRun 4 = .ok (.aload_n 0, 1) := by decide +kernel
theorem dX10_startsRun_5 : decode cX10_startsRun 5 = .ok (.aload_n 1, 1) := by decide +kernel
theorem dX10_startsRun_6 : decode cX10_startsRun 6 = .ok (.iload_n 2, 1) := by decide +kernel
theorem dX10_startsRun_7 : decode cX10_startsRun 7 = .ok (.invokevirtual 224, 3) := by decide +kernel
theorem dX10_startsRun_10 : decode cX10_startsRun 10 = .ok (.aload_n 0, 1) := by decide +kernel
theorem dX10_startsRun_11 : decode cX10_startsRun 11 = .ok (.aload_n 1, 1) := by decide +kernel
theorem dX10_startsRun_12 : decode cX10_startsRun 12 = .ok (.iload_n 2, 1) := by decide +kernel
theorem dX10_startsRun_13 : decode cX10_startsRun 13 = .ok (.iconst 1, 1) := by decide +kernel
theorem dX10_startsRun_14 : decode cX10_startsRun 14 = .ok (.isub, 1) := by decide +kernel
theorem dX10_startsRun_15 : decode cX10_startsRun 15 = .ok (.invokevirtual 224, 3) := by decide +kernel
theorem dX10_startsRun_18 : decode cX10_startsRun 18 = .ok (.if_icmp .ge 7, 3) := by decide +kernel
theorem dX10_startsRun_21 : decode cX10_startsRun 21 = .ok (.iconst 1, 1) := by decide +kernel
theorem dX10_startsRun_22 : decode cX10_startsRun 22 = .ok (.goto 4, 3) := by decide +kernel
theorem dX10_startsRun_25 : decode cX10_startsRun 25 = .ok (.iconst 0, 1) := by decide +kernel
theorem dX10_startsRun_26 : decode cX10_startsRun 26 = .ok (.ireturn, 1) := by decide +kernel
set_option maxRecDepth 20000 in
theorem ggX10_numberOfRuns_X10_startsRun : GoodIn wsX10_numberOfRuns wsX10_startsRun := goodIn_r _ [6, 7, 8, 9, 5, 10, 11, 12, 13, 14, 15, 16, 17, 18, 19, 22, 23, 24, 25, 26, 27, 28, 29, 30, 31, 20, 21, 32, 33, 34] (by decide +kernel) (by decide +kernel)
set_option maxRecDepth 20000 in
theorem gX10_numberOfRuns_X10_startsRun : GoodIn wsX10_numberOfRuns (wsV RX10 276 RX10 yX10_startsRun wsX10_startsRun) := goodIn_app (goodIn_of _ (by decide +kernel)) ggX10_numberOfRuns_X10_startsRun
theorem dX10_numberOfRuns_0 : decode cX10_numberOfRuns 0 = .ok (.iconst 0, 1) := by decide +kernel
theorem dX10_numberOfRuns_1 : decode cX10_numberOfRuns 1 = .ok (.istore_n 2, 1) := by decide +kernel
theorem dX10_numberOfRuns_2 : decode cX10_numberOfRuns 2 = .ok (.iconst 0, 1) := by decide +kernel
theorem dX10_numberOfRuns_3 : decode cX10_numberOfRuns 3 = .ok (.istore_n 3, 1) := by decide +kernel
theorem dX10_numberOfRuns_4 : decode cX10_numberOfRuns 4 = .ok (.iload_n 3, 1) := by decide +kernel
theorem dX10_numberOfRuns_5 : decode cX10_numberOfRuns 5 = .ok (.aload_n 1, 1) := by decide +kernel
theorem dX10_numberOfRuns_6 : decode cX10_numberOfRuns 6 = .ok (.getfield 120, 3) := by decide +kernel
theorem dX10_numberOfRuns_9 : decode cX10_numberOfRuns 9 = .ok (.if_icmp .ge 21, 3) := by decide +kernel
theorem dX10_numberOfRuns_12 : decode cX10_numberOfRuns 12 = .ok (.aload_n 0, 1) := by decide +kernel
theorem dX10_numberOfRuns_13 : decode cX10_numberOfRuns 13 = .ok (.aload_n 1, 1) := by decide +kernel
theorem dX10_numberOfRuns_14 : decode cX10_numberOfRuns 14 = .ok (.iload_n 3, 1) := by decide +kernel
theorem dX10_numberOfRuns_15 : decode cX10_numberOfRuns 15 = .ok (.invokevirtual 276, 3) := by decide +kernel
theorem dX10_numberOfRuns_18 : decode cX10_numberOfRuns 18 = .ok (.ifCond .eq 6, 3) := by decide +kernel
theorem dX10_numberOfRuns_21 : decode cX10_numberOfRuns 21 = .ok (.iinc 2 1, 3) := by decide +kernel
theorem dX10_numberOfRuns_24 : decode cX10_numberOfRuns 24 = .ok (.iinc 3 1, 3) := by decide +kernel
theorem dX10_numberOfRuns_27 : decode cX10_numberOfRuns 27 = .ok (.goto (-23), 3) := by decide +kernel
theorem dX10_numberOfRuns_30 : decode cX10_numberOfRuns 30 = .ok (.iload_n 2, 1) := by decide +kernel
theorem dX10_numberOfRuns_31 : decode cX10_numberOfRuns 31 = .ok (.ireturn, 1) := by decide +kernel
set_option maxRecDepth 20000 in
theorem ggX10_rises_X10_numberOfRuns : GoodIn wsX10_rises wsX10_numberOfRuns := goodIn_r _ [5, 6, 7, 8, 9, 4, 10, 11, 12, 13, 14, 15, 16, 17, 18, 19, 20, 21, 22, 23, 24, 25, 26, 27, 28, 29, 30, 31, 32, 33, 34, 35, 36, 37, 38] (by decide +kernel) (by decide +kernel)
set_option maxRecDepth 20000 in
theorem gX10_rises_X10_numberOfRuns : GoodIn wsX10_rises (wsV RX10 228 RX10 yX10_numberOfRuns wsX10_numberOfRuns) := goodIn_app (goodIn_of _ (by decide +kernel)) ggX10_rises_X10_numberOfRuns
theorem dX10_rises_0 : decode cX10_rises 0 = .ok (.aload_n 0, 1) := by decide +kernel
theorem dX10_rises_1 : decode cX10_rises 1 = .ok (.aload_n 1, 1) := by decide +kernel
theorem dX10_rises_2 : decode cX10_rises 2 = .ok (.invokevirtual 228, 3) := by decide +kernel
theorem dX10_rises_5 : decode cX10_rises 5 = .ok (.iconst 1, 1) := by decide +kernel
theorem dX10_rises_6 : decode cX10_rises 6 = .ok (.if_icmp .gt 7, 3) := by decide +kernel
theorem dX10_rises_9 : decode cX10_rises 9 = .ok (.iconst 1, 1) := by decide +kernel
theorem dX10_rises_10 : decode cX10_rises 10 = .ok (.goto 4, 3) := by decide +kernel
theorem dX10_rises_13 : decode cX10_rises 13 = .ok (.iconst 0, 1) := by decide +kernel
theorem dX10_rises_14 : decode cX10_rises 14 = .ok (.ireturn, 1) := by decide +kernel
set_option maxRecDepth 20000 in
theorem ggX10_lengthOfLongestRun_X10_startsRun : GoodIn wsX10_lengthOfLongestRun wsX10_startsRun := goodIn_r _ [10, 11, 12, 13, 9, 14, 15, 16, 17, 18, 19, 20, 21, 22, 23, 26, 27, 28, 29, 30, 31, 32, 33, 34, 35, 24, 25, 36, 37, 38] (by decide +kernel) (by decide +kernel)
set_option maxRecDepth 20000 in
theorem gX10_lengthOfLongestRun_X10_startsRun : GoodIn wsX10_lengthOfLongestRun (wsV RX10 276 RX10 yX10_startsRun wsX10_startsRun) := goodIn_app (goodIn_of _ (by decide +kernel)) ggX10_lengthOfLongestRun_X10_startsRun
theorem dX10_lengthOfLongestRun_0 : decode cX10_lengthOfLongestRun 0 = .ok (.iconst 0, 1) := by decide +kernel
theorem dX10_lengthOfLongestRun_1 : decode cX10_lengthOfLongestRun 1 = .ok (.istore_n 2, 1) := by decide +kernel
theorem dX10_lengthOfLongestRun_2 : decode cX10_lengthOfLongestRun 2 = .ok (.iconst 0, 1) := by decide +kernel
theorem dX10_lengthOfLongestRun_3 : decode cX10_lengthOfLongestRun 3 = .ok (.istore_n 3, 1) := by decide +kernel
theorem dX10_lengthOfLongestRun_4 : decode cX10_lengthOfLongestRun 4 = .ok (.iconst 0, 1) := by decide +kernel
theorem dX10_lengthOfLongestRun_5 : decode cX10_lengthOfLongestRun 5 = .ok (.istore 4, 2) := by decide +kernel
theorem dX10_lengthOfLongestRun_7 : decode cX10_lengthOfLongestRun 7 = .ok (.iload 4, 2) := by decide +kernel
theorem dX10_lengthOfLongestRun_9 : decode cX10_lengthOfLongestRun 9 = .ok (.aload_n 1, 1) := by decide +kernel
theorem dX10_lengthOfLongestRun_10 : decode cX10_lengthOfLongestRun 10 = .ok (.getfield 120, 3) := by decide +kernel
theorem dX10_lengthOfLongestRun_13 : decode cX10_lengthOfLongestRun 13 = .ok (.if_icmp .ge 33, 3) := by decide +kernel
theorem dX10_lengthOfLongestRun_16 : decode cX10_lengthOfLongestRun 16 = .ok (.aload_n 0, 1) := by decide +kernel
theorem dX10_lengthOfLongestRun_17 : decode cX10_lengthOfLongestRun 17 = .ok (.aload_n 1, 1) := by decide +kernel
theorem dX10_lengthOfLongestRun_18 : decode cX10_lengthOfLongestRun 18 = .ok (.iload 4, 2) := by decide +kernel
theorem dX10_lengthOfLongestRun_20 : decode cX10_lengthOfLongestRun 20 = .ok (.invokevirtual 276, 3) := by decide +kernel
theorem dX10_lengthOfLongestRun_23 : decode cX10_lengthOfLongestRun 23 = .ok (.ifCond .eq 6, 3) := by decide +kernel
theorem dX10_lengthOfLongestRun_26 : decode cX10_lengthOfLongestRun 26 = .ok (.iload 4, 2) := by decide +kernel
theorem dX10_lengthOfLongestRun_28 : decode cX10_lengthOfLongestRun 28 = .ok (.istore_n 3, 1) := by decide +kernel
theorem dX10_lengthOfLongestRun_29 : decode cX10_lengthOfLongestRun 29 = .ok (.iload_n 2, 1) := by decide +kernel
theorem dX10_lengthOfLongestRun_30 : decode cX10_lengthOfLongestRun 30 = .ok (.iload 4, 2) := by decide +kernel
theorem dX10_lengthOfLongestRun_32 : decode cX10_lengthOfLongestRun 32 = .ok (.iconst 1, 1) := by decide +kernel
theorem dX10_lengthOfLongestRun_33 : decode cX10_lengthOfLongestRun 33 = .ok (.iadd, 1) := by decide +kernel
theorem dX10_lengthOfLongestRun_34 : decode cX10_lengthOfLongestRun 34 = .ok (.iload_n 3, 1) := by decide +kernel
theorem dX10_lengthOfLongestRun_35 : decode cX10_lengthOfLongestRun 35 = .ok (.isub, 1) := by decide +kernel
theorem dX10_lengthOfLongestRun_36 : decode cX10_lengthOfLongestRun 36 = .ok (.invokestatic 280, 3) := by decide +kernel
theorem dX10_lengthOfLongestRun_39 : decode cX10_lengthOfLongestRun 39 = .ok (.istore_n 2, 1) := by decide +kernel
theorem dX10_lengthOfLongestRun_40 : decode cX10_lengthOfLongestRun 40 = .ok (.iinc 4 1, 3) := by decide +kernel
theorem dX10_lengthOfLongestRun_43 : decode cX10_lengthOfLongestRun 43 = .ok (.goto (-36), 3) := by decide +kernel
theorem dX10_lengthOfLongestRun_46 : decode cX10_lengthOfLongestRun 46 = .ok (.iload_n 2, 1) := by decide +kernel
theorem dX10_lengthOfLongestRun_47 : decode cX10_lengthOfLongestRun 47 = .ok (.ireturn, 1) := by decide +kernel
set_option maxRecDepth 20000 in
theorem ggX10_theoremHolds_X6_become : GoodIn wsX10_theoremHolds wsX6_become := goodIn_r _ [11, 12, 13, 14, 15, 16, 17, 18, 19, 20, 21, 22, 23, 24, 101, 102] (by decide +kernel) (by decide +kernel)
set_option maxRecDepth 20000 in
theorem gX10_theoremHolds_X6_become : GoodIn wsX10_theoremHolds (wsV RX10 210 RX6 yX6_become wsX6_become) := goodIn_app (goodIn_of _ (by decide +kernel)) ggX10_theoremHolds_X6_become
set_option maxRecDepth 20000 in
theorem ggX10_theoremHolds_X10_arrangePart : GoodIn wsX10_theoremHolds wsX10_arrangePart := goodIn_r _ [29, 30, 31, 32, 33, 34, 35, 36, 37, 38, 39, 40, 41, 42, 43, 44, 45, 46, 47, 14, 15, 16, 48, 49, 50, 51, 52, 53, 54, 55, 56, 57, 58, 59, 60, 61, 62, 63, 64, 65, 66, 67, 68, 69, 70, 71, 72, 73, 74, 75, 76, 77, 78, 79, 80, 81, 103, 104, 105, 106, 107, 108, 109, 110, 111, 112, 113, 114, 115, 116, 101, 102, 117, 118, 119] (by decide +kernel) (by decide +kernel)
set_option maxRecDepth 20000 in
theorem gX10_theoremHolds_X10_arrangePart : GoodIn wsX10_theoremHolds (wsV RX10 167 RX10 yX10_arrangePart wsX10_arrangePart) := goodIn_app (goodIn_of _ (by decide +kernel)) ggX10_theoremHolds_X10_arrangePart
set_option maxRecDepth 20000 in
theorem ggX10_theoremHolds_X10_rises : GoodIn wsX10_theoremHolds wsX10_rises := goodIn_r _ [85, 86, 87, 88, 28, 89, 1, 90, 91, 92, 93, 94, 95, 96, 97, 98, 99, 100, 60, 61, 62, 63, 64, 65, 101, 102, 103, 104, 105, 106, 107, 108, 109, 110, 111, 112, 117, 118, 119] (by decide +kernel) (by decide +kernel)
set_option maxRecDepth 20000 in
theorem gX10_theoremHolds_X10_rises : GoodIn wsX10_theoremHolds (wsV RX10 218 RX10 yX10_rises wsX10_rises) := goodIn_app (goodIn_of _ (by decide +kernel)) ggX10_theoremHolds_X10_rises
theorem dX10_theoremHolds_0 : decode cX10_theoremHolds 0 = .ok (.aload_n 1, 1) := by decide +kernel
theorem dX10_theoremHolds_1 : decode cX10_theoremHolds 1 = .ok (.getfield 120, 3) := by decide +kernel
theorem dX10_theoremHolds_4 : decode cX10_theoremHolds 4 = .ok (.istore_n 2, 1) := by decide +kernel
theorem dX10_theoremHolds_5 : decode cX10_theoremHolds 5 = .ok (.aload_n 0, 1) := by decide +kernel
theorem dX10_theoremHolds_6 : decode cX10_theoremHolds 6 = .ok (.getfield 30, 3) := by decide +kernel
theorem dX10_theoremHolds_9 : decode cX10_theoremHolds 9 = .ok (.aload_n 1, 1) := by decide +kernel
theorem dX10_theoremHolds_10 : decode cX10_theoremHolds 10 = .ok (.invokevirtual 210, 3) := by decide +kernel
theorem dX10_theoremHolds_13 : decode cX10_theoremHolds 13 = .ok (.pop, 1) := by decide +kernel
theorem dX10_theoremHolds_14 : decode cX10_theoremHolds 14 = .ok (.aload_n 0, 1) := by decide +kernel
theorem dX10_theoremHolds_15 : decode cX10_theoremHolds 15 = .ok (.aload_n 0, 1) := by decide +kernel
theorem dX10_theoremHolds_16 : decode cX10_theoremHolds 16 = .ok (.getfield 30, 3) := by decide +kernel
theorem dX10_theoremHolds_19 : decode cX10_theoremHolds 19 = .ok (.iconst 0, 1) := by decide +kernel
theorem dX10_theoremHolds_20 : decode cX10_theoremHolds 20 = .ok (.iload_n 2, 1) := by decide +kernel
theorem dX10_theoremHolds_21 : decode cX10_theoremHolds 21 = .ok (.getstatic 139, 3) := by decide +kernel
theorem dX10_theoremHolds_24 : decode cX10_theoremHolds 24 = .ok (.invokevirtual 167, 3) := by decide +kernel
theorem dX10_theoremHolds_27 : decode cX10_theoremHolds 27 = .ok (.pop, 1) := by decide +kernel
theorem dX10_theoremHolds_28 : decode cX10_theoremHolds 28 = .ok (.aload_n 0, 1) := by decide +kernel
theorem dX10_theoremHolds_29 : decode cX10_theoremHolds 29 = .ok (.aload_n 0, 1) := by decide +kernel
theorem dX10_theoremHolds_30 : decode cX10_theoremHolds 30 = .ok (.getfield 30, 3) := by decide +kernel
theorem dX10_theoremHolds_33 : decode cX10_theoremHolds 33 = .ok (.invokevirtual 218, 3) := by decide +kernel
theorem dX10_theoremHolds_36 : decode cX10_theoremHolds 36 = .ok (.ifCond .eq 19, 3) := by decide +kernel
theorem dX10_theoremHolds_39 : decode cX10_theoremHolds 39 = .ok (.aload_n 0, 1) := by decide +kernel
theorem dX10_theoremHolds_40 : decode cX10_theoremHolds 40 = .ok (.aload_n 0, 1) := by decide +kernel
theorem dX10_theoremHolds_41 : decode cX10_theoremHolds 41 = .ok (.getfield 30, 3) := by decide +kernel
theorem dX10_theoremHolds_44 : decode cX10_theoremHolds 44 = .ok (.iconst 0, 1) := by decide +kernel
theorem dX10_theoremHolds_45 : decode cX10_theoremHolds 45 = .ok (.iload_n 2, 1) := by decide +kernel
theorem dX10_theoremHolds_46 : decode cX10_theoremHolds 46 = .ok (.getstatic 139, 3) := by decide +kernel
theorem dX10_theoremHolds_49 : decode cX10_theoremHolds 49 = .ok (.invokevirtual 167, 3) := by decide +kernel
theorem dX10_theoremHolds_52 : decode cX10_theoremHolds 52 = .ok (.ifCond .eq 5, 3) := by decide +kernel
theorem dX10_theoremHolds_55 : decode cX10_theoremHolds 55 = .ok (.iconst 0, 1) := by decide +kernel
theorem dX10_theoremHolds_56 : decode cX10_theoremHolds 56 = .ok (.ireturn, 1) := by decide +kernel
theorem dX10_theoremHolds_57 : decode cX10_theoremHolds 57 = .ok (.aload_n 0, 1) := by decide +kernel
theorem dX10_theoremHolds_58 : decode cX10_theoremHolds 58 = .ok (.getfield 30, 3) := by decide +kernel
theorem dX10_theoremHolds_61 : decode cX10_theoremHolds 61 = .ok (.aload_n 1, 1) := by decide +kernel
theorem dX10_theoremHolds_62 : decode cX10_theoremHolds 62 = .ok (.invokevirtual 210, 3) := by decide +kernel
theorem dX10_theoremHolds_65 : decode cX10_theoremHolds 65 = .ok (.pop, 1) := by decide +kernel
theorem dX10_theoremHolds_66 : decode cX10_theoremHolds 66 = .ok (.aload_n 0, 1) := by decide +kernel
theorem dX10_theoremHolds_67 : decode cX10_theoremHolds 67 = .ok (.aload_n 0, 1) := by decide +kernel
theorem dX10_theoremHolds_68 : decode cX10_theoremHolds 68 = .ok (.getfield 30, 3) := by decide +kernel
theorem dX10_theoremHolds_71 : decode cX10_theoremHolds 71 = .ok (.iconst 0, 1) := by decide +kernel
theorem dX10_theoremHolds_72 : decode cX10_theoremHolds 72 = .ok (.iload_n 2, 1) := by decide +kernel
theorem dX10_theoremHolds_73 : decode cX10_theoremHolds 73 = .ok (.getstatic 179, 3) := by decide +kernel
theorem dX10_theoremHolds_76 : decode cX10_theoremHolds 76 = .ok (.invokevirtual 167, 3) := by decide +kernel
theorem dX10_theoremHolds_79 : decode cX10_theoremHolds 79 = .ok (.pop, 1) := by decide +kernel
theorem dX10_theoremHolds_80 : decode cX10_theoremHolds 80 = .ok (.aload_n 0, 1) := by decide +kernel
theorem dX10_theoremHolds_81 : decode cX10_theoremHolds 81 = .ok (.aload_n 0, 1) := by decide +kernel
theorem dX10_theoremHolds_82 : decode cX10_theoremHolds 82 = .ok (.getfield 30, 3) := by decide +kernel
theorem dX10_theoremHolds_85 : decode cX10_theoremHolds 85 = .ok (.iconst 0, 1) := by decide +kernel
theorem dX10_theoremHolds_86 : decode cX10_theoremHolds 86 = .ok (.iload_n 2, 1) := by decide +kernel
theorem dX10_theoremHolds_87 : decode cX10_theoremHolds 87 = .ok (.getstatic 139, 3) := by decide +kernel
theorem dX10_theoremHolds_90 : decode cX10_theoremHolds 90 = .ok (.invokevirtual 167, 3) := by decide +kernel
theorem dX10_theoremHolds_93 : decode cX10_theoremHolds 93 = .ok (.pop, 1) := by decide +kernel
theorem dX10_theoremHolds_94 : decode cX10_theoremHolds 94 = .ok (.aload_n 0, 1) := by decide +kernel
theorem dX10_theoremHolds_95 : decode cX10_theoremHolds 95 = .ok (.getfield 34, 3) := by decide +kernel
theorem dX10_theoremHolds_98 : decode cX10_theoremHolds 98 = .ok (.aload_n 1, 1) := by decide +kernel
theorem dX10_theoremHolds_99 : decode cX10_theoremHolds 99 = .ok (.invokevirtual 210, 3) := by decide +kernel
theorem dX10_theoremHolds_102 : decode cX10_theoremHolds 102 = .ok (.pop, 1) := by decide +kernel
theorem dX10_theoremHolds_103 : decode cX10_theoremHolds 103 = .ok (.aload_n 0, 1) := by decide +kernel
theorem dX10_theoremHolds_104 : decode cX10_theoremHolds 104 = .ok (.aload_n 0, 1) := by decide +kernel
theorem dX10_theoremHolds_105 : decode cX10_theoremHolds 105 = .ok (.getfield 34, 3) := by decide +kernel
theorem dX10_theoremHolds_108 : decode cX10_theoremHolds 108 = .ok (.iconst 0, 1) := by decide +kernel
theorem dX10_theoremHolds_109 : decode cX10_theoremHolds 109 = .ok (.iload_n 2, 1) := by decide +kernel
theorem dX10_theoremHolds_110 : decode cX10_theoremHolds 110 = .ok (.getstatic 182, 3) := by decide +kernel
theorem dX10_theoremHolds_113 : decode cX10_theoremHolds 113 = .ok (.invokevirtual 167, 3) := by decide +kernel
theorem dX10_theoremHolds_116 : decode cX10_theoremHolds 116 = .ok (.pop, 1) := by decide +kernel
theorem dX10_theoremHolds_117 : decode cX10_theoremHolds 117 = .ok (.aload_n 0, 1) := by decide +kernel
theorem dX10_theoremHolds_118 : decode cX10_theoremHolds 118 = .ok (.getfield 30, 3) := by decide +kernel
theorem dX10_theoremHolds_121 : decode cX10_theoremHolds 121 = .ok (.aload_n 0, 1) := by decide +kernel
theorem dX10_theoremHolds_122 : decode cX10_theoremHolds 122 = .ok (.getfield 34, 3) := by decide +kernel
theorem dX10_theoremHolds_125 : decode cX10_theoremHolds 125 = .ok (.invokevirtual 210, 3) := by decide +kernel
theorem dX10_theoremHolds_128 : decode cX10_theoremHolds 128 = .ok (.ifCond .ne 7, 3) := by decide +kernel
theorem dX10_theoremHolds_131 : decode cX10_theoremHolds 131 = .ok (.iconst 1, 1) := by decide +kernel
theorem dX10_theoremHolds_132 : decode cX10_theoremHolds 132 = .ok (.goto 4, 3) := by decide +kernel
theorem dX10_theoremHolds_135 : decode cX10_theoremHolds 135 = .ok (.iconst 0, 1) := by decide +kernel
theorem dX10_theoremHolds_136 : decode cX10_theoremHolds 136 = .ok (.ireturn, 1) := by decide +kernel
set_option maxRecDepth 20000 in
theorem ggJ5_init_d00df_J2_newBytesFor_77867 : GoodIn wsJ5_init_d00df wsJ2_newBytesFor_77867 := goodIn_r _ [11, 5, 12, 13, 10, 14, 15] (by decide +kernel) (by decide +kernel)
set_option maxRecDepth 20000 in
theorem gJ5_init_d00df_J2_newBytesFor_77867 : GoodIn wsJ5_init_d00df (va_wsS RJ5 26 yJ2_newBytesFor_77867 wsJ2_newBytesFor_77867) := goodIn_app (goodIn_of _ (by decide +kernel)) ggJ5_init_d00df_J2_newBytesFor_77867
theorem dJ5_init_d00df_0 : decode cJ5_init_d00df 0 = .ok (.aload_n 0, 1) := by decide +kernel
theorem dJ5_init_d00df_1 : decode cJ5_init_d00df 1 = .ok (.invokespecial 3, 3) := by decide +kernel
theorem dJ5_init_d00df_4 : decode cJ5_init_d00df 4 = .ok (.getstatic 18, 3) := by decide +kernel
theorem dJ5_init_d00df_7 : decode cJ5_init_d00df 7 = .ok (.ifCond .eq 18, 3) := by decide +kernel
theorem dJ5_init_d00df_10 : decode cJ5_init_d00df 10 = .ok (.aload_n 0, 1) := by decide +kernel
theorem dJ5_init_d00df_11 : decode cJ5_init_d00df 11 = .ok (.iload_n 1, 1) := by decide +kernel
theorem dJ5_init_d00df_12 : decode cJ5_init_d00df 12 = .ok (.newarray .byte, 2) := by decide +kernel
theorem dJ5_init_d00df_14 : decode cJ5_init_d00df 14 = .ok (.putfield 15, 3) := by decide +kernel
theorem dJ5_init_d00df_17 : decode cJ5_init_d00df 17 = .ok (.aload_n 0, 1) := by decide +kernel
theorem dJ5_init_d00df_18 : decode cJ5_init_d00df 18 = .ok (.iconst 0, 1) := by decide +kernel
theorem dJ5_init_d00df_19 : decode cJ5_init_d00df 19 = .ok (.putfield 22, 3) := by decide +kernel
theorem dJ5_init_d00df_22 : decode cJ5_init_d00df 22 = .ok (.goto 16, 3) := by decide +kernel
theorem dJ5_init_d00df_25 : decode cJ5_init_d00df 25 = .ok (.aload_n 0, 1) := by decide +kernel
theorem dJ5_init_d00df_26 : decode cJ5_init_d00df 26 = .ok (.iload_n 1, 1) := by decide +kernel
theorem dJ5_init_d00df_27 : decode cJ5_init_d00df 27 = .ok (.invokestatic 26, 3) := by decide +kernel
theorem dJ5_init_d00df_30 : decode cJ5_init_d00df 30 = .ok (.putfield 15, 3) := by decide +kernel
theorem dJ5_init_d00df_33 : decode cJ5_init_d00df 33 = .ok (.aload_n 0, 1) := by decide +kernel
theorem dJ5_init_d00df_34 : decode cJ5_init_d00df 34 = .ok (.iconst 1, 1) := by decide +kernel
theorem dJ5_init_d00df_35 : decode cJ5_init_d00df 35 = .ok (.putfield 22, 3) := by decide +kernel
theorem dJ5_init_d00df_38 : decode cJ5_init_d00df 38 = .ok (.return_, 1) := by decide +kernel
theorem dJ5_length_8abf5_0 : decode cJ5_length_8abf5 0 = .ok (.aload_n 0, 1) := by decide +kernel
theorem dJ5_length_8abf5_1 : decode cJ5_length_8abf5 1 = .ok (.getfield 79, 3) := by decide +kernel
theorem dJ5_length_8abf5_4 : decode cJ5_length_8abf5 4 = .ok (.ireturn, 1) := by decide +kernel
set_option maxRecDepth 20000 in
theorem ggJ5_ensureCapacityInternal_d00df_J5_newCapacity_0f7a4 : GoodIn wsJ5_ensureCapacityInternal_d00df wsJ5_newCapacity_0f7a4 := goodIn_r _ [8, 1, 2, 9, 10, 11, 12, 13, 14, 15, 16, 17, 18, 19, 20, 21, 40, 41, 42, 43] (by decide +kernel) (by decide +kernel)
set_option maxRecDepth 20000 in
theorem gJ5_ensureCapacityInternal_d00df_J5_newCapacity_0f7a4_u104J4 : GoodIn wsJ5_ensureCapacityInternal_d00df (va_wsU RJ5 104 RJ4 "java/lang/AbstractStringBuilder" ⟨"java/lang/AbstractStringBuilder", "newCapacity", "(I)I"⟩ yJ5_newCapacity_0f7a4 wsJ5_newCapacity_0f7a4) := goodIn_app (goodIn_of _ (by decide +kernel)) ggJ5_ensureCapacityInternal_d00df_J5_newCapacity_0f7a4
set_option maxRecDepth 20000 in
theorem ggJ5_ensureCapacityInternal_d00df_J7_copyOf_9075b : GoodIn wsJ5_ensureCapacityInternal_d00df wsJ7_copyOf_9075b := goodIn_r _ [25, 26, 27, 28, 29, 30, 31, 32, 33, 34, 16, 35, 36, 37, 38, 39] (by decide +kernel) (by decide +kernel)
set_option maxRecDepth 20000 in
theorem gJ5_ensureCapacityInternal_d00df_J7_copyOf_9075b : GoodIn wsJ5_ensureCapacityInternal_d00df (va_wsS RJ5 108 yJ7_copyOf_9075b wsJ7_copyOf_9075b) := goodIn_app (goodIn_of _ (by decide +kernel)) ggJ5_ensureCapacityInternal_d00df_J7_copyOf_9075b
theorem dJ5_ensureCapacityInternal_d00df_0 : decode cJ5_ensureCapacityInternal_d00df 0 = .ok (.aload_n 0, 1) := by decide +kernel
theorem dJ5_ensureCapacityInternal_d00df_1 : decode cJ5_ensureCapacityInternal_d00df 1 = .ok (.getfield 15, 3) := by decide +kernel
theorem dJ5_ensureCapacityInternal_d00df_4 : decode cJ5_ensureCapacityInternal_d00df 4 = .ok (.arraylength, 1) := by decide +kernel
theorem dJ5_ensureCapacityInternal_d00df_5 : decode cJ5_ensureCapacityInternal_d00df 5 = .ok (.aload_n 0, 1) := by decide +kernel
theorem dJ5_ensureCapacityInternal_d00df_6 : decode cJ5_ensureCapacityInternal_d00df 6 = .ok (.getfield 22, 3) := by decide +kernel
theorem dJ5_ensureCapacityInternal_d00df_9 : decode cJ5_ensureCapacityInternal_d00df 9 = .ok (.ishr, 1) := by decide +kernel
theorem dJ5_ensureCapacityInternal_d00df_10 : decode cJ5_ensureCapacityInternal_d00df 10 = .ok (.istore_n 2, 1) := by decide +kernel
theorem dJ5_ensureCapacityInternal_d00df_11 : decode cJ5_ensureCapacityInternal_d00df 11 = .ok (.iload_n 1, 1) := by decide +kernel
theorem dJ5_ensureCapacityInternal_d00df_12 : decode cJ5_ensureCapacityInternal_d00df 12 = .ok (.iload_n 2, 1) := by decide +kernel
theorem dJ5_ensureCapacityInternal_d00df_13 : decode cJ5_ensureCapacityInternal_d00df 13 = .ok (.isub, 1) := by decide +kernel
theorem dJ5_ensureCapacityInternal_d00df_14 : decode cJ5_ensureCapacityInternal_d00df 14 = .ok (.ifCond .le 24, 3) := by decide +kernel
theorem dJ5_ensureCapacityInternal_d00df_17 : decode cJ5_ensureCapacityInternal_d00df 17 = .ok (.aload_n 0, 1) := by decide +kernel
theorem dJ5_ensureCapacityInternal_d00df_18 : decode cJ5_ensureCapacityInternal_d00df 18 = .ok (.aload_n 0, 1) := by decide +kernel
theorem dJ5_ensureCapacityInternal_d00df_19 : decode cJ5_ensureCapacityInternal_d00df 19 = .ok (.getfield 15, 3) := by decide +kernel
theorem dJ5_ensureCapacityInternal_d00df_22 : decode cJ5_ensureCapacityInternal_d00df 22 = .ok (.aload_n 0, 1) := by decide +kernel
theorem dJ5_ensureCapacityInternal_d00df_23 : decode cJ5_ensureCapacityInternal_d00df 23 = .ok (.iload_n 1, 1) := by decide +kernel
theorem dJ5_ensureCapacityInternal_d00df_24 : decode cJ5_ensureCapacityInternal_d00df 24 = .ok (.invokevirtual 104, 3) := by decide +kernel
theorem dJ5_ensureCapacityInternal_d00df_27 : decode cJ5_ensureCapacityInternal_d00df 27 = .ok (.aload_n 0, 1) := by decide +kernel
theorem dJ5_ensureCapacityInternal_d00df_28 : decode cJ5_ensureCapacityInternal_d00df 28 = .ok (.getfield 22, 3) := by decide +kernel
theorem dJ5_ensureCapacityInternal_d00df_31 : decode cJ5_ensureCapacityInternal_d00df 31 = .ok (.ishl, 1) := by decide +kernel
theorem dJ5_ensureCapacityInternal_d00df_32 : decode cJ5_ensureCapacityInternal_d00df 32 = .ok (.invokestatic 108, 3) := by decide +kernel
theorem dJ5_ensureCapacityInternal_d00df_35 : decode cJ5_ensureCapacityInternal_d00df 35 = .ok (.putfield 15, 3) := by decide +kernel
theorem dJ5_ensureCapacityInternal_d00df_38 : decode cJ5_ensureCapacityInternal_d00df 38 = .ok (.return_, 1) := by decide +kernel
set_option maxRecDepth 20000 in
theorem ggJ5_newCapacity_0f7a4_J8_newLength_cabcc : GoodIn wsJ5_newCapacity_0f7a4 wsJ8_newLength_cabcc := goodIn_r _ [7, 8, 9, 10, 11, 12, 13, 14, 6, 15] (by decide +kernel) (by decide +kernel)
set_option maxRecDepth 20000 in
theorem gJ5_newCapacity_0f7a4_J8_newLength_cabcc : GoodIn wsJ5_newCapacity_0f7a4 (va_wsS RJ5 114 yJ8_newLength_cabcc wsJ8_newLength_cabcc) := goodIn_app (goodIn_of _ (by decide +kernel)) ggJ5_newCapacity_0f7a4_J8_newLength_cabcc
theorem dJ5_newCapacity_0f7a4_0 : decode cJ5_newCapacity_0f7a4 0 = .ok (.aload_n 0, 1) := by decide +kernel
theorem dJ5_newCapacity_0f7a4_1 : decode cJ5_newCapacity_0f7a4 1 = .ok (.getfield 15, 3) := by decide +kernel
theorem dJ5_newCapacity_0f7a4_4 : decode cJ5_newCapacity_0f7a4 4 = .ok (.arraylength, 1) := by decide +kernel
theorem dJ5_newCapacity_0f7a4_5 : decode cJ5_newCapacity_0f7a4 5 = .ok (.istore_n 2, 1) := by decide +kernel
theorem dJ5_newCapacity_0f7a4_6 : decode cJ5_newCapacity_0f7a4 6 = .ok (.iload_n 1, 1) := by decide +kernel
theorem dJ5_newCapacity_0f7a4_7 : decode cJ5_newCapacity_0f7a4 7 = .ok (.aload_n 0, 1) := by decide +kernel
theorem dJ5_newCapacity_0f7a4_8 : decode cJ5_newCapacity_0f7a4 8 = .ok (.getfield 22, 3) := by decide +kernel
theorem dJ5_newCapacity_0f7a4_11 : decode cJ5_newCapacity_0f7a4 11 = .ok (.ishl, 1) := by decide +kernel
theorem dJ5_newCapacity_0f7a4_12 : decode cJ5_newCapacity_0f7a4 12 = .ok (.istore_n 3, 1) := by decide +kernel
theorem dJ5_newCapacity_0f7a4_13 : decode cJ5_newCapacity_0f7a4 13 = .ok (.iload_n 3, 1) := by decide +kernel
theorem dJ5_newCapacity_0f7a4_14 : decode cJ5_newCapacity_0f7a4 14 = .ok (.iload_n 2, 1) := by decide +kernel
theorem dJ5_newCapacity_0f7a4_15 : decode cJ5_newCapacity_0f7a4 15 = .ok (.isub, 1) := by decide +kernel
theorem dJ5_newCapacity_0f7a4_16 : decode cJ5_newCapacity_0f7a4 16 = .ok (.istore 4, 2) := by decide +kernel
theorem dJ5_newCapacity_0f7a4_18 : decode cJ5_newCapacity_0f7a4 18 = .ok (.iload_n 2, 1) := by decide +kernel
theorem dJ5_newCapacity_0f7a4_19 : decode cJ5_newCapacity_0f7a4 19 = .ok (.iload 4, 2) := by decide +kernel
theorem dJ5_newCapacity_0f7a4_21 : decode cJ5_newCapacity_0f7a4 21 = .ok (.iload_n 2, 1) := by decide +kernel
theorem dJ5_newCapacity_0f7a4_22 : decode cJ5_newCapacity_0f7a4 22 = .ok (.iconst 2, 1) := by decide +kernel
theorem dJ5_newCapacity_0f7a4_23 : decode cJ5_newCapacity_0f7a4 23 = .ok (.aload_n 0, 1) := by decide +kernel
theorem dJ5_newCapacity_0f7a4_24 : decode cJ5_newCapacity_0f7a4 24 = .ok (.getfield 22, 3) := by decide +kernel
theorem dJ5_newCapacity_0f7a4_27 : decode cJ5_newCapacity_0f7a4 27 = .ok (.ishl, 1) := by decide +kernel
theorem dJ5_newCapacity_0f7a4_28 : decode cJ5_newCapacity_0f7a4 28 = .ok (.iadd, 1) := by decide +kernel
theorem dJ5_newCapacity_0f7a4_29 : decode cJ5_newCapacity_0f7a4 29 = .ok (.invokestatic 114, 3) := by decide +kernel
theorem dJ5_newCapacity_0f7a4_32 : decode cJ5_newCapacity_0f7a4 32 = .ok (.istore 5, 2) := by decide +kernel
theorem dJ5_newCapacity_0f7a4_34 : decode cJ5_newCapacity_0f7a4 34 = .ok (.iload 5, 2) := by decide +kernel
theorem dJ5_newCapacity_0f7a4_36 : decode cJ5_newCapacity_0f7a4 36 = .ok (.ldc 39, 2) := by decide +kernel
theorem dJ5_newCapacity_0f7a4_38 : decode cJ5_newCapacity_0f7a4 38 = .ok (.if_icmp .ne 13, 3) := by decide +kernel
theorem dJ5_newCapacity_0f7a4_41 : decode cJ5_newCapacity_0f7a4 41 = .ok (.new 120, 3) := by decide +kernel
theorem dJ5_newCapacity_0f7a4_44 : decode cJ5_newCapacity_0f7a4 44 = .ok (.dup, 1) := by decide +kernel
theorem dJ5_newCapacity_0f7a4_45 : decode cJ5_newCapacity_0f7a4 45 = .ok (.ldc 122, 2) := by decide +kernel
theorem dJ5_newCapacity_0f7a4_47 : decode cJ5_newCapacity_0f7a4 47 = .ok (.invokespecial 124, 3) := by decide +kernel
theorem dJ5_newCapacity_0f7a4_50 : decode cJ5_newCapacity_0f7a4 50 = .ok (.athrow, 1) := by decide +kernel
theorem dJ5_newCapacity_0f7a4_51 : decode cJ5_newCapacity_0f7a4 51 = .ok (.iload 5, 2) := by decide +kernel
theorem dJ5_newCapacity_0f7a4_53 : decode cJ5_newCapacity_0f7a4 53 = .ok (.aload_n 0, 1) := by decide +kernel
theorem dJ5_newCapacity_0f7a4_54 : decode cJ5_newCapacity_0f7a4 54 = .ok (.getfield 22, 3) := by decide +kernel
theorem dJ5_newCapacity_0f7a4_57 : decode cJ5_newCapacity_0f7a4 57 = .ok (.ishr, 1) := by decide +kernel
theorem dJ5_newCapacity_0f7a4_58 : decode cJ5_newCapacity_0f7a4 58 = .ok (.ireturn, 1) := by decide +kernel
set_option maxRecDepth 20000 in
theorem ggJ5_inflate_da8c8_J5_isLatin1_aae02 : GoodIn wsJ5_inflate_da8c8 wsJ5_isLatin1_aae02 := goodIn_r _ [9, 10, 3, 48, 49, 50, 51] (by decide +kernel) (by decide +kernel)
set_option maxRecDepth 20000 in
theorem gJ5_inflate_da8c8_J5_isLatin1_aae02_u83J4 : GoodIn wsJ5_inflate_da8c8 (va_wsU RJ5 83 RJ4 "java/lang/AbstractStringBuilder" ⟨"java/lang/AbstractStringBuilder", "isLatin1", "()Z"⟩ yJ5_isLatin1_aae02 wsJ5_isLatin1_aae02) := goodIn_app (goodIn_of _ (by decide +kernel)) ggJ5_inflate_da8c8_J5_isLatin1_aae02
set_option maxRecDepth 20000 in
theorem ggJ5_inflate_da8c8_J2_newBytesFor_77867 : GoodIn wsJ5_inflate_da8c8 wsJ2_newBytesFor_77867 := goodIn_r _ [14, 15, 16, 17, 13, 18, 19] (by decide +kernel) (by decide +kernel)
set_option maxRecDepth 20000 in
theorem gJ5_inflate_da8c8_J2_newBytesFor_77867 : GoodIn wsJ5_inflate_da8c8 (va_wsS RJ5 26 yJ2_newBytesFor_77867 wsJ2_newBytesFor_77867) := goodIn_app (goodIn_of _ (by decide +kernel)) ggJ5_inflate_da8c8_J2_newBytesFor_77867
set_option maxRecDepth 20000 in
theorem ggJ5_inflate_da8c8_J1_inflate_0e8fd : GoodIn wsJ5_inflate_da8c8 wsJ1_inflate_0e8fd := goodIn_r _ [23, 24, 25, 13, 26, 27, 28, 29, 30, 31, 32, 33, 34, 35, 36, 37, 38, 39, 40, 41, 42, 43, 44, 45, 46, 47] (by decide +kernel) (by decide +kernel)
set_option maxRecDepth 20000 in
theorem gJ5_inflate_da8c8_J1_inflate_0e8fd : GoodIn wsJ5_inflate_da8c8 (va_wsS RJ5 125 yJ1_inflate_0e8fd wsJ1_inflate_0e8fd) := goodIn_app (goodIn_of _ (by decide +kernel)) ggJ5_inflate_da8c8_J1_inflate_0e8fd
theorem dJ5_inflate_da8c8_0 : decode cJ5_inflate_da8c8 0 = .ok (.aload_n 0, 1) := by decide +kernel
theorem dJ5_inflate_da8c8_1 : decode cJ5_inflate_da8c8 1 = .ok (.invokevirtual 83, 3) := by decide +kernel
theorem dJ5_inflate_da8c8_4 : decode cJ5_inflate_da8c8 4 = .ok (.ifCond .ne 4, 3) := by decide +kernel
theorem dJ5_inflate_da8c8_7 : decode cJ5_inflate_da8c8 7 = .ok (.return_, 1) := by decide +kernel
theorem dJ5_inflate_da8c8_8 : decode cJ5_inflate_da8c8 8 = .ok (.aload_n 0, 1) := by decide +kernel
theorem dJ5_inflate_da8c8_9 : decode cJ5_inflate_da8c8 9 = .ok (.getfield 15, 3) := by decide +kernel
theorem dJ5_inflate_da8c8_12 : decode cJ5_inflate_da8c8 12 = .ok (.arraylength, 1) := by decide +kernel
theorem dJ5_inflate_da8c8_13 : decode cJ5_inflate_da8c8 13 = .ok (.invokestatic 26, 3) := by decide +kernel
theorem dJ5_inflate_da8c8_16 : decode cJ5_inflate_da8c8 16 = .ok (.astore_n 1, 1) := by decide +kernel
theorem dJ5_inflate_da8c8_17 : decode cJ5_inflate_da8c8 17 = .ok (.aload_n 0, 1) := by decide +kernel
theorem dJ5_inflate_da8c8_18 : decode cJ5_inflate_da8c8 18 = .ok (.getfield 15, 3) := by decide +kernel
theorem dJ5_inflate_da8c8_21 : decode cJ5_inflate_da8c8 21 = .ok (.iconst 0, 1) := by decide +kernel
theorem dJ5_inflate_da8c8_22 : decode cJ5_inflate_da8c8 22 = .ok (.aload_n 1, 1) := by decide +kernel
theorem dJ5_inflate_da8c8_23 : decode cJ5_inflate_da8c8 23 = .ok (.iconst 0, 1) := by decide +kernel
theorem dJ5_inflate_da8c8_24 : decode cJ5_inflate_da8c8 24 = .ok (.aload_n 0, 1) := by decide +kernel
theorem dJ5_inflate_da8c8_25 : decode cJ5_inflate_da8c8 25 = .ok (.getfield 79, 3) := by decide +kernel
theorem dJ5_inflate_da8c8_28 : decode cJ5_inflate_da8c8 28 = .ok (.invokestatic 125, 3) := by decide +kernel
theorem dJ5_inflate_da8c8_31 : decode cJ5_inflate_da8c8 31 = .ok (.aload_n 0, 1) := by decide +kernel
theorem dJ5_inflate_da8c8_32 : decode cJ5_inflate_da8c8 32 = .ok (.aload_n 1, 1) := by decide +kernel
theorem dJ5_inflate_da8c8_33 : decode cJ5_inflate_da8c8 33 = .ok (.putfield 15, 3) := by decide +kernel
theorem dJ5_inflate_da8c8_36 : decode cJ5_inflate_da8c8 36 = .ok (.aload_n 0, 1) := by decide +kernel
theorem dJ5_inflate_da8c8_37 : decode cJ5_inflate_da8c8 37 = .ok (.iconst 1, 1) := by decide +kernel
theorem dJ5_inflate_da8c8_38 : decode cJ5_inflate_da8c8 38 = .ok (.putfield 22, 3) := by decide +kernel
theorem dJ5_inflate_da8c8_41 : decode cJ5_inflate_da8c8 41 = .ok (.return_, 1) := by decide +kernel
set_option maxRecDepth 20000 in
theorem ggJ5_append_cf1ce_J5_appendNull_278bc : GoodIn wsJ5_append_cf1ce wsJ5_appendNull_278bc := goodIn_r _ [7, 1, 8, 9, 10, 11, 12, 6, 13, 14, 15, 16, 17, 18, 19, 20, 21, 22, 23, 24, 25, 26, 27, 28, 29, 30, 31, 32, 33, 34, 35, 36, 37, 38, 39, 40, 41, 42, 43, 44, 45, 46, 47, 48, 49, 50, 51, 52, 53, 54, 55, 56, 57, 58, 59, 60, 61, 62, 63, 64, 65, 66, 67, 68, 69, 70, 71, 72, 73, 74, 75, 76, 77, 78, 79, 80, 81, 138, 139, 140, 141] (by decide +kernel) (by decide +kernel)
set_option maxRecDepth 20000 in
theorem gJ5_append_cf1ce_J5_appendNull_278bc_u204J4 : GoodIn wsJ5_append_cf1ce (va_wsU RJ5 204 RJ4 "java/lang/AbstractStringBuilder" ⟨"java/lang/AbstractStringBuilder", "appendNull", "()Ljava/lang/AbstractStringBuilder;"⟩ yJ5_appendNull_278bc wsJ5_appendNull_278bc) := goodIn_app (goodIn_of _ (by decide +kernel)) ggJ5_append_cf1ce_J5_appendNull_278bc
set_option maxRecDepth 20000 in
theorem ggJ5_append_cf1ce_J0_length_8abf5 : GoodIn wsJ5_append_cf1ce wsJ0_length_8abf5 := goodIn_r _ [85, 86, 87, 88, 89, 70, 90, 91, 92, 142, 143, 144, 145] (by decide +kernel) (by decide +kernel)
set_option maxRecDepth 20000 in
theorem gJ5_append_cf1ce_J0_length_8abf5 : GoodIn wsJ5_append_cf1ce (wsV RJ5 32 RJ0 yJ0_length_8abf5 wsJ0_length_8abf5) := goodIn_app (goodIn_of _ (by decide +kernel)) ggJ5_append_cf1ce_J0_length_8abf5
set_option maxRecDepth 20000 in
theorem ggJ5_append_cf1ce_J5_ensureCapacityInternal_d00df : GoodIn wsJ5_append_cf1ce wsJ5_ensureCapacityInternal_d00df := goodIn_r _ [13, 8, 14, 15, 16, 17, 18, 6, 19, 20, 21, 22, 23, 24, 25, 26, 27, 28, 29, 30, 31, 32, 33, 34, 35, 36, 37, 38, 39, 40, 41, 42, 43, 44, 45, 46, 47, 48, 49, 50, 138, 139, 140, 141] (by decide +kernel) (by decide +kernel)
set_option maxRecDepth 20000 in
theorem gJ5_append_cf1ce_J5_ensureCapacityInternal_d00df_u100J4 : GoodIn wsJ5_append_cf1ce (va_wsU RJ5 100 RJ4 "java/lang/AbstractStringBuilder" ⟨"java/lang/AbstractStringBuilder", "ensureCapacityInternal", "(I)V"⟩ yJ5_ensureCapacityInternal_d00df wsJ5_ensureCapacityInternal_d00df) := goodIn_app (goodIn_of _ (by decide +kernel)) ggJ5_append_cf1ce_J5_ensureCapacityInternal_d00df
set_option maxRecDepth 20000 in
theorem ggJ5_append_cf1ce_J5_putStringAt_47b60 : GoodIn wsJ5_append_cf1ce wsJ5_putStringAt_47b60 := goodIn_r _ [97, 8, 14, 98, 99, 100, 101, 6, 102, 56, 103, 88, 89, 70, 90, 91, 92, 104, 105, 106, 107, 108, 1, 51, 52, 53, 54, 55, 109, 110, 59, 111, 43, 112, 113, 114, 115, 116, 117, 118, 119, 120, 121, 122, 123, 124, 125, 65, 66, 67, 126, 127, 128, 72, 129, 130, 75, 131, 77, 78, 79, 61, 80, 81, 132, 133, 134, 135, 86, 136, 48, 49, 50, 87, 137, 138, 139, 140, 141, 142, 143, 144, 145] (by decide +kernel) (by decide +kernel)
set_option maxRecDepth 20000 in
theorem gJ5_append_cf1ce_J5_putStringAt_47b60_u208J4 : GoodIn wsJ5_append_cf1ce (va_wsU RJ5 208 RJ4 "java/lang/AbstractStringBuilder" ⟨"java/lang/AbstractStringBuilder", "putStringAt", "(ILjava/lang/String;)V"⟩ yJ5_putStringAt_47b60 wsJ5_putStringAt_47b60) := goodIn_app (goodIn_of _ (by decide +kernel)) ggJ5_append_cf1ce_J5_putStringAt_47b60
theorem dJ5_append_cf1ce_0 : decode cJ5_append_cf1ce 0 = .ok (.aload_n 1, 1) := by decide +kernel
theorem dJ5_append_cf1ce_1 : decode cJ5_append_cf1ce 1 = .ok (.ifnonnull 8, 3) := by decide +kernel
theorem dJ5_append_cf1ce_4 : decode cJ5_append_cf1ce 4 = .ok (.aload_n 0, 1) := by decide +kernel
theorem dJ5_append_cf1ce_5 : decode cJ5_append_cf1ce 5 = .ok (.invokevirtual 204, 3) := by decide +kernel
theorem dJ5_append_cf1ce_8 : decode cJ5_append_cf1ce 8 = .ok (.areturn, 1) := by decide +kernel
theorem dJ5_append_cf1ce_9 : decode cJ5_append_cf1ce 9 = .ok (.aload_n 1, 1) := by decide +kernel
theorem dJ5_append_cf1ce_10 : decode cJ5_append_cf1ce 10 = .ok (.invokevirtual 32, 3) := by decide +kernel
theorem dJ5_append_cf1ce_13 : decode cJ5_append_cf1ce 13 = .ok (.istore_n 2, 1) := by decide +kernel
theorem dJ5_append_cf1ce_14 : decode cJ5_append_cf1ce 14 = .ok (.aload_n 0, 1) := by decide +kernel
theorem dJ5_append_cf1ce_15 : decode cJ5_append_cf1ce 15 = .ok (.aload_n 0, 1) := by decide +kernel
theorem dJ5_append_cf1ce_16 : decode cJ5_append_cf1ce 16 = .ok (.getfield 79, 3) := by decide +kernel
theorem dJ5_append_cf1ce_19 : decode cJ5_append_cf1ce 19 = .ok (.iload_n 2, 1) := by decide +kernel
theorem dJ5_append_cf1ce_20 : decode cJ5_append_cf1ce 20 = .ok (.iadd, 1) := by decide +kernel
theorem dJ5_append_cf1ce_21 : decode cJ5_append_cf1ce 21 = .ok (.invokevirtual 100, 3) := by decide +kernel
theorem dJ5_append_cf1ce_24 : decode cJ5_append_cf1ce 24 = .ok (.aload_n 0, 1) := by decide +kernel
theorem dJ5_append_cf1ce_25 : decode cJ5_append_cf1ce 25 = .ok (.aload_n 0, 1) := by decide +kernel
theorem dJ5_append_cf1ce_26 : decode cJ5_append_cf1ce 26 = .ok (.getfield 79, 3) := by decide +kernel
theorem dJ5_append_cf1ce_29 : decode cJ5_append_cf1ce 29 = .ok (.aload_n 1, 1) := by decide +kernel
theorem dJ5_append_cf1ce_30 : decode cJ5_append_cf1ce 30 = .ok (.invokevirtual 208, 3) := by decide +kernel
theorem dJ5_append_cf1ce_33 : decode cJ5_append_cf1ce 33 = .ok (.aload_n 0, 1) := by decide +kernel
theorem dJ5_append_cf1ce_34 : decode cJ5_append_cf1ce 34 = .ok (.dup, 1) := by decide +kernel
theorem dJ5_append_cf1ce_35 : decode cJ5_append_cf1ce 35 = .ok (.getfield 79, 3) := by decide +kernel
theorem dJ5_append_cf1ce_38 : decode cJ5_append_cf1ce 38 = .ok (.iload_n 2, 1) := by decide +kernel
theorem dJ5_append_cf1ce_39 : decode cJ5_append_cf1ce 39 = .ok (.iadd, 1) := by decide +kernel
theorem dJ5_append_cf1ce_40 : decode cJ5_append_cf1ce 40 = .ok (.putfield 79, 3) := by decide +kernel
theorem dJ5_append_cf1ce_43 : decode cJ5_append_cf1ce 43 = .ok (.aload_n 0, 1) := by decide +kernel
theorem dJ5_append_cf1ce_44 : decode cJ5_append_cf1ce 44 = .ok (.areturn, 1) := by decide +kernel
set_option maxRecDepth 20000 in
theorem ggJ5_appendNull_278bc_J5_ensureCapacityInternal_d00df : GoodIn wsJ5_appendNull_278bc wsJ5_ensureCapacityInternal_d00df := goodIn_r _ [8, 2, 9, 10, 11, 12, 13, 7, 14, 15, 16, 17, 18, 19, 20, 21, 22, 23, 24, 25, 26, 27, 28, 29, 30, 31, 32, 33, 34, 35, 36, 37, 38, 39, 40, 41, 42, 43, 44, 45, 77, 78, 79, 80] (by decide +kernel) (by decide +kernel)
set_option maxRecDepth 20000 in
theorem gJ5_appendNull_278bc_J5_ensureCapacityInternal_d00df_u100J4 : GoodIn wsJ5_appendNull_278bc (va_wsU RJ5 100 RJ4 "java/lang/AbstractStringBuilder" ⟨"java/lang/AbstractStringBuilder", "ensureCapacityInternal", "(I)V"⟩ yJ5_ensureCapacityInternal_d00df wsJ5_ensureCapacityInternal_d00df) := goodIn_app (goodIn_of _ (by decide +kernel)) ggJ5_appendNull_278bc_J5_ensureCapacityInternal_d00df
set_option maxRecDepth 20000 in
theorem ggJ5_appendNull_278bc_J5_isLatin1_aae02 : GoodIn wsJ5_appendNull_278bc wsJ5_isLatin1_aae02 := goodIn_r _ [50, 51, 9, 77, 78, 79, 80] (by decide +kernel) (by decide +kernel)
set_option maxRecDepth 20000 in
theorem gJ5_appendNull_278bc_J5_isLatin1_aae02_u83J4 : GoodIn wsJ5_appendNull_278bc (va_wsU RJ5 83 RJ4 "java/lang/AbstractStringBuilder" ⟨"java/lang/AbstractStringBuilder", "isLatin1", "()Z"⟩ yJ5_isLatin1_aae02 wsJ5_isLatin1_aae02) := goodIn_app (goodIn_of _ (by decide +kernel)) ggJ5_appendNull_278bc_J5_isLatin1_aae02
set_option maxRecDepth 20000 in
theorem ggJ5_appendNull_278bc_J2_putCharsAt_cd4e5 : GoodIn wsJ5_appendNull_278bc wsJ2_putCharsAt_cd4e5 := goodIn_r _ [55, 56, 57, 58, 54, 59, 60, 61, 62, 63, 64, 65, 66, 67, 68, 69, 70, 71, 72, 73, 74, 75, 76] (by decide +kernel) (by decide +kernel)
set_option maxRecDepth 20000 in
theorem gJ5_appendNull_278bc_J2_putCharsAt_cd4e5 : GoodIn wsJ5_appendNull_278bc (va_wsS RJ5 226 yJ2_putCharsAt_cd4e5 wsJ2_putCharsAt_cd4e5) := goodIn_app (goodIn_of _ (by decide +kernel)) ggJ5_appendNull_278bc_J2_putCharsAt_cd4e5
theorem dJ5_appendNull_278bc_0 : decode cJ5_appendNull_278bc 0 = .ok (.aload_n 0, 1) := by decide +kernel
theorem dJ5_appendNull_278bc_1 : decode cJ5_appendNull_278bc 1 = .ok (.aload_n 0, 1) := by decide +kernel
theorem dJ5_appendNull_278bc_2 : decode cJ5_appendNull_278bc 2 = .ok (.getfield 79, 3) := by decide +kernel
theorem dJ5_appendNull_278bc_5 : decode cJ5_appendNull_278bc 5 = .ok (.iconst 4, 1) := by decide +kernel
theorem dJ5_appendNull_278bc_6 : decode cJ5_appendNull_278bc 6 = .ok (.iadd, 1) := by decide +kernel
theorem dJ5_appendNull_278bc_7 : decode cJ5_appendNull_278bc 7 = .ok (.invokevirtual 100, 3) := by decide +kernel
theorem dJ5_appendNull_278bc_10 : decode cJ5_appendNull_278bc 10 = .ok (.aload_n 0, 1) := by decide +kernel
theorem dJ5_appendNull_278bc_11 : decode cJ5_appendNull_278bc 11 = .ok (.getfield 79, 3) := by decide +kernel
theorem dJ5_appendNull_278bc_14 : decode cJ5_appendNull_278bc 14 = .ok (.istore_n 1, 1) := by decide +kernel
theorem dJ5_appendNull_278bc_15 : decode cJ5_appendNull_278bc 15 = .ok (.aload_n 0, 1) := by decide +kernel
theorem dJ5_appendNull_278bc_16 : decode cJ5_appendNull_278bc 16 = .ok (.getfield 15, 3) := by decide +kernel
theorem dJ5_appendNull_278bc_19 : decode cJ5_appendNull_278bc 19 = .ok (.astore_n 2, 1) := by decide +kernel
theorem dJ5_appendNull_278bc_20 : decode cJ5_appendNull_278bc 20 = .ok (.aload_n 0, 1) := by decide +kernel
theorem dJ5_appendNull_278bc_21 : decode cJ5_appendNull_278bc 21 = .ok (.invokevirtual 83, 3) := by decide +kernel
theorem dJ5_appendNull_278bc_24 : decode cJ5_appendNull_278bc 24 = .ok (.ifCond .eq 38, 3) := by decide +kernel
theorem dJ5_appendNull_278bc_27 : decode cJ5_appendNull_278bc 27 = .ok (.aload_n 2, 1) := by decide +kernel
theorem dJ5_appendNull_278bc_28 : decode cJ5_appendNull_278bc 28 = .ok (.iload_n 1, 1) := by decide +kernel
theorem dJ5_appendNull_278bc_29 : decode cJ5_appendNull_278bc 29 = .ok (.iinc 1 1, 3) := by decide +kernel
theorem dJ5_appendNull_278bc_32 : decode cJ5_appendNull_278bc 32 = .ok (.bipush 110, 2) := by decide +kernel
theorem dJ5_appendNull_278bc_34 : decode cJ5_appendNull_278bc 34 = .ok (.bastore, 1) := by decide +kernel
theorem dJ5_appendNull_278bc_35 : decode cJ5_appendNull_278bc 35 = .ok (.aload_n 2, 1) := by decide +kernel
theorem dJ5_appendNull_278bc_36 : decode cJ5_appendNull_278bc 36 = .ok (.iload_n 1, 1) := by decide +kernel
theorem dJ5_appendNull_278bc_37 : decode cJ5_appendNull_278bc 37 = .ok (.iinc 1 1, 3) := by decide +kernel
theorem dJ5_appendNull_278bc_40 : decode cJ5_appendNull_278bc 40 = .ok (.bipush 117, 2) := by decide +kernel
theorem dJ5_appendNull_278bc_42 : decode cJ5_appendNull_278bc 42 = .ok (.bastore, 1) := by decide +kernel
theorem dJ5_appendNull_278bc_43 : decode cJ5_appendNull_278bc 43 = .ok (.aload_n 2, 1) := by decide +kernel
theorem dJ5_appendNull_278bc_44 : decode cJ5_appendNull_278bc 44 = .ok (.iload_n 1, 1) := by decide +kernel
theorem dJ5_appendNull_278bc_45 : decode cJ5_appendNull_278bc 45 = .ok (.iinc 1 1, 3) := by decide +kernel
theorem dJ5_appendNull_278bc_48 : decode cJ5_appendNull_278bc 48 = .ok (.bipush 108, 2) := by decide +kernel
theorem dJ5_appendNull_278bc_50 : decode cJ5_appendNull_278bc 50 = .ok (.bastore, 1) := by decide +kernel
theorem dJ5_appendNull_278bc_51 : decode cJ5_appendNull_278bc 51 = .ok (.aload_n 2, 1) := by decide +kernel
theorem dJ5_appendNull_278bc_52 : decode cJ5_appendNull_278bc 52 = .ok (.iload_n 1, 1) := by decide +kernel
theorem dJ5_appendNull_278bc_53 : decode cJ5_appendNull_278bc 53 = .ok (.iinc 1 1, 3) := by decide +kernel
theorem dJ5_appendNull_278bc_56 : decode cJ5_appendNull_278bc 56 = .ok (.bipush 108, 2) := by decide +kernel
theorem dJ5_appendNull_278bc_58 : decode cJ5_appendNull_278bc 58 = .ok (.bastore, 1) := by decide +kernel
theorem dJ5_appendNull_278bc_59 : decode cJ5_appendNull_278bc 59 = .ok (.goto 17, 3) := by decide +kernel
theorem dJ5_appendNull_278bc_62 : decode cJ5_appendNull_278bc 62 = .ok (.aload_n 2, 1) := by decide +kernel
theorem dJ5_appendNull_278bc_63 : decode cJ5_appendNull_278bc 63 = .ok (.iload_n 1, 1) := by decide +kernel
theorem dJ5_appendNull_278bc_64 : decode cJ5_appendNull_278bc 64 = .ok (.bipush 110, 2) := by decide +kernel
theorem dJ5_appendNull_278bc_66 : decode cJ5_appendNull_278bc 66 = .ok (.bipush 117, 2) := by decide +kernel
theorem dJ5_appendNull_278bc_68 : decode cJ5_appendNull_278bc 68 = .ok (.bipush 108, 2) := by decide +kernel
theorem dJ5_appendNull_278bc_70 : decode cJ5_appendNull_278bc 70 = .ok (.bipush 108, 2) := by decide +kernel
theorem dJ5_appendNull_278bc_72 : decode cJ5_appendNull_278bc 72 = .ok (.invokestatic 226, 3) := by decide +kernel
theorem dJ5_appendNull_278bc_75 : decode cJ5_appendNull_278bc 75 = .ok (.istore_n 1, 1) := by decide +kernel
theorem dJ5_appendNull_278bc_76 : decode cJ5_appendNull_278bc 76 = .ok (.aload_n 0, 1) := by decide +kernel
theorem dJ5_appendNull_278bc_77 : decode cJ5_appendNull_278bc 77 = .ok (.iload_n 1, 1) := by decide +kernel
theorem dJ5_appendNull_278bc_78 : decode cJ5_appendNull_278bc 78 = .ok (.putfield 79, 3) := by decide +kernel
theorem dJ5_appendNull_278bc_81 : decode cJ5_appendNull_278bc 81 = .ok (.aload_n 0, 1) := by decide +kernel
theorem dJ5_appendNull_278bc_82 : decode cJ5_appendNull_278bc 82 = .ok (.areturn, 1) := by decide +kernel
set_option maxRecDepth 20000 in
theorem ggJ5_append_c97b9_J6_stringSize_0f7a4 : GoodIn wsJ5_append_c97b9 wsJ6_stringSize_0f7a4 := goodIn_r _ [6] (by decide +kernel) (by decide +kernel)
set_option maxRecDepth 20000 in
theorem gJ5_append_c97b9_J6_stringSize_0f7a4 : GoodIn wsJ5_append_c97b9 (va_wsS RJ5 245 yJ6_stringSize_0f7a4 wsJ6_stringSize_0f7a4) := goodIn_app (goodIn_of _ (by decide +kernel)) ggJ5_append_c97b9_J6_stringSize_0f7a4
set_option maxRecDepth 20000 in
theorem ggJ5_append_c97b9_J5_ensureCapacityInternal_d00df : GoodIn wsJ5_append_c97b9 wsJ5_ensureCapacityInternal_d00df := goodIn_r _ [12, 2, 13, 14, 15, 16, 17, 11, 18, 19, 20, 21, 22, 23, 24, 25, 26, 27, 28, 29, 30, 31, 32, 33, 34, 35, 36, 37, 38, 39, 40, 41, 42, 43, 44, 45, 46, 47, 48, 49, 91, 92, 93, 94] (by decide +kernel) (by decide +kernel)
set_option maxRecDepth 20000 in
theorem gJ5_append_c97b9_J5_ensureCapacityInternal_d00df_u100J4 : GoodIn wsJ5_append_c97b9 (va_wsU RJ5 100 RJ4 "java/lang/AbstractStringBuilder" ⟨"java/lang/AbstractStringBuilder", "ensureCapacityInternal", "(I)V"⟩ yJ5_ensureCapacityInternal_d00df wsJ5_ensureCapacityInternal_d00df) := goodIn_app (goodIn_of _ (by decide +kernel)) ggJ5_append_c97b9_J5_ensureCapacityInternal_d00df
set_option maxRecDepth 20000 in
theorem ggJ5_append_c97b9_J5_isLatin1_aae02 : GoodIn wsJ5_append_c97b9 wsJ5_isLatin1_aae02 := goodIn_r _ [54, 55, 13, 91, 92, 93, 94] (by decide +kernel) (by decide +kernel)
set_option maxRecDepth 20000 in
theorem gJ5_append_c97b9_J5_isLatin1_aae02_u83J4 : GoodIn wsJ5_append_c97b9 (va_wsU RJ5 83 RJ4 "java/lang/AbstractStringBuilder" ⟨"java/lang/AbstractStringBuilder", "isLatin1", "()Z"⟩ yJ5_isLatin1_aae02 wsJ5_isLatin1_aae02) := goodIn_app (goodIn_of _ (by decide +kernel)) ggJ5_append_c97b9_J5_isLatin1_aae02
set_option maxRecDepth 20000 in
theorem ggJ5_append_c97b9_J6_getChars_ba4f3 : GoodIn wsJ5_append_c97b9 wsJ6_getChars_ba4f3 := goodIn_r _ [58, 59, 60] (by decide +kernel) (by decide +kernel)
set_option maxRecDepth 20000 in
theorem gJ5_append_c97b9_J6_getChars_ba4f3 : GoodIn wsJ5_append_c97b9 (va_wsS RJ5 248 yJ6_getChars_ba4f3 wsJ6_getChars_ba4f3) := goodIn_app (goodIn_of _ (by decide +kernel)) ggJ5_append_c97b9_J6_getChars_ba4f3
set_option maxRecDepth 20000 in
theorem ggJ5_append_c97b9_J2_getChars_46870 : GoodIn wsJ5_append_c97b9 wsJ2_getChars_46870 := goodIn_r _ [64, 65, 66, 67, 63, 68, 69, 70, 71, 72, 73, 74, 75, 76, 77, 78, 79, 80, 81, 82, 83, 84, 85, 86, 87, 88, 89, 90] (by decide +kernel) (by decide +kernel)
set_option maxRecDepth 20000 in
theorem gJ5_append_c97b9_J2_getChars_46870 : GoodIn wsJ5_append_c97b9 (va_wsS RJ5 251 yJ2_getChars_46870 wsJ2_getChars_46870) := goodIn_app (goodIn_of _ (by decide +kernel)) ggJ5_append_c97b9_J2_getChars_46870
theorem dJ5_append_c97b9_0 : decode cJ5_append_c97b9 0 = .ok (.aload_n 0, 1) := by decide +kernel
theorem dJ5_append_c97b9_1 : decode cJ5_append_c97b9 1 = .ok (.getfield 79, 3) := by decide +kernel
theorem dJ5_append_c97b9_4 : decode cJ5_append_c97b9 4 = .ok (.istore_n 2, 1) := by decide +kernel
theorem dJ5_append_c97b9_5 : decode cJ5_append_c97b9 5 = .ok (.iload_n 2, 1) := by decide +kernel
theorem dJ5_append_c97b9_6 : decode cJ5_append_c97b9 6 = .ok (.iload_n 1, 1) := by decide +kernel
theorem dJ5_append_c97b9_7 : decode cJ5_append_c97b9 7 = .ok (.invokestatic 245, 3) := by decide +kernel
theorem dJ5_append_c97b9_10 : decode cJ5_append_c97b9 10 = .ok (.iadd, 1) := by decide +kernel
theorem dJ5_append_c97b9_11 : decode cJ5_append_c97b9 11 = .ok (.istore_n 3, 1) := by decide +kernel
theorem dJ5_append_c97b9_12 : decode cJ5_append_c97b9 12 = .ok (.aload_n 0, 1) := by decide +kernel
theorem dJ5_append_c97b9_13 : decode cJ5_append_c97b9 13 = .ok (.iload_n 3, 1) := by decide +kernel
theorem dJ5_append_c97b9_14 : decode cJ5_append_c97b9 14 = .ok (.invokevirtual 100, 3) := by decide +kernel
theorem dJ5_append_c97b9_17 : decode cJ5_append_c97b9 17 = .ok (.aload_n 0, 1) := by decide +kernel
theorem dJ5_append_c97b9_18 : decode cJ5_append_c97b9 18 = .ok (.invokevirtual 83, 3) := by decide +kernel
theorem dJ5_append_c97b9_21 : decode cJ5_append_c97b9 21 = .ok (.ifCond .eq 16, 3) := by decide +kernel
theorem dJ5_append_c97b9_24 : decode cJ5_append_c97b9 24 = .ok (.iload_n 1, 1) := by decide +kernel
theorem dJ5_append_c97b9_25 : decode cJ5_append_c97b9 25 = .ok (.iload_n 3, 1) := by decide +kernel
theorem dJ5_append_c97b9_26 : decode cJ5_append_c97b9 26 = .ok (.aload_n 0, 1) := by decide +kernel
theorem dJ5_append_c97b9_27 : decode cJ5_append_c97b9 27 = .ok (.getfield 15, 3) := by decide +kernel
theorem dJ5_append_c97b9_30 : decode cJ5_append_c97b9 30 = .ok (.invokestatic 248, 3) := by decide +kernel
theorem dJ5_append_c97b9_33 : decode cJ5_append_c97b9 33 = .ok (.pop, 1) := by decide +kernel
theorem dJ5_append_c97b9_34 : decode cJ5_append_c97b9 34 = .ok (.goto 14, 3) := by decide +kernel
theorem dJ5_append_c97b9_37 : decode cJ5_append_c97b9 37 = .ok (.iload_n 1, 1) := by decide +kernel
theorem dJ5_append_c97b9_38 : decode cJ5_append_c97b9 38 = .ok (.iload_n 2, 1) := by decide +kernel
theorem dJ5_append_c97b9_39 : decode cJ5_append_c97b9 39 = .ok (.iload_n 3, 1) := by decide +kernel
theorem dJ5_append_c97b9_40 : decode cJ5_append_c97b9 40 = .ok (.aload_n 0, 1) := by decide +kernel
theorem dJ5_append_c97b9_41 : decode cJ5_append_c97b9 41 = .ok (.getfield 15, 3) := by decide +kernel
theorem dJ5_append_c97b9_44 : decode cJ5_append_c97b9 44 = .ok (.invokestatic 251, 3) := by decide +kernel
theorem dJ5_append_c97b9_47 : decode cJ5_append_c97b9 47 = .ok (.pop, 1) := by decide +kernel
theorem dJ5_append_c97b9_48 : decode cJ5_append_c97b9 48 = .ok (.aload_n 0, 1) := by decide +kernel
theorem dJ5_append_c97b9_49 : decode cJ5_append_c97b9 49 = .ok (.iload_n 3, 1) := by decide +kernel
theorem dJ5_append_c97b9_50 : decode cJ5_append_c97b9 50 = .ok (.putfield 79, 3) := by decide +kernel
theorem dJ5_append_c97b9_53 : decode cJ5_append_c97b9 53 = .ok (.aload_n 0, 1) := by decide +kernel
theorem dJ5_append_c97b9_54 : decode cJ5_append_c97b9 54 = .ok (.areturn, 1) := by decide +kernel
theorem dJ5_getValue_6d5f1_0 : decode cJ5_getValue_6d5f1 0 = .ok (.aload_n 0, 1) := by decide +kernel
theorem dJ5_getValue_6d5f1_1 : decode cJ5_getValue_6d5f1 1 = .ok (.getfield 15, 3) := by decide +kernel
theorem dJ5_getValue_6d5f1_4 : decode cJ5_getValue_6d5f1 4 = .ok (.areturn, 1) := by decide +kernel
theorem dJ5_isLatin1_aae02_0 : decode cJ5_isLatin1_aae02 0 = .ok (.getstatic 18, 3) := by decide +kernel
theorem dJ5_isLatin1_aae02_3 : decode cJ5_isLatin1_aae02 3 = .ok (.ifCond .eq 14, 3) := by decide +kernel
theorem dJ5_isLatin1_aae02_6 : decode cJ5_isLatin1_aae02 6 = .ok (.aload_n 0, 1) := by decide +kernel
theorem dJ5_isLatin1_aae02_7 : decode cJ5_isLatin1_aae02 7 = .ok (.getfield 22, 3) := by decide +kernel
theorem dJ5_isLatin1_aae02_10 : decode cJ5_isLatin1_aae02 10 = .ok (.ifCond .ne 7, 3) := by decide +kernel
theorem dJ5_isLatin1_aae02_13 : decode cJ5_isLatin1_aae02 13 = .ok (.iconst 1, 1) := by decide +kernel
theorem dJ5_isLatin1_aae02_14 : decode cJ5_isLatin1_aae02 14 = .ok (.goto 4, 3) := by decide +kernel
theorem dJ5_isLatin1_aae02_17 : decode cJ5_isLatin1_aae02 17 = .ok (.iconst 0, 1) := by decide +kernel
theorem dJ5_isLatin1_aae02_18 : decode cJ5_isLatin1_aae02 18 = .ok (.ireturn, 1) := by decide +kernel
set_option maxRecDepth 20000 in
theorem ggJ5_inflateIfNeededFor_a7421_J0_coder_7d493 : GoodIn wsJ5_inflateIfNeededFor_a7421 wsJ0_coder_7d493 := goodIn_r _ [7, 8, 9, 63, 64, 65, 66] (by decide +kernel) (by decide +kernel)
set_option maxRecDepth 20000 in
theorem gJ5_inflateIfNeededFor_a7421_J0_coder_7d493 : GoodIn wsJ5_inflateIfNeededFor_a7421 (wsV RJ5 40 RJ0 yJ0_coder_7d493 wsJ0_coder_7d493) := goodIn_app (goodIn_of _ (by decide +kernel)) ggJ5_inflateIfNeededFor_a7421_J0_coder_7d493
set_option maxRecDepth 20000 in
theorem ggJ5_inflateIfNeededFor_a7421_J5_inflate_da8c8 : GoodIn wsJ5_inflateIfNeededFor_a7421 wsJ5_inflate_da8c8 := goodIn_r _ [15, 16, 17, 2, 18, 19, 20, 21, 14, 22, 1, 23, 24, 25, 26, 27, 28, 29, 30, 31, 32, 33, 34, 35, 36, 37, 38, 39, 40, 41, 42, 43, 44, 45, 46, 6, 47, 48, 49, 50, 51, 52, 53, 54, 55, 56, 57, 58, 59, 60, 61, 62] (by decide +kernel) (by decide +kernel)
set_option maxRecDepth 20000 in
theorem gJ5_inflateIfNeededFor_a7421_J5_inflate_da8c8_u195J4 : GoodIn wsJ5_inflateIfNeededFor_a7421 (va_wsU RJ5 195 RJ4 "java/lang/AbstractStringBuilder" ⟨"java/lang/AbstractStringBuilder", "inflate", "()V"⟩ yJ5_inflate_da8c8 wsJ5_inflate_da8c8) := goodIn_app (goodIn_of _ (by decide +kernel)) ggJ5_inflateIfNeededFor_a7421_J5_inflate_da8c8
theorem dJ5_inflateIfNeededFor_a7421_0 : decode cJ5_inflateIfNeededFor_a7421 0 = .ok (.getstatic 18, 3) := by decide +kernel
theorem dJ5_inflateIfNeededFor_a7421_3 : decode cJ5_inflateIfNeededFor_a7421 3 = .ok (.ifCond .eq 18, 3) := by decide +kernel
theorem dJ5_inflateIfNeededFor_a7421_6 : decode cJ5_inflateIfNeededFor_a7421 6 = .ok (.aload_n 0, 1) := by decide +kernel
theorem dJ5_inflateIfNeededFor_a7421_7 : decode cJ5_inflateIfNeededFor_a7421 7 = .ok (.getfield 22, 3) := by decide +kernel
theorem dJ5_inflateIfNeededFor_a7421_10 : decode cJ5_inflateIfNeededFor_a7421 10 = .ok (.aload_n 1, 1) := by decide +kernel
theorem dJ5_inflateIfNeededFor_a7421_11 : decode cJ5_inflateIfNeededFor_a7421 11 = .ok (.invokevirtual 40, 3) := by decide +kernel
theorem dJ5_inflateIfNeededFor_a7421_14 : decode cJ5_inflateIfNeededFor_a7421 14 = .ok (.if_icmp .eq 7, 3) := by decide +kernel
theorem dJ5_inflateIfNeededFor_a7421_17 : decode cJ5_inflateIfNeededFor_a7421 17 = .ok (.aload_n 0, 1) := by decide +kernel
theorem dJ5_inflateIfNeededFor_a7421_18 : decode cJ5_inflateIfNeededFor_a7421 18 = .ok (.invokevirtual 195, 3) := by decide +kernel
theorem dJ5_inflateIfNeededFor_a7421_21 : decode cJ5_inflateIfNeededFor_a7421 21 = .ok (.return_, 1) := by decide +kernel
set_option maxRecDepth 20000 in
theorem ggJ5_putStringAt_47b60_J5_inflateIfNeededFor_a7421 : GoodIn wsJ5_putStringAt_47b60 wsJ5_inflateIfNeededFor_a7421 := goodIn_r _ [8, 9, 2, 10, 11, 12, 13, 14, 15, 16, 17, 18, 19, 20, 7, 21, 1, 22, 23, 24, 25, 26, 27, 28, 29, 30, 31, 32, 33, 34, 35, 36, 37, 38, 39, 40, 41, 42, 43, 44, 45, 46, 47, 48, 49, 50, 51, 52, 53, 54, 55, 56, 57, 58, 59, 60, 61, 62, 63, 75, 76, 77, 78, 79, 80, 81, 82] (by decide +kernel) (by decide +kernel)
set_option maxRecDepth 20000 in
theorem gJ5_putStringAt_47b60_J5_inflateIfNeededFor_a7421_u397J4 : GoodIn wsJ5_putStringAt_47b60 (va_wsU RJ5 397 RJ4 "java/lang/AbstractStringBuilder" ⟨"java/lang/AbstractStringBuilder", "inflateIfNeededFor", "(Ljava/lang/String;)V"⟩ yJ5_inflateIfNeededFor_a7421 wsJ5_inflateIfNeededFor_a7421) := goodIn_app (goodIn_of _ (by decide +kernel)) ggJ5_putStringAt_47b60_J5_inflateIfNeededFor_a7421
set_option maxRecDepth 20000 in
theorem ggJ5_putStringAt_47b60_J0_getBytes_840e7 : GoodIn wsJ5_putStringAt_47b60 wsJ0_getBytes_840e7 := goodIn_r _ [67, 68, 69, 70, 71, 72, 73, 11, 12, 13, 14, 15, 16, 74, 38, 39, 40, 41, 42, 30, 43, 44, 45, 46, 47, 48, 49, 50, 51, 52, 53, 54, 55, 56, 57, 58, 59, 60, 61, 62, 63, 79, 80, 81, 82] (by decide +kernel) (by decide +kernel)
set_option maxRecDepth 20000 in
theorem gJ5_putStringAt_47b60_J0_getBytes_840e7 : GoodIn wsJ5_putStringAt_47b60 (wsV RJ5 399 RJ0 yJ0_getBytes_840e7 wsJ0_getBytes_840e7) := goodIn_app (goodIn_of _ (by decide +kernel)) ggJ5_putStringAt_47b60_J0_getBytes_840e7
theorem dJ5_putStringAt_47b60_0 : decode cJ5_putStringAt_47b60 0 = .ok (.aload_n 0, 1) := by decide +kernel
theorem dJ5_putStringAt_47b60_1 : decode cJ5_putStringAt_47b60 1 = .ok (.aload_n 2, 1) := by decide +kernel
theorem dJ5_putStringAt_47b60_2 : decode cJ5_putStringAt_47b60 2 = .ok (.invokevirtual 397, 3) := by decide +kernel
theorem dJ5_putStringAt_47b60_5 : decode cJ5_putStringAt_47b60 5 = .ok (.aload_n 2, 1) := by decide +kernel
theorem dJ5_putStringAt_47b60_6 : decode cJ5_putStringAt_47b60 6 = .ok (.aload_n 0, 1) := by decide +kernel
theorem dJ5_putStringAt_47b60_7 : decode cJ5_putStringAt_47b60 7 = .ok (.getfield 15, 3) := by decide +kernel
theorem dJ5_putStringAt_47b60_10 : decode cJ5_putStringAt_47b60 10 = .ok (.iload_n 1, 1) := by decide +kernel
theorem dJ5_putStringAt_47b60_11 : decode cJ5_putStringAt_47b60 11 = .ok (.aload_n 0, 1) := by decide +kernel
theorem dJ5_putStringAt_47b60_12 : decode cJ5_putStringAt_47b60 12 = .ok (.getfield 22, 3) := by decide +kernel
theorem dJ5_putStringAt_47b60_15 : decode cJ5_putStringAt_47b60 15 = .ok (.invokevirtual 399, 3) := by decide +kernel
theorem dJ5_putStringAt_47b60_18 : decode cJ5_putStringAt_47b60 18 = .ok (.return_, 1) := by decide +kernel
theorem dJx29ce0_ordinal_8abf5_0 : decode cJx29ce0_ordinal_8abf5 0 = .ok (.aload_n 0, 1) := by decide +kernel
theorem dJx29ce0_ordinal_8abf5_1 : decode cJx29ce0_ordinal_8abf5 1 = .ok (.getfield 7, 3) := by decide +kernel
theorem dJx29ce0_ordinal_8abf5_4 : decode cJx29ce0_ordinal_8abf5 4 = .ok (.ireturn, 1) := by decide +kernel
theorem dJ6_getChars_ba4f3_0 : decode cJ6_getChars_ba4f3 0 = .ok (.iload_n 1, 1) := by decide +kernel
theorem dJ6_getChars_ba4f3_1 : decode cJ6_getChars_ba4f3 1 = .ok (.istore 5, 2) := by decide +kernel
theorem dJ6_getChars_ba4f3_3 : decode cJ6_getChars_ba4f3 3 = .ok (.iload_n 0, 1) := by decide +kernel
theorem dJ6_getChars_ba4f3_4 : decode cJ6_getChars_ba4f3 4 = .ok (.ifCond .ge 7, 3) := by decide +kernel
theorem dJ6_getChars_ba4f3_7 : decode cJ6_getChars_ba4f3 7 = .ok (.iconst 1, 1) := by decide +kernel
theorem dJ6_getChars_ba4f3_8 : decode cJ6_getChars_ba4f3 8 = .ok (.goto 4, 3) := by decide +kernel
theorem dJ6_getChars_ba4f3_11 : decode cJ6_getChars_ba4f3 11 = .ok (.iconst 0, 1) := by decide +kernel
theorem dJ6_getChars_ba4f3_12 : decode cJ6_getChars_ba4f3 12 = .ok (.istore 6, 2) := by decide +kernel
theorem dJ6_getChars_ba4f3_14 : decode cJ6_getChars_ba4f3 14 = .ok (.iload 6, 2) := by decide +kernel
theorem dJ6_getChars_ba4f3_16 : decode cJ6_getChars_ba4f3 16 = .ok (.ifCond .ne 6, 3) := by decide +kernel
theorem dJ6_getChars_ba4f3_19 : decode cJ6_getChars_ba4f3 19 = .ok (.iload_n 0, 1) := by decide +kernel
theorem dJ6_getChars_ba4f3_20 : decode cJ6_getChars_ba4f3 20 = .ok (.ineg, 1) := by decide +kernel
theorem dJ6_getChars_ba4f3_21 : decode cJ6_getChars_ba4f3 21 = .ok (.istore_n 0, 1) := by decide +kernel
theorem dJ6_getChars_ba4f3_22 : decode cJ6_getChars_ba4f3 22 = .ok (.iload_n 0, 1) := by decide +kernel
theorem dJ6_getChars_ba4f3_23 : decode cJ6_getChars_ba4f3 23 = .ok (.bipush (-100), 2) := by decide +kernel
theorem dJ6_getChars_ba4f3_25 : decode cJ6_getChars_ba4f3 25 = .ok (.if_icmp .gt 47, 3) := by decide +kernel
theorem dJ6_getChars_ba4f3_28 : decode cJ6_getChars_ba4f3 28 = .ok (.iload_n 0, 1) := by decide +kernel
theorem dJ6_getChars_ba4f3_29 : decode cJ6_getChars_ba4f3 29 = .ok (.bipush 100, 2) := by decide +kernel
theorem dJ6_getChars_ba4f3_31 : decode cJ6_getChars_ba4f3 31 = .ok (.idiv, 1) := by decide +kernel
theorem dJ6_getChars_ba4f3_32 : decode cJ6_getChars_ba4f3 32 = .ok (.istore_n 3, 1) := by decide +kernel
theorem dJ6_getChars_ba4f3_33 : decode cJ6_getChars_ba4f3 33 = .ok (.iload_n 3, 1) := by decide +kernel
theorem dJ6_getChars_ba4f3_34 : decode cJ6_getChars_ba4f3 34 = .ok (.bipush 100, 2) := by decide +kernel
theorem dJ6_getChars_ba4f3_36 : decode cJ6_getChars_ba4f3 36 = .ok (.imul, 1) := by decide +kernel
theorem dJ6_getChars_ba4f3_37 : decode cJ6_getChars_ba4f3 37 = .ok (.iload_n 0, 1) := by decide +kernel
theorem dJ6_getChars_ba4f3_38 : decode cJ6_getChars_ba4f3 38 = .ok (.isub, 1) := by decide +kernel
theorem dJ6_getChars_ba4f3_39 : decode cJ6_getChars_ba4f3 39 = .ok (.istore 4, 2) := by decide +kernel
theorem dJ6_getChars_ba4f3_41 : decode cJ6_getChars_ba4f3 41 = .ok (.iload_n 3, 1) := by decide +kernel
theorem dJ6_getChars_ba4f3_42 : decode cJ6_getChars_ba4f3 42 = .ok (.istore_n 0, 1) := by decide +kernel
theorem dJ6_getChars_ba4f3_43 : decode cJ6_getChars_ba4f3 43 = .ok (.aload_n 2, 1) := by decide +kernel
theorem dJ6_getChars_ba4f3_44 : decode cJ6_getChars_ba4f3 44 = .ok (.iinc 5 (-1), 3) := by decide +kernel
theorem dJ6_getChars_ba4f3_47 : decode cJ6_getChars_ba4f3 47 = .ok (.iload 5, 2) := by decide +kernel
theorem dJ6_getChars_ba4f3_49 : decode cJ6_getChars_ba4f3 49 = .ok (.getstatic 83, 3) := by decide +kernel
theorem dJ6_getChars_ba4f3_52 : decode cJ6_getChars_ba4f3 52 = .ok (.iload 4, 2) := by decide +kernel
theorem dJ6_getChars_ba4f3_54 : decode cJ6_getChars_ba4f3 54 = .ok (.baload, 1) := by decide +kernel
theorem dJ6_getChars_ba4f3_55 : decode cJ6_getChars_ba4f3 55 = .ok (.bastore, 1) := by decide +kernel
theorem dJ6_getChars_ba4f3_56 : decode cJ6_getChars_ba4f3 56 = .ok (.aload_n 2, 1) := by decide +kernel
theorem dJ6_getChars_ba4f3_57 : decode cJ6_getChars_ba4f3 57 = .ok (.iinc 5 (-1), 3) := by decide +kernel
theorem dJ6_getChars_ba4f3_60 : decode cJ6_getChars_ba4f3 60 = .ok (.iload 5, 2) := by decide +kernel
theorem dJ6_getChars_ba4f3_62 : decode cJ6_getChars_ba4f3 62 = .ok (.getstatic 87, 3) := by decide +kernel
theorem dJ6_getChars_ba4f3_65 : decode cJ6_getChars_ba4f3 65 = .ok (.iload 4, 2) := by decide +kernel
theorem dJ6_getChars_ba4f3_67 : decode cJ6_getChars_ba4f3 67 = .ok (.baload, 1) := by decide +kernel
theorem dJ6_getChars_ba4f3_68 : decode cJ6_getChars_ba4f3 68 = .ok (.bastore, 1) := by decide +kernel
theorem dJ6_getChars_ba4f3_69 : decode cJ6_getChars_ba4f3 69 = .ok (.goto (-47), 3) := by decide +kernel
theorem dJ6_getChars_ba4f3_72 : decode cJ6_getChars_ba4f3 72 = .ok (.aload_n 2, 1) := by decide +kernel
theorem dJ6_getChars_ba4f3_73 : decode cJ6_getChars_ba4f3 73 = .ok (.iinc 5 (-1), 3) := by decide +kernel
theorem dJ6_getChars_ba4f3_76 : decode cJ6_getChars_ba4f3 76 = .ok (.iload 5, 2) := by decide +kernel
theorem dJ6_getChars_ba4f3_78 : decode cJ6_getChars_ba4f3 78 = .ok (.getstatic 83, 3) := by decide +kernel
theorem dJ6_getChars_ba4f3_81 : decode cJ6_getChars_ba4f3 81 = .ok (.iload_n 0, 1) := by decide +kernel
theorem dJ6_getChars_ba4f3_82 : decode cJ6_getChars_ba4f3 82 = .ok (.ineg, 1) := by decide +kernel
theorem dJ6_getChars_ba4f3_83 : decode cJ6_getChars_ba4f3 83 = .ok (.baload, 1) := by decide +kernel
theorem dJ6_getChars_ba4f3_84 : decode cJ6_getChars_ba4f3 84 = .ok (.bastore, 1) := by decide +kernel
theorem dJ6_getChars_ba4f3_85 : decode cJ6_getChars_ba4f3 85 = .ok (.iload_n 0, 1) := by decide +kernel
theorem dJ6_getChars_ba4f3_86 : decode cJ6_getChars_ba4f3 86 = .ok (.bipush (-9), 2) := by decide +kernel
theorem dJ6_getChars_ba4f3_88 : decode cJ6_getChars_ba4f3 88 = .ok (.if_icmp .ge 16, 3) := by decide +kernel
theorem dJ6_getChars_ba4f3_91 : decode cJ6_getChars_ba4f3 91 = .ok (.aload_n 2, 1) := by decide +kernel
theorem dJ6_getChars_ba4f3_92 : decode cJ6_getChars_ba4f3 92 = .ok (.iinc 5 (-1), 3) := by decide +kernel
theorem dJ6_getChars_ba4f3_95 : decode cJ6_getChars_ba4f3 95 = .ok (.iload 5, 2) := by decide +kernel
theorem dJ6_getChars_ba4f3_97 : decode cJ6_getChars_ba4f3 97 = .ok (.getstatic 87, 3) := by decide +kernel
theorem dJ6_getChars_ba4f3_100 : decode cJ6_getChars_ba4f3 100 = .ok (.iload_n 0, 1) := by decide +kernel
theorem dJ6_getChars_ba4f3_101 : decode cJ6_getChars_ba4f3 101 = .ok (.ineg, 1) := by decide +kernel
theorem dJ6_getChars_ba4f3_102 : decode cJ6_getChars_ba4f3 102 = .ok (.baload, 1) := by decide +kernel
theorem dJ6_getChars_ba4f3_103 : decode cJ6_getChars_ba4f3 103 = .ok (.bastore, 1) := by decide +kernel
theorem dJ6_getChars_ba4f3_104 : decode cJ6_getChars_ba4f3 104 = .ok (.iload 6, 2) := by decide +kernel
theorem dJ6_getChars_ba4f3_106 : decode cJ6_getChars_ba4f3 106 = .ok (.ifCond .eq 12, 3) := by decide +kernel
theorem dJ6_getChars_ba4f3_109 : decode cJ6_getChars_ba4f3 109 = .ok (.aload_n 2, 1) := by decide +kernel
theorem dJ6_getChars_ba4f3_110 : decode cJ6_getChars_ba4f3 110 = .ok (.iinc 5 (-1), 3) := by decide +kernel
