theorem dL_done_167 : decode cL_done 167 = .ok (.ireturn, 1) := by decide +kernel
theorem dL_done_168 : decode cL_done 168 = .ok (.aload_n 0, 1) := by decide +kernel
theorem dL_done_169 : decode cL_done 169 = .ok (.iload_n 2, 1) := by decide +kernel
theorem dL_done_170 : decode cL_done 170 = .ok (.invokevirtual 121, 3) := by decide +kernel
theorem dL_done_173 : decode cL_done 173 = .ok (.ireturn, 1) := by decide +kernel
theorem dL_done_174 : decode cL_done 174 = .ok (.aload_n 0, 1) := by decide +kernel
theorem dL_done_175 : decode cL_done 175 = .ok (.iload_n 2, 1) := by decide +kernel
theorem dL_done_176 : decode cL_done 176 = .ok (.invokevirtual 124, 3) := by decide +kernel
theorem dL_done_179 : decode cL_done 179 = .ok (.ireturn, 1) := by decide +kernel
theorem dL_done_180 : decode cL_done 180 = .ok (.aload_n 0, 1) := by decide +kernel
theorem dL_done_181 : decode cL_done 181 = .ok (.iload_n 2, 1) := by decide +kernel
theorem dL_done_182 : decode cL_done 182 = .ok (.iload_n 3, 1) := by decide +kernel
theorem dL_done_183 : decode cL_done 183 = .ok (.invokevirtual 127, 3) := by decide +kernel
theorem dL_done_186 : decode cL_done 186 = .ok (.ireturn, 1) := by decide +kernel
theorem dL_done_187 : decode cL_done 187 = .ok (.aload_n 0, 1) := by decide +kernel
theorem dL_done_188 : decode cL_done 188 = .ok (.iload_n 2, 1) := by decide +kernel
theorem dL_done_189 : decode cL_done 189 = .ok (.invokevirtual 130, 3) := by decide +kernel
theorem dL_done_192 : decode cL_done 192 = .ok (.ireturn, 1) := by decide +kernel
theorem dL_done_193 : decode cL_done 193 = .ok (.aload_n 0, 1) := by decide +kernel
theorem dL_done_194 : decode cL_done 194 = .ok (.iload_n 2, 1) := by decide +kernel
theorem dL_done_195 : decode cL_done 195 = .ok (.iload_n 3, 1) := by decide +kernel
theorem dL_done_196 : decode cL_done 196 = .ok (.iload 4, 2) := by decide +kernel
theorem dL_done_198 : decode cL_done 198 = .ok (.invokevirtual 133, 3) := by decide +kernel
theorem dL_done_201 : decode cL_done 201 = .ok (.ireturn, 1) := by decide +kernel
theorem dL_done_202 : decode cL_done 202 = .ok (.aload_n 0, 1) := by decide +kernel
theorem dL_done_203 : decode cL_done 203 = .ok (.iload_n 2, 1) := by decide +kernel
theorem dL_done_204 : decode cL_done 204 = .ok (.invokevirtual 136, 3) := by decide +kernel
theorem dL_done_207 : decode cL_done 207 = .ok (.ireturn, 1) := by decide +kernel
theorem dL_done_208 : decode cL_done 208 = .ok (.astore 5, 2) := by decide +kernel
theorem dL_done_210 : decode cL_done 210 = .ok (.iconst (-1), 1) := by decide +kernel
theorem dL_done_211 : decode cL_done 211 = .ok (.ireturn, 1) := by decide +kernel
theorem dL_done_212 : decode cL_done 212 = .ok (.astore 5, 2) := by decide +kernel
theorem dL_done_214 : decode cL_done 214 = .ok (.bipush (-2), 2) := by decide +kernel
theorem dL_done_216 : decode cL_done 216 = .ok (.ireturn, 1) := by decide +kernel
theorem dL_done_217 : decode cL_done 217 = .ok (.astore 5, 2) := by decide +kernel
theorem dL_done_219 : decode cL_done 219 = .ok (.bipush (-3), 2) := by decide +kernel
theorem dL_done_221 : decode cL_done 221 = .ok (.ireturn, 1) := by decide +kernel
theorem dL_done_222 : decode cL_done 222 = .ok (.astore 5, 2) := by decide +kernel
theorem dL_done_224 : decode cL_done 224 = .ok (.bipush (-4), 2) := by decide +kernel
theorem dL_done_226 : decode cL_done 226 = .ok (.ireturn, 1) := by decide +kernel
set_option maxRecDepth 20000 in
theorem ggL_put_X10_put : GoodIn wsL_put wsX10_put := goodIn_ca (goodIn_ca (goodIn_r _ [7, 8, 9, 10, 11, 12, 13, 14, 6, 15, 16, 17, 18, 19, 20, 21, 22, 23, 24, 25, 26, 27, 28, 29, 30, 31, 32, 33, 34, 35, 36, 37, 38, 39, 40, 41, 42, 43, 44, 45, 46, 47, 48, 49, 50, 51, 52, 53, 54, 55, 56, 57, 58, 59, 60] (by decide +kernel) (by decide +kernel)) (goodIn_sub (fun _ h => List.mem_cons_of_mem _ (List.mem_append_left _ (List.mem_append_right _ h))) (by decide +kernel))) (goodIn_sub (fun _ h => List.mem_cons_of_mem _ (List.mem_append_right _ h)) (by decide +kernel))
set_option maxRecDepth 20000 in
theorem gL_put_X10_put : GoodIn wsL_put (wsV RL 145 RX10 yX10_put wsX10_put) := goodIn_app (goodIn_of _ (by decide +kernel)) ggL_put_X10_put
theorem dL_put_0 : decode cL_put 0 = .ok (.aload_n 0, 1) := by decide +kernel
theorem dL_put_1 : decode cL_put 1 = .ok (.iload_n 1, 1) := by decide +kernel
theorem dL_put_2 : decode cL_put 2 = .ok (.iload_n 2, 1) := by decide +kernel
theorem dL_put_3 : decode cL_put 3 = .ok (.iload_n 3, 1) := by decide +kernel
theorem dL_put_4 : decode cL_put 4 = .ok (.iload 4, 2) := by decide +kernel
theorem dL_put_6 : decode cL_put 6 = .ok (.invokevirtual 145, 3) := by decide +kernel
theorem dL_put_9 : decode cL_put 9 = .ok (.ireturn, 1) := by decide +kernel
theorem dL_put_10 : decode cL_put 10 = .ok (.astore 5, 2) := by decide +kernel
theorem dL_put_12 : decode cL_put 12 = .ok (.iconst (-1), 1) := by decide +kernel
theorem dL_put_13 : decode cL_put 13 = .ok (.ireturn, 1) := by decide +kernel
theorem dL_put_14 : decode cL_put 14 = .ok (.astore 5, 2) := by decide +kernel
theorem dL_put_16 : decode cL_put 16 = .ok (.bipush (-3), 2) := by decide +kernel
theorem dL_put_18 : decode cL_put 18 = .ok (.ireturn, 1) := by decide +kernel
set_option maxRecDepth 20000 in
theorem ggL_sees_X10_count : GoodIn wsL_sees wsX10_count := goodIn_ca (goodIn_r _ [5, 6, 7, 8, 9, 4, 10, 11, 12, 13, 37, 38, 39, 40, 41, 42, 43, 44, 45, 46, 47, 48] (by decide +kernel) (by decide +kernel)) (goodIn_sub (fun _ h => List.mem_cons_of_mem _ (List.mem_append_left _ (List.mem_append_right _ h))) (by decide +kernel))
set_option maxRecDepth 20000 in
theorem gL_sees_X10_count : GoodIn wsL_sees (wsV RL 136 RX10 yX10_count wsX10_count) := goodIn_app (goodIn_of _ (by decide +kernel)) ggL_sees_X10_count
set_option maxRecDepth 20000 in
theorem ggL_sees_X10_cardAt : GoodIn wsL_sees wsX10_cardAt := goodIn_ca (goodIn_ca (goodIn_r _ [17, 18, 19, 20, 21, 7, 8, 9, 4, 10, 11, 12, 13, 22, 23, 24, 6, 25, 26, 27, 28, 29, 30, 31, 32, 33, 34, 35, 36, 37, 38, 39, 40, 41, 42, 43, 44, 45, 46, 47, 48, 49, 50, 51] (by decide +kernel) (by decide +kernel)) (goodIn_sub (fun _ h => List.mem_cons_of_mem _ (List.mem_append_right _ h)) (by decide +kernel))) (goodIn_sub (fun _ h => List.mem_cons_of_mem _ (List.mem_append_left _ (List.mem_append_right _ h))) (by decide +kernel))
set_option maxRecDepth 20000 in
theorem gL_sees_X10_cardAt : GoodIn wsL_sees (wsV RL 133 RX10 yX10_cardAt wsX10_cardAt) := goodIn_app (goodIn_of _ (by decide +kernel)) ggL_sees_X10_cardAt
theorem dL_sees_0 : decode cL_sees 0 = .ok (.aload_n 0, 1) := by decide +kernel
theorem dL_sees_1 : decode cL_sees 1 = .ok (.iload_n 1, 1) := by decide +kernel
theorem dL_sees_2 : decode cL_sees 2 = .ok (.invokevirtual 136, 3) := by decide +kernel
theorem dL_sees_5 : decode cL_sees 5 = .ok (.istore_n 3, 1) := by decide +kernel
theorem dL_sees_6 : decode cL_sees 6 = .ok (.iconst 0, 1) := by decide +kernel
theorem dL_sees_7 : decode cL_sees 7 = .ok (.istore 4, 2) := by decide +kernel
theorem dL_sees_9 : decode cL_sees 9 = .ok (.iload 4, 2) := by decide +kernel
theorem dL_sees_11 : decode cL_sees 11 = .ok (.iload_n 3, 1) := by decide +kernel
theorem dL_sees_12 : decode cL_sees 12 = .ok (.if_icmp .ge 40, 3) := by decide +kernel
theorem dL_sees_15 : decode cL_sees 15 = .ok (.iconst 0, 1) := by decide +kernel
theorem dL_sees_16 : decode cL_sees 16 = .ok (.istore 5, 2) := by decide +kernel
theorem dL_sees_18 : decode cL_sees 18 = .ok (.iload 5, 2) := by decide +kernel
theorem dL_sees_20 : decode cL_sees 20 = .ok (.iconst 3, 1) := by decide +kernel
theorem dL_sees_21 : decode cL_sees 21 = .ok (.if_icmp .ge 25, 3) := by decide +kernel
theorem dL_sees_24 : decode cL_sees 24 = .ok (.aload_n 2, 1) := by decide +kernel
theorem dL_sees_25 : decode cL_sees 25 = .ok (.iload 5, 2) := by decide +kernel
theorem dL_sees_27 : decode cL_sees 27 = .ok (.aaload, 1) := by decide +kernel
theorem dL_sees_28 : decode cL_sees 28 = .ok (.iload 4, 2) := by decide +kernel
theorem dL_sees_30 : decode cL_sees 30 = .ok (.aload_n 0, 1) := by decide +kernel
theorem dL_sees_31 : decode cL_sees 31 = .ok (.iload_n 1, 1) := by decide +kernel
theorem dL_sees_32 : decode cL_sees 32 = .ok (.iload 4, 2) := by decide +kernel
theorem dL_sees_34 : decode cL_sees 34 = .ok (.iload 5, 2) := by decide +kernel
theorem dL_sees_36 : decode cL_sees 36 = .ok (.invokevirtual 133, 3) := by decide +kernel
theorem dL_sees_39 : decode cL_sees 39 = .ok (.iastore, 1) := by decide +kernel
theorem dL_sees_40 : decode cL_sees 40 = .ok (.iinc 5 1, 3) := by decide +kernel
theorem dL_sees_43 : decode cL_sees 43 = .ok (.goto (-25), 3) := by decide +kernel
theorem dL_sees_46 : decode cL_sees 46 = .ok (.iinc 4 1, 3) := by decide +kernel
theorem dL_sees_49 : decode cL_sees 49 = .ok (.goto (-40), 3) := by decide +kernel
theorem dL_sees_52 : decode cL_sees 52 = .ok (.iload_n 3, 1) := by decide +kernel
theorem dL_sees_53 : decode cL_sees 53 = .ok (.ireturn, 1) := by decide +kernel
theorem dL_copies_0 : decode cL_copies 0 = .ok (.iconst 0, 1) := by decide +kernel
theorem dL_copies_1 : decode cL_copies 1 = .ok (.istore 4, 2) := by decide +kernel
theorem dL_copies_3 : decode cL_copies 3 = .ok (.iload 4, 2) := by decide +kernel
theorem dL_copies_5 : decode cL_copies 5 = .ok (.iconst 3, 1) := by decide +kernel
theorem dL_copies_6 : decode cL_copies 6 = .ok (.if_icmp .ge 21, 3) := by decide +kernel
theorem dL_copies_9 : decode cL_copies 9 = .ok (.aload_n 2, 1) := by decide +kernel
theorem dL_copies_10 : decode cL_copies 10 = .ok (.iload 4, 2) := by decide +kernel
theorem dL_copies_12 : decode cL_copies 12 = .ok (.aaload, 1) := by decide +kernel
theorem dL_copies_13 : decode cL_copies 13 = .ok (.iload_n 3, 1) := by decide +kernel
theorem dL_copies_14 : decode cL_copies 14 = .ok (.aload_n 0, 1) := by decide +kernel
theorem dL_copies_15 : decode cL_copies 15 = .ok (.iload 4, 2) := by decide +kernel
theorem dL_copies_17 : decode cL_copies 17 = .ok (.aaload, 1) := by decide +kernel
theorem dL_copies_18 : decode cL_copies 18 = .ok (.iload_n 1, 1) := by decide +kernel
theorem dL_copies_19 : decode cL_copies 19 = .ok (.iaload, 1) := by decide +kernel
theorem dL_copies_20 : decode cL_copies 20 = .ok (.iastore, 1) := by decide +kernel
theorem dL_copies_21 : decode cL_copies 21 = .ok (.iinc 4 1, 3) := by decide +kernel
theorem dL_copies_24 : decode cL_copies 24 = .ok (.goto (-21), 3) := by decide +kernel
theorem dL_copies_27 : decode cL_copies 27 = .ok (.return_, 1) := by decide +kernel
theorem dL_isLike_0 : decode cL_isLike 0 = .ok (.iconst 0, 1) := by decide +kernel
theorem dL_isLike_1 : decode cL_isLike 1 = .ok (.istore_n 3, 1) := by decide +kernel
theorem dL_isLike_2 : decode cL_isLike 2 = .ok (.iload_n 3, 1) := by decide +kernel
theorem dL_isLike_3 : decode cL_isLike 3 = .ok (.iload_n 2, 1) := by decide +kernel
theorem dL_isLike_4 : decode cL_isLike 4 = .ok (.if_icmp .ge 41, 3) := by decide +kernel
theorem dL_isLike_7 : decode cL_isLike 7 = .ok (.iconst 0, 1) := by decide +kernel
theorem dL_isLike_8 : decode cL_isLike 8 = .ok (.istore 4, 2) := by decide +kernel
theorem dL_isLike_10 : decode cL_isLike 10 = .ok (.iload 4, 2) := by decide +kernel
theorem dL_isLike_12 : decode cL_isLike 12 = .ok (.iconst 3, 1) := by decide +kernel
theorem dL_isLike_13 : decode cL_isLike 13 = .ok (.if_icmp .ge 26, 3) := by decide +kernel
theorem dL_isLike_16 : decode cL_isLike 16 = .ok (.aload_n 0, 1) := by decide +kernel
theorem dL_isLike_17 : decode cL_isLike 17 = .ok (.iload 4, 2) := by decide +kernel
theorem dL_isLike_19 : decode cL_isLike 19 = .ok (.aaload, 1) := by decide +kernel
theorem dL_isLike_20 : decode cL_isLike 20 = .ok (.iload_n 3, 1) := by decide +kernel
theorem dL_isLike_21 : decode cL_isLike 21 = .ok (.iaload, 1) := by decide +kernel
theorem dL_isLike_22 : decode cL_isLike 22 = .ok (.aload_n 1, 1) := by decide +kernel
theorem dL_isLike_23 : decode cL_isLike 23 = .ok (.iload 4, 2) := by decide +kernel
theorem dL_isLike_25 : decode cL_isLike 25 = .ok (.aaload, 1) := by decide +kernel
theorem dL_isLike_26 : decode cL_isLike 26 = .ok (.iload_n 3, 1) := by decide +kernel
theorem dL_isLike_27 : decode cL_isLike 27 = .ok (.iaload, 1) := by decide +kernel
theorem dL_isLike_28 : decode cL_isLike 28 = .ok (.if_icmp .eq 5, 3) := by decide +kernel
theorem dL_isLike_31 : decode cL_isLike 31 = .ok (.iconst 0, 1) := by decide +kernel
theorem dL_isLike_32 : decode cL_isLike 32 = .ok (.ireturn, 1) := by decide +kernel
theorem dL_isLike_33 : decode cL_isLike 33 = .ok (.iinc 4 1, 3) := by decide +kernel
theorem dL_isLike_36 : decode cL_isLike 36 = .ok (.goto (-26), 3) := by decide +kernel
theorem dL_isLike_39 : decode cL_isLike 39 = .ok (.iinc 3 1, 3) := by decide +kernel
theorem dL_isLike_42 : decode cL_isLike 42 = .ok (.goto (-40), 3) := by decide +kernel
theorem dL_isLike_45 : decode cL_isLike 45 = .ok (.iconst 1, 1) := by decide +kernel
theorem dL_isLike_46 : decode cL_isLike 46 = .ok (.ireturn, 1) := by decide +kernel
theorem dL_isAhead_0 : decode cL_isAhead 0 = .ok (.iload 4, 2) := by decide +kernel
theorem dL_isAhead_2 : decode cL_isAhead 2 = .ok (.iconst 1, 1) := by decide +kernel
theorem dL_isAhead_3 : decode cL_isAhead 3 = .ok (.if_icmp .ne 22, 3) := by decide +kernel
theorem dL_isAhead_6 : decode cL_isAhead 6 = .ok (.aload_n 0, 1) := by decide +kernel
theorem dL_isAhead_7 : decode cL_isAhead 7 = .ok (.iconst 0, 1) := by decide +kernel
theorem dL_isAhead_8 : decode cL_isAhead 8 = .ok (.aaload, 1) := by decide +kernel
theorem dL_isAhead_9 : decode cL_isAhead 9 = .ok (.iload_n 1, 1) := by decide +kernel
theorem dL_isAhead_10 : decode cL_isAhead 10 = .ok (.iaload, 1) := by decide +kernel
theorem dL_isAhead_11 : decode cL_isAhead 11 = .ok (.aload_n 2, 1) := by decide +kernel
theorem dL_isAhead_12 : decode cL_isAhead 12 = .ok (.iconst 0, 1) := by decide +kernel
theorem dL_isAhead_13 : decode cL_isAhead 13 = .ok (.aaload, 1) := by decide +kernel
theorem dL_isAhead_14 : decode cL_isAhead 14 = .ok (.iload_n 3, 1) := by decide +kernel
theorem dL_isAhead_15 : decode cL_isAhead 15 = .ok (.iaload, 1) := by decide +kernel
theorem dL_isAhead_16 : decode cL_isAhead 16 = .ok (.if_icmp .le 7, 3) := by decide +kernel
theorem dL_isAhead_19 : decode cL_isAhead 19 = .ok (.iconst 1, 1) := by decide +kernel
theorem dL_isAhead_20 : decode cL_isAhead 20 = .ok (.goto 4, 3) := by decide +kernel
theorem dL_isAhead_23 : decode cL_isAhead 23 = .ok (.iconst 0, 1) := by decide +kernel
theorem dL_isAhead_24 : decode cL_isAhead 24 = .ok (.ireturn, 1) := by decide +kernel
theorem dL_isAhead_25 : decode cL_isAhead 25 = .ok (.iload 4, 2) := by decide +kernel
theorem dL_isAhead_27 : decode cL_isAhead 27 = .ok (.iconst 2, 1) := by decide +kernel
theorem dL_isAhead_28 : decode cL_isAhead 28 = .ok (.if_icmp .ne 22, 3) := by decide +kernel
theorem dL_isAhead_31 : decode cL_isAhead 31 = .ok (.aload_n 0, 1) := by decide +kernel
theorem dL_isAhead_32 : decode cL_isAhead 32 = .ok (.iconst 1, 1) := by decide +kernel
theorem dL_isAhead_33 : decode cL_isAhead 33 = .ok (.aaload, 1) := by decide +kernel
theorem dL_isAhead_34 : decode cL_isAhead 34 = .ok (.iload_n 1, 1) := by decide +kernel
theorem dL_isAhead_35 : decode cL_isAhead 35 = .ok (.iaload, 1) := by decide +kernel
theorem dL_isAhead_36 : decode cL_isAhead 36 = .ok (.aload_n 2, 1) := by decide +kernel
theorem dL_isAhead_37 : decode cL_isAhead 37 = .ok (.iconst 1, 1) := by decide +kernel
theorem dL_isAhead_38 : decode cL_isAhead 38 = .ok (.aaload, 1) := by decide +kernel
theorem dL_isAhead_39 : decode cL_isAhead 39 = .ok (.iload_n 3, 1) := by decide +kernel
theorem dL_isAhead_40 : decode cL_isAhead 40 = .ok (.iaload, 1) := by decide +kernel
theorem dL_isAhead_41 : decode cL_isAhead 41 = .ok (.if_icmp .ge 7, 3) := by decide +kernel
theorem dL_isAhead_44 : decode cL_isAhead 44 = .ok (.iconst 1, 1) := by decide +kernel
theorem dL_isAhead_45 : decode cL_isAhead 45 = .ok (.goto 4, 3) := by decide +kernel
theorem dL_isAhead_48 : decode cL_isAhead 48 = .ok (.iconst 0, 1) := by decide +kernel
theorem dL_isAhead_49 : decode cL_isAhead 49 = .ok (.ireturn, 1) := by decide +kernel
theorem dL_isAhead_50 : decode cL_isAhead 50 = .ok (.aload_n 0, 1) := by decide +kernel
theorem dL_isAhead_51 : decode cL_isAhead 51 = .ok (.iconst 0, 1) := by decide +kernel
theorem dL_isAhead_52 : decode cL_isAhead 52 = .ok (.aaload, 1) := by decide +kernel
theorem dL_isAhead_53 : decode cL_isAhead 53 = .ok (.iload_n 1, 1) := by decide +kernel
theorem dL_isAhead_54 : decode cL_isAhead 54 = .ok (.iaload, 1) := by decide +kernel
theorem dL_isAhead_55 : decode cL_isAhead 55 = .ok (.aload_n 2, 1) := by decide +kernel
theorem dL_isAhead_56 : decode cL_isAhead 56 = .ok (.iconst 0, 1) := by decide +kernel
theorem dL_isAhead_57 : decode cL_isAhead 57 = .ok (.aaload, 1) := by decide +kernel
theorem dL_isAhead_58 : decode cL_isAhead 58 = .ok (.iload_n 3, 1) := by decide +kernel
theorem dL_isAhead_59 : decode cL_isAhead 59 = .ok (.iaload, 1) := by decide +kernel
theorem dL_isAhead_60 : decode cL_isAhead 60 = .ok (.if_icmp .lt 35, 3) := by decide +kernel
theorem dL_isAhead_63 : decode cL_isAhead 63 = .ok (.iload 4, 2) := by decide +kernel
theorem dL_isAhead_65 : decode cL_isAhead 65 = .ok (.iconst 3, 1) := by decide +kernel
theorem dL_isAhead_66 : decode cL_isAhead 66 = .ok (.if_icmp .ne 33, 3) := by decide +kernel
theorem dL_isAhead_69 : decode cL_isAhead 69 = .ok (.aload_n 0, 1) := by decide +kernel
theorem dL_isAhead_70 : decode cL_isAhead 70 = .ok (.iconst 0, 1) := by decide +kernel
theorem dL_isAhead_71 : decode cL_isAhead 71 = .ok (.aaload, 1) := by decide +kernel
theorem dL_isAhead_72 : decode cL_isAhead 72 = .ok (.iload_n 1, 1) := by decide +kernel
theorem dL_isAhead_73 : decode cL_isAhead 73 = .ok (.iaload, 1) := by decide +kernel
theorem dL_isAhead_74 : decode cL_isAhead 74 = .ok (.aload_n 2, 1) := by decide +kernel
theorem dL_isAhead_75 : decode cL_isAhead 75 = .ok (.iconst 0, 1) := by decide +kernel
theorem dL_isAhead_76 : decode cL_isAhead 76 = .ok (.aaload, 1) := by decide +kernel
theorem dL_isAhead_77 : decode cL_isAhead 77 = .ok (.iload_n 3, 1) := by decide +kernel
theorem dL_isAhead_78 : decode cL_isAhead 78 = .ok (.iaload, 1) := by decide +kernel
theorem dL_isAhead_79 : decode cL_isAhead 79 = .ok (.if_icmp .ne 20, 3) := by decide +kernel
theorem dL_isAhead_82 : decode cL_isAhead 82 = .ok (.aload_n 0, 1) := by decide +kernel
theorem dL_isAhead_83 : decode cL_isAhead 83 = .ok (.iconst 1, 1) := by decide +kernel
theorem dL_isAhead_84 : decode cL_isAhead 84 = .ok (.aaload, 1) := by decide +kernel
theorem dL_isAhead_85 : decode cL_isAhead 85 = .ok (.iload_n 1, 1) := by decide +kernel
theorem dL_isAhead_86 : decode cL_isAhead 86 = .ok (.iaload, 1) := by decide +kernel
theorem dL_isAhead_87 : decode cL_isAhead 87 = .ok (.aload_n 2, 1) := by decide +kernel
theorem dL_isAhead_88 : decode cL_isAhead 88 = .ok (.iconst 1, 1) := by decide +kernel
theorem dL_isAhead_89 : decode cL_isAhead 89 = .ok (.aaload, 1) := by decide +kernel
theorem dL_isAhead_90 : decode cL_isAhead 90 = .ok (.iload_n 3, 1) := by decide +kernel
theorem dL_isAhead_91 : decode cL_isAhead 91 = .ok (.iaload, 1) := by decide +kernel
theorem dL_isAhead_92 : decode cL_isAhead 92 = .ok (.if_icmp .ge 7, 3) := by decide +kernel
theorem dL_isAhead_95 : decode cL_isAhead 95 = .ok (.iconst 1, 1) := by decide +kernel
theorem dL_isAhead_96 : decode cL_isAhead 96 = .ok (.goto 4, 3) := by decide +kernel
theorem dL_isAhead_99 : decode cL_isAhead 99 = .ok (.iconst 0, 1) := by decide +kernel
theorem dL_isAhead_100 : decode cL_isAhead 100 = .ok (.ireturn, 1) := by decide +kernel
set_option maxRecDepth 20000 in
theorem ggL_due_L_isAhead : GoodIn wsL_due wsL_isAhead := goodIn_r _ [4] (by decide +kernel) (by decide +kernel)
set_option maxRecDepth 20000 in
theorem gL_due_L_isAhead : GoodIn wsL_due (va_wsS RL 149 yL_isAhead wsL_isAhead) := goodIn_app (goodIn_of _ (by decide +kernel)) ggL_due_L_isAhead
set_option maxRecDepth 20000 in
theorem ggL_due_L_copies : GoodIn wsL_due wsL_copies := goodIn_r _ [7] (by decide +kernel) (by decide +kernel)
set_option maxRecDepth 20000 in
theorem gL_due_L_copies : GoodIn wsL_due (va_wsS RL 153 yL_copies wsL_copies) := goodIn_app (goodIn_of _ (by decide +kernel)) ggL_due_L_copies
theorem dL_due_0 : decode cL_due 0 = .ok (.iconst 0, 1) := by decide +kernel
theorem dL_due_1 : decode cL_due 1 = .ok (.istore 6, 2) := by decide +kernel
theorem dL_due_3 : decode cL_due 3 = .ok (.iload_n 1, 1) := by decide +kernel
theorem dL_due_4 : decode cL_due 4 = .ok (.istore 7, 2) := by decide +kernel
theorem dL_due_6 : decode cL_due 6 = .ok (.iload 7, 2) := by decide +kernel
theorem dL_due_8 : decode cL_due 8 = .ok (.iload_n 2, 1) := by decide +kernel
theorem dL_due_9 : decode cL_due 9 = .ok (.if_icmp .ge 15, 3) := by decide +kernel
theorem dL_due_12 : decode cL_due 12 = .ok (.aload 5, 2) := by decide +kernel
theorem dL_due_14 : decode cL_due 14 = .ok (.iload 7, 2) := by decide +kernel
theorem dL_due_16 : decode cL_due 16 = .ok (.iconst 0, 1) := by decide +kernel
theorem dL_due_17 : decode cL_due 17 = .ok (.bastore, 1) := by decide +kernel
theorem dL_due_18 : decode cL_due 18 = .ok (.iinc 7 1, 3) := by decide +kernel
theorem dL_due_21 : decode cL_due 21 = .ok (.goto (-15), 3) := by decide +kernel
theorem dL_due_24 : decode cL_due 24 = .ok (.iload_n 1, 1) := by decide +kernel
theorem dL_due_25 : decode cL_due 25 = .ok (.istore 7, 2) := by decide +kernel
theorem dL_due_27 : decode cL_due 27 = .ok (.iload 7, 2) := by decide +kernel
theorem dL_due_29 : decode cL_due 29 = .ok (.iload_n 2, 1) := by decide +kernel
theorem dL_due_30 : decode cL_due 30 = .ok (.if_icmp .ge 98, 3) := by decide +kernel
theorem dL_due_33 : decode cL_due 33 = .ok (.iconst (-1), 1) := by decide +kernel
theorem dL_due_34 : decode cL_due 34 = .ok (.istore 8, 2) := by decide +kernel
theorem dL_due_36 : decode cL_due 36 = .ok (.iload_n 1, 1) := by decide +kernel
theorem dL_due_37 : decode cL_due 37 = .ok (.istore 9, 2) := by decide +kernel
theorem dL_due_39 : decode cL_due 39 = .ok (.iload 9, 2) := by decide +kernel
theorem dL_due_41 : decode cL_due 41 = .ok (.iload_n 2, 1) := by decide +kernel
theorem dL_due_42 : decode cL_due 42 = .ok (.if_icmp .ge 39, 3) := by decide +kernel
theorem dL_due_45 : decode cL_due 45 = .ok (.aload 5, 2) := by decide +kernel
theorem dL_due_47 : decode cL_due 47 = .ok (.iload 9, 2) := by decide +kernel
theorem dL_due_49 : decode cL_due 49 = .ok (.baload, 1) := by decide +kernel
theorem dL_due_50 : decode cL_due 50 = .ok (.ifCond .ne 25, 3) := by decide +kernel
theorem dL_due_53 : decode cL_due 53 = .ok (.iload 8, 2) := by decide +kernel
theorem dL_due_55 : decode cL_due 55 = .ok (.ifCond .lt 16, 3) := by decide +kernel
theorem dL_due_58 : decode cL_due 58 = .ok (.aload_n 0, 1) := by decide +kernel
theorem dL_due_59 : decode cL_due 59 = .ok (.iload 9, 2) := by decide +kernel
theorem dL_due_61 : decode cL_due 61 = .ok (.aload_n 0, 1) := by decide +kernel
theorem dL_due_62 : decode cL_due 62 = .ok (.iload 8, 2) := by decide +kernel
theorem dL_due_64 : decode cL_due 64 = .ok (.iload_n 3, 1) := by decide +kernel
theorem dL_due_65 : decode cL_due 65 = .ok (.invokestatic 149, 3) := by decide +kernel
theorem dL_due_68 : decode cL_due 68 = .ok (.ifCond .eq 7, 3) := by decide +kernel
theorem dL_due_71 : decode cL_due 71 = .ok (.iload 9, 2) := by decide +kernel
theorem dL_due_73 : decode cL_due 73 = .ok (.istore 8, 2) := by decide +kernel
theorem dL_due_75 : decode cL_due 75 = .ok (.iinc 9 1, 3) := by decide +kernel
theorem dL_due_78 : decode cL_due 78 = .ok (.goto (-39), 3) := by decide +kernel
theorem dL_due_81 : decode cL_due 81 = .ok (.aload 5, 2) := by decide +kernel
theorem dL_due_83 : decode cL_due 83 = .ok (.iload 8, 2) := by decide +kernel
theorem dL_due_85 : decode cL_due 85 = .ok (.iconst 1, 1) := by decide +kernel
theorem dL_due_86 : decode cL_due 86 = .ok (.bastore, 1) := by decide +kernel
theorem dL_due_87 : decode cL_due 87 = .ok (.aload_n 0, 1) := by decide +kernel
theorem dL_due_88 : decode cL_due 88 = .ok (.iload 8, 2) := by decide +kernel
theorem dL_due_90 : decode cL_due 90 = .ok (.aload 4, 2) := by decide +kernel
theorem dL_due_92 : decode cL_due 92 = .ok (.iload 7, 2) := by decide +kernel
theorem dL_due_94 : decode cL_due 94 = .ok (.invokestatic 153, 3) := by decide +kernel
theorem dL_due_97 : decode cL_due 97 = .ok (.iload 6, 2) := by decide +kernel
theorem dL_due_99 : decode cL_due 99 = .ok (.aload_n 0, 1) := by decide +kernel
theorem dL_due_100 : decode cL_due 100 = .ok (.iconst 2, 1) := by decide +kernel
theorem dL_due_101 : decode cL_due 101 = .ok (.aaload, 1) := by decide +kernel
theorem dL_due_102 : decode cL_due 102 = .ok (.iload 8, 2) := by decide +kernel
theorem dL_due_104 : decode cL_due 104 = .ok (.iaload, 1) := by decide +kernel
theorem dL_due_105 : decode cL_due 105 = .ok (.aload_n 0, 1) := by decide +kernel
theorem dL_due_106 : decode cL_due 106 = .ok (.iconst 2, 1) := by decide +kernel
theorem dL_due_107 : decode cL_due 107 = .ok (.aaload, 1) := by decide +kernel
theorem dL_due_108 : decode cL_due 108 = .ok (.iload 7, 2) := by decide +kernel
theorem dL_due_110 : decode cL_due 110 = .ok (.iaload, 1) := by decide +kernel
theorem dL_due_111 : decode cL_due 111 = .ok (.if_icmp .ne 7, 3) := by decide +kernel
theorem dL_due_114 : decode cL_due 114 = .ok (.iconst 0, 1) := by decide +kernel
theorem dL_due_115 : decode cL_due 115 = .ok (.goto 4, 3) := by decide +kernel
theorem dL_due_118 : decode cL_due 118 = .ok (.iconst 1, 1) := by decide +kernel
theorem dL_due_119 : decode cL_due 119 = .ok (.iadd, 1) := by decide +kernel
theorem dL_due_120 : decode cL_due 120 = .ok (.istore 6, 2) := by decide +kernel
theorem dL_due_122 : decode cL_due 122 = .ok (.iinc 7 1, 3) := by decide +kernel
theorem dL_due_125 : decode cL_due 125 = .ok (.goto (-98), 3) := by decide +kernel
theorem dL_due_128 : decode cL_due 128 = .ok (.iload 6, 2) := by decide +kernel
theorem dL_due_130 : decode cL_due 130 = .ok (.ireturn, 1) := by decide +kernel
set_option maxRecDepth 20000 in
theorem ggL_sorts_L_sees : GoodIn wsL_sorts wsL_sees := goodIn_ca (goodIn_ca (goodIn_r _ [8, 9, 10, 11, 12, 13, 14, 15, 16, 17, 18, 19, 20, 21, 22, 23, 24, 25, 26, 27, 28, 29, 30, 31, 32, 33, 34, 35, 36, 37, 38, 39, 40, 41, 42, 43, 44, 461, 462, 463, 464, 465, 466, 467, 468, 469, 470, 471, 472, 473, 474, 475] (by decide +kernel) (by decide +kernel)) (goodIn_sub (fun _ h => List.mem_cons_of_mem _ (List.mem_append_left _ (List.mem_append_left _ (List.mem_append_left _ (List.mem_append_right _ h))))) (by decide +kernel))) (goodIn_sub (fun _ h => List.mem_cons_of_mem _ (List.mem_append_left _ (List.mem_append_left _ (List.mem_append_right _ h)))) (by decide +kernel))
set_option maxRecDepth 20000 in
theorem gL_sorts_L_sees : GoodIn wsL_sorts (va_wsS RL 157 yL_sees wsL_sees) := goodIn_app (goodIn_of _ (by decide +kernel)) ggL_sorts_L_sees
set_option maxRecDepth 20000 in
theorem ggL_sorts_L_next : GoodIn wsL_sorts wsL_next := goodIn_r _ [47, 48] (by decide +kernel) (by decide +kernel)
set_option maxRecDepth 20000 in
theorem gL_sorts_L_next : GoodIn wsL_sorts (va_wsS RL 8 yL_next wsL_next) := goodIn_app (goodIn_of _ (by decide +kernel)) ggL_sorts_L_next
set_option maxRecDepth 20000 in
theorem ggL_sorts_L_copies : GoodIn wsL_sorts wsL_copies := goodIn_r _ [51] (by decide +kernel) (by decide +kernel)
set_option maxRecDepth 20000 in
theorem gL_sorts_L_copies : GoodIn wsL_sorts (va_wsS RL 153 yL_copies wsL_copies) := goodIn_app (goodIn_of _ (by decide +kernel)) ggL_sorts_L_copies
set_option maxRecDepth 20000 in
theorem ggL_sorts_L_due : GoodIn wsL_sorts wsL_due := goodIn_r _ [54, 55, 56, 7, 57, 49, 50, 51] (by decide +kernel) (by decide +kernel)
set_option maxRecDepth 20000 in
theorem gL_sorts_L_due : GoodIn wsL_sorts (va_wsS RL 166 yL_due wsL_due) := goodIn_app (goodIn_of _ (by decide +kernel)) ggL_sorts_L_due
set_option maxRecDepth 20000 in
theorem ggL_sorts_L_done : GoodIn wsL_sorts wsL_done := goodIn_ca (goodIn_ca (goodIn_ca (goodIn_ca (goodIn_r _ [60, 61, 62, 63, 64, 65, 66, 67, 12, 68, 69, 70, 71, 72, 73, 15, 16, 17, 18, 19, 20, 21, 74, 75, 76, 77, 78, 79, 80, 81, 82, 83, 84, 85, 86, 87, 88, 89, 90, 91, 92, 93, 94, 95, 96, 97, 98, 99, 100, 101, 102, 103, 104, 105, 106, 107, 108, 109, 110, 111, 112, 113, 114, 115, 116, 117, 118, 119, 120, 121, 122, 123, 124, 125, 126, 127, 128, 129, 130, 131, 132, 133, 134, 135, 136, 137, 138, 139, 140, 141, 142, 143, 144, 145, 146, 147, 148, 149, 150, 151, 152, 153, 154, 155, 156, 157, 158, 159, 160, 161, 162, 163, 164, 165, 166, 167, 168, 169, 170, 171, 172, 173, 174, 175, 176, 177, 178, 179, 180, 181, 182, 183, 184, 185, 186, 187, 188, 189, 190, 191, 192, 193, 194, 195, 196, 197, 198, 199, 200, 201, 202, 203, 204, 205, 206, 207, 208, 209, 210, 211, 212, 213, 214, 14, 215, 216, 217, 218, 29, 219, 220, 221, 222, 223, 224, 225, 226, 227, 228, 229, 230, 231, 232, 233, 234, 235, 236, 237, 238, 239, 240, 241, 242, 243, 244, 245, 246, 247, 248, 249, 250, 251, 252, 253, 254, 255, 256, 257, 258, 259, 36, 260, 38, 39, 44, 261, 262, 263, 264, 265, 266, 267, 268, 269, 270, 271, 272, 273, 274, 275, 276, 277, 278, 279, 280, 281, 282, 283, 284, 285, 286, 287, 288, 289, 290, 291, 292, 293, 294, 295, 296, 297, 298, 299, 300, 301, 302, 303, 304, 305, 306, 2, 3, 4, 307, 308, 309, 310, 311, 312, 313, 314, 315, 316, 317, 318, 34, 35, 37, 319, 320, 321, 322, 41, 42, 43, 323, 324, 325, 326, 327, 328, 329, 330, 331, 332, 333, 26, 27, 334, 335, 336, 337, 338, 339, 340, 341, 342, 343, 344, 345, 346, 347, 348, 349, 350, 351, 352, 28, 353, 354, 355, 356, 357, 358, 359, 360, 361, 362, 363, 364, 365, 366, 367, 368, 369, 370, 371, 30, 31, 32, 372, 373, 374, 375, 376, 377, 378, 379, 380, 40, 381, 382, 383, 384, 33, 385, 386, 387, 388, 389, 390, 391, 392, 393, 394, 395, 396, 397, 398, 399, 400, 401, 402, 403, 404, 405, 406, 407, 408, 409, 410, 411, 412, 413, 414, 415, 416, 417, 418, 419, 420, 421, 422, 423, 424, 425, 426, 427, 428, 429, 430, 431, 432, 433, 434, 435, 436, 22, 23, 24, 25, 9, 10, 11, 13, 463, 464, 465, 466, 467, 468, 469, 470, 471, 472, 476, 477, 478, 479, 480, 481, 482, 483, 484, 485, 486, 487, 488, 489, 490, 491, 492, 461, 462, 473, 474, 475, 493, 494, 495, 496, 497] (by decide +kernel) (by decide +kernel)) (goodIn_sub (fun _ h => List.mem_cons_of_mem _ (List.mem_append_left _ (List.mem_append_right _ h))) (by decide +kernel))) (goodIn_sub (fun _ h => List.mem_cons_of_mem _ (List.mem_append_left _ (List.mem_append_left _ (List.mem_append_left _ (List.mem_append_right _ h))))) (by decide +kernel))) (goodIn_sub (fun _ h => List.mem_cons_of_mem _ (List.mem_append_left _ (List.mem_append_left _ (List.mem_append_right _ h)))) (by decide +kernel))) (goodIn_sub (fun _ h => List.mem_cons_of_mem _ (List.mem_append_right _ h)) (by decide +kernel))
set_option maxRecDepth 20000 in
theorem gL_sorts_L_done : GoodIn wsL_sorts (va_wsS RL 170 yL_done wsL_done) := goodIn_app (goodIn_of _ (by decide +kernel)) ggL_sorts_L_done
set_option maxRecDepth 20000 in
theorem ggL_sorts_L_isLike : GoodIn wsL_sorts wsL_isLike := goodIn_r _ [439] (by decide +kernel) (by decide +kernel)
set_option maxRecDepth 20000 in
theorem gL_sorts_L_isLike : GoodIn wsL_sorts (va_wsS RL 174 yL_isLike wsL_isLike) := goodIn_app (goodIn_of _ (by decide +kernel)) ggL_sorts_L_isLike
set_option maxRecDepth 20000 in
theorem ggL_sorts_X10_isSorted : GoodIn wsL_sorts wsX10_isSorted := goodIn_ca (goodIn_r _ [443, 15, 16, 17, 12, 18, 19, 20, 21, 407, 408, 409, 410, 411, 412, 413, 414, 14, 415, 416, 417, 418, 419, 420, 421, 422, 29, 28, 33, 34, 35, 36, 37, 38, 39, 463, 464, 465, 466, 467, 468, 469, 470, 471, 472, 461, 462, 473, 474, 475] (by decide +kernel) (by decide +kernel)) (goodIn_sub (fun _ h => List.mem_cons_of_mem _ (List.mem_append_left _ (List.mem_append_left _ (List.mem_append_left _ (List.mem_append_right _ h))))) (by decide +kernel))
set_option maxRecDepth 20000 in
theorem gL_sorts_X10_isSorted : GoodIn wsL_sorts (wsV RL 178 RX10 yX10_isSorted wsX10_isSorted) := goodIn_app (goodIn_of _ (by decide +kernel)) ggL_sorts_X10_isSorted
set_option maxRecDepth 20000 in
theorem ggL_sorts_X10_runs : GoodIn wsL_sorts wsX10_runs := goodIn_ca (goodIn_r _ [447, 15, 16, 17, 12, 18, 19, 20, 21, 411, 412, 413, 414, 14, 415, 416, 417, 418, 419, 420, 421, 422, 29, 28, 33, 34, 35, 36, 37, 38, 39, 463, 464, 465, 466, 467, 468, 469, 470, 471, 472, 461, 462, 473, 474, 475] (by decide +kernel) (by decide +kernel)) (goodIn_sub (fun _ h => List.mem_cons_of_mem _ (List.mem_append_left _ (List.mem_append_left _ (List.mem_append_left _ (List.mem_append_right _ h))))) (by decide +kernel))
set_option maxRecDepth 20000 in
theorem gL_sorts_X10_runs : GoodIn wsL_sorts (wsV RL 182 RX10 yX10_runs wsX10_runs) := goodIn_app (goodIn_of _ (by decide +kernel)) ggL_sorts_X10_runs
set_option maxRecDepth 20000 in
theorem ggL_sorts_X10_longestRun : GoodIn wsL_sorts wsX10_longestRun := goodIn_ca (goodIn_r _ [451, 15, 16, 17, 12, 18, 19, 20, 21, 452, 453, 454, 455, 14, 456, 397, 3, 398, 415, 416, 417, 418, 419, 420, 421, 422, 29, 28, 33, 34, 35, 36, 37, 38, 39, 463, 464, 465, 466, 467, 468, 469, 470, 471, 472, 461, 462, 473, 474, 475] (by decide +kernel) (by decide +kernel)) (goodIn_sub (fun _ h => List.mem_cons_of_mem _ (List.mem_append_left _ (List.mem_append_left _ (List.mem_append_left _ (List.mem_append_right _ h))))) (by decide +kernel))
set_option maxRecDepth 20000 in
theorem gL_sorts_X10_longestRun : GoodIn wsL_sorts (wsV RL 185 RX10 yX10_longestRun wsX10_longestRun) := goodIn_app (goodIn_of _ (by decide +kernel)) ggL_sorts_X10_longestRun
set_option maxRecDepth 20000 in
theorem ggL_sorts_X10_wrongPairs : GoodIn wsL_sorts wsX10_wrongPairs := goodIn_ca (goodIn_r _ [460, 15, 16, 17, 12, 18, 19, 20, 21, 429, 430, 431, 432, 289, 14, 280, 290, 291, 292, 293, 294, 295, 296, 297, 298, 299, 300, 301, 302, 303, 304, 305, 306, 2, 3, 4, 307, 308, 309, 310, 311, 312, 313, 314, 315, 316, 317, 318, 34, 35, 36, 37, 38, 39, 319, 320, 321, 239, 240, 241, 242, 322, 41, 42, 43, 44, 463, 464, 465, 466, 467, 468, 469, 470, 471, 472, 461, 462, 494, 495, 496, 497, 473, 474, 475] (by decide +kernel) (by decide +kernel)) (goodIn_sub (fun _ h => List.mem_cons_of_mem _ (List.mem_append_left _ (List.mem_append_left _ (List.mem_append_left _ (List.mem_append_right _ h))))) (by decide +kernel))
set_option maxRecDepth 20000 in
theorem gL_sorts_X10_wrongPairs : GoodIn wsL_sorts (wsV RL 188 RX10 yX10_wrongPairs wsX10_wrongPairs) := goodIn_app (goodIn_of _ (by decide +kernel)) ggL_sorts_X10_wrongPairs
theorem dL_sorts_0 : decode cL_sorts 0 = .ok (.aload_n 0, 1) := by decide +kernel
theorem dL_sorts_1 : decode cL_sorts 1 = .ok (.iload_n 2, 1) := by decide +kernel
theorem dL_sorts_2 : decode cL_sorts 2 = .ok (.aload 4, 2) := by decide +kernel
theorem dL_sorts_4 : decode cL_sorts 4 = .ok (.invokestatic 157, 3) := by decide +kernel
theorem dL_sorts_7 : decode cL_sorts 7 = .ok (.istore 8, 2) := by decide +kernel
theorem dL_sorts_9 : decode cL_sorts 9 = .ok (.iload_n 3, 1) := by decide +kernel
theorem dL_sorts_10 : decode cL_sorts 10 = .ok (.iconst 2, 1) := by decide +kernel
theorem dL_sorts_11 : decode cL_sorts 11 = .ok (.if_icmp .eq 8, 3) := by decide +kernel
theorem dL_sorts_14 : decode cL_sorts 14 = .ok (.iload_n 3, 1) := by decide +kernel
theorem dL_sorts_15 : decode cL_sorts 15 = .ok (.iconst 3, 1) := by decide +kernel
theorem dL_sorts_16 : decode cL_sorts 16 = .ok (.if_icmp .ne 7, 3) := by decide +kernel
theorem dL_sorts_19 : decode cL_sorts 19 = .ok (.iconst 1, 1) := by decide +kernel
theorem dL_sorts_20 : decode cL_sorts 20 = .ok (.goto 4, 3) := by decide +kernel
theorem dL_sorts_23 : decode cL_sorts 23 = .ok (.iconst 0, 1) := by decide +kernel
theorem dL_sorts_24 : decode cL_sorts 24 = .ok (.istore 9, 2) := by decide +kernel
theorem dL_sorts_26 : decode cL_sorts 26 = .ok (.iload 9, 2) := by decide +kernel
theorem dL_sorts_28 : decode cL_sorts 28 = .ok (.ifCond .eq 15, 3) := by decide +kernel
theorem dL_sorts_31 : decode cL_sorts 31 = .ok (.aload_n 1, 1) := by decide +kernel
theorem dL_sorts_32 : decode cL_sorts 32 = .ok (.invokestatic 8, 3) := by decide +kernel
theorem dL_sorts_35 : decode cL_sorts 35 = .ok (.iload 8, 2) := by decide +kernel
theorem dL_sorts_37 : decode cL_sorts 37 = .ok (.iconst 1, 1) := by decide +kernel
theorem dL_sorts_38 : decode cL_sorts 38 = .ok (.iadd, 1) := by decide +kernel
theorem dL_sorts_39 : decode cL_sorts 39 = .ok (.irem, 1) := by decide +kernel
theorem dL_sorts_40 : decode cL_sorts 40 = .ok (.goto 4, 3) := by decide +kernel
theorem dL_sorts_43 : decode cL_sorts 43 = .ok (.iconst 0, 1) := by decide +kernel
theorem dL_sorts_44 : decode cL_sorts 44 = .ok (.istore 10, 2) := by decide +kernel
theorem dL_sorts_46 : decode cL_sorts 46 = .ok (.iload 9, 2) := by decide +kernel
theorem dL_sorts_48 : decode cL_sorts 48 = .ok (.ifCond .eq 33, 3) := by decide +kernel
theorem dL_sorts_51 : decode cL_sorts 51 = .ok (.iload 8, 2) := by decide +kernel
theorem dL_sorts_53 : decode cL_sorts 53 = .ok (.iload 10, 2) := by decide +kernel
theorem dL_sorts_55 : decode cL_sorts 55 = .ok (.aload_n 1, 1) := by decide +kernel
theorem dL_sorts_56 : decode cL_sorts 56 = .ok (.invokestatic 8, 3) := by decide +kernel
theorem dL_sorts_59 : decode cL_sorts 59 = .ok (.iload_n 3, 1) := by decide +kernel
theorem dL_sorts_60 : decode cL_sorts 60 = .ok (.iconst 3, 1) := by decide +kernel
theorem dL_sorts_61 : decode cL_sorts 61 = .ok (.if_icmp .ne 8, 3) := by decide +kernel
theorem dL_sorts_64 : decode cL_sorts 64 = .ok (.bipush 32, 2) := by decide +kernel
theorem dL_sorts_66 : decode cL_sorts 66 = .ok (.goto 7, 3) := by decide +kernel
theorem dL_sorts_69 : decode cL_sorts 69 = .ok (.iload 8, 2) := by decide +kernel
theorem dL_sorts_71 : decode cL_sorts 71 = .ok (.iconst 1, 1) := by decide +kernel
theorem dL_sorts_72 : decode cL_sorts 72 = .ok (.iadd, 1) := by decide +kernel
theorem dL_sorts_73 : decode cL_sorts 73 = .ok (.irem, 1) := by decide +kernel
theorem dL_sorts_74 : decode cL_sorts 74 = .ok (.iadd, 1) := by decide +kernel
theorem dL_sorts_75 : decode cL_sorts 75 = .ok (.invokestatic 161, 3) := by decide +kernel
theorem dL_sorts_78 : decode cL_sorts 78 = .ok (.goto 5, 3) := by decide +kernel
theorem dL_sorts_81 : decode cL_sorts 81 = .ok (.iload 8, 2) := by decide +kernel
theorem dL_sorts_83 : decode cL_sorts 83 = .ok (.istore 11, 2) := by decide +kernel
theorem dL_sorts_85 : decode cL_sorts 85 = .ok (.iload_n 3, 1) := by decide +kernel
theorem dL_sorts_86 : decode cL_sorts 86 = .ok (.iconst 3, 1) := by decide +kernel
theorem dL_sorts_87 : decode cL_sorts 87 = .ok (.if_icmp .ne 7, 3) := by decide +kernel
theorem dL_sorts_90 : decode cL_sorts 90 = .ok (.iconst 1, 1) := by decide +kernel
theorem dL_sorts_91 : decode cL_sorts 91 = .ok (.goto 22, 3) := by decide +kernel
theorem dL_sorts_94 : decode cL_sorts 94 = .ok (.iload_n 3, 1) := by decide +kernel
theorem dL_sorts_95 : decode cL_sorts 95 = .ok (.iconst 4, 1) := by decide +kernel
theorem dL_sorts_96 : decode cL_sorts 96 = .ok (.if_icmp .ne 7, 3) := by decide +kernel
theorem dL_sorts_99 : decode cL_sorts 99 = .ok (.iconst 2, 1) := by decide +kernel
theorem dL_sorts_100 : decode cL_sorts 100 = .ok (.goto 13, 3) := by decide +kernel
theorem dL_sorts_103 : decode cL_sorts 103 = .ok (.iload_n 3, 1) := by decide +kernel
theorem dL_sorts_104 : decode cL_sorts 104 = .ok (.iconst 5, 1) := by decide +kernel
theorem dL_sorts_105 : decode cL_sorts 105 = .ok (.if_icmp .ne 7, 3) := by decide +kernel
theorem dL_sorts_108 : decode cL_sorts 108 = .ok (.iconst 3, 1) := by decide +kernel
theorem dL_sorts_109 : decode cL_sorts 109 = .ok (.goto 4, 3) := by decide +kernel
theorem dL_sorts_112 : decode cL_sorts 112 = .ok (.iconst 0, 1) := by decide +kernel
theorem dL_sorts_113 : decode cL_sorts 113 = .ok (.istore 12, 2) := by decide +kernel
theorem dL_sorts_115 : decode cL_sorts 115 = .ok (.iconst 0, 1) := by decide +kernel
theorem dL_sorts_116 : decode cL_sorts 116 = .ok (.istore 13, 2) := by decide +kernel
theorem dL_sorts_118 : decode cL_sorts 118 = .ok (.iload 13, 2) := by decide +kernel
theorem dL_sorts_120 : decode cL_sorts 120 = .ok (.iload 8, 2) := by decide +kernel
theorem dL_sorts_122 : decode cL_sorts 122 = .ok (.if_icmp .ge 20, 3) := by decide +kernel
theorem dL_sorts_125 : decode cL_sorts 125 = .ok (.aload 4, 2) := by decide +kernel
theorem dL_sorts_127 : decode cL_sorts 127 = .ok (.iload 13, 2) := by decide +kernel
theorem dL_sorts_129 : decode cL_sorts 129 = .ok (.aload 5, 2) := by decide +kernel
theorem dL_sorts_131 : decode cL_sorts 131 = .ok (.iload 13, 2) := by decide +kernel
theorem dL_sorts_133 : decode cL_sorts 133 = .ok (.invokestatic 153, 3) := by decide +kernel
theorem dL_sorts_136 : decode cL_sorts 136 = .ok (.iinc 13 1, 3) := by decide +kernel
theorem dL_sorts_139 : decode cL_sorts 139 = .ok (.goto (-21), 3) := by decide +kernel
theorem dL_sorts_142 : decode cL_sorts 142 = .ok (.aload 4, 2) := by decide +kernel
theorem dL_sorts_144 : decode cL_sorts 144 = .ok (.iload 10, 2) := by decide +kernel
theorem dL_sorts_146 : decode cL_sorts 146 = .ok (.iload 11, 2) := by decide +kernel
theorem dL_sorts_148 : decode cL_sorts 148 = .ok (.iload 12, 2) := by decide +kernel
theorem dL_sorts_150 : decode cL_sorts 150 = .ok (.aload 5, 2) := by decide +kernel
theorem dL_sorts_152 : decode cL_sorts 152 = .ok (.aload 7, 2) := by decide +kernel
theorem dL_sorts_154 : decode cL_sorts 154 = .ok (.invokestatic 166, 3) := by decide +kernel
theorem dL_sorts_157 : decode cL_sorts 157 = .ok (.istore 13, 2) := by decide +kernel
theorem dL_sorts_159 : decode cL_sorts 159 = .ok (.aload_n 0, 1) := by decide +kernel
theorem dL_sorts_160 : decode cL_sorts 160 = .ok (.iload_n 3, 1) := by decide +kernel
theorem dL_sorts_161 : decode cL_sorts 161 = .ok (.iload_n 2, 1) := by decide +kernel
theorem dL_sorts_162 : decode cL_sorts 162 = .ok (.iload 10, 2) := by decide +kernel
theorem dL_sorts_164 : decode cL_sorts 164 = .ok (.iload 11, 2) := by decide +kernel
theorem dL_sorts_166 : decode cL_sorts 166 = .ok (.invokestatic 170, 3) := by decide +kernel
theorem dL_sorts_169 : decode cL_sorts 169 = .ok (.iload 13, 2) := by decide +kernel
theorem dL_sorts_171 : decode cL_sorts 171 = .ok (.if_icmp .ne 68, 3) := by decide +kernel
theorem dL_sorts_174 : decode cL_sorts 174 = .ok (.aload_n 0, 1) := by decide +kernel
theorem dL_sorts_175 : decode cL_sorts 175 = .ok (.iload_n 2, 1) := by decide +kernel
theorem dL_sorts_176 : decode cL_sorts 176 = .ok (.aload 6, 2) := by decide +kernel
theorem dL_sorts_178 : decode cL_sorts 178 = .ok (.invokestatic 157, 3) := by decide +kernel
theorem dL_sorts_181 : decode cL_sorts 181 = .ok (.iload 8, 2) := by decide +kernel
theorem dL_sorts_183 : decode cL_sorts 183 = .ok (.if_icmp .ne 56, 3) := by decide +kernel
theorem dL_sorts_186 : decode cL_sorts 186 = .ok (.aload 5, 2) := by decide +kernel
theorem dL_sorts_188 : decode cL_sorts 188 = .ok (.aload 6, 2) := by decide +kernel
theorem dL_sorts_190 : decode cL_sorts 190 = .ok (.iload 8, 2) := by decide +kernel
theorem dL_sorts_192 : decode cL_sorts 192 = .ok (.invokestatic 174, 3) := by decide +kernel
theorem dL_sorts_195 : decode cL_sorts 195 = .ok (.ifCond .eq 44, 3) := by decide +kernel
theorem dL_sorts_198 : decode cL_sorts 198 = .ok (.aload_n 0, 1) := by decide +kernel
theorem dL_sorts_199 : decode cL_sorts 199 = .ok (.iload_n 3, 1) := by decide +kernel
theorem dL_sorts_200 : decode cL_sorts 200 = .ok (.iload_n 2, 1) := by decide +kernel
theorem dL_sorts_201 : decode cL_sorts 201 = .ok (.iload 10, 2) := by decide +kernel
theorem dL_sorts_203 : decode cL_sorts 203 = .ok (.iload 11, 2) := by decide +kernel
theorem dL_sorts_205 : decode cL_sorts 205 = .ok (.invokestatic 170, 3) := by decide +kernel
theorem dL_sorts_208 : decode cL_sorts 208 = .ok (.ifCond .ne 31, 3) := by decide +kernel
theorem dL_sorts_211 : decode cL_sorts 211 = .ok (.aload_n 0, 1) := by decide +kernel
theorem dL_sorts_212 : decode cL_sorts 212 = .ok (.iload_n 2, 1) := by decide +kernel
theorem dL_sorts_213 : decode cL_sorts 213 = .ok (.aload 6, 2) := by decide +kernel
theorem dL_sorts_215 : decode cL_sorts 215 = .ok (.invokestatic 157, 3) := by decide +kernel
theorem dL_sorts_218 : decode cL_sorts 218 = .ok (.iload 8, 2) := by decide +kernel
theorem dL_sorts_220 : decode cL_sorts 220 = .ok (.if_icmp .ne 19, 3) := by decide +kernel
theorem dL_sorts_223 : decode cL_sorts 223 = .ok (.aload 5, 2) := by decide +kernel
theorem dL_sorts_225 : decode cL_sorts 225 = .ok (.aload 6, 2) := by decide +kernel
theorem dL_sorts_227 : decode cL_sorts 227 = .ok (.iload 8, 2) := by decide +kernel
theorem dL_sorts_229 : decode cL_sorts 229 = .ok (.invokestatic 174, 3) := by decide +kernel
theorem dL_sorts_232 : decode cL_sorts 232 = .ok (.ifCond .eq 7, 3) := by decide +kernel
theorem dL_sorts_235 : decode cL_sorts 235 = .ok (.iconst 1, 1) := by decide +kernel
theorem dL_sorts_236 : decode cL_sorts 236 = .ok (.goto 4, 3) := by decide +kernel
theorem dL_sorts_239 : decode cL_sorts 239 = .ok (.iconst 0, 1) := by decide +kernel
theorem dL_sorts_240 : decode cL_sorts 240 = .ok (.istore 14, 2) := by decide +kernel
theorem dL_sorts_242 : decode cL_sorts 242 = .ok (.iload 14, 2) := by decide +kernel
theorem dL_sorts_244 : decode cL_sorts 244 = .ok (.ifCond .eq 78, 3) := by decide +kernel
theorem dL_sorts_247 : decode cL_sorts 247 = .ok (.iload_n 3, 1) := by decide +kernel
theorem dL_sorts_248 : decode cL_sorts 248 = .ok (.iconst 1, 1) := by decide +kernel
theorem dL_sorts_249 : decode cL_sorts 249 = .ok (.if_icmp .ne 73, 3) := by decide +kernel
theorem dL_sorts_252 : decode cL_sorts 252 = .ok (.iload 8, 2) := by decide +kernel
theorem dL_sorts_254 : decode cL_sorts 254 = .ok (.ifCond .le 68, 3) := by decide +kernel
theorem dL_sorts_257 : decode cL_sorts 257 = .ok (.aload_n 0, 1) := by decide +kernel
theorem dL_sorts_258 : decode cL_sorts 258 = .ok (.iload_n 2, 1) := by decide +kernel
theorem dL_sorts_259 : decode cL_sorts 259 = .ok (.invokevirtual 178, 3) := by decide +kernel
theorem dL_sorts_262 : decode cL_sorts 262 = .ok (.ifCond .eq 57, 3) := by decide +kernel
theorem dL_sorts_265 : decode cL_sorts 265 = .ok (.aload_n 0, 1) := by decide +kernel
theorem dL_sorts_266 : decode cL_sorts 266 = .ok (.iload_n 2, 1) := by decide +kernel
theorem dL_sorts_267 : decode cL_sorts 267 = .ok (.invokevirtual 182, 3) := by decide +kernel
theorem dL_sorts_270 : decode cL_sorts 270 = .ok (.iconst 1, 1) := by decide +kernel
theorem dL_sorts_271 : decode cL_sorts 271 = .ok (.if_icmp .ne 48, 3) := by decide +kernel
theorem dL_sorts_274 : decode cL_sorts 274 = .ok (.aload_n 0, 1) := by decide +kernel
theorem dL_sorts_275 : decode cL_sorts 275 = .ok (.iload_n 2, 1) := by decide +kernel
theorem dL_sorts_276 : decode cL_sorts 276 = .ok (.invokevirtual 185, 3) := by decide +kernel
theorem dL_sorts_279 : decode cL_sorts 279 = .ok (.iload 8, 2) := by decide +kernel
theorem dL_sorts_281 : decode cL_sorts 281 = .ok (.if_icmp .ne 38, 3) := by decide +kernel
theorem dL_sorts_284 : decode cL_sorts 284 = .ok (.aload_n 0, 1) := by decide +kernel
theorem dL_sorts_285 : decode cL_sorts 285 = .ok (.iload_n 2, 1) := by decide +kernel
theorem dL_sorts_286 : decode cL_sorts 286 = .ok (.invokevirtual 188, 3) := by decide +kernel
theorem dL_sorts_289 : decode cL_sorts 289 = .ok (.ifCond .ne 30, 3) := by decide +kernel
theorem dL_sorts_292 : decode cL_sorts 292 = .ok (.aload_n 0, 1) := by decide +kernel
theorem dL_sorts_293 : decode cL_sorts 293 = .ok (.bipush 15, 2) := by decide +kernel
theorem dL_sorts_295 : decode cL_sorts 295 = .ok (.iload_n 2, 1) := by decide +kernel
theorem dL_sorts_296 : decode cL_sorts 296 = .ok (.iconst 0, 1) := by decide +kernel
theorem dL_sorts_297 : decode cL_sorts 297 = .ok (.iconst 0, 1) := by decide +kernel
theorem dL_sorts_298 : decode cL_sorts 298 = .ok (.invokestatic 170, 3) := by decide +kernel
theorem dL_sorts_301 : decode cL_sorts 301 = .ok (.aload 5, 2) := by decide +kernel
theorem dL_sorts_303 : decode cL_sorts 303 = .ok (.iconst 0, 1) := by decide +kernel
theorem dL_sorts_304 : decode cL_sorts 304 = .ok (.aaload, 1) := by decide +kernel
theorem dL_sorts_305 : decode cL_sorts 305 = .ok (.iload 8, 2) := by decide +kernel
theorem dL_sorts_307 : decode cL_sorts 307 = .ok (.iconst 1, 1) := by decide +kernel
theorem dL_sorts_308 : decode cL_sorts 308 = .ok (.isub, 1) := by decide +kernel
theorem dL_sorts_309 : decode cL_sorts 309 = .ok (.iconst 2, 1) := by decide +kernel
theorem dL_sorts_310 : decode cL_sorts 310 = .ok (.idiv, 1) := by decide +kernel
theorem dL_sorts_311 : decode cL_sorts 311 = .ok (.iaload, 1) := by decide +kernel
theorem dL_sorts_312 : decode cL_sorts 312 = .ok (.if_icmp .ne 7, 3) := by decide +kernel
theorem dL_sorts_315 : decode cL_sorts 315 = .ok (.iconst 1, 1) := by decide +kernel
theorem dL_sorts_316 : decode cL_sorts 316 = .ok (.goto 4, 3) := by decide +kernel
theorem dL_sorts_319 : decode cL_sorts 319 = .ok (.iconst 0, 1) := by decide +kernel
theorem dL_sorts_320 : decode cL_sorts 320 = .ok (.istore 14, 2) := by decide +kernel
theorem dL_sorts_322 : decode cL_sorts 322 = .ok (.iload 14, 2) := by decide +kernel
theorem dL_sorts_324 : decode cL_sorts 324 = .ok (.ireturn, 1) := by decide +kernel
set_option maxRecDepth 20000 in
theorem ggL_isBoth_L_sees : GoodIn wsL_isBoth wsL_sees := goodIn_ca (goodIn_ca (goodIn_r _ [4, 5, 6, 7, 8, 9, 10, 11, 12, 13, 14, 15, 16, 17, 18, 19, 20, 21, 22, 23, 24, 25, 26, 27, 28, 29, 30, 31, 32, 33, 34, 35, 36, 37, 38, 39, 40, 439, 440, 441, 442, 443, 444, 445, 446, 447, 448, 449, 450, 451, 452, 453] (by decide +kernel) (by decide +kernel)) (goodIn_sub (fun _ h => List.mem_cons_of_mem _ (List.mem_append_left _ (List.mem_append_left _ (List.mem_append_left _ (List.mem_append_right _ h))))) (by decide +kernel))) (goodIn_sub (fun _ h => List.mem_cons_of_mem _ (List.mem_append_left _ (List.mem_append_left _ (List.mem_append_right _ h)))) (by decide +kernel))
set_option maxRecDepth 20000 in
theorem gL_isBoth_L_sees : GoodIn wsL_isBoth (va_wsS RL 157 yL_sees wsL_sees) := goodIn_app (goodIn_of _ (by decide +kernel)) ggL_isBoth_L_sees
set_option maxRecDepth 20000 in
theorem ggL_isBoth_L_done : GoodIn wsL_isBoth wsL_done := goodIn_ca (goodIn_ca (goodIn_ca (goodIn_ca (goodIn_r _ [43, 44, 45, 46, 47, 48, 49, 50, 8, 51, 52, 53, 54, 55, 56, 11, 12, 13, 14, 15, 16, 17, 57, 58, 59, 60, 61, 62, 63, 64, 65, 66, 67, 68, 69, 70, 71, 72, 73, 74, 75, 76, 77, 78, 79, 80, 81, 82, 83, 84, 85, 86, 87, 88, 89, 90, 91, 92, 93, 94, 95, 96, 97, 98, 99, 100, 101, 102, 103, 104, 105, 106, 107, 108, 109, 110, 111, 112, 113, 114, 115, 116, 117, 118, 119, 120, 121, 122, 123, 124, 125, 126, 127, 128, 129, 130, 131, 132, 133, 134, 135, 136, 137, 138, 139, 140, 141, 142, 143, 144, 145, 146, 147, 148, 149, 150, 151, 152, 153, 154, 155, 156, 157, 158, 159, 160, 161, 162, 163, 164, 165, 166, 167, 168, 169, 170, 171, 172, 173, 174, 175, 176, 177, 178, 179, 180, 181, 182, 183, 184, 185, 186, 187, 188, 189, 190, 191, 192, 193, 194, 195, 196, 197, 10, 198, 199, 200, 201, 25, 202, 203, 204, 205, 206, 207, 208, 209, 210, 211, 212, 213, 214, 215, 216, 217, 218, 219, 220, 221, 222, 223, 224, 225, 226, 227, 228, 229, 230, 231, 232, 233, 234, 235, 236, 237, 238, 239, 240, 241, 242, 32, 243, 34, 35, 40, 244, 245, 246, 247, 248, 249, 250, 251, 252, 253, 254, 255, 256, 257, 258, 259, 260, 261, 262, 263, 264, 265, 266, 267, 268, 269, 270, 271, 272, 273, 274, 275, 276, 277, 278, 279, 280, 281, 282, 283, 284, 285, 286, 287, 288, 289, 290, 291, 292, 293, 294, 295, 296, 297, 298, 299, 300, 301, 302, 303, 304, 30, 31, 33, 305, 306, 307, 308, 37, 38, 39, 309, 310, 311, 312, 313, 314, 315, 316, 317, 318, 319, 22, 23, 320, 321, 322, 323, 324, 325, 326, 327, 328, 329, 330, 331, 332, 333, 334, 335, 336, 337, 338, 24, 339, 340, 341, 342, 343, 344, 345, 346, 347, 348, 349, 350, 351, 352, 353, 354, 355, 356, 357, 26, 27, 28, 358, 359, 360, 361, 362, 363, 364, 365, 366, 36, 367, 368, 369, 370, 29, 371, 372, 373, 374, 375, 376, 377, 378, 379, 380, 381, 382, 383, 384, 385, 386, 387, 388, 389, 390, 391, 392, 393, 394, 395, 396, 397, 398, 399, 400, 401, 402, 403, 404, 405, 406, 407, 408, 409, 410, 411, 412, 413, 414, 415, 416, 417, 418, 419, 420, 421, 422, 18, 19, 20, 21, 5, 6, 7, 9, 441, 442, 443, 444, 445, 446, 447, 448, 449, 450, 454, 455, 456, 457, 458, 459, 460, 461, 462, 463, 464, 465, 466, 467, 468, 469, 470, 439, 440, 451, 452, 453, 471, 472, 473, 474, 475] (by decide +kernel) (by decide +kernel)) (goodIn_sub (fun _ h => List.mem_cons_of_mem _ (List.mem_append_left _ (List.mem_append_right _ h))) (by decide +kernel))) (goodIn_sub (fun _ h => List.mem_cons_of_mem _ (List.mem_append_left _ (List.mem_append_left _ (List.mem_append_left _ (List.mem_append_right _ h))))) (by decide +kernel))) (goodIn_sub (fun _ h => List.mem_cons_of_mem _ (List.mem_append_left _ (List.mem_append_left _ (List.mem_append_right _ h)))) (by decide +kernel))) (goodIn_sub (fun _ h => List.mem_cons_of_mem _ (List.mem_append_right _ h)) (by decide +kernel))
set_option maxRecDepth 20000 in
theorem gL_isBoth_L_done : GoodIn wsL_isBoth (va_wsS RL 170 yL_done wsL_done) := goodIn_app (goodIn_of _ (by decide +kernel)) ggL_isBoth_L_done
set_option maxRecDepth 20000 in
theorem ggL_isBoth_L_due : GoodIn wsL_isBoth wsL_due := goodIn_r _ [425, 426, 427, 3, 428, 429, 430, 431] (by decide +kernel) (by decide +kernel)
set_option maxRecDepth 20000 in
theorem gL_isBoth_L_due : GoodIn wsL_isBoth (va_wsS RL 166 yL_due wsL_due) := goodIn_app (goodIn_of _ (by decide +kernel)) ggL_isBoth_L_due
set_option maxRecDepth 20000 in
theorem ggL_isBoth_X10_cardAt : GoodIn wsL_isBoth wsX10_cardAt := goodIn_ca (goodIn_ca (goodIn_r _ [21, 22, 23, 24, 25, 11, 12, 13, 8, 14, 15, 16, 17, 26, 27, 28, 10, 29, 30, 31, 32, 33, 34, 35, 36, 37, 38, 39, 40, 439, 440, 441, 442, 443, 444, 445, 446, 447, 448, 449, 450, 451, 452, 453] (by decide +kernel) (by decide +kernel)) (goodIn_sub (fun _ h => List.mem_cons_of_mem _ (List.mem_append_left _ (List.mem_append_left _ (List.mem_append_right _ h)))) (by decide +kernel))) (goodIn_sub (fun _ h => List.mem_cons_of_mem _ (List.mem_append_left _ (List.mem_append_left _ (List.mem_append_left _ (List.mem_append_right _ h))))) (by decide +kernel))
set_option maxRecDepth 20000 in
theorem gL_isBoth_X10_cardAt : GoodIn wsL_isBoth (wsV RL 133 RX10 yX10_cardAt wsX10_cardAt) := goodIn_app (goodIn_of _ (by decide +kernel)) ggL_isBoth_X10_cardAt
set_option maxRecDepth 20000 in
theorem ggL_isBoth_X10_sum : GoodIn wsL_isBoth wsX10_sum := goodIn_ca (goodIn_r _ [435, 10, 24, 11, 12, 13, 8, 14, 15, 16, 17, 439, 440, 441, 442, 443, 444, 445, 446, 447, 448, 449, 450] (by decide +kernel) (by decide +kernel)) (goodIn_sub (fun _ h => List.mem_cons_of_mem _ (List.mem_append_left _ (List.mem_append_left _ (List.mem_append_left _ (List.mem_append_right _ h))))) (by decide +kernel))
set_option maxRecDepth 20000 in
theorem gL_isBoth_X10_sum : GoodIn wsL_isBoth (wsV RL 191 RX10 yX10_sum wsX10_sum) := goodIn_app (goodIn_of _ (by decide +kernel)) ggL_isBoth_X10_sum
set_option maxRecDepth 20000 in
theorem ggL_isBoth_L_sum : GoodIn wsL_isBoth wsL_sum := goodIn_r _ [438] (by decide +kernel) (by decide +kernel)
set_option maxRecDepth 20000 in
theorem gL_isBoth_L_sum : GoodIn wsL_isBoth (va_wsS RL 195 yL_sum wsL_sum) := goodIn_app (goodIn_of _ (by decide +kernel)) ggL_isBoth_L_sum
theorem dL_isBoth_0 : decode cL_isBoth 0 = .ok (.aload_n 0, 1) := by decide +kernel
theorem dL_isBoth_1 : decode cL_isBoth 1 = .ok (.iload_n 1, 1) := by decide +kernel
theorem dL_isBoth_2 : decode cL_isBoth 2 = .ok (.aload_n 2, 1) := by decide +kernel
theorem dL_isBoth_3 : decode cL_isBoth 3 = .ok (.invokestatic 157, 3) := by decide +kernel
theorem dL_isBoth_6 : decode cL_isBoth 6 = .ok (.istore 5, 2) := by decide +kernel
theorem dL_isBoth_8 : decode cL_isBoth 8 = .ok (.aload_n 0, 1) := by decide +kernel
theorem dL_isBoth_9 : decode cL_isBoth 9 = .ok (.bipush 12, 2) := by decide +kernel
theorem dL_isBoth_11 : decode cL_isBoth 11 = .ok (.iload_n 1, 1) := by decide +kernel
theorem dL_isBoth_12 : decode cL_isBoth 12 = .ok (.iconst 0, 1) := by decide +kernel
theorem dL_isBoth_13 : decode cL_isBoth 13 = .ok (.iconst 0, 1) := by decide +kernel
theorem dL_isBoth_14 : decode cL_isBoth 14 = .ok (.invokestatic 170, 3) := by decide +kernel
theorem dL_isBoth_17 : decode cL_isBoth 17 = .ok (.istore 6, 2) := by decide +kernel
theorem dL_isBoth_19 : decode cL_isBoth 19 = .ok (.aload_n 2, 1) := by decide +kernel
theorem dL_isBoth_20 : decode cL_isBoth 20 = .ok (.iconst 0, 1) := by decide +kernel
theorem dL_isBoth_21 : decode cL_isBoth 21 = .ok (.iload 5, 2) := by decide +kernel
theorem dL_isBoth_23 : decode cL_isBoth 23 = .ok (.iconst 3, 1) := by decide +kernel
theorem dL_isBoth_24 : decode cL_isBoth 24 = .ok (.aload_n 3, 1) := by decide +kernel
theorem dL_isBoth_25 : decode cL_isBoth 25 = .ok (.aload 4, 2) := by decide +kernel
theorem dL_isBoth_27 : decode cL_isBoth 27 = .ok (.invokestatic 166, 3) := by decide +kernel
theorem dL_isBoth_30 : decode cL_isBoth 30 = .ok (.istore 7, 2) := by decide +kernel
theorem dL_isBoth_32 : decode cL_isBoth 32 = .ok (.iload 6, 2) := by decide +kernel
theorem dL_isBoth_34 : decode cL_isBoth 34 = .ok (.iload 5, 2) := by decide +kernel
theorem dL_isBoth_36 : decode cL_isBoth 36 = .ok (.if_icmp .ne 29, 3) := by decide +kernel
theorem dL_isBoth_39 : decode cL_isBoth 39 = .ok (.aload_n 0, 1) := by decide +kernel
theorem dL_isBoth_40 : decode cL_isBoth 40 = .ok (.iconst 4, 1) := by decide +kernel
theorem dL_isBoth_41 : decode cL_isBoth 41 = .ok (.iload_n 1, 1) := by decide +kernel
theorem dL_isBoth_42 : decode cL_isBoth 42 = .ok (.iconst 0, 1) := by decide +kernel
theorem dL_isBoth_43 : decode cL_isBoth 43 = .ok (.iconst 0, 1) := by decide +kernel
theorem dL_isBoth_44 : decode cL_isBoth 44 = .ok (.invokestatic 170, 3) := by decide +kernel
theorem dL_isBoth_47 : decode cL_isBoth 47 = .ok (.ifCond .lt 18, 3) := by decide +kernel
theorem dL_isBoth_50 : decode cL_isBoth 50 = .ok (.aload_n 0, 1) := by decide +kernel
theorem dL_isBoth_51 : decode cL_isBoth 51 = .ok (.iconst 1, 1) := by decide +kernel
theorem dL_isBoth_52 : decode cL_isBoth 52 = .ok (.iload_n 1, 1) := by decide +kernel
theorem dL_isBoth_53 : decode cL_isBoth 53 = .ok (.iconst 0, 1) := by decide +kernel
theorem dL_isBoth_54 : decode cL_isBoth 54 = .ok (.iconst 0, 1) := by decide +kernel
theorem dL_isBoth_55 : decode cL_isBoth 55 = .ok (.invokestatic 170, 3) := by decide +kernel
theorem dL_isBoth_58 : decode cL_isBoth 58 = .ok (.ifCond .lt 7, 3) := by decide +kernel
theorem dL_isBoth_61 : decode cL_isBoth 61 = .ok (.iconst 1, 1) := by decide +kernel
theorem dL_isBoth_62 : decode cL_isBoth 62 = .ok (.goto 4, 3) := by decide +kernel
theorem dL_isBoth_65 : decode cL_isBoth 65 = .ok (.iconst 0, 1) := by decide +kernel
theorem dL_isBoth_66 : decode cL_isBoth 66 = .ok (.istore 8, 2) := by decide +kernel
theorem dL_isBoth_68 : decode cL_isBoth 68 = .ok (.iconst 0, 1) := by decide +kernel
theorem dL_isBoth_69 : decode cL_isBoth 69 = .ok (.istore 9, 2) := by decide +kernel
theorem dL_isBoth_71 : decode cL_isBoth 71 = .ok (.iload 9, 2) := by decide +kernel
theorem dL_isBoth_73 : decode cL_isBoth 73 = .ok (.iload 5, 2) := by decide +kernel
theorem dL_isBoth_75 : decode cL_isBoth 75 = .ok (.if_icmp .ge 38, 3) := by decide +kernel
theorem dL_isBoth_78 : decode cL_isBoth 78 = .ok (.iload 8, 2) := by decide +kernel
theorem dL_isBoth_80 : decode cL_isBoth 80 = .ok (.ifCond .eq 33, 3) := by decide +kernel
theorem dL_isBoth_83 : decode cL_isBoth 83 = .ok (.aload_n 0, 1) := by decide +kernel
theorem dL_isBoth_84 : decode cL_isBoth 84 = .ok (.iload_n 1, 1) := by decide +kernel
theorem dL_isBoth_85 : decode cL_isBoth 85 = .ok (.iload 9, 2) := by decide +kernel
theorem dL_isBoth_87 : decode cL_isBoth 87 = .ok (.iconst 2, 1) := by decide +kernel
theorem dL_isBoth_88 : decode cL_isBoth 88 = .ok (.invokevirtual 133, 3) := by decide +kernel
theorem dL_isBoth_91 : decode cL_isBoth 91 = .ok (.aload_n 3, 1) := by decide +kernel
theorem dL_isBoth_92 : decode cL_isBoth 92 = .ok (.iconst 2, 1) := by decide +kernel
theorem dL_isBoth_93 : decode cL_isBoth 93 = .ok (.aaload, 1) := by decide +kernel
theorem dL_isBoth_94 : decode cL_isBoth 94 = .ok (.iload 9, 2) := by decide +kernel
theorem dL_isBoth_96 : decode cL_isBoth 96 = .ok (.iaload, 1) := by decide +kernel
theorem dL_isBoth_97 : decode cL_isBoth 97 = .ok (.if_icmp .ne 7, 3) := by decide +kernel
theorem dL_isBoth_100 : decode cL_isBoth 100 = .ok (.iconst 1, 1) := by decide +kernel
theorem dL_isBoth_101 : decode cL_isBoth 101 = .ok (.goto 4, 3) := by decide +kernel
theorem dL_isBoth_104 : decode cL_isBoth 104 = .ok (.iconst 0, 1) := by decide +kernel
theorem dL_isBoth_105 : decode cL_isBoth 105 = .ok (.istore 8, 2) := by decide +kernel
theorem dL_isBoth_107 : decode cL_isBoth 107 = .ok (.iinc 9 1, 3) := by decide +kernel
theorem dL_isBoth_110 : decode cL_isBoth 110 = .ok (.goto (-39), 3) := by decide +kernel
theorem dL_isBoth_113 : decode cL_isBoth 113 = .ok (.iload 8, 2) := by decide +kernel
theorem dL_isBoth_115 : decode cL_isBoth 115 = .ok (.ifCond .eq 47, 3) := by decide +kernel
theorem dL_isBoth_118 : decode cL_isBoth 118 = .ok (.aload_n 0, 1) := by decide +kernel
theorem dL_isBoth_119 : decode cL_isBoth 119 = .ok (.iconst 5, 1) := by decide +kernel
theorem dL_isBoth_120 : decode cL_isBoth 120 = .ok (.iload_n 1, 1) := by decide +kernel
theorem dL_isBoth_121 : decode cL_isBoth 121 = .ok (.iconst 0, 1) := by decide +kernel
theorem dL_isBoth_122 : decode cL_isBoth 122 = .ok (.iconst 0, 1) := by decide +kernel
theorem dL_isBoth_123 : decode cL_isBoth 123 = .ok (.invokestatic 170, 3) := by decide +kernel
theorem dL_isBoth_126 : decode cL_isBoth 126 = .ok (.ifCond .ne 36, 3) := by decide +kernel
theorem dL_isBoth_129 : decode cL_isBoth 129 = .ok (.aload_n 0, 1) := by decide +kernel
theorem dL_isBoth_130 : decode cL_isBoth 130 = .ok (.bipush 13, 2) := by decide +kernel
theorem dL_isBoth_132 : decode cL_isBoth 132 = .ok (.iload_n 1, 1) := by decide +kernel
theorem dL_isBoth_133 : decode cL_isBoth 133 = .ok (.iconst 0, 1) := by decide +kernel
theorem dL_isBoth_134 : decode cL_isBoth 134 = .ok (.iconst 0, 1) := by decide +kernel
theorem dL_isBoth_135 : decode cL_isBoth 135 = .ok (.invokestatic 170, 3) := by decide +kernel
theorem dL_isBoth_138 : decode cL_isBoth 138 = .ok (.iload 7, 2) := by decide +kernel
theorem dL_isBoth_140 : decode cL_isBoth 140 = .ok (.if_icmp .ne 22, 3) := by decide +kernel
theorem dL_isBoth_143 : decode cL_isBoth 143 = .ok (.aload_n 0, 1) := by decide +kernel
theorem dL_isBoth_144 : decode cL_isBoth 144 = .ok (.iload_n 1, 1) := by decide +kernel
theorem dL_isBoth_145 : decode cL_isBoth 145 = .ok (.invokevirtual 191, 3) := by decide +kernel
theorem dL_isBoth_148 : decode cL_isBoth 148 = .ok (.aload_n 2, 1) := by decide +kernel
theorem dL_isBoth_149 : decode cL_isBoth 149 = .ok (.iload 5, 2) := by decide +kernel
theorem dL_isBoth_151 : decode cL_isBoth 151 = .ok (.invokestatic 195, 3) := by decide +kernel
theorem dL_isBoth_154 : decode cL_isBoth 154 = .ok (.lcmp, 1) := by decide +kernel
theorem dL_isBoth_155 : decode cL_isBoth 155 = .ok (.ifCond .ne 7, 3) := by decide +kernel
theorem dL_isBoth_158 : decode cL_isBoth 158 = .ok (.iconst 1, 1) := by decide +kernel
theorem dL_isBoth_159 : decode cL_isBoth 159 = .ok (.goto 4, 3) := by decide +kernel
theorem dL_isBoth_162 : decode cL_isBoth 162 = .ok (.iconst 0, 1) := by decide +kernel
theorem dL_isBoth_163 : decode cL_isBoth 163 = .ok (.ireturn, 1) := by decide +kernel
theorem dL_sum_0 : decode cL_sum 0 = .ok (.lconst 0, 1) := by decide +kernel
theorem dL_sum_1 : decode cL_sum 1 = .ok (.lstore_n 2, 1) := by decide +kernel
theorem dL_sum_2 : decode cL_sum 2 = .ok (.iconst 0, 1) := by decide +kernel
theorem dL_sum_3 : decode cL_sum 3 = .ok (.istore 4, 2) := by decide +kernel
theorem dL_sum_5 : decode cL_sum 5 = .ok (.iload 4, 2) := by decide +kernel
theorem dL_sum_7 : decode cL_sum 7 = .ok (.iload_n 1, 1) := by decide +kernel
theorem dL_sum_8 : decode cL_sum 8 = .ok (.if_icmp .ge 27, 3) := by decide +kernel
theorem dL_sum_11 : decode cL_sum 11 = .ok (.lload_n 2, 1) := by decide +kernel
theorem dL_sum_12 : decode cL_sum 12 = .ok (.iload 4, 2) := by decide +kernel
theorem dL_sum_14 : decode cL_sum 14 = .ok (.i2l, 1) := by decide +kernel
theorem dL_sum_15 : decode cL_sum 15 = .ok (.lconst 1, 1) := by decide +kernel
theorem dL_sum_16 : decode cL_sum 16 = .ok (.ladd, 1) := by decide +kernel
theorem dL_sum_17 : decode cL_sum 17 = .ok (.aload_n 0, 1) := by decide +kernel
theorem dL_sum_18 : decode cL_sum 18 = .ok (.iconst 2, 1) := by decide +kernel
theorem dL_sum_19 : decode cL_sum 19 = .ok (.aaload, 1) := by decide +kernel
theorem dL_sum_20 : decode cL_sum 20 = .ok (.iload 4, 2) := by decide +kernel
theorem dL_sum_22 : decode cL_sum 22 = .ok (.iaload, 1) := by decide +kernel
theorem dL_sum_23 : decode cL_sum 23 = .ok (.i2l, 1) := by decide +kernel
theorem dL_sum_24 : decode cL_sum 24 = .ok (.lconst 1, 1) := by decide +kernel
theorem dL_sum_25 : decode cL_sum 25 = .ok (.ladd, 1) := by decide +kernel
theorem dL_sum_26 : decode cL_sum 26 = .ok (.lmul, 1) := by decide +kernel
theorem dL_sum_27 : decode cL_sum 27 = .ok (.ladd, 1) := by decide +kernel
theorem dL_sum_28 : decode cL_sum 28 = .ok (.lstore_n 2, 1) := by decide +kernel
theorem dL_sum_29 : decode cL_sum 29 = .ok (.iinc 4 1, 3) := by decide +kernel
theorem dL_sum_32 : decode cL_sum 32 = .ok (.goto (-27), 3) := by decide +kernel
theorem dL_sum_35 : decode cL_sum 35 = .ok (.lload_n 2, 1) := by decide +kernel
theorem dL_sum_36 : decode cL_sum 36 = .ok (.lreturn, 1) := by decide +kernel
set_option maxRecDepth 20000 in
theorem ggL_sortsAll_L_sees : GoodIn wsL_sortsAll wsL_sees := goodIn_ca (goodIn_ca (goodIn_r _ [5, 6, 7, 8, 9, 10, 11, 12, 13, 14, 15, 16, 17, 18, 19, 20, 21, 22, 23, 24, 25, 26, 27, 28, 29, 30, 31, 32, 33, 34, 35, 36, 37, 38, 39, 40, 41, 101, 102, 103, 104, 105, 106, 107, 108, 109, 110, 111, 112, 113, 114, 115] (by decide +kernel) (by decide +kernel)) (goodIn_sub (fun _ h => List.mem_cons_of_mem _ (List.mem_append_left _ (List.mem_append_right _ h))) (by decide +kernel))) (goodIn_sub (fun _ h => List.mem_cons_of_mem _ (List.mem_append_right _ h)) (by decide +kernel))
set_option maxRecDepth 20000 in
theorem gL_sortsAll_L_sees : GoodIn wsL_sortsAll (va_wsS RL 157 yL_sees wsL_sees) := goodIn_app (goodIn_of _ (by decide +kernel)) ggL_sortsAll_L_sees
set_option maxRecDepth 20000 in
theorem ggL_sortsAll_L_copies : GoodIn wsL_sortsAll wsL_copies := goodIn_r _ [44] (by decide +kernel) (by decide +kernel)
set_option maxRecDepth 20000 in
theorem gL_sortsAll_L_copies : GoodIn wsL_sortsAll (va_wsS RL 153 yL_copies wsL_copies) := goodIn_app (goodIn_of _ (by decide +kernel)) ggL_sortsAll_L_copies
set_option maxRecDepth 20000 in
theorem ggL_sortsAll_L_due : GoodIn wsL_sortsAll wsL_due := goodIn_r _ [47, 48, 49, 4, 50, 42, 43, 44] (by decide +kernel) (by decide +kernel)
set_option maxRecDepth 20000 in
theorem gL_sortsAll_L_due : GoodIn wsL_sortsAll (va_wsS RL 166 yL_due wsL_due) := goodIn_app (goodIn_of _ (by decide +kernel)) ggL_sortsAll_L_due
set_option maxRecDepth 20000 in
theorem ggL_sortsAll_X10_sortAll : GoodIn wsL_sortsAll wsX10_sortAll := goodIn_r _ [54, 55, 18, 11, 56, 57, 58, 59, 60, 61, 62, 63, 64, 65, 66, 67, 68, 69, 70, 71, 72, 73, 74, 75, 76, 77, 78, 79, 80, 81, 82, 83, 84, 85, 86, 87, 88, 31, 32, 33, 34, 35, 36, 89, 90, 91, 92, 93, 94, 95, 96, 38, 39, 40, 41, 97, 98, 99, 100, 103, 104, 105, 106, 107, 108, 109, 110, 111, 112, 101, 102, 116, 117, 118, 119, 113, 114, 115] (by decide +kernel) (by decide +kernel)
set_option maxRecDepth 20000 in
theorem gL_sortsAll_X10_sortAll : GoodIn wsL_sortsAll (wsV RL 198 RX10 yX10_sortAll wsX10_sortAll) := goodIn_app (goodIn_of _ (by decide +kernel)) ggL_sortsAll_X10_sortAll
theorem dL_sortsAll_0 : decode cL_sortsAll 0 = .ok (.iconst 0, 1) := by decide +kernel
theorem dL_sortsAll_1 : decode cL_sortsAll 1 = .ok (.istore 5, 2) := by decide +kernel
theorem dL_sortsAll_3 : decode cL_sortsAll 3 = .ok (.iconst 4, 1) := by decide +kernel
theorem dL_sortsAll_4 : decode cL_sortsAll 4 = .ok (.newarray .int, 2) := by decide +kernel
theorem dL_sortsAll_6 : decode cL_sortsAll 6 = .ok (.astore 6, 2) := by decide +kernel
theorem dL_sortsAll_8 : decode cL_sortsAll 8 = .ok (.iconst 0, 1) := by decide +kernel
theorem dL_sortsAll_9 : decode cL_sortsAll 9 = .ok (.istore 7, 2) := by decide +kernel
theorem dL_sortsAll_11 : decode cL_sortsAll 11 = .ok (.iload 7, 2) := by decide +kernel
theorem dL_sortsAll_13 : decode cL_sortsAll 13 = .ok (.iconst 4, 1) := by decide +kernel
theorem dL_sortsAll_14 : decode cL_sortsAll 14 = .ok (.if_icmp .ge 62, 3) := by decide +kernel
theorem dL_sortsAll_17 : decode cL_sortsAll 17 = .ok (.aload 6, 2) := by decide +kernel
theorem dL_sortsAll_19 : decode cL_sortsAll 19 = .ok (.iload 7, 2) := by decide +kernel
theorem dL_sortsAll_21 : decode cL_sortsAll 21 = .ok (.aload_n 0, 1) := by decide +kernel
theorem dL_sortsAll_22 : decode cL_sortsAll 22 = .ok (.iload 7, 2) := by decide +kernel
theorem dL_sortsAll_24 : decode cL_sortsAll 24 = .ok (.aload_n 3, 1) := by decide +kernel
theorem dL_sortsAll_25 : decode cL_sortsAll 25 = .ok (.invokestatic 157, 3) := by decide +kernel
theorem dL_sortsAll_28 : decode cL_sortsAll 28 = .ok (.iastore, 1) := by decide +kernel
theorem dL_sortsAll_29 : decode cL_sortsAll 29 = .ok (.iconst 0, 1) := by decide +kernel
theorem dL_sortsAll_30 : decode cL_sortsAll 30 = .ok (.istore 8, 2) := by decide +kernel
theorem dL_sortsAll_32 : decode cL_sortsAll 32 = .ok (.iload 8, 2) := by decide +kernel
theorem dL_sortsAll_34 : decode cL_sortsAll 34 = .ok (.aload 6, 2) := by decide +kernel
theorem dL_sortsAll_36 : decode cL_sortsAll 36 = .ok (.iload 7, 2) := by decide +kernel
theorem dL_sortsAll_38 : decode cL_sortsAll 38 = .ok (.iaload, 1) := by decide +kernel
theorem dL_sortsAll_39 : decode cL_sortsAll 39 = .ok (.if_icmp .ge 21, 3) := by decide +kernel
theorem dL_sortsAll_42 : decode cL_sortsAll 42 = .ok (.aload_n 3, 1) := by decide +kernel
theorem dL_sortsAll_43 : decode cL_sortsAll 43 = .ok (.iload 8, 2) := by decide +kernel
theorem dL_sortsAll_45 : decode cL_sortsAll 45 = .ok (.aload_n 1, 1) := by decide +kernel
theorem dL_sortsAll_46 : decode cL_sortsAll 46 = .ok (.iload 5, 2) := by decide +kernel
theorem dL_sortsAll_48 : decode cL_sortsAll 48 = .ok (.iload 8, 2) := by decide +kernel
theorem dL_sortsAll_50 : decode cL_sortsAll 50 = .ok (.iadd, 1) := by decide +kernel
theorem dL_sortsAll_51 : decode cL_sortsAll 51 = .ok (.invokestatic 153, 3) := by decide +kernel
theorem dL_sortsAll_54 : decode cL_sortsAll 54 = .ok (.iinc 8 1, 3) := by decide +kernel
theorem dL_sortsAll_57 : decode cL_sortsAll 57 = .ok (.goto (-25), 3) := by decide +kernel
theorem dL_sortsAll_60 : decode cL_sortsAll 60 = .ok (.iload 5, 2) := by decide +kernel
theorem dL_sortsAll_62 : decode cL_sortsAll 62 = .ok (.aload 6, 2) := by decide +kernel
theorem dL_sortsAll_64 : decode cL_sortsAll 64 = .ok (.iload 7, 2) := by decide +kernel
theorem dL_sortsAll_66 : decode cL_sortsAll 66 = .ok (.iaload, 1) := by decide +kernel
theorem dL_sortsAll_67 : decode cL_sortsAll 67 = .ok (.iadd, 1) := by decide +kernel
theorem dL_sortsAll_68 : decode cL_sortsAll 68 = .ok (.istore 5, 2) := by decide +kernel
theorem dL_sortsAll_70 : decode cL_sortsAll 70 = .ok (.iinc 7 1, 3) := by decide +kernel
theorem dL_sortsAll_73 : decode cL_sortsAll 73 = .ok (.goto (-62), 3) := by decide +kernel
theorem dL_sortsAll_76 : decode cL_sortsAll 76 = .ok (.aload_n 1, 1) := by decide +kernel
theorem dL_sortsAll_77 : decode cL_sortsAll 77 = .ok (.iconst 0, 1) := by decide +kernel
theorem dL_sortsAll_78 : decode cL_sortsAll 78 = .ok (.iload 5, 2) := by decide +kernel
theorem dL_sortsAll_80 : decode cL_sortsAll 80 = .ok (.iconst 0, 1) := by decide +kernel
theorem dL_sortsAll_81 : decode cL_sortsAll 81 = .ok (.aload_n 2, 1) := by decide +kernel
theorem dL_sortsAll_82 : decode cL_sortsAll 82 = .ok (.aload 4, 2) := by decide +kernel
theorem dL_sortsAll_84 : decode cL_sortsAll 84 = .ok (.invokestatic 166, 3) := by decide +kernel
theorem dL_sortsAll_87 : decode cL_sortsAll 87 = .ok (.istore 7, 2) := by decide +kernel
theorem dL_sortsAll_89 : decode cL_sortsAll 89 = .ok (.aload_n 0, 1) := by decide +kernel
theorem dL_sortsAll_90 : decode cL_sortsAll 90 = .ok (.invokevirtual 198, 3) := by decide +kernel
theorem dL_sortsAll_93 : decode cL_sortsAll 93 = .ok (.iload 7, 2) := by decide +kernel
theorem dL_sortsAll_95 : decode cL_sortsAll 95 = .ok (.if_icmp .ne 7, 3) := by decide +kernel
theorem dL_sortsAll_98 : decode cL_sortsAll 98 = .ok (.iconst 1, 1) := by decide +kernel
theorem dL_sortsAll_99 : decode cL_sortsAll 99 = .ok (.goto 4, 3) := by decide +kernel
theorem dL_sortsAll_102 : decode cL_sortsAll 102 = .ok (.iconst 0, 1) := by decide +kernel
theorem dL_sortsAll_103 : decode cL_sortsAll 103 = .ok (.istore 8, 2) := by decide +kernel
theorem dL_sortsAll_105 : decode cL_sortsAll 105 = .ok (.iconst 0, 1) := by decide +kernel
theorem dL_sortsAll_106 : decode cL_sortsAll 106 = .ok (.istore 5, 2) := by decide +kernel
theorem dL_sortsAll_108 : decode cL_sortsAll 108 = .ok (.iconst 0, 1) := by decide +kernel
theorem dL_sortsAll_109 : decode cL_sortsAll 109 = .ok (.istore 9, 2) := by decide +kernel
theorem dL_sortsAll_111 : decode cL_sortsAll 111 = .ok (.iload 9, 2) := by decide +kernel
theorem dL_sortsAll_113 : decode cL_sortsAll 113 = .ok (.iconst 4, 1) := by decide +kernel
theorem dL_sortsAll_114 : decode cL_sortsAll 114 = .ok (.if_icmp .ge 95, 3) := by decide +kernel
theorem dL_sortsAll_117 : decode cL_sortsAll 117 = .ok (.iload 8, 2) := by decide +kernel
theorem dL_sortsAll_119 : decode cL_sortsAll 119 = .ok (.ifCond .eq 90, 3) := by decide +kernel
theorem dL_sortsAll_122 : decode cL_sortsAll 122 = .ok (.aload_n 0, 1) := by decide +kernel
theorem dL_sortsAll_123 : decode cL_sortsAll 123 = .ok (.iload 9, 2) := by decide +kernel
theorem dL_sortsAll_125 : decode cL_sortsAll 125 = .ok (.aload_n 3, 1) := by decide +kernel
theorem dL_sortsAll_126 : decode cL_sortsAll 126 = .ok (.invokestatic 157, 3) := by decide +kernel
theorem dL_sortsAll_129 : decode cL_sortsAll 129 = .ok (.aload 6, 2) := by decide +kernel
theorem dL_sortsAll_131 : decode cL_sortsAll 131 = .ok (.iload 9, 2) := by decide +kernel
theorem dL_sortsAll_133 : decode cL_sortsAll 133 = .ok (.iaload, 1) := by decide +kernel
theorem dL_sortsAll_134 : decode cL_sortsAll 134 = .ok (.if_icmp .ne 7, 3) := by decide +kernel
theorem dL_sortsAll_137 : decode cL_sortsAll 137 = .ok (.iconst 1, 1) := by decide +kernel
theorem dL_sortsAll_138 : decode cL_sortsAll 138 = .ok (.goto 4, 3) := by decide +kernel
theorem dL_sortsAll_141 : decode cL_sortsAll 141 = .ok (.iconst 0, 1) := by decide +kernel
theorem dL_sortsAll_142 : decode cL_sortsAll 142 = .ok (.istore 8, 2) := by decide +kernel
theorem dL_sortsAll_144 : decode cL_sortsAll 144 = .ok (.iconst 0, 1) := by decide +kernel
theorem dL_sortsAll_145 : decode cL_sortsAll 145 = .ok (.istore 10, 2) := by decide +kernel
theorem dL_sortsAll_147 : decode cL_sortsAll 147 = .ok (.iload 10, 2) := by decide +kernel
theorem dL_sortsAll_149 : decode cL_sortsAll 149 = .ok (.aload 6, 2) := by decide +kernel
theorem dL_sortsAll_151 : decode cL_sortsAll 151 = .ok (.iload 9, 2) := by decide +kernel
theorem dL_sortsAll_153 : decode cL_sortsAll 153 = .ok (.iaload, 1) := by decide +kernel
theorem dL_sortsAll_154 : decode cL_sortsAll 154 = .ok (.if_icmp .ge 39, 3) := by decide +kernel
theorem dL_sortsAll_157 : decode cL_sortsAll 157 = .ok (.iload 8, 2) := by decide +kernel
theorem dL_sortsAll_159 : decode cL_sortsAll 159 = .ok (.ifCond .eq 34, 3) := by decide +kernel
theorem dL_sortsAll_162 : decode cL_sortsAll 162 = .ok (.aload_n 3, 1) := by decide +kernel
theorem dL_sortsAll_163 : decode cL_sortsAll 163 = .ok (.iconst 2, 1) := by decide +kernel
theorem dL_sortsAll_164 : decode cL_sortsAll 164 = .ok (.aaload, 1) := by decide +kernel
theorem dL_sortsAll_165 : decode cL_sortsAll 165 = .ok (.iload 10, 2) := by decide +kernel
theorem dL_sortsAll_167 : decode cL_sortsAll 167 = .ok (.iaload, 1) := by decide +kernel
theorem dL_sortsAll_168 : decode cL_sortsAll 168 = .ok (.aload_n 2, 1) := by decide +kernel
theorem dL_sortsAll_169 : decode cL_sortsAll 169 = .ok (.iconst 2, 1) := by decide +kernel
theorem dL_sortsAll_170 : decode cL_sortsAll 170 = .ok (.aaload, 1) := by decide +kernel
theorem dL_sortsAll_171 : decode cL_sortsAll 171 = .ok (.iload 5, 2) := by decide +kernel
theorem dL_sortsAll_173 : decode cL_sortsAll 173 = .ok (.iload 10, 2) := by decide +kernel
theorem dL_sortsAll_175 : decode cL_sortsAll 175 = .ok (.iadd, 1) := by decide +kernel
theorem dL_sortsAll_176 : decode cL_sortsAll 176 = .ok (.iaload, 1) := by decide +kernel
theorem dL_sortsAll_177 : decode cL_sortsAll 177 = .ok (.if_icmp .ne 7, 3) := by decide +kernel
theorem dL_sortsAll_180 : decode cL_sortsAll 180 = .ok (.iconst 1, 1) := by decide +kernel
theorem dL_sortsAll_181 : decode cL_sortsAll 181 = .ok (.goto 4, 3) := by decide +kernel
theorem dL_sortsAll_184 : decode cL_sortsAll 184 = .ok (.iconst 0, 1) := by decide +kernel
theorem dL_sortsAll_185 : decode cL_sortsAll 185 = .ok (.istore 8, 2) := by decide +kernel
theorem dL_sortsAll_187 : decode cL_sortsAll 187 = .ok (.iinc 10 1, 3) := by decide +kernel
theorem dL_sortsAll_190 : decode cL_sortsAll 190 = .ok (.goto (-43), 3) := by decide +kernel
theorem dL_sortsAll_193 : decode cL_sortsAll 193 = .ok (.iload 5, 2) := by decide +kernel
theorem dL_sortsAll_195 : decode cL_sortsAll 195 = .ok (.aload 6, 2) := by decide +kernel
theorem dL_sortsAll_197 : decode cL_sortsAll 197 = .ok (.iload 9, 2) := by decide +kernel
theorem dL_sortsAll_199 : decode cL_sortsAll 199 = .ok (.iaload, 1) := by decide +kernel
theorem dL_sortsAll_200 : decode cL_sortsAll 200 = .ok (.iadd, 1) := by decide +kernel
theorem dL_sortsAll_201 : decode cL_sortsAll 201 = .ok (.istore 5, 2) := by decide +kernel
theorem dL_sortsAll_203 : decode cL_sortsAll 203 = .ok (.iinc 9 1, 3) := by decide +kernel
theorem dL_sortsAll_206 : decode cL_sortsAll 206 = .ok (.goto (-95), 3) := by decide +kernel
theorem dL_sortsAll_209 : decode cL_sortsAll 209 = .ok (.iload 8, 2) := by decide +kernel
theorem dL_sortsAll_211 : decode cL_sortsAll 211 = .ok (.ifCond .eq 14, 3) := by decide +kernel
theorem dL_sortsAll_214 : decode cL_sortsAll 214 = .ok (.aload_n 0, 1) := by decide +kernel
theorem dL_sortsAll_215 : decode cL_sortsAll 215 = .ok (.invokevirtual 198, 3) := by decide +kernel
theorem dL_sortsAll_218 : decode cL_sortsAll 218 = .ok (.ifCond .ne 7, 3) := by decide +kernel
theorem dL_sortsAll_221 : decode cL_sortsAll 221 = .ok (.iconst 1, 1) := by decide +kernel
theorem dL_sortsAll_222 : decode cL_sortsAll 222 = .ok (.goto 4, 3) := by decide +kernel
theorem dL_sortsAll_225 : decode cL_sortsAll 225 = .ok (.iconst 0, 1) := by decide +kernel
theorem dL_sortsAll_226 : decode cL_sortsAll 226 = .ok (.ireturn, 1) := by decide +kernel
set_option maxRecDepth 20000 in
theorem ggL_moves_L_sees : GoodIn wsL_moves wsL_sees := goodIn_ca (goodIn_ca (goodIn_r _ [4, 5, 6, 7, 8, 9, 10, 11, 12, 13, 14, 15, 16, 17, 18, 19, 20, 21, 22, 23, 24, 25, 26, 27, 28, 29, 30, 31, 32, 33, 34, 35, 36, 37, 38, 39, 40, 433, 434, 435, 436, 437, 438, 439, 440, 441, 442, 443, 444, 445, 446, 447] (by decide +kernel) (by decide +kernel)) (goodIn_sub (fun _ h => List.mem_cons_of_mem _ (List.mem_append_left _ (List.mem_append_left _ (List.mem_append_left _ (List.mem_append_right _ h))))) (by decide +kernel))) (goodIn_sub (fun _ h => List.mem_cons_of_mem _ (List.mem_append_left _ (List.mem_append_left _ (List.mem_append_right _ h)))) (by decide +kernel))
set_option maxRecDepth 20000 in
theorem gL_moves_L_sees : GoodIn wsL_moves (va_wsS RL 157 yL_sees wsL_sees) := goodIn_app (goodIn_of _ (by decide +kernel)) ggL_moves_L_sees
set_option maxRecDepth 20000 in
theorem ggL_moves_L_next : GoodIn wsL_moves wsL_next := goodIn_r _ [43, 44] (by decide +kernel) (by decide +kernel)
set_option maxRecDepth 20000 in
theorem gL_moves_L_next : GoodIn wsL_moves (va_wsS RL 8 yL_next wsL_next) := goodIn_app (goodIn_of _ (by decide +kernel)) ggL_moves_L_next
set_option maxRecDepth 20000 in
theorem ggL_moves_L_done : GoodIn wsL_moves wsL_done := goodIn_ca (goodIn_ca (goodIn_ca (goodIn_ca (goodIn_r _ [47, 48, 49, 50, 51, 52, 53, 54, 8, 55, 56, 57, 58, 59, 60, 11, 12, 13, 14, 15, 16, 17, 61, 62, 63, 64, 65, 66, 67, 68, 69, 70, 71, 72, 73, 74, 75, 76, 77, 78, 79, 80, 81, 82, 83, 84, 85, 86, 87, 88, 89, 90, 91, 92, 93, 94, 95, 96, 97, 98, 99, 100, 101, 102, 103, 104, 105, 106, 107, 108, 109, 110, 111, 112, 113, 114, 115, 116, 117, 118, 119, 120, 121, 122, 123, 124, 125, 126, 127, 128, 129, 130, 131, 132, 133, 134, 135, 136, 137, 138, 139, 140, 141, 142, 143, 144, 145, 146, 147, 148, 149, 150, 151, 152, 153, 154, 155, 156, 157, 158, 159, 160, 161, 162, 163, 164, 165, 166, 167, 168, 169, 170, 171, 172, 173, 174, 175, 176, 177, 178, 179, 180, 181, 182, 183, 184, 185, 186, 187, 188, 189, 190, 191, 192, 193, 194, 195, 196, 197, 198, 199, 200, 201, 10, 202, 203, 204, 205, 25, 206, 207, 208, 209, 210, 211, 212, 213, 214, 215, 216, 217, 218, 219, 220, 221, 222, 223, 224, 225, 226, 227, 228, 229, 230, 231, 232, 233, 234, 235, 236, 237, 238, 239, 240, 241, 242, 243, 244, 245, 246, 32, 247, 34, 35, 40, 248, 249, 250, 251, 252, 253, 254, 255, 256, 257, 258, 259, 260, 261, 262, 263, 264, 265, 266, 267, 268, 269, 270, 271, 272, 273, 274, 275, 276, 277, 278, 279, 280, 281, 282, 283, 284, 285, 286, 287, 288, 289, 290, 291, 292, 293, 294, 295, 296, 297, 298, 299, 300, 301, 302, 303, 304, 305, 306, 307, 308, 30, 31, 33, 309, 310, 311, 312, 37, 38, 39, 313, 314, 315, 316, 317, 318, 319, 320, 321, 322, 323, 22, 23, 324, 325, 326, 327, 328, 329, 330, 331, 332, 333, 334, 335, 336, 337, 338, 339, 340, 341, 342, 24, 343, 344, 345, 346, 347, 348, 349, 350, 351, 352, 353, 354, 355, 356, 357, 358, 359, 360, 361, 26, 27, 28, 362, 363, 364, 365, 366, 367, 368, 369, 370, 36, 371, 372, 373, 374, 29, 375, 376, 377, 378, 379, 380, 381, 382, 383, 384, 385, 386, 387, 388, 389, 390, 391, 392, 393, 394, 395, 396, 397, 398, 399, 400, 401, 402, 403, 404, 405, 406, 407, 408, 409, 410, 411, 412, 413, 414, 415, 416, 417, 418, 419, 420, 421, 422, 423, 424, 425, 426, 18, 19, 20, 21, 5, 6, 7, 9, 435, 436, 437, 438, 439, 440, 441, 442, 443, 444, 448, 449, 450, 451, 452, 453, 454, 455, 456, 457, 458, 459, 460, 461, 462, 463, 464, 433, 434, 445, 446, 447, 465, 466, 467, 468, 469] (by decide +kernel) (by decide +kernel)) (goodIn_sub (fun _ h => List.mem_cons_of_mem _ (List.mem_append_left _ (List.mem_append_right _ h))) (by decide +kernel))) (goodIn_sub (fun _ h => List.mem_cons_of_mem _ (List.mem_append_left _ (List.mem_append_left _ (List.mem_append_left _ (List.mem_append_right _ h))))) (by decide +kernel))) (goodIn_sub (fun _ h => List.mem_cons_of_mem _ (List.mem_append_left _ (List.mem_append_left _ (List.mem_append_right _ h)))) (by decide +kernel))) (goodIn_sub (fun _ h => List.mem_cons_of_mem _ (List.mem_append_right _ h)) (by decide +kernel))
set_option maxRecDepth 20000 in
theorem gL_moves_L_done : GoodIn wsL_moves (va_wsS RL 170 yL_done wsL_done) := goodIn_app (goodIn_of _ (by decide +kernel)) ggL_moves_L_done
set_option maxRecDepth 20000 in
theorem ggL_moves_L_copies : GoodIn wsL_moves wsL_copies := goodIn_r _ [429] (by decide +kernel) (by decide +kernel)
set_option maxRecDepth 20000 in
theorem gL_moves_L_copies : GoodIn wsL_moves (va_wsS RL 153 yL_copies wsL_copies) := goodIn_app (goodIn_of _ (by decide +kernel)) ggL_moves_L_copies
set_option maxRecDepth 20000 in
theorem ggL_moves_X10_count : GoodIn wsL_moves wsX10_count := goodIn_ca (goodIn_r _ [9, 10, 11, 12, 13, 8, 14, 15, 16, 17, 433, 434, 435, 436, 437, 438, 439, 440, 441, 442, 443, 444] (by decide +kernel) (by decide +kernel)) (goodIn_sub (fun _ h => List.mem_cons_of_mem _ (List.mem_append_left _ (List.mem_append_left _ (List.mem_append_left _ (List.mem_append_right _ h))))) (by decide +kernel))
set_option maxRecDepth 20000 in
theorem gL_moves_X10_count : GoodIn wsL_moves (wsV RL 136 RX10 yX10_count wsX10_count) := goodIn_app (goodIn_of _ (by decide +kernel)) ggL_moves_X10_count
set_option maxRecDepth 20000 in
theorem ggL_moves_L_isLike : GoodIn wsL_moves wsL_isLike := goodIn_r _ [432] (by decide +kernel) (by decide +kernel)
set_option maxRecDepth 20000 in
theorem gL_moves_L_isLike : GoodIn wsL_moves (va_wsS RL 174 yL_isLike wsL_isLike) := goodIn_app (goodIn_of _ (by decide +kernel)) ggL_moves_L_isLike
theorem dL_moves_0 : decode cL_moves 0 = .ok (.aload_n 0, 1) := by decide +kernel
theorem dL_moves_1 : decode cL_moves 1 = .ok (.iload_n 2, 1) := by decide +kernel
theorem dL_moves_2 : decode cL_moves 2 = .ok (.aload 4, 2) := by decide +kernel
theorem dL_moves_4 : decode cL_moves 4 = .ok (.invokestatic 157, 3) := by decide +kernel
theorem dL_moves_7 : decode cL_moves 7 = .ok (.istore 7, 2) := by decide +kernel
theorem dL_moves_9 : decode cL_moves 9 = .ok (.iload_n 2, 1) := by decide +kernel
theorem dL_moves_10 : decode cL_moves 10 = .ok (.iconst 1, 1) := by decide +kernel
theorem dL_moves_11 : decode cL_moves 11 = .ok (.iadd, 1) := by decide +kernel
theorem dL_moves_12 : decode cL_moves 12 = .ok (.aload_n 1, 1) := by decide +kernel
theorem dL_moves_13 : decode cL_moves 13 = .ok (.invokestatic 8, 3) := by decide +kernel
theorem dL_moves_16 : decode cL_moves 16 = .ok (.iconst 3, 1) := by decide +kernel
theorem dL_moves_17 : decode cL_moves 17 = .ok (.irem, 1) := by decide +kernel
theorem dL_moves_18 : decode cL_moves 18 = .ok (.iadd, 1) := by decide +kernel
theorem dL_moves_19 : decode cL_moves 19 = .ok (.iconst 4, 1) := by decide +kernel
theorem dL_moves_20 : decode cL_moves 20 = .ok (.irem, 1) := by decide +kernel
theorem dL_moves_21 : decode cL_moves 21 = .ok (.istore 8, 2) := by decide +kernel
theorem dL_moves_23 : decode cL_moves 23 = .ok (.aload_n 0, 1) := by decide +kernel
theorem dL_moves_24 : decode cL_moves 24 = .ok (.iload 8, 2) := by decide +kernel
theorem dL_moves_26 : decode cL_moves 26 = .ok (.aload 5, 2) := by decide +kernel
theorem dL_moves_28 : decode cL_moves 28 = .ok (.invokestatic 157, 3) := by decide +kernel
theorem dL_moves_31 : decode cL_moves 31 = .ok (.istore 9, 2) := by decide +kernel
theorem dL_moves_33 : decode cL_moves 33 = .ok (.iload_n 3, 1) := by decide +kernel
theorem dL_moves_34 : decode cL_moves 34 = .ok (.bipush 6, 2) := by decide +kernel
theorem dL_moves_36 : decode cL_moves 36 = .ok (.if_icmp .ne 128, 3) := by decide +kernel
theorem dL_moves_39 : decode cL_moves 39 = .ok (.iload 7, 2) := by decide +kernel
theorem dL_moves_41 : decode cL_moves 41 = .ok (.iload 9, 2) := by decide +kernel
theorem dL_moves_43 : decode cL_moves 43 = .ok (.iadd, 1) := by decide +kernel
theorem dL_moves_44 : decode cL_moves 44 = .ok (.sipush 800, 3) := by decide +kernel
theorem dL_moves_47 : decode cL_moves 47 = .ok (.if_icmp .le 24, 3) := by decide +kernel
theorem dL_moves_50 : decode cL_moves 50 = .ok (.aload_n 0, 1) := by decide +kernel
theorem dL_moves_51 : decode cL_moves 51 = .ok (.bipush 6, 2) := by decide +kernel
theorem dL_moves_53 : decode cL_moves 53 = .ok (.iload_n 2, 1) := by decide +kernel
theorem dL_moves_54 : decode cL_moves 54 = .ok (.iload 8, 2) := by decide +kernel
theorem dL_moves_56 : decode cL_moves 56 = .ok (.iconst 0, 1) := by decide +kernel
theorem dL_moves_57 : decode cL_moves 57 = .ok (.invokestatic 170, 3) := by decide +kernel
theorem dL_moves_60 : decode cL_moves 60 = .ok (.bipush (-3), 2) := by decide +kernel
theorem dL_moves_62 : decode cL_moves 62 = .ok (.if_icmp .ne 7, 3) := by decide +kernel
theorem dL_moves_65 : decode cL_moves 65 = .ok (.iconst 1, 1) := by decide +kernel
theorem dL_moves_66 : decode cL_moves 66 = .ok (.goto 4, 3) := by decide +kernel
theorem dL_moves_69 : decode cL_moves 69 = .ok (.iconst 0, 1) := by decide +kernel
theorem dL_moves_70 : decode cL_moves 70 = .ok (.ireturn, 1) := by decide +kernel
theorem dL_moves_71 : decode cL_moves 71 = .ok (.iconst 0, 1) := by decide +kernel
theorem dL_moves_72 : decode cL_moves 72 = .ok (.istore 10, 2) := by decide +kernel
theorem dL_moves_74 : decode cL_moves 74 = .ok (.iload 10, 2) := by decide +kernel
theorem dL_moves_76 : decode cL_moves 76 = .ok (.iload 7, 2) := by decide +kernel
theorem dL_moves_78 : decode cL_moves 78 = .ok (.if_icmp .ge 23, 3) := by decide +kernel
theorem dL_moves_81 : decode cL_moves 81 = .ok (.aload 4, 2) := by decide +kernel
theorem dL_moves_83 : decode cL_moves 83 = .ok (.iload 10, 2) := by decide +kernel
theorem dL_moves_85 : decode cL_moves 85 = .ok (.aload 5, 2) := by decide +kernel
theorem dL_moves_87 : decode cL_moves 87 = .ok (.iload 9, 2) := by decide +kernel
theorem dL_moves_89 : decode cL_moves 89 = .ok (.iload 10, 2) := by decide +kernel
theorem dL_moves_91 : decode cL_moves 91 = .ok (.iadd, 1) := by decide +kernel
theorem dL_moves_92 : decode cL_moves 92 = .ok (.invokestatic 153, 3) := by decide +kernel
theorem dL_moves_95 : decode cL_moves 95 = .ok (.iinc 10 1, 3) := by decide +kernel
theorem dL_moves_98 : decode cL_moves 98 = .ok (.goto (-24), 3) := by decide +kernel
theorem dL_moves_101 : decode cL_moves 101 = .ok (.aload_n 0, 1) := by decide +kernel
theorem dL_moves_102 : decode cL_moves 102 = .ok (.bipush 6, 2) := by decide +kernel
theorem dL_moves_104 : decode cL_moves 104 = .ok (.iload_n 2, 1) := by decide +kernel
theorem dL_moves_105 : decode cL_moves 105 = .ok (.iload 8, 2) := by decide +kernel
theorem dL_moves_107 : decode cL_moves 107 = .ok (.iconst 0, 1) := by decide +kernel
theorem dL_moves_108 : decode cL_moves 108 = .ok (.invokestatic 170, 3) := by decide +kernel
theorem dL_moves_111 : decode cL_moves 111 = .ok (.iload 7, 2) := by decide +kernel
theorem dL_moves_113 : decode cL_moves 113 = .ok (.iload 9, 2) := by decide +kernel
theorem dL_moves_115 : decode cL_moves 115 = .ok (.iadd, 1) := by decide +kernel
theorem dL_moves_116 : decode cL_moves 116 = .ok (.if_icmp .ne 46, 3) := by decide +kernel
theorem dL_moves_119 : decode cL_moves 119 = .ok (.aload_n 0, 1) := by decide +kernel
theorem dL_moves_120 : decode cL_moves 120 = .ok (.iload_n 2, 1) := by decide +kernel
theorem dL_moves_121 : decode cL_moves 121 = .ok (.invokevirtual 136, 3) := by decide +kernel
theorem dL_moves_124 : decode cL_moves 124 = .ok (.ifCond .ne 38, 3) := by decide +kernel
theorem dL_moves_127 : decode cL_moves 127 = .ok (.aload_n 0, 1) := by decide +kernel
theorem dL_moves_128 : decode cL_moves 128 = .ok (.iload 8, 2) := by decide +kernel
theorem dL_moves_130 : decode cL_moves 130 = .ok (.aload 6, 2) := by decide +kernel
theorem dL_moves_132 : decode cL_moves 132 = .ok (.invokestatic 157, 3) := by decide +kernel
theorem dL_moves_135 : decode cL_moves 135 = .ok (.iload 7, 2) := by decide +kernel
theorem dL_moves_137 : decode cL_moves 137 = .ok (.iload 9, 2) := by decide +kernel
theorem dL_moves_139 : decode cL_moves 139 = .ok (.iadd, 1) := by decide +kernel
theorem dL_moves_140 : decode cL_moves 140 = .ok (.if_icmp .ne 22, 3) := by decide +kernel
theorem dL_moves_143 : decode cL_moves 143 = .ok (.aload 5, 2) := by decide +kernel
theorem dL_moves_145 : decode cL_moves 145 = .ok (.aload 6, 2) := by decide +kernel
theorem dL_moves_147 : decode cL_moves 147 = .ok (.iload 7, 2) := by decide +kernel
theorem dL_moves_149 : decode cL_moves 149 = .ok (.iload 9, 2) := by decide +kernel
theorem dL_moves_151 : decode cL_moves 151 = .ok (.iadd, 1) := by decide +kernel
theorem dL_moves_152 : decode cL_moves 152 = .ok (.invokestatic 174, 3) := by decide +kernel
theorem dL_moves_155 : decode cL_moves 155 = .ok (.ifCond .eq 7, 3) := by decide +kernel
theorem dL_moves_158 : decode cL_moves 158 = .ok (.iconst 1, 1) := by decide +kernel
theorem dL_moves_159 : decode cL_moves 159 = .ok (.goto 4, 3) := by decide +kernel
theorem dL_moves_162 : decode cL_moves 162 = .ok (.iconst 0, 1) := by decide +kernel
theorem dL_moves_163 : decode cL_moves 163 = .ok (.ireturn, 1) := by decide +kernel
theorem dL_moves_164 : decode cL_moves 164 = .ok (.iload_n 3, 1) := by decide +kernel
theorem dL_moves_165 : decode cL_moves 165 = .ok (.bipush 7, 2) := by decide +kernel
theorem dL_moves_167 : decode cL_moves 167 = .ok (.if_icmp .ne 200, 3) := by decide +kernel
theorem dL_moves_170 : decode cL_moves 170 = .ok (.iload 9, 2) := by decide +kernel
theorem dL_moves_172 : decode cL_moves 172 = .ok (.iload 7, 2) := by decide +kernel
theorem dL_moves_174 : decode cL_moves 174 = .ok (.iconst 2, 1) := by decide +kernel
theorem dL_moves_175 : decode cL_moves 175 = .ok (.idiv, 1) := by decide +kernel
theorem dL_moves_176 : decode cL_moves 176 = .ok (.iadd, 1) := by decide +kernel
theorem dL_moves_177 : decode cL_moves 177 = .ok (.sipush 800, 3) := by decide +kernel
theorem dL_moves_180 : decode cL_moves 180 = .ok (.if_icmp .le 24, 3) := by decide +kernel
theorem dL_moves_183 : decode cL_moves 183 = .ok (.aload_n 0, 1) := by decide +kernel
theorem dL_moves_184 : decode cL_moves 184 = .ok (.bipush 7, 2) := by decide +kernel
theorem dL_moves_186 : decode cL_moves 186 = .ok (.iload_n 2, 1) := by decide +kernel
theorem dL_moves_187 : decode cL_moves 187 = .ok (.iload 8, 2) := by decide +kernel
theorem dL_moves_189 : decode cL_moves 189 = .ok (.iconst 0, 1) := by decide +kernel
theorem dL_moves_190 : decode cL_moves 190 = .ok (.invokestatic 170, 3) := by decide +kernel
theorem dL_moves_193 : decode cL_moves 193 = .ok (.bipush (-3), 2) := by decide +kernel
theorem dL_moves_195 : decode cL_moves 195 = .ok (.if_icmp .ne 7, 3) := by decide +kernel
theorem dL_moves_198 : decode cL_moves 198 = .ok (.iconst 1, 1) := by decide +kernel
theorem dL_moves_199 : decode cL_moves 199 = .ok (.goto 4, 3) := by decide +kernel
theorem dL_moves_202 : decode cL_moves 202 = .ok (.iconst 0, 1) := by decide +kernel
theorem dL_moves_203 : decode cL_moves 203 = .ok (.ireturn, 1) := by decide +kernel
theorem dL_moves_204 : decode cL_moves 204 = .ok (.iconst 1, 1) := by decide +kernel
theorem dL_moves_205 : decode cL_moves 205 = .ok (.istore 10, 2) := by decide +kernel
theorem dL_moves_207 : decode cL_moves 207 = .ok (.iload 10, 2) := by decide +kernel
theorem dL_moves_209 : decode cL_moves 209 = .ok (.iload 7, 2) := by decide +kernel
theorem dL_moves_211 : decode cL_moves 211 = .ok (.if_icmp .ge 25, 3) := by decide +kernel
theorem dL_moves_214 : decode cL_moves 214 = .ok (.aload 4, 2) := by decide +kernel
theorem dL_moves_216 : decode cL_moves 216 = .ok (.iload 10, 2) := by decide +kernel
theorem dL_moves_218 : decode cL_moves 218 = .ok (.aload 5, 2) := by decide +kernel
theorem dL_moves_220 : decode cL_moves 220 = .ok (.iload 9, 2) := by decide +kernel
theorem dL_moves_222 : decode cL_moves 222 = .ok (.iload 10, 2) := by decide +kernel
theorem dL_moves_224 : decode cL_moves 224 = .ok (.iconst 2, 1) := by decide +kernel
theorem dL_moves_225 : decode cL_moves 225 = .ok (.idiv, 1) := by decide +kernel
theorem dL_moves_226 : decode cL_moves 226 = .ok (.iadd, 1) := by decide +kernel
theorem dL_moves_227 : decode cL_moves 227 = .ok (.invokestatic 153, 3) := by decide +kernel
theorem dL_moves_230 : decode cL_moves 230 = .ok (.iinc 10 2, 3) := by decide +kernel
theorem dL_moves_233 : decode cL_moves 233 = .ok (.goto (-26), 3) := by decide +kernel
theorem dL_moves_236 : decode cL_moves 236 = .ok (.aload_n 0, 1) := by decide +kernel
theorem dL_moves_237 : decode cL_moves 237 = .ok (.bipush 7, 2) := by decide +kernel
theorem dL_moves_239 : decode cL_moves 239 = .ok (.iload_n 2, 1) := by decide +kernel
theorem dL_moves_240 : decode cL_moves 240 = .ok (.iload 8, 2) := by decide +kernel
theorem dL_moves_242 : decode cL_moves 242 = .ok (.iconst 0, 1) := by decide +kernel
theorem dL_moves_243 : decode cL_moves 243 = .ok (.invokestatic 170, 3) := by decide +kernel
theorem dL_moves_246 : decode cL_moves 246 = .ok (.iload 7, 2) := by decide +kernel
theorem dL_moves_248 : decode cL_moves 248 = .ok (.iconst 2, 1) := by decide +kernel
theorem dL_moves_249 : decode cL_moves 249 = .ok (.idiv, 1) := by decide +kernel
theorem dL_moves_250 : decode cL_moves 250 = .ok (.if_icmp .ne 59, 3) := by decide +kernel
theorem dL_moves_253 : decode cL_moves 253 = .ok (.aload_n 0, 1) := by decide +kernel
theorem dL_moves_254 : decode cL_moves 254 = .ok (.iload 8, 2) := by decide +kernel
theorem dL_moves_256 : decode cL_moves 256 = .ok (.aload 6, 2) := by decide +kernel
theorem dL_moves_258 : decode cL_moves 258 = .ok (.invokestatic 157, 3) := by decide +kernel
theorem dL_moves_261 : decode cL_moves 261 = .ok (.iload 9, 2) := by decide +kernel
theorem dL_moves_263 : decode cL_moves 263 = .ok (.iload 7, 2) := by decide +kernel
theorem dL_moves_265 : decode cL_moves 265 = .ok (.iconst 2, 1) := by decide +kernel
theorem dL_moves_266 : decode cL_moves 266 = .ok (.idiv, 1) := by decide +kernel
theorem dL_moves_267 : decode cL_moves 267 = .ok (.iadd, 1) := by decide +kernel
theorem dL_moves_268 : decode cL_moves 268 = .ok (.if_icmp .ne 41, 3) := by decide +kernel
theorem dL_moves_271 : decode cL_moves 271 = .ok (.aload 5, 2) := by decide +kernel
theorem dL_moves_273 : decode cL_moves 273 = .ok (.aload 6, 2) := by decide +kernel
theorem dL_moves_275 : decode cL_moves 275 = .ok (.iload 9, 2) := by decide +kernel
theorem dL_moves_277 : decode cL_moves 277 = .ok (.iload 7, 2) := by decide +kernel
theorem dL_moves_279 : decode cL_moves 279 = .ok (.iconst 2, 1) := by decide +kernel
theorem dL_moves_280 : decode cL_moves 280 = .ok (.idiv, 1) := by decide +kernel
theorem dL_moves_281 : decode cL_moves 281 = .ok (.iadd, 1) := by decide +kernel
theorem dL_moves_282 : decode cL_moves 282 = .ok (.invokestatic 174, 3) := by decide +kernel
theorem dL_moves_285 : decode cL_moves 285 = .ok (.ifCond .eq 24, 3) := by decide +kernel
theorem dL_moves_288 : decode cL_moves 288 = .ok (.aload_n 0, 1) := by decide +kernel
theorem dL_moves_289 : decode cL_moves 289 = .ok (.iload_n 2, 1) := by decide +kernel
theorem dL_moves_290 : decode cL_moves 290 = .ok (.aload 6, 2) := by decide +kernel
theorem dL_moves_292 : decode cL_moves 292 = .ok (.invokestatic 157, 3) := by decide +kernel
theorem dL_moves_295 : decode cL_moves 295 = .ok (.iload 7, 2) := by decide +kernel
theorem dL_moves_297 : decode cL_moves 297 = .ok (.iload 7, 2) := by decide +kernel
theorem dL_moves_299 : decode cL_moves 299 = .ok (.iconst 2, 1) := by decide +kernel
theorem dL_moves_300 : decode cL_moves 300 = .ok (.idiv, 1) := by decide +kernel
theorem dL_moves_301 : decode cL_moves 301 = .ok (.isub, 1) := by decide +kernel
theorem dL_moves_302 : decode cL_moves 302 = .ok (.if_icmp .ne 7, 3) := by decide +kernel
theorem dL_moves_305 : decode cL_moves 305 = .ok (.iconst 1, 1) := by decide +kernel
theorem dL_moves_306 : decode cL_moves 306 = .ok (.goto 4, 3) := by decide +kernel
theorem dL_moves_309 : decode cL_moves 309 = .ok (.iconst 0, 1) := by decide +kernel
theorem dL_moves_310 : decode cL_moves 310 = .ok (.istore 10, 2) := by decide +kernel
theorem dL_moves_312 : decode cL_moves 312 = .ok (.iconst 0, 1) := by decide +kernel
theorem dL_moves_313 : decode cL_moves 313 = .ok (.istore 11, 2) := by decide +kernel
theorem dL_moves_315 : decode cL_moves 315 = .ok (.iload 11, 2) := by decide +kernel
theorem dL_moves_317 : decode cL_moves 317 = .ok (.iload 7, 2) := by decide +kernel
theorem dL_moves_319 : decode cL_moves 319 = .ok (.iload 7, 2) := by decide +kernel
theorem dL_moves_321 : decode cL_moves 321 = .ok (.iconst 2, 1) := by decide +kernel
theorem dL_moves_322 : decode cL_moves 322 = .ok (.idiv, 1) := by decide +kernel
theorem dL_moves_323 : decode cL_moves 323 = .ok (.isub, 1) := by decide +kernel
theorem dL_moves_324 : decode cL_moves 324 = .ok (.if_icmp .ge 40, 3) := by decide +kernel
theorem dL_moves_327 : decode cL_moves 327 = .ok (.iload 10, 2) := by decide +kernel
theorem dL_moves_329 : decode cL_moves 329 = .ok (.ifCond .eq 35, 3) := by decide +kernel
theorem dL_moves_332 : decode cL_moves 332 = .ok (.aload 6, 2) := by decide +kernel
theorem dL_moves_334 : decode cL_moves 334 = .ok (.iconst 2, 1) := by decide +kernel
theorem dL_moves_335 : decode cL_moves 335 = .ok (.aaload, 1) := by decide +kernel
theorem dL_moves_336 : decode cL_moves 336 = .ok (.iload 11, 2) := by decide +kernel
theorem dL_moves_338 : decode cL_moves 338 = .ok (.iaload, 1) := by decide +kernel
theorem dL_moves_339 : decode cL_moves 339 = .ok (.aload 4, 2) := by decide +kernel
theorem dL_moves_341 : decode cL_moves 341 = .ok (.iconst 2, 1) := by decide +kernel
theorem dL_moves_342 : decode cL_moves 342 = .ok (.aaload, 1) := by decide +kernel
theorem dL_moves_343 : decode cL_moves 343 = .ok (.iconst 2, 1) := by decide +kernel
theorem dL_moves_344 : decode cL_moves 344 = .ok (.iload 11, 2) := by decide +kernel
theorem dL_moves_346 : decode cL_moves 346 = .ok (.imul, 1) := by decide +kernel
theorem dL_moves_347 : decode cL_moves 347 = .ok (.iaload, 1) := by decide +kernel
theorem dL_moves_348 : decode cL_moves 348 = .ok (.if_icmp .ne 7, 3) := by decide +kernel
theorem dL_moves_351 : decode cL_moves 351 = .ok (.iconst 1, 1) := by decide +kernel
theorem dL_moves_352 : decode cL_moves 352 = .ok (.goto 4, 3) := by decide +kernel
theorem dL_moves_355 : decode cL_moves 355 = .ok (.iconst 0, 1) := by decide +kernel
theorem dL_moves_356 : decode cL_moves 356 = .ok (.istore 10, 2) := by decide +kernel
theorem dL_moves_358 : decode cL_moves 358 = .ok (.iinc 11 1, 3) := by decide +kernel
theorem dL_moves_361 : decode cL_moves 361 = .ok (.goto (-46), 3) := by decide +kernel
theorem dL_moves_364 : decode cL_moves 364 = .ok (.iload 10, 2) := by decide +kernel
theorem dL_moves_366 : decode cL_moves 366 = .ok (.ireturn, 1) := by decide +kernel
theorem dL_moves_367 : decode cL_moves 367 = .ok (.iload_n 3, 1) := by decide +kernel
theorem dL_moves_368 : decode cL_moves 368 = .ok (.bipush 8, 2) := by decide +kernel
theorem dL_moves_370 : decode cL_moves 370 = .ok (.if_icmp .ne 89, 3) := by decide +kernel
theorem dL_moves_373 : decode cL_moves 373 = .ok (.aload_n 0, 1) := by decide +kernel
theorem dL_moves_374 : decode cL_moves 374 = .ok (.bipush 8, 2) := by decide +kernel
theorem dL_moves_376 : decode cL_moves 376 = .ok (.iload_n 2, 1) := by decide +kernel
theorem dL_moves_377 : decode cL_moves 377 = .ok (.iconst 0, 1) := by decide +kernel
theorem dL_moves_378 : decode cL_moves 378 = .ok (.iconst 0, 1) := by decide +kernel
theorem dL_moves_379 : decode cL_moves 379 = .ok (.invokestatic 170, 3) := by decide +kernel
theorem dL_moves_382 : decode cL_moves 382 = .ok (.iload 7, 2) := by decide +kernel
theorem dL_moves_384 : decode cL_moves 384 = .ok (.if_icmp .ne 19, 3) := by decide +kernel
theorem dL_moves_387 : decode cL_moves 387 = .ok (.aload_n 0, 1) := by decide +kernel
theorem dL_moves_388 : decode cL_moves 388 = .ok (.iload_n 2, 1) := by decide +kernel
theorem dL_moves_389 : decode cL_moves 389 = .ok (.aload 6, 2) := by decide +kernel
theorem dL_moves_391 : decode cL_moves 391 = .ok (.invokestatic 157, 3) := by decide +kernel
theorem dL_moves_394 : decode cL_moves 394 = .ok (.iload 7, 2) := by decide +kernel
theorem dL_moves_396 : decode cL_moves 396 = .ok (.if_icmp .ne 7, 3) := by decide +kernel
theorem dL_moves_399 : decode cL_moves 399 = .ok (.iconst 1, 1) := by decide +kernel
theorem dL_moves_400 : decode cL_moves 400 = .ok (.goto 4, 3) := by decide +kernel
theorem dL_moves_403 : decode cL_moves 403 = .ok (.iconst 0, 1) := by decide +kernel
theorem dL_moves_404 : decode cL_moves 404 = .ok (.istore 10, 2) := by decide +kernel
theorem dL_moves_406 : decode cL_moves 406 = .ok (.iconst 0, 1) := by decide +kernel
theorem dL_moves_407 : decode cL_moves 407 = .ok (.istore 11, 2) := by decide +kernel
theorem dL_moves_409 : decode cL_moves 409 = .ok (.iload 11, 2) := by decide +kernel
theorem dL_moves_411 : decode cL_moves 411 = .ok (.iload 7, 2) := by decide +kernel
theorem dL_moves_413 : decode cL_moves 413 = .ok (.if_icmp .ge 43, 3) := by decide +kernel
theorem dL_moves_416 : decode cL_moves 416 = .ok (.iload 10, 2) := by decide +kernel
theorem dL_moves_418 : decode cL_moves 418 = .ok (.ifCond .eq 38, 3) := by decide +kernel
theorem dL_moves_421 : decode cL_moves 421 = .ok (.aload 6, 2) := by decide +kernel
theorem dL_moves_423 : decode cL_moves 423 = .ok (.iconst 2, 1) := by decide +kernel
theorem dL_moves_424 : decode cL_moves 424 = .ok (.aaload, 1) := by decide +kernel
theorem dL_moves_425 : decode cL_moves 425 = .ok (.iload 11, 2) := by decide +kernel
theorem dL_moves_427 : decode cL_moves 427 = .ok (.iaload, 1) := by decide +kernel
theorem dL_moves_428 : decode cL_moves 428 = .ok (.aload 4, 2) := by decide +kernel
theorem dL_moves_430 : decode cL_moves 430 = .ok (.iconst 2, 1) := by decide +kernel
theorem dL_moves_431 : decode cL_moves 431 = .ok (.aaload, 1) := by decide +kernel
theorem dL_moves_432 : decode cL_moves 432 = .ok (.iload 7, 2) := by decide +kernel
theorem dL_moves_434 : decode cL_moves 434 = .ok (.iconst 1, 1) := by decide +kernel
theorem dL_moves_435 : decode cL_moves 435 = .ok (.isub, 1) := by decide +kernel
theorem dL_moves_436 : decode cL_moves 436 = .ok (.iload 11, 2) := by decide +kernel
theorem dL_moves_438 : decode cL_moves 438 = .ok (.isub, 1) := by decide +kernel
theorem dL_moves_439 : decode cL_moves 439 = .ok (.iaload, 1) := by decide +kernel
theorem dL_moves_440 : decode cL_moves 440 = .ok (.if_icmp .ne 7, 3) := by decide +kernel
theorem dL_moves_443 : decode cL_moves 443 = .ok (.iconst 1, 1) := by decide +kernel
theorem dL_moves_444 : decode cL_moves 444 = .ok (.goto 4, 3) := by decide +kernel
theorem dL_moves_447 : decode cL_moves 447 = .ok (.iconst 0, 1) := by decide +kernel
theorem dL_moves_448 : decode cL_moves 448 = .ok (.istore 10, 2) := by decide +kernel
theorem dL_moves_450 : decode cL_moves 450 = .ok (.iinc 11 1, 3) := by decide +kernel
theorem dL_moves_453 : decode cL_moves 453 = .ok (.goto (-44), 3) := by decide +kernel
theorem dL_moves_456 : decode cL_moves 456 = .ok (.iload 10, 2) := by decide +kernel
theorem dL_moves_458 : decode cL_moves 458 = .ok (.ireturn, 1) := by decide +kernel
theorem dL_moves_459 : decode cL_moves 459 = .ok (.iload_n 3, 1) := by decide +kernel
theorem dL_moves_460 : decode cL_moves 460 = .ok (.bipush 9, 2) := by decide +kernel
theorem dL_moves_462 : decode cL_moves 462 = .ok (.if_icmp .ne 195, 3) := by decide +kernel
theorem dL_moves_465 : decode cL_moves 465 = .ok (.iload 7, 2) := by decide +kernel
theorem dL_moves_467 : decode cL_moves 467 = .ok (.ifCond .ne 22, 3) := by decide +kernel
theorem dL_moves_470 : decode cL_moves 470 = .ok (.aload_n 0, 1) := by decide +kernel
theorem dL_moves_471 : decode cL_moves 471 = .ok (.bipush 9, 2) := by decide +kernel
theorem dL_moves_473 : decode cL_moves 473 = .ok (.iload_n 2, 1) := by decide +kernel
theorem dL_moves_474 : decode cL_moves 474 = .ok (.iconst 0, 1) := by decide +kernel
theorem dL_moves_475 : decode cL_moves 475 = .ok (.iconst 0, 1) := by decide +kernel
theorem dL_moves_476 : decode cL_moves 476 = .ok (.invokestatic 170, 3) := by decide +kernel
theorem dL_moves_479 : decode cL_moves 479 = .ok (.iconst (-1), 1) := by decide +kernel
theorem dL_moves_480 : decode cL_moves 480 = .ok (.if_icmp .ne 7, 3) := by decide +kernel
theorem dL_moves_483 : decode cL_moves 483 = .ok (.iconst 1, 1) := by decide +kernel
theorem dL_moves_484 : decode cL_moves 484 = .ok (.goto 4, 3) := by decide +kernel
theorem dL_moves_487 : decode cL_moves 487 = .ok (.iconst 0, 1) := by decide +kernel
theorem dL_moves_488 : decode cL_moves 488 = .ok (.ireturn, 1) := by decide +kernel
theorem dL_moves_489 : decode cL_moves 489 = .ok (.aload_n 1, 1) := by decide +kernel
theorem dL_moves_490 : decode cL_moves 490 = .ok (.invokestatic 8, 3) := by decide +kernel
theorem dL_moves_493 : decode cL_moves 493 = .ok (.iload 7, 2) := by decide +kernel
theorem dL_moves_495 : decode cL_moves 495 = .ok (.irem, 1) := by decide +kernel
theorem dL_moves_496 : decode cL_moves 496 = .ok (.istore 10, 2) := by decide +kernel
theorem dL_moves_498 : decode cL_moves 498 = .ok (.aload_n 1, 1) := by decide +kernel
theorem dL_moves_499 : decode cL_moves 499 = .ok (.invokestatic 8, 3) := by decide +kernel
theorem dL_moves_502 : decode cL_moves 502 = .ok (.iload 7, 2) := by decide +kernel
theorem dL_moves_504 : decode cL_moves 504 = .ok (.irem, 1) := by decide +kernel
theorem dL_moves_505 : decode cL_moves 505 = .ok (.istore 11, 2) := by decide +kernel
theorem dL_moves_507 : decode cL_moves 507 = .ok (.aload_n 0, 1) := by decide +kernel
theorem dL_moves_508 : decode cL_moves 508 = .ok (.bipush 9, 2) := by decide +kernel
theorem dL_moves_510 : decode cL_moves 510 = .ok (.iload_n 2, 1) := by decide +kernel
theorem dL_moves_511 : decode cL_moves 511 = .ok (.iload 10, 2) := by decide +kernel
theorem dL_moves_513 : decode cL_moves 513 = .ok (.iload 11, 2) := by decide +kernel
theorem dL_moves_515 : decode cL_moves 515 = .ok (.invokestatic 170, 3) := by decide +kernel
theorem dL_moves_518 : decode cL_moves 518 = .ok (.aload 4, 2) := by decide +kernel
theorem dL_moves_520 : decode cL_moves 520 = .ok (.iconst 2, 1) := by decide +kernel
theorem dL_moves_521 : decode cL_moves 521 = .ok (.aaload, 1) := by decide +kernel
theorem dL_moves_522 : decode cL_moves 522 = .ok (.iload 10, 2) := by decide +kernel
theorem dL_moves_524 : decode cL_moves 524 = .ok (.iaload, 1) := by decide +kernel
theorem dL_moves_525 : decode cL_moves 525 = .ok (.if_icmp .ne 36, 3) := by decide +kernel
theorem dL_moves_528 : decode cL_moves 528 = .ok (.aload_n 0, 1) := by decide +kernel
theorem dL_moves_529 : decode cL_moves 529 = .ok (.iload_n 2, 1) := by decide +kernel
theorem dL_moves_530 : decode cL_moves 530 = .ok (.aload 6, 2) := by decide +kernel
theorem dL_moves_532 : decode cL_moves 532 = .ok (.invokestatic 157, 3) := by decide +kernel
theorem dL_moves_535 : decode cL_moves 535 = .ok (.iload 7, 2) := by decide +kernel
theorem dL_moves_537 : decode cL_moves 537 = .ok (.if_icmp .ne 24, 3) := by decide +kernel
theorem dL_moves_540 : decode cL_moves 540 = .ok (.aload 6, 2) := by decide +kernel
theorem dL_moves_542 : decode cL_moves 542 = .ok (.iconst 2, 1) := by decide +kernel
theorem dL_moves_543 : decode cL_moves 543 = .ok (.aaload, 1) := by decide +kernel
theorem dL_moves_544 : decode cL_moves 544 = .ok (.iload 11, 2) := by decide +kernel
theorem dL_moves_546 : decode cL_moves 546 = .ok (.iaload, 1) := by decide +kernel
theorem dL_moves_547 : decode cL_moves 547 = .ok (.aload 4, 2) := by decide +kernel
theorem dL_moves_549 : decode cL_moves 549 = .ok (.iconst 2, 1) := by decide +kernel
theorem dL_moves_550 : decode cL_moves 550 = .ok (.aaload, 1) := by decide +kernel
theorem dL_moves_551 : decode cL_moves 551 = .ok (.iload 10, 2) := by decide +kernel
theorem dL_moves_553 : decode cL_moves 553 = .ok (.iaload, 1) := by decide +kernel
theorem dL_moves_554 : decode cL_moves 554 = .ok (.if_icmp .ne 7, 3) := by decide +kernel
theorem dL_moves_557 : decode cL_moves 557 = .ok (.iconst 1, 1) := by decide +kernel
theorem dL_moves_558 : decode cL_moves 558 = .ok (.goto 4, 3) := by decide +kernel
theorem dL_moves_561 : decode cL_moves 561 = .ok (.iconst 0, 1) := by decide +kernel
theorem dL_moves_562 : decode cL_moves 562 = .ok (.istore 12, 2) := by decide +kernel
theorem dL_moves_564 : decode cL_moves 564 = .ok (.iconst 0, 1) := by decide +kernel
theorem dL_moves_565 : decode cL_moves 565 = .ok (.istore 13, 2) := by decide +kernel
theorem dL_moves_567 : decode cL_moves 567 = .ok (.iload 13, 2) := by decide +kernel
theorem dL_moves_569 : decode cL_moves 569 = .ok (.iload 7, 2) := by decide +kernel
theorem dL_moves_571 : decode cL_moves 571 = .ok (.if_icmp .ge 83, 3) := by decide +kernel
theorem dL_moves_574 : decode cL_moves 574 = .ok (.iload 12, 2) := by decide +kernel
theorem dL_moves_576 : decode cL_moves 576 = .ok (.ifCond .eq 78, 3) := by decide +kernel
theorem dL_moves_579 : decode cL_moves 579 = .ok (.iload 13, 2) := by decide +kernel
theorem dL_moves_581 : decode cL_moves 581 = .ok (.iload 10, 2) := by decide +kernel
theorem dL_moves_583 : decode cL_moves 583 = .ok (.if_icmp .eq 58, 3) := by decide +kernel
theorem dL_moves_586 : decode cL_moves 586 = .ok (.aload 6, 2) := by decide +kernel
theorem dL_moves_588 : decode cL_moves 588 = .ok (.iconst 2, 1) := by decide +kernel
theorem dL_moves_589 : decode cL_moves 589 = .ok (.aaload, 1) := by decide +kernel
theorem dL_moves_590 : decode cL_moves 590 = .ok (.iload 13, 2) := by decide +kernel
theorem dL_moves_592 : decode cL_moves 592 = .ok (.iload 13, 2) := by decide +kernel
theorem dL_moves_594 : decode cL_moves 594 = .ok (.iload 10, 2) := by decide +kernel
theorem dL_moves_596 : decode cL_moves 596 = .ok (.if_icmp .le 14, 3) := by decide +kernel
theorem dL_moves_599 : decode cL_moves 599 = .ok (.iload 13, 2) := by decide +kernel
theorem dL_moves_601 : decode cL_moves 601 = .ok (.iload 11, 2) := by decide +kernel
theorem dL_moves_603 : decode cL_moves 603 = .ok (.if_icmp .gt 7, 3) := by decide +kernel
theorem dL_moves_606 : decode cL_moves 606 = .ok (.iconst (-1), 1) := by decide +kernel
theorem dL_moves_607 : decode cL_moves 607 = .ok (.goto 22, 3) := by decide +kernel
theorem dL_moves_610 : decode cL_moves 610 = .ok (.iload 13, 2) := by decide +kernel
theorem dL_moves_612 : decode cL_moves 612 = .ok (.iload 10, 2) := by decide +kernel
theorem dL_moves_614 : decode cL_moves 614 = .ok (.if_icmp .ge 14, 3) := by decide +kernel
theorem dL_moves_617 : decode cL_moves 617 = .ok (.iload 13, 2) := by decide +kernel
theorem dL_moves_619 : decode cL_moves 619 = .ok (.iload 11, 2) := by decide +kernel
theorem dL_moves_621 : decode cL_moves 621 = .ok (.if_icmp .lt 7, 3) := by decide +kernel
theorem dL_moves_624 : decode cL_moves 624 = .ok (.iconst 1, 1) := by decide +kernel
theorem dL_moves_625 : decode cL_moves 625 = .ok (.goto 4, 3) := by decide +kernel
theorem dL_moves_628 : decode cL_moves 628 = .ok (.iconst 0, 1) := by decide +kernel
theorem dL_moves_629 : decode cL_moves 629 = .ok (.iadd, 1) := by decide +kernel
theorem dL_moves_630 : decode cL_moves 630 = .ok (.iaload, 1) := by decide +kernel
theorem dL_moves_631 : decode cL_moves 631 = .ok (.aload 4, 2) := by decide +kernel
theorem dL_moves_633 : decode cL_moves 633 = .ok (.iconst 2, 1) := by decide +kernel
theorem dL_moves_634 : decode cL_moves 634 = .ok (.aaload, 1) := by decide +kernel
theorem dL_moves_635 : decode cL_moves 635 = .ok (.iload 13, 2) := by decide +kernel
theorem dL_moves_637 : decode cL_moves 637 = .ok (.iaload, 1) := by decide +kernel
theorem dL_moves_638 : decode cL_moves 638 = .ok (.if_icmp .ne 7, 3) := by decide +kernel
theorem dL_moves_641 : decode cL_moves 641 = .ok (.iconst 1, 1) := by decide +kernel
theorem dL_moves_642 : decode cL_moves 642 = .ok (.goto 4, 3) := by decide +kernel
theorem dL_moves_645 : decode cL_moves 645 = .ok (.iconst 0, 1) := by decide +kernel
theorem dL_moves_646 : decode cL_moves 646 = .ok (.istore 12, 2) := by decide +kernel
theorem dL_moves_648 : decode cL_moves 648 = .ok (.iinc 13 1, 3) := by decide +kernel
theorem dL_moves_651 : decode cL_moves 651 = .ok (.goto (-84), 3) := by decide +kernel
theorem dL_moves_654 : decode cL_moves 654 = .ok (.iload 12, 2) := by decide +kernel
theorem dL_moves_656 : decode cL_moves 656 = .ok (.ireturn, 1) := by decide +kernel
theorem dL_moves_657 : decode cL_moves 657 = .ok (.iconst 0, 1) := by decide +kernel
theorem dL_moves_658 : decode cL_moves 658 = .ok (.istore 10, 2) := by decide +kernel
theorem dL_moves_660 : decode cL_moves 660 = .ok (.aload_n 1, 1) := by decide +kernel
theorem dL_moves_661 : decode cL_moves 661 = .ok (.invokestatic 8, 3) := by decide +kernel
theorem dL_moves_664 : decode cL_moves 664 = .ok (.iconst 4, 1) := by decide +kernel
theorem dL_moves_665 : decode cL_moves 665 = .ok (.irem, 1) := by decide +kernel
theorem dL_moves_666 : decode cL_moves 666 = .ok (.istore 11, 2) := by decide +kernel
theorem dL_moves_668 : decode cL_moves 668 = .ok (.iconst 0, 1) := by decide +kernel
theorem dL_moves_669 : decode cL_moves 669 = .ok (.istore 12, 2) := by decide +kernel
theorem dL_moves_671 : decode cL_moves 671 = .ok (.iload 12, 2) := by decide +kernel
theorem dL_moves_673 : decode cL_moves 673 = .ok (.iload 7, 2) := by decide +kernel
theorem dL_moves_675 : decode cL_moves 675 = .ok (.if_icmp .ge 71, 3) := by decide +kernel
theorem dL_moves_678 : decode cL_moves 678 = .ok (.iload_n 3, 1) := by decide +kernel
theorem dL_moves_679 : decode cL_moves 679 = .ok (.bipush 10, 2) := by decide +kernel
theorem dL_moves_681 : decode cL_moves 681 = .ok (.if_icmp .ne 18, 3) := by decide +kernel
theorem dL_moves_684 : decode cL_moves 684 = .ok (.aload 4, 2) := by decide +kernel
theorem dL_moves_686 : decode cL_moves 686 = .ok (.iconst 1, 1) := by decide +kernel
theorem dL_moves_687 : decode cL_moves 687 = .ok (.aaload, 1) := by decide +kernel
theorem dL_moves_688 : decode cL_moves 688 = .ok (.iload 12, 2) := by decide +kernel
theorem dL_moves_690 : decode cL_moves 690 = .ok (.iaload, 1) := by decide +kernel
theorem dL_moves_691 : decode cL_moves 691 = .ok (.iload 11, 2) := by decide +kernel
theorem dL_moves_693 : decode cL_moves 693 = .ok (.if_icmp .ne 33, 3) := by decide +kernel
theorem dL_moves_696 : decode cL_moves 696 = .ok (.goto 44, 3) := by decide +kernel
theorem dL_moves_699 : decode cL_moves 699 = .ok (.iload 12, 2) := by decide +kernel
theorem dL_moves_701 : decode cL_moves 701 = .ok (.ifCond .le 25, 3) := by decide +kernel
theorem dL_moves_704 : decode cL_moves 704 = .ok (.aload 4, 2) := by decide +kernel
theorem dL_moves_706 : decode cL_moves 706 = .ok (.iconst 0, 1) := by decide +kernel
theorem dL_moves_707 : decode cL_moves 707 = .ok (.aaload, 1) := by decide +kernel
theorem dL_moves_708 : decode cL_moves 708 = .ok (.iload 12, 2) := by decide +kernel
theorem dL_moves_710 : decode cL_moves 710 = .ok (.iaload, 1) := by decide +kernel
theorem dL_moves_711 : decode cL_moves 711 = .ok (.aload 4, 2) := by decide +kernel
theorem dL_moves_713 : decode cL_moves 713 = .ok (.iconst 0, 1) := by decide +kernel
theorem dL_moves_714 : decode cL_moves 714 = .ok (.aaload, 1) := by decide +kernel
theorem dL_moves_715 : decode cL_moves 715 = .ok (.iload 12, 2) := by decide +kernel
theorem dL_moves_717 : decode cL_moves 717 = .ok (.iconst 1, 1) := by decide +kernel
theorem dL_moves_718 : decode cL_moves 718 = .ok (.isub, 1) := by decide +kernel
theorem dL_moves_719 : decode cL_moves 719 = .ok (.iaload, 1) := by decide +kernel
theorem dL_moves_720 : decode cL_moves 720 = .ok (.if_icmp .ne 6, 3) := by decide +kernel
theorem dL_moves_723 : decode cL_moves 723 = .ok (.goto 17, 3) := by decide +kernel
theorem dL_moves_726 : decode cL_moves 726 = .ok (.aload 4, 2) := by decide +kernel
theorem dL_moves_728 : decode cL_moves 728 = .ok (.iload 12, 2) := by decide +kernel
theorem dL_moves_730 : decode cL_moves 730 = .ok (.aload 5, 2) := by decide +kernel
theorem dL_moves_732 : decode cL_moves 732 = .ok (.iload 10, 2) := by decide +kernel
theorem dL_moves_734 : decode cL_moves 734 = .ok (.invokestatic 153, 3) := by decide +kernel
theorem dL_moves_737 : decode cL_moves 737 = .ok (.iinc 10 1, 3) := by decide +kernel
theorem dL_moves_740 : decode cL_moves 740 = .ok (.iinc 12 1, 3) := by decide +kernel
theorem dL_moves_743 : decode cL_moves 743 = .ok (.goto (-72), 3) := by decide +kernel
theorem dL_moves_746 : decode cL_moves 746 = .ok (.aload_n 0, 1) := by decide +kernel
theorem dL_moves_747 : decode cL_moves 747 = .ok (.iload_n 3, 1) := by decide +kernel
theorem dL_moves_748 : decode cL_moves 748 = .ok (.iload_n 2, 1) := by decide +kernel
theorem dL_moves_749 : decode cL_moves 749 = .ok (.iload 11, 2) := by decide +kernel
theorem dL_moves_751 : decode cL_moves 751 = .ok (.iconst 0, 1) := by decide +kernel
theorem dL_moves_752 : decode cL_moves 752 = .ok (.invokestatic 170, 3) := by decide +kernel
theorem dL_moves_755 : decode cL_moves 755 = .ok (.iload 7, 2) := by decide +kernel
theorem dL_moves_757 : decode cL_moves 757 = .ok (.iload 10, 2) := by decide +kernel
theorem dL_moves_759 : decode cL_moves 759 = .ok (.isub, 1) := by decide +kernel
theorem dL_moves_760 : decode cL_moves 760 = .ok (.if_icmp .ne 31, 3) := by decide +kernel
theorem dL_moves_763 : decode cL_moves 763 = .ok (.aload_n 0, 1) := by decide +kernel
theorem dL_moves_764 : decode cL_moves 764 = .ok (.iload_n 2, 1) := by decide +kernel
theorem dL_moves_765 : decode cL_moves 765 = .ok (.aload 6, 2) := by decide +kernel
theorem dL_moves_767 : decode cL_moves 767 = .ok (.invokestatic 157, 3) := by decide +kernel
theorem dL_moves_770 : decode cL_moves 770 = .ok (.iload 10, 2) := by decide +kernel
theorem dL_moves_772 : decode cL_moves 772 = .ok (.if_icmp .ne 19, 3) := by decide +kernel
theorem dL_moves_775 : decode cL_moves 775 = .ok (.aload 5, 2) := by decide +kernel
theorem dL_moves_777 : decode cL_moves 777 = .ok (.aload 6, 2) := by decide +kernel
theorem dL_moves_779 : decode cL_moves 779 = .ok (.iload 10, 2) := by decide +kernel
theorem dL_moves_781 : decode cL_moves 781 = .ok (.invokestatic 174, 3) := by decide +kernel
theorem dL_moves_784 : decode cL_moves 784 = .ok (.ifCond .eq 7, 3) := by decide +kernel
theorem dL_moves_787 : decode cL_moves 787 = .ok (.iconst 1, 1) := by decide +kernel
theorem dL_moves_788 : decode cL_moves 788 = .ok (.goto 4, 3) := by decide +kernel
theorem dL_moves_791 : decode cL_moves 791 = .ok (.iconst 0, 1) := by decide +kernel
theorem dL_moves_792 : decode cL_moves 792 = .ok (.ireturn, 1) := by decide +kernel
set_option maxRecDepth 20000 in
theorem ggL_comes_L_from : GoodIn wsL_comes wsL_from := goodIn_r _ [4, 5, 6, 3, 7, 8] (by decide +kernel) (by decide +kernel)
set_option maxRecDepth 20000 in
theorem gL_comes_L_from : GoodIn wsL_comes (va_wsS RL 32 yL_from wsL_from) := goodIn_app (goodIn_of _ (by decide +kernel)) ggL_comes_L_from
set_option maxRecDepth 20000 in
theorem ggL_comes_L_done : GoodIn wsL_comes wsL_done := goodIn_ca (goodIn_ca (goodIn_ca (goodIn_ca (goodIn_r _ [11, 12, 13, 14, 15, 16, 17, 18, 19, 20, 21, 22, 23, 24, 25, 26, 27, 28, 29, 30, 31, 32, 33, 34, 35, 36, 37, 38, 39, 40, 41, 42, 43, 44, 45, 46, 47, 48, 49, 50, 51, 52, 53, 54, 55, 56, 57, 58, 59, 60, 61, 62, 63, 64, 65, 66, 67, 68, 69, 70, 71, 72, 73, 74, 75, 76, 77, 78, 79, 80, 81, 82, 83, 84, 85, 86, 87, 88, 89, 90, 91, 92, 93, 94, 95, 96, 97, 98, 99, 100, 101, 102, 103, 104, 105, 106, 107, 108, 109, 110, 111, 112, 113, 114, 115, 116, 117, 118, 119, 120, 121, 122, 123, 124, 125, 126, 127, 128, 129, 130, 131, 132, 133, 134, 135, 136, 137, 138, 139, 140, 141, 142, 143, 144, 145, 146, 147, 148, 149, 150, 151, 152, 153, 154, 155, 156, 157, 158, 159, 160, 161, 162, 163, 164, 165, 166, 167, 168, 169, 170, 171, 172, 173, 174, 175, 176, 177, 178, 179, 180, 181, 182, 183, 184, 185, 186, 187, 188, 189, 190, 191, 192, 193, 194, 195, 196, 197, 198, 199, 200, 201, 202, 203, 204, 205, 206, 207, 208, 209, 210, 211, 212, 213, 214, 215, 216, 217, 218, 219, 220, 221, 222, 223, 224, 225, 226, 227, 228, 229, 230, 231, 232, 233, 234, 235, 236, 237, 238, 239, 240, 241, 242, 243, 244, 245, 246, 247, 248, 249, 250, 251, 252, 253, 254, 255, 256, 257, 258, 259, 260, 261, 262, 263, 264, 265, 266, 267, 268, 269, 270, 271, 272, 273, 274, 275, 276, 277, 278, 279, 280, 281, 282, 283, 284, 285, 286, 287, 288, 289, 290, 291, 292, 293, 294, 295, 296, 297, 298, 299, 300, 301, 302, 303, 304, 305, 306, 307, 308, 309, 310, 311, 312, 313, 314, 315, 316, 317, 318, 319, 320, 321, 322, 323, 324, 325, 326, 327, 328, 329, 330, 331, 332, 333, 334, 335, 336, 337, 338, 339, 340, 341, 342, 343, 344, 345, 346, 347, 348, 349, 350, 351, 352, 353, 354, 355, 356, 357, 358, 359, 360, 361, 362, 363, 364, 365, 366, 367, 368, 369, 370, 371, 372, 373, 374, 375, 376, 377, 378, 379, 380, 381, 382, 383, 384, 385, 386, 387, 388, 389, 390, 391, 392, 393, 394, 395, 396, 397, 398, 399, 400, 401, 402, 403, 404, 405, 406, 407, 408, 409, 410, 411, 412, 413, 414, 415, 416, 417, 418, 419, 420, 421, 422, 423, 424, 425, 426, 446, 447, 448, 449, 450, 451, 452, 453, 454, 455, 456, 457, 458, 459, 460, 461, 462, 463, 464, 465, 466, 467, 468, 469, 470, 471, 472, 473, 474, 475, 476, 477, 478, 479, 480, 481, 482] (by decide +kernel) (by decide +kernel)) (goodIn_sub (fun _ h => List.mem_cons_of_mem _ (List.mem_append_left _ (List.mem_append_left _ (List.mem_append_left _ (List.mem_append_right _ h))))) (by decide +kernel))) (goodIn_sub (fun _ h => List.mem_cons_of_mem _ (List.mem_append_left _ (List.mem_append_left _ (List.mem_append_right _ h)))) (by decide +kernel))) (goodIn_sub (fun _ h => List.mem_cons_of_mem _ (List.mem_append_left _ (List.mem_append_right _ h))) (by decide +kernel))) (goodIn_sub (fun _ h => List.mem_cons_of_mem _ (List.mem_append_right _ h)) (by decide +kernel))
set_option maxRecDepth 20000 in
theorem gL_comes_L_done : GoodIn wsL_comes (va_wsS RL 170 yL_done wsL_done) := goodIn_app (goodIn_of _ (by decide +kernel)) ggL_comes_L_done
set_option maxRecDepth 20000 in
theorem ggL_comes_X10_isSorted : GoodIn wsL_comes wsX10_isSorted := goodIn_ca (goodIn_r _ [430, 26, 27, 28, 19, 29, 30, 31, 32, 389, 390, 391, 392, 393, 394, 395, 396, 174, 397, 398, 399, 400, 401, 402, 403, 404, 179, 329, 366, 287, 288, 221, 289, 223, 224, 446, 447, 448, 449, 450, 451, 452, 453, 454, 455, 473, 474, 475, 476, 477] (by decide +kernel) (by decide +kernel)) (goodIn_sub (fun _ h => List.mem_cons_of_mem _ (List.mem_append_left _ (List.mem_append_left _ (List.mem_append_right _ h)))) (by decide +kernel))
set_option maxRecDepth 20000 in
theorem gL_comes_X10_isSorted : GoodIn wsL_comes (wsV RL 178 RX10 yX10_isSorted wsX10_isSorted) := goodIn_app (goodIn_of _ (by decide +kernel)) ggL_comes_X10_isSorted
set_option maxRecDepth 20000 in
theorem ggL_comes_X10_runs : GoodIn wsL_comes wsX10_runs := goodIn_ca (goodIn_r _ [434, 26, 27, 28, 19, 29, 30, 31, 32, 393, 394, 395, 396, 174, 397, 398, 399, 400, 401, 402, 403, 404, 179, 329, 366, 287, 288, 221, 289, 223, 224, 446, 447, 448, 449, 450, 451, 452, 453, 454, 455, 473, 474, 475, 476, 477] (by decide +kernel) (by decide +kernel)) (goodIn_sub (fun _ h => List.mem_cons_of_mem _ (List.mem_append_left _ (List.mem_append_left _ (List.mem_append_right _ h)))) (by decide +kernel))
set_option maxRecDepth 20000 in
theorem gL_comes_X10_runs : GoodIn wsL_comes (wsV RL 182 RX10 yX10_runs wsX10_runs) := goodIn_app (goodIn_of _ (by decide +kernel)) ggL_comes_X10_runs
set_option maxRecDepth 20000 in
theorem ggL_comes_X10_count : GoodIn wsL_comes wsX10_count := goodIn_ca (goodIn_r _ [426, 174, 26, 27, 28, 19, 29, 30, 31, 32, 473, 474, 446, 447, 448, 449, 450, 451, 452, 453, 454, 455] (by decide +kernel) (by decide +kernel)) (goodIn_sub (fun _ h => List.mem_cons_of_mem _ (List.mem_append_left _ (List.mem_append_left _ (List.mem_append_right _ h)))) (by decide +kernel))
set_option maxRecDepth 20000 in
theorem gL_comes_X10_count : GoodIn wsL_comes (wsV RL 136 RX10 yX10_count wsX10_count) := goodIn_app (goodIn_of _ (by decide +kernel)) ggL_comes_X10_count
set_option maxRecDepth 20000 in
theorem ggL_comes_X10_cardAt : GoodIn wsL_comes wsX10_cardAt := goodIn_ca (goodIn_ca (goodIn_r _ [422, 308, 309, 329, 179, 26, 27, 28, 19, 29, 30, 31, 32, 349, 350, 351, 174, 366, 287, 288, 221, 289, 223, 224, 361, 294, 295, 296, 225, 473, 474, 446, 447, 448, 449, 450, 451, 452, 453, 454, 455, 475, 476, 477] (by decide +kernel) (by decide +kernel)) (goodIn_sub (fun _ h => List.mem_cons_of_mem _ (List.mem_append_left _ (List.mem_append_right _ h))) (by decide +kernel))) (goodIn_sub (fun _ h => List.mem_cons_of_mem _ (List.mem_append_left _ (List.mem_append_left _ (List.mem_append_right _ h)))) (by decide +kernel))
set_option maxRecDepth 20000 in
theorem gL_comes_X10_cardAt : GoodIn wsL_comes (wsV RL 133 RX10 yX10_cardAt wsX10_cardAt) := goodIn_app (goodIn_of _ (by decide +kernel)) ggL_comes_X10_cardAt
set_option maxRecDepth 20000 in
theorem ggL_comes_L_put : GoodIn wsL_comes wsL_put := goodIn_ca (goodIn_ca (goodIn_r _ [437, 12, 14, 438, 439, 440, 19, 441, 30, 31, 174, 179, 26, 27, 28, 29, 32, 171, 172, 173, 21, 22, 175, 176, 177, 178, 180, 218, 219, 220, 221, 222, 223, 224, 225, 356, 233, 234, 229, 235, 231, 236, 237, 238, 239, 240, 473, 474, 446, 447, 448, 449, 450, 451, 452, 453, 454, 455, 475, 476, 477] (by decide +kernel) (by decide +kernel)) (goodIn_sub (fun _ h => List.mem_cons_of_mem _ (List.mem_append_left _ (List.mem_append_left _ (List.mem_append_right _ h)))) (by decide +kernel))) (goodIn_sub (fun _ h => List.mem_cons_of_mem _ (List.mem_append_left _ (List.mem_append_left _ (List.mem_append_left _ (List.mem_append_right _ h))))) (by decide +kernel))
set_option maxRecDepth 20000 in
theorem gL_comes_L_put : GoodIn wsL_comes (va_wsS RL 201 yL_put wsL_put) := goodIn_app (goodIn_of _ (by decide +kernel)) ggL_comes_L_put
set_option maxRecDepth 20000 in
theorem ggL_comes_X10_placeOf : GoodIn wsL_comes wsX10_placeOf := goodIn_ca (goodIn_r _ [445, 174, 329, 26, 27, 28, 19, 29, 30, 31, 32, 473, 474, 446, 447, 448, 449, 450, 451, 452, 453, 454, 455] (by decide +kernel) (by decide +kernel)) (goodIn_sub (fun _ h => List.mem_cons_of_mem _ (List.mem_append_left _ (List.mem_append_left _ (List.mem_append_right _ h)))) (by decide +kernel))
set_option maxRecDepth 20000 in
theorem gL_comes_X10_placeOf : GoodIn wsL_comes (wsV RL 203 RX10 yX10_placeOf wsX10_placeOf) := goodIn_app (goodIn_of _ (by decide +kernel)) ggL_comes_X10_placeOf
theorem dL_comes_0 : decode cL_comes 0 = .ok (.aload_n 1, 1) := by decide +kernel
theorem dL_comes_1 : decode cL_comes 1 = .ok (.bipush (-40), 2) := by decide +kernel
theorem dL_comes_3 : decode cL_comes 3 = .ok (.bipush 80, 2) := by decide +kernel
theorem dL_comes_5 : decode cL_comes 5 = .ok (.invokestatic 32, 3) := by decide +kernel
theorem dL_comes_8 : decode cL_comes 8 = .ok (.istore_n 3, 1) := by decide +kernel
theorem dL_comes_9 : decode cL_comes 9 = .ok (.aload_n 0, 1) := by decide +kernel
theorem dL_comes_10 : decode cL_comes 10 = .ok (.bipush 14, 2) := by decide +kernel
theorem dL_comes_12 : decode cL_comes 12 = .ok (.iload_n 2, 1) := by decide +kernel
theorem dL_comes_13 : decode cL_comes 13 = .ok (.iload_n 3, 1) := by decide +kernel
theorem dL_comes_14 : decode cL_comes 14 = .ok (.iconst 0, 1) := by decide +kernel
theorem dL_comes_15 : decode cL_comes 15 = .ok (.invokestatic 170, 3) := by decide +kernel
theorem dL_comes_18 : decode cL_comes 18 = .ok (.istore 4, 2) := by decide +kernel
theorem dL_comes_20 : decode cL_comes 20 = .ok (.aload_n 0, 1) := by decide +kernel
theorem dL_comes_21 : decode cL_comes 21 = .ok (.iload_n 2, 1) := by decide +kernel
theorem dL_comes_22 : decode cL_comes 22 = .ok (.invokevirtual 178, 3) := by decide +kernel
theorem dL_comes_25 : decode cL_comes 25 = .ok (.ifCond .ne 25, 3) := by decide +kernel
theorem dL_comes_28 : decode cL_comes 28 = .ok (.iload 4, 2) := by decide +kernel
theorem dL_comes_30 : decode cL_comes 30 = .ok (.bipush (-3), 2) := by decide +kernel
theorem dL_comes_32 : decode cL_comes 32 = .ok (.if_icmp .ne 16, 3) := by decide +kernel
theorem dL_comes_35 : decode cL_comes 35 = .ok (.aload_n 0, 1) := by decide +kernel
theorem dL_comes_36 : decode cL_comes 36 = .ok (.iload_n 2, 1) := by decide +kernel
theorem dL_comes_37 : decode cL_comes 37 = .ok (.invokevirtual 182, 3) := by decide +kernel
theorem dL_comes_40 : decode cL_comes 40 = .ok (.iconst 1, 1) := by decide +kernel
theorem dL_comes_41 : decode cL_comes 41 = .ok (.if_icmp .le 7, 3) := by decide +kernel
theorem dL_comes_44 : decode cL_comes 44 = .ok (.iconst 1, 1) := by decide +kernel
theorem dL_comes_45 : decode cL_comes 45 = .ok (.goto 4, 3) := by decide +kernel
theorem dL_comes_48 : decode cL_comes 48 = .ok (.iconst 0, 1) := by decide +kernel
theorem dL_comes_49 : decode cL_comes 49 = .ok (.ireturn, 1) := by decide +kernel
theorem dL_comes_50 : decode cL_comes 50 = .ok (.aload_n 0, 1) := by decide +kernel
theorem dL_comes_51 : decode cL_comes 51 = .ok (.iload_n 2, 1) := by decide +kernel
theorem dL_comes_52 : decode cL_comes 52 = .ok (.invokevirtual 136, 3) := by decide +kernel
theorem dL_comes_55 : decode cL_comes 55 = .ok (.istore 5, 2) := by decide +kernel
theorem dL_comes_57 : decode cL_comes 57 = .ok (.iload 4, 2) := by decide +kernel
theorem dL_comes_59 : decode cL_comes 59 = .ok (.ifCond .lt 52, 3) := by decide +kernel
theorem dL_comes_62 : decode cL_comes 62 = .ok (.iload 4, 2) := by decide +kernel
theorem dL_comes_64 : decode cL_comes 64 = .ok (.iload 5, 2) := by decide +kernel
theorem dL_comes_66 : decode cL_comes 66 = .ok (.if_icmp .gt 45, 3) := by decide +kernel
theorem dL_comes_69 : decode cL_comes 69 = .ok (.iload 4, 2) := by decide +kernel
theorem dL_comes_71 : decode cL_comes 71 = .ok (.ifCond .eq 17, 3) := by decide +kernel
theorem dL_comes_74 : decode cL_comes 74 = .ok (.aload_n 0, 1) := by decide +kernel
theorem dL_comes_75 : decode cL_comes 75 = .ok (.iload_n 2, 1) := by decide +kernel
theorem dL_comes_76 : decode cL_comes 76 = .ok (.iload 4, 2) := by decide +kernel
theorem dL_comes_78 : decode cL_comes 78 = .ok (.iconst 1, 1) := by decide +kernel
theorem dL_comes_79 : decode cL_comes 79 = .ok (.isub, 1) := by decide +kernel
theorem dL_comes_80 : decode cL_comes 80 = .ok (.iconst 0, 1) := by decide +kernel
theorem dL_comes_81 : decode cL_comes 81 = .ok (.invokevirtual 133, 3) := by decide +kernel
theorem dL_comes_84 : decode cL_comes 84 = .ok (.iload_n 3, 1) := by decide +kernel
theorem dL_comes_85 : decode cL_comes 85 = .ok (.if_icmp .gt 26, 3) := by decide +kernel
theorem dL_comes_88 : decode cL_comes 88 = .ok (.iload 4, 2) := by decide +kernel
theorem dL_comes_90 : decode cL_comes 90 = .ok (.iload 5, 2) := by decide +kernel
theorem dL_comes_92 : decode cL_comes 92 = .ok (.if_icmp .eq 15, 3) := by decide +kernel
theorem dL_comes_95 : decode cL_comes 95 = .ok (.aload_n 0, 1) := by decide +kernel
theorem dL_comes_96 : decode cL_comes 96 = .ok (.iload_n 2, 1) := by decide +kernel
theorem dL_comes_97 : decode cL_comes 97 = .ok (.iload 4, 2) := by decide +kernel
theorem dL_comes_99 : decode cL_comes 99 = .ok (.iconst 0, 1) := by decide +kernel
theorem dL_comes_100 : decode cL_comes 100 = .ok (.invokevirtual 133, 3) := by decide +kernel
theorem dL_comes_103 : decode cL_comes 103 = .ok (.iload_n 3, 1) := by decide +kernel
theorem dL_comes_104 : decode cL_comes 104 = .ok (.if_icmp .le 7, 3) := by decide +kernel
theorem dL_comes_107 : decode cL_comes 107 = .ok (.iconst 1, 1) := by decide +kernel
theorem dL_comes_108 : decode cL_comes 108 = .ok (.goto 4, 3) := by decide +kernel
theorem dL_comes_111 : decode cL_comes 111 = .ok (.iconst 0, 1) := by decide +kernel
theorem dL_comes_112 : decode cL_comes 112 = .ok (.istore 6, 2) := by decide +kernel
theorem dL_comes_114 : decode cL_comes 114 = .ok (.aload_n 0, 1) := by decide +kernel
theorem dL_comes_115 : decode cL_comes 115 = .ok (.iload_n 2, 1) := by decide +kernel
theorem dL_comes_116 : decode cL_comes 116 = .ok (.iload 4, 2) := by decide +kernel
theorem dL_comes_118 : decode cL_comes 118 = .ok (.iload_n 3, 1) := by decide +kernel
theorem dL_comes_119 : decode cL_comes 119 = .ok (.bipush 77, 2) := by decide +kernel
theorem dL_comes_121 : decode cL_comes 121 = .ok (.invokestatic 201, 3) := by decide +kernel
theorem dL_comes_124 : decode cL_comes 124 = .ok (.istore 7, 2) := by decide +kernel
theorem dL_comes_126 : decode cL_comes 126 = .ok (.iload 6, 2) := by decide +kernel
theorem dL_comes_128 : decode cL_comes 128 = .ok (.ifCond .eq 11, 3) := by decide +kernel
theorem dL_comes_131 : decode cL_comes 131 = .ok (.iload 5, 2) := by decide +kernel
theorem dL_comes_133 : decode cL_comes 133 = .ok (.sipush 800, 3) := by decide +kernel
theorem dL_comes_136 : decode cL_comes 136 = .ok (.if_icmp .ne 21, 3) := by decide +kernel
theorem dL_comes_139 : decode cL_comes 139 = .ok (.iload 6, 2) := by decide +kernel
theorem dL_comes_141 : decode cL_comes 141 = .ok (.ifCond .eq 14, 3) := by decide +kernel
theorem dL_comes_144 : decode cL_comes 144 = .ok (.iload 7, 2) := by decide +kernel
theorem dL_comes_146 : decode cL_comes 146 = .ok (.bipush (-3), 2) := by decide +kernel
theorem dL_comes_148 : decode cL_comes 148 = .ok (.if_icmp .ne 7, 3) := by decide +kernel
theorem dL_comes_151 : decode cL_comes 151 = .ok (.iconst 1, 1) := by decide +kernel
theorem dL_comes_152 : decode cL_comes 152 = .ok (.goto 4, 3) := by decide +kernel
theorem dL_comes_155 : decode cL_comes 155 = .ok (.iconst 0, 1) := by decide +kernel
theorem dL_comes_156 : decode cL_comes 156 = .ok (.ireturn, 1) := by decide +kernel
theorem dL_comes_157 : decode cL_comes 157 = .ok (.iload 7, 2) := by decide +kernel
theorem dL_comes_159 : decode cL_comes 159 = .ok (.ifCond .lt 63, 3) := by decide +kernel
theorem dL_comes_162 : decode cL_comes 162 = .ok (.aload_n 0, 1) := by decide +kernel
theorem dL_comes_163 : decode cL_comes 163 = .ok (.iload_n 2, 1) := by decide +kernel
theorem dL_comes_164 : decode cL_comes 164 = .ok (.invokevirtual 178, 3) := by decide +kernel
theorem dL_comes_167 : decode cL_comes 167 = .ok (.ifCond .eq 55, 3) := by decide +kernel
theorem dL_comes_170 : decode cL_comes 170 = .ok (.aload_n 0, 1) := by decide +kernel
theorem dL_comes_171 : decode cL_comes 171 = .ok (.iload_n 2, 1) := by decide +kernel
theorem dL_comes_172 : decode cL_comes 172 = .ok (.iload 7, 2) := by decide +kernel
theorem dL_comes_174 : decode cL_comes 174 = .ok (.invokevirtual 203, 3) := by decide +kernel
theorem dL_comes_177 : decode cL_comes 177 = .ok (.iload 4, 2) := by decide +kernel
theorem dL_comes_179 : decode cL_comes 179 = .ok (.if_icmp .ne 43, 3) := by decide +kernel
theorem dL_comes_182 : decode cL_comes 182 = .ok (.aload_n 0, 1) := by decide +kernel
theorem dL_comes_183 : decode cL_comes 183 = .ok (.iload_n 2, 1) := by decide +kernel
theorem dL_comes_184 : decode cL_comes 184 = .ok (.iload 4, 2) := by decide +kernel
theorem dL_comes_186 : decode cL_comes 186 = .ok (.iconst 1, 1) := by decide +kernel
theorem dL_comes_187 : decode cL_comes 187 = .ok (.invokevirtual 133, 3) := by decide +kernel
theorem dL_comes_190 : decode cL_comes 190 = .ok (.bipush 77, 2) := by decide +kernel
theorem dL_comes_192 : decode cL_comes 192 = .ok (.if_icmp .ne 30, 3) := by decide +kernel
theorem dL_comes_195 : decode cL_comes 195 = .ok (.aload_n 0, 1) := by decide +kernel
theorem dL_comes_196 : decode cL_comes 196 = .ok (.iload_n 2, 1) := by decide +kernel
theorem dL_comes_197 : decode cL_comes 197 = .ok (.invokevirtual 136, 3) := by decide +kernel
theorem dL_comes_200 : decode cL_comes 200 = .ok (.iload 5, 2) := by decide +kernel
theorem dL_comes_202 : decode cL_comes 202 = .ok (.iconst 1, 1) := by decide +kernel
theorem dL_comes_203 : decode cL_comes 203 = .ok (.iadd, 1) := by decide +kernel
theorem dL_comes_204 : decode cL_comes 204 = .ok (.if_icmp .ne 18, 3) := by decide +kernel
theorem dL_comes_207 : decode cL_comes 207 = .ok (.aload_n 0, 1) := by decide +kernel
theorem dL_comes_208 : decode cL_comes 208 = .ok (.iconst 1, 1) := by decide +kernel
theorem dL_comes_209 : decode cL_comes 209 = .ok (.iload_n 2, 1) := by decide +kernel
theorem dL_comes_210 : decode cL_comes 210 = .ok (.iconst 0, 1) := by decide +kernel
theorem dL_comes_211 : decode cL_comes 211 = .ok (.iconst 0, 1) := by decide +kernel
theorem dL_comes_212 : decode cL_comes 212 = .ok (.invokestatic 170, 3) := by decide +kernel
theorem dL_comes_215 : decode cL_comes 215 = .ok (.ifCond .ne 7, 3) := by decide +kernel
theorem dL_comes_218 : decode cL_comes 218 = .ok (.iconst 1, 1) := by decide +kernel
theorem dL_comes_219 : decode cL_comes 219 = .ok (.goto 4, 3) := by decide +kernel
theorem dL_comes_222 : decode cL_comes 222 = .ok (.iconst 0, 1) := by decide +kernel
theorem dL_comes_223 : decode cL_comes 223 = .ok (.ireturn, 1) := by decide +kernel
set_option maxRecDepth 20000 in
theorem ggL_lays_L_from : GoodIn wsL_lays wsL_from := goodIn_r _ [7, 8, 9, 6, 10, 11] (by decide +kernel) (by decide +kernel)
set_option maxRecDepth 20000 in
theorem gL_lays_L_from : GoodIn wsL_lays (va_wsS RL 32 yL_from wsL_from) := goodIn_app (goodIn_of _ (by decide +kernel)) ggL_lays_L_from
set_option maxRecDepth 20000 in
theorem ggL_lays_J4_init_da8c8 : GoodIn wsL_lays wsJ4_init_da8c8 := goodIn_r _ [14, 15, 16, 17, 18, 19, 20, 21, 22, 23, 24, 25, 26, 27, 28, 29, 30, 31, 32, 33, 662, 663, 664, 665] (by decide +kernel) (by decide +kernel)
set_option maxRecDepth 20000 in
theorem gL_lays_J4_init_da8c8 : GoodIn wsL_lays (wsJ4_init_da8c8) := ggL_lays_J4_init_da8c8
set_option maxRecDepth 20000 in
theorem ggL_lays_J4_append_15ec4 : GoodIn wsL_lays wsJ4_append_15ec4 := goodIn_r _ [37, 38, 39, 40, 41, 17, 42, 43, 44, 45, 46, 47, 48, 24, 49, 50, 51, 52, 53, 25, 54, 55, 56, 57, 58, 59, 60, 61, 62, 63, 64, 65, 66, 67, 68, 69, 70, 71, 72, 73, 74, 75, 76, 77, 78, 79, 80, 81, 23, 82, 83, 84, 85, 86, 87, 88, 89, 90, 91, 92, 93, 22, 94, 95, 28, 96, 97, 98, 99, 100, 101, 102, 103, 104, 105, 106, 107, 108, 109, 110, 111, 112, 113, 114, 115, 116, 117, 118, 119, 120, 121, 122, 123, 124, 125, 126, 127, 128, 129, 130, 131, 132, 133, 134, 135, 136, 137, 138, 139, 140, 141, 142, 143, 144, 26, 27, 29, 30, 31, 32, 33, 145, 146, 147, 148, 149, 150, 151, 152, 153, 154, 155, 156, 157, 158, 159, 160, 161, 162, 163, 164, 165, 166, 662, 663, 664, 665, 666, 667, 668, 669] (by decide +kernel) (by decide +kernel)
set_option maxRecDepth 20000 in
theorem gL_lays_J4_append_15ec4 : GoodIn wsL_lays (wsV RL 19 RJ4 yJ4_append_15ec4 wsJ4_append_15ec4) := goodIn_app (goodIn_of _ (by decide +kernel)) ggL_lays_J4_append_15ec4
set_option maxRecDepth 20000 in
theorem ggL_lays_L_run : GoodIn wsL_lays wsL_run := goodIn_r _ [169, 1, 2, 3, 8, 9, 6, 10, 11, 4, 5, 7, 12, 13, 14, 15, 16, 17, 18, 19, 20, 21, 22, 23, 24, 25, 26, 27, 28, 29, 30, 31, 32, 33, 34, 35, 36, 37, 38, 39, 40, 41, 42, 43, 44, 45, 46, 47, 48, 49, 50, 51, 52, 53, 54, 55, 56, 57, 58, 59, 60, 61, 62, 63, 64, 65, 66, 67, 68, 69, 70, 71, 72, 73, 74, 75, 76, 77, 78, 79, 80, 81, 82, 83, 84, 85, 86, 87, 88, 89, 90, 91, 92, 93, 94, 95, 96, 97, 98, 99, 100, 101, 102, 103, 104, 105, 106, 107, 108, 109, 110, 111, 112, 113, 114, 115, 116, 117, 118, 119, 120, 121, 122, 123, 124, 125, 126, 127, 128, 129, 130, 131, 132, 133, 134, 135, 136, 137, 138, 139, 140, 141, 142, 143, 144, 145, 146, 147, 148, 149, 150, 151, 152, 153, 154, 155, 156, 157, 158, 159, 160, 161, 162, 163, 164, 165, 166, 170, 171, 172, 173, 174, 175, 176, 177, 178, 179, 180, 181, 182, 183, 184, 185, 186, 187, 188, 189, 190, 191, 192, 193, 194, 195, 196, 197, 198, 199, 200, 201, 202, 203, 204, 205, 206, 207, 208, 209, 210, 211, 212, 213, 214, 215, 216, 217, 218, 219, 220, 221, 222, 223, 224, 225, 226, 227, 228, 229, 230, 231, 232, 233, 234, 235, 236, 237, 238, 239, 240, 241, 242, 243, 244, 245, 246, 247, 248, 249, 662, 663, 664, 665, 666, 667, 668, 669] (by decide +kernel) (by decide +kernel)
set_option maxRecDepth 20000 in
theorem gL_lays_L_run : GoodIn wsL_lays (va_wsS RL 206 yL_run wsL_run) := goodIn_app (goodIn_of _ (by decide +kernel)) ggL_lays_L_run
set_option maxRecDepth 20000 in
theorem ggL_lays_J4_toString_0e30d : GoodIn wsL_lays wsJ4_toString_0e30d := goodIn_r _ [198, 199, 200, 106, 201, 202, 203, 204, 205, 206, 207, 20, 21, 128, 122, 127, 208, 209, 210, 211, 212, 17, 213, 24, 214, 215, 216, 217, 218, 3, 219, 220, 40, 221, 222, 43, 223, 90, 91, 92, 93, 22, 25, 224, 225, 74, 226, 76, 77, 78, 79, 80, 81, 227, 228, 229, 23, 82, 83, 66, 84, 85, 86, 87, 88, 230, 231, 232, 233, 2, 234, 235, 28, 236, 237, 238, 239, 152, 153, 154, 101, 102, 103, 155, 156, 157, 108, 158, 159, 111, 160, 240, 241, 242, 97, 116, 117, 30, 31, 32, 33, 243, 244, 245, 246, 666, 667, 668, 669, 662, 663, 664, 665] (by decide +kernel) (by decide +kernel)
set_option maxRecDepth 20000 in
theorem gL_lays_J4_toString_0e30d : GoodIn wsL_lays (wsV RL 26 RJ4 yJ4_toString_0e30d wsJ4_toString_0e30d) := goodIn_app (goodIn_of _ (by decide +kernel)) ggL_lays_J4_toString_0e30d
set_option maxRecDepth 20000 in
theorem ggL_lays_X10_count : GoodIn wsL_lays wsX10_count := goodIn_ca (goodIn_r _ [254, 255, 256, 257, 258, 253, 259, 260, 261, 262, 670, 671, 672, 673, 674, 675, 676, 677, 678, 679, 680, 681] (by decide +kernel) (by decide +kernel)) (goodIn_sub (fun _ h => List.mem_cons_of_mem _ (List.mem_append_left _ (List.mem_append_left _ (List.mem_append_left _ (List.mem_append_right _ h))))) (by decide +kernel))
set_option maxRecDepth 20000 in
theorem gL_lays_X10_count : GoodIn wsL_lays (wsV RL 136 RX10 yX10_count wsX10_count) := goodIn_app (goodIn_of _ (by decide +kernel)) ggL_lays_X10_count
set_option maxRecDepth 20000 in
theorem ggL_lays_L_types : GoodIn wsL_lays wsL_types := goodIn_ca (goodIn_r _ [265, 266, 267, 268, 269, 253, 270, 271, 272, 273, 119, 120, 106, 121, 122, 123, 124, 125, 126, 127, 128, 274, 275, 276, 277, 278, 279, 280, 281, 282, 283, 147, 284, 285, 286, 287, 108, 288, 289, 111, 290, 291, 292, 28, 293, 294, 295, 296, 101, 102, 103, 297, 240, 241, 242, 97, 116, 117, 298, 299, 300, 301, 302, 303, 304, 305, 306, 307, 308, 309, 310, 311, 312, 313, 314, 315, 316, 317, 318, 319, 320, 321, 322, 323, 324, 325, 326, 327, 328, 329, 330, 331, 332, 333, 334, 335, 336, 337, 338, 339, 340, 341, 342, 343, 344, 345, 346, 347, 348, 349, 350, 351, 352, 353, 354, 355, 356, 357, 358, 359, 360, 361, 362, 363, 364, 365, 366, 367, 368, 369, 370, 371, 372, 373, 374, 375, 376, 377, 378, 379, 380, 381, 382, 383, 384, 385, 386, 387, 388, 389, 390, 391, 392, 393, 394, 395, 396, 397, 398, 399, 400, 401, 402, 672, 673, 674, 675, 676, 677, 678, 679, 680, 681, 682, 683, 684, 685, 666, 667, 668, 669, 686, 687, 688, 689, 690, 691, 692, 693, 694] (by decide +kernel) (by decide +kernel)) (goodIn_sub (fun _ h => List.mem_cons_of_mem _ (List.mem_append_left _ (List.mem_append_left _ (List.mem_append_right _ h)))) (by decide +kernel))
set_option maxRecDepth 20000 in
theorem gL_lays_L_types : GoodIn wsL_lays (va_wsS RL 210 yL_types wsL_types) := goodIn_app (goodIn_of _ (by decide +kernel)) ggL_lays_L_types
set_option maxRecDepth 20000 in
theorem ggL_lays_L_done : GoodIn wsL_lays wsL_done := goodIn_ca (goodIn_ca (goodIn_ca (goodIn_ca (goodIn_r _ [405, 406, 407, 266, 408, 409, 410, 411, 253, 412, 302, 303, 318, 413, 414, 256, 257, 258, 259, 260, 261, 262, 319, 320, 321, 322, 323, 324, 325, 326, 327, 328, 329, 330, 306, 331, 332, 333, 334, 335, 336, 337, 312, 313, 338, 339, 340, 341, 342, 343, 344, 345, 346, 347, 348, 349, 350, 351, 352, 353, 354, 355, 356, 357, 358, 359, 360, 361, 362, 363, 364, 119, 120, 106, 121, 122, 123, 124, 125, 126, 127, 128, 365, 275, 276, 277, 278, 279, 280, 281, 282, 283, 147, 284, 285, 286, 287, 108, 288, 289, 111, 290, 291, 292, 28, 293, 294, 295, 296, 101, 102, 103, 297, 240, 241, 242, 97, 116, 117, 366, 367, 368, 369, 370, 371, 372, 373, 374, 375, 376, 377, 378, 379, 380, 381, 382, 383, 384, 385, 386, 387, 388, 389, 390, 391, 392, 393, 394, 395, 396, 397, 398, 399, 400, 401, 402, 415, 416, 417, 418, 419, 420, 421, 255, 422, 423, 424, 425, 426, 427, 428, 429, 430, 431, 432, 433, 434, 435, 436, 437, 438, 439, 440, 441, 442, 443, 444, 445, 446, 447, 448, 449, 450, 451, 452, 453, 454, 455, 456, 457, 458, 459, 460, 461, 462, 463, 464, 465, 466, 467, 468, 469, 470, 471, 472, 473, 474, 475, 476, 477, 478, 479, 480, 481, 482, 483, 484, 86, 87, 88, 485, 486, 487, 488, 489, 490, 491, 492, 493, 494, 495, 496, 497, 498, 499, 500, 501, 502, 503, 504, 505, 506, 507, 508, 509, 510, 511, 512, 513, 514, 515, 83, 66, 84, 516, 517, 518, 519, 520, 521, 522, 523, 524, 525, 526, 527, 528, 529, 530, 531, 532, 533, 534, 535, 536, 537, 538, 539, 540, 541, 542, 543, 544, 545, 546, 547, 548, 549, 550, 551, 552, 553, 554, 555, 556, 557, 558, 559, 560, 561, 562, 563, 564, 565, 566, 567, 568, 569, 570, 571, 572, 573, 574, 575, 576, 577, 578, 579, 580, 581, 582, 583, 584, 585, 586, 587, 588, 589, 590, 591, 592, 593, 594, 595, 596, 597, 598, 599, 600, 601, 602, 603, 604, 605, 606, 607, 608, 609, 610, 611, 612, 613, 614, 615, 616, 617, 618, 619, 65, 67, 620, 621, 622, 623, 624, 625, 626, 627, 628, 629, 630, 631, 632, 633, 634, 635, 636, 637, 638, 639, 640, 641, 642, 643, 644, 645, 646, 647, 648, 649, 650, 651, 652, 653, 654, 655, 656, 657, 658, 659, 660, 661, 250, 251, 252, 254, 672, 673, 674, 675, 676, 677, 678, 679, 680, 681, 686, 687, 688, 682, 683, 684, 685, 689, 690, 691, 692, 693, 694, 666, 667, 668, 669, 670, 671, 695, 696, 697, 698, 699, 700, 701, 702] (by decide +kernel) (by decide +kernel)) (goodIn_sub (fun _ h => List.mem_cons_of_mem _ (List.mem_append_left _ (List.mem_append_left _ (List.mem_append_right _ h)))) (by decide +kernel))) (goodIn_sub (fun _ h => List.mem_cons_of_mem _ (List.mem_append_left _ (List.mem_append_left _ (List.mem_append_left _ (List.mem_append_right _ h))))) (by decide +kernel))) (goodIn_sub (fun _ h => List.mem_cons_of_mem _ (List.mem_append_left _ (List.mem_append_right _ h))) (by decide +kernel))) (goodIn_sub (fun _ h => List.mem_cons_of_mem _ (List.mem_append_right _ h)) (by decide +kernel))
set_option maxRecDepth 20000 in
theorem gL_lays_L_done : GoodIn wsL_lays (va_wsS RL 170 yL_done wsL_done) := goodIn_app (goodIn_of _ (by decide +kernel)) ggL_lays_L_done
theorem dL_lays_0 : decode cL_lays 0 = .ok (.ldc 30, 2) := by decide +kernel
theorem dL_lays_2 : decode cL_lays 2 = .ok (.astore_n 3, 1) := by decide +kernel
theorem dL_lays_3 : decode cL_lays 3 = .ok (.aload_n 1, 1) := by decide +kernel
theorem dL_lays_4 : decode cL_lays 4 = .ok (.iconst 1, 1) := by decide +kernel
theorem dL_lays_5 : decode cL_lays 5 = .ok (.iconst 4, 1) := by decide +kernel
theorem dL_lays_6 : decode cL_lays 6 = .ok (.invokestatic 32, 3) := by decide +kernel
theorem dL_lays_9 : decode cL_lays 9 = .ok (.istore 4, 2) := by decide +kernel
theorem dL_lays_11 : decode cL_lays 11 = .ok (.iload 4, 2) := by decide +kernel
theorem dL_lays_13 : decode cL_lays 13 = .ok (.ifCond .le 31, 3) := by decide +kernel
theorem dL_lays_16 : decode cL_lays 16 = .ok (.new 14, 3) := by decide +kernel
theorem dL_lays_19 : decode cL_lays 19 = .ok (.dup, 1) := by decide +kernel
theorem dL_lays_20 : decode cL_lays 20 = .ok (.invokespecial 16, 3) := by decide +kernel
theorem dL_lays_23 : decode cL_lays 23 = .ok (.aload_n 3, 1) := by decide +kernel
theorem dL_lays_24 : decode cL_lays 24 = .ok (.invokevirtual 19, 3) := by decide +kernel
theorem dL_lays_27 : decode cL_lays 27 = .ok (.aload_n 1, 1) := by decide +kernel
theorem dL_lays_28 : decode cL_lays 28 = .ok (.invokestatic 206, 3) := by decide +kernel
theorem dL_lays_31 : decode cL_lays 31 = .ok (.invokevirtual 19, 3) := by decide +kernel
theorem dL_lays_34 : decode cL_lays 34 = .ok (.invokevirtual 26, 3) := by decide +kernel
theorem dL_lays_37 : decode cL_lays 37 = .ok (.astore_n 3, 1) := by decide +kernel
theorem dL_lays_38 : decode cL_lays 38 = .ok (.iinc 4 (-1), 3) := by decide +kernel
theorem dL_lays_41 : decode cL_lays 41 = .ok (.goto (-30), 3) := by decide +kernel
theorem dL_lays_44 : decode cL_lays 44 = .ok (.aload_n 0, 1) := by decide +kernel
theorem dL_lays_45 : decode cL_lays 45 = .ok (.iload_n 2, 1) := by decide +kernel
theorem dL_lays_46 : decode cL_lays 46 = .ok (.invokevirtual 136, 3) := by decide +kernel
theorem dL_lays_49 : decode cL_lays 49 = .ok (.istore 4, 2) := by decide +kernel
theorem dL_lays_51 : decode cL_lays 51 = .ok (.aload_n 0, 1) := by decide +kernel
theorem dL_lays_52 : decode cL_lays 52 = .ok (.aload_n 3, 1) := by decide +kernel
theorem dL_lays_53 : decode cL_lays 53 = .ok (.invokestatic 210, 3) := by decide +kernel
theorem dL_lays_56 : decode cL_lays 56 = .ok (.ifCond .ne 5, 3) := by decide +kernel
theorem dL_lays_59 : decode cL_lays 59 = .ok (.iconst 0, 1) := by decide +kernel
theorem dL_lays_60 : decode cL_lays 60 = .ok (.ireturn, 1) := by decide +kernel
theorem dL_lays_61 : decode cL_lays 61 = .ok (.aload_n 0, 1) := by decide +kernel
theorem dL_lays_62 : decode cL_lays 62 = .ok (.iconst 0, 1) := by decide +kernel
theorem dL_lays_63 : decode cL_lays 63 = .ok (.iload_n 2, 1) := by decide +kernel
theorem dL_lays_64 : decode cL_lays 64 = .ok (.iconst 0, 1) := by decide +kernel
theorem dL_lays_65 : decode cL_lays 65 = .ok (.iconst 0, 1) := by decide +kernel
theorem dL_lays_66 : decode cL_lays 66 = .ok (.invokestatic 170, 3) := by decide +kernel
theorem dL_lays_69 : decode cL_lays 69 = .ok (.istore 5, 2) := by decide +kernel
theorem dL_lays_71 : decode cL_lays 71 = .ok (.iload 5, 2) := by decide +kernel
theorem dL_lays_73 : decode cL_lays 73 = .ok (.bipush (-3), 2) := by decide +kernel
theorem dL_lays_75 : decode cL_lays 75 = .ok (.if_icmp .ne 21, 3) := by decide +kernel
theorem dL_lays_78 : decode cL_lays 78 = .ok (.aload_n 0, 1) := by decide +kernel
theorem dL_lays_79 : decode cL_lays 79 = .ok (.iload_n 2, 1) := by decide +kernel
theorem dL_lays_80 : decode cL_lays 80 = .ok (.invokevirtual 136, 3) := by decide +kernel
theorem dL_lays_83 : decode cL_lays 83 = .ok (.iload 4, 2) := by decide +kernel
theorem dL_lays_85 : decode cL_lays 85 = .ok (.if_icmp .ne 7, 3) := by decide +kernel
theorem dL_lays_88 : decode cL_lays 88 = .ok (.iconst 1, 1) := by decide +kernel
theorem dL_lays_89 : decode cL_lays 89 = .ok (.goto 30, 3) := by decide +kernel
theorem dL_lays_92 : decode cL_lays 92 = .ok (.iconst 0, 1) := by decide +kernel
theorem dL_lays_93 : decode cL_lays 93 = .ok (.goto 26, 3) := by decide +kernel
theorem dL_lays_96 : decode cL_lays 96 = .ok (.iload 5, 2) := by decide +kernel
theorem dL_lays_98 : decode cL_lays 98 = .ok (.ifCond .le 20, 3) := by decide +kernel
theorem dL_lays_101 : decode cL_lays 101 = .ok (.aload_n 0, 1) := by decide +kernel
theorem dL_lays_102 : decode cL_lays 102 = .ok (.iload_n 2, 1) := by decide +kernel
theorem dL_lays_103 : decode cL_lays 103 = .ok (.invokevirtual 136, 3) := by decide +kernel
theorem dL_lays_106 : decode cL_lays 106 = .ok (.iload 4, 2) := by decide +kernel
theorem dL_lays_108 : decode cL_lays 108 = .ok (.iload 5, 2) := by decide +kernel
theorem dL_lays_110 : decode cL_lays 110 = .ok (.iadd, 1) := by decide +kernel
theorem dL_lays_111 : decode cL_lays 111 = .ok (.if_icmp .ne 7, 3) := by decide +kernel
theorem dL_lays_114 : decode cL_lays 114 = .ok (.iconst 1, 1) := by decide +kernel
theorem dL_lays_115 : decode cL_lays 115 = .ok (.goto 4, 3) := by decide +kernel
theorem dL_lays_118 : decode cL_lays 118 = .ok (.iconst 0, 1) := by decide +kernel
theorem dL_lays_119 : decode cL_lays 119 = .ok (.ireturn, 1) := by decide +kernel
set_option maxRecDepth 20000 in
theorem ggL_plays_X10_init : GoodIn wsL_plays wsX10_init := goodIn_r _ [6, 7, 8, 9, 10, 11, 12, 13, 14, 15, 16, 17, 18, 19, 20, 21, 22, 23, 24, 25, 26, 27, 28, 29, 30, 31, 32, 33, 34, 35, 36, 37, 38, 39, 40, 41, 42, 43, 44, 45, 46, 47, 48, 49, 50, 51, 52, 53, 54, 55, 56, 57, 58, 59, 60, 61, 62, 63, 64, 65, 66, 67, 68, 69, 70, 71, 72, 73, 74, 75, 76, 77, 78, 810, 811, 812, 800, 801, 802, 803, 804, 805, 806, 807, 808, 809, 813, 814, 815, 816, 817, 818, 819, 820, 821, 822, 823, 824, 825, 826, 827, 828, 829, 830, 831, 832] (by decide +kernel) (by decide +kernel)
set_option maxRecDepth 20000 in
theorem gL_plays_X10_init : GoodIn wsL_plays (wsX10_init) := ggL_plays_X10_init
set_option maxRecDepth 20000 in
theorem ggL_plays_L_next : GoodIn wsL_plays wsL_next := goodIn_r _ [82, 83] (by decide +kernel) (by decide +kernel)
set_option maxRecDepth 20000 in
theorem gL_plays_L_next : GoodIn wsL_plays (va_wsS RL 8 yL_next wsL_next) := goodIn_app (goodIn_of _ (by decide +kernel)) ggL_plays_L_next
set_option maxRecDepth 20000 in
theorem ggL_plays_X10_setSeed : GoodIn wsL_plays wsX10_setSeed := goodIn_r _ [87, 38, 88, 800, 801, 802, 803, 804, 805, 806, 807, 808, 809, 826] (by decide +kernel) (by decide +kernel)
set_option maxRecDepth 20000 in
theorem gL_plays_X10_setSeed : GoodIn wsL_plays (wsV RL 215 RX10 yX10_setSeed wsX10_setSeed) := goodIn_app (goodIn_of _ (by decide +kernel)) ggL_plays_X10_setSeed
set_option maxRecDepth 20000 in
theorem ggL_plays_L_lays : GoodIn wsL_plays wsL_lays := goodIn_ca (goodIn_ca (goodIn_ca (goodIn_ca (goodIn_r _ [91, 92, 93, 94, 95, 96, 81, 97, 79, 80, 82, 83, 98, 99, 100, 101, 102, 103, 104, 105, 8, 9, 106, 59, 107, 108, 109, 110, 111, 112, 113, 114, 115, 116, 117, 118, 119, 120, 121, 122, 123, 124, 125, 126, 127, 128, 129, 130, 131, 132, 133, 134, 135, 136, 137, 138, 139, 140, 141, 142, 143, 144, 145, 146, 147, 148, 149, 150, 151, 152, 153, 154, 155, 156, 157, 158, 159, 160, 161, 162, 163, 164, 165, 166, 167, 168, 169, 170, 171, 172, 173, 174, 175, 176, 177, 178, 179, 180, 181, 182, 183, 184, 185, 186, 187, 188, 189, 190, 191, 192, 193, 194, 195, 196, 197, 198, 199, 200, 201, 202, 203, 204, 205, 206, 207, 208, 209, 210, 211, 212, 213, 214, 215, 216, 217, 218, 219, 220, 221, 222, 223, 224, 225, 226, 227, 228, 229, 230, 231, 232, 233, 234, 235, 236, 237, 238, 239, 240, 241, 242, 243, 244, 245, 246, 247, 248, 249, 250, 251, 252, 253, 254, 255, 256, 257, 258, 259, 260, 261, 262, 263, 264, 265, 266, 267, 268, 269, 270, 271, 272, 273, 274, 275, 276, 277, 278, 279, 280, 281, 282, 283, 284, 285, 286, 287, 288, 289, 290, 291, 292, 293, 294, 295, 296, 297, 298, 299, 300, 301, 302, 303, 304, 305, 306, 307, 308, 309, 310, 311, 312, 313, 314, 315, 316, 317, 318, 319, 320, 321, 322, 323, 324, 325, 326, 327, 328, 329, 330, 331, 332, 333, 334, 335, 3, 336, 337, 338, 339, 340, 341, 342, 343, 15, 344, 345, 346, 347, 348, 349, 350, 351, 30, 352, 353, 354, 355, 356, 357, 358, 359, 360, 361, 362, 363, 364, 365, 366, 367, 368, 369, 370, 371, 372, 373, 374, 375, 376, 377, 378, 379, 380, 381, 382, 383, 384, 385, 29, 386, 387, 388, 389, 390, 391, 60, 392, 393, 394, 395, 34, 396, 397, 398, 33, 399, 400, 67, 66, 401, 402, 403, 404, 405, 406, 407, 408, 409, 410, 411, 412, 413, 414, 415, 416, 417, 418, 419, 420, 421, 422, 423, 424, 425, 426, 427, 428, 429, 430, 431, 432, 433, 434, 435, 436, 437, 438, 439, 440, 441, 442, 443, 444, 445, 446, 447, 448, 449, 450, 451, 452, 453, 454, 455, 456, 457, 458, 459, 460, 461, 462, 463, 464, 465, 466, 467, 468, 469, 470, 471, 472, 473, 474, 475, 476, 477, 478, 479, 480, 481, 482, 483, 484, 485, 486, 487, 488, 489, 490, 491, 492, 493, 494, 495, 496, 497, 498, 499, 13, 500, 501, 502, 503, 504, 505, 38, 506, 507, 508, 69, 509, 510, 74, 511, 512, 513, 514, 515, 516, 517, 518, 519, 520, 521, 522, 523, 524, 525, 37, 526, 78, 527, 528, 529, 530, 531, 532, 533, 534, 535, 12, 536, 537, 43, 44, 538, 539, 540, 20, 541, 542, 543, 544, 545, 546, 48, 547, 548, 549, 550, 551, 552, 553, 554, 555, 556, 557, 558, 559, 560, 26, 561, 562, 563, 25, 564, 565, 566, 567, 568, 569, 53, 570, 571, 572, 573, 574, 575, 54, 576, 577, 578, 579, 580, 581, 582, 583, 55, 584, 585, 586, 587, 588, 589, 590, 591, 592, 593, 594, 595, 596, 597, 598, 599, 600, 601, 602, 603, 604, 605, 606, 607, 608, 609, 610, 611, 612, 613, 614, 615, 616, 617, 618, 619, 620, 621, 622, 623, 624, 625, 626, 627, 628, 629, 630, 631, 632, 633, 634, 635, 636, 637, 638, 639, 640, 641, 642, 643, 644, 645, 646, 647, 648, 649, 650, 651, 652, 653, 654, 655, 656, 657, 658, 659, 660, 661, 662, 663, 664, 665, 666, 667, 668, 669, 16, 18, 670, 671, 672, 673, 674, 675, 676, 677, 678, 679, 680, 681, 682, 683, 684, 685, 686, 687, 688, 689, 690, 691, 692, 693, 694, 695, 696, 697, 698, 699, 700, 701, 702, 703, 704, 705, 706, 707, 708, 709, 710, 711, 712, 713, 714, 715, 716, 717, 833, 834, 835, 836, 837, 838, 839, 840, 813, 814, 800, 801, 802, 803, 804, 805, 806, 807, 808, 809, 819, 820, 821, 822, 823, 824, 825, 827, 828, 829, 830, 831, 832, 810, 811, 812, 826, 815, 816, 817, 818] (by decide +kernel) (by decide +kernel)) (goodIn_sub (fun _ h => List.mem_cons_of_mem _ (List.mem_append_left _ (List.mem_append_left _ (List.mem_append_left _ (List.mem_append_right _ h))))) (by decide +kernel))) (goodIn_sub (fun _ h => List.mem_cons_of_mem _ (List.mem_append_left _ (List.mem_append_left _ (List.mem_append_right _ h)))) (by decide +kernel))) (goodIn_sub (fun _ h => List.mem_cons_of_mem _ (List.mem_append_left _ (List.mem_append_right _ h))) (by decide +kernel))) (goodIn_sub (fun _ h => List.mem_cons_of_mem _ (List.mem_append_right _ h)) (by decide +kernel))
set_option maxRecDepth 20000 in
theorem gL_plays_L_lays : GoodIn wsL_plays (va_wsS RL 218 yL_lays wsL_lays) := goodIn_app (goodIn_of _ (by decide +kernel)) ggL_plays_L_lays
